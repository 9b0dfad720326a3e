set_option maxHeartbeats 4000000 in
set_option maxRecDepth 100000 in
theorem sX_X6_read_1 (NF : Nat) (l : Launch) (dC : Nat → ClassId) (dI : Nat → Nat → Nat) (cy : Nat → ClassId) (x0 : Nat) (x : Nat → Nat)  (v : Nat → Int32) (f : Nat → Nat → Int32) (hIv : XI v)  : ctIS l (dC, dI) cy yX6_read cX6_read 2 .boolean 64 1595 0 0 ((Nat → Int32) × (Nat → Nat → Int32)) [.ref (x 2)] (XW cy x0 x v f) (fun r u => gsX_X6_read_1 NF v f = (r, u) ∧ KV [2, 3, 4, 5, 6, 7, 8, 9, 10, 11, 12, 13, 14, 15, 16, 17] u.1 v ∧ KF [1, 2, 3, 4, 7, 8] u.2 f ∧ XI u.1 ∧ u.1 0 = v 0 ∧ u.1 1 = v 1 ∧ ((r = 1) ∨ (r = 0))) (fun u => XW cy x0 x u.1 u.2) := by
  refine ctIS_of (by decide) (Nat.le_of_ble_eq_true rfl) (fun p e s m below meth c A ls Q hx hb hml hts hown hE hF hT hP hD hA hl ret => ?_)
  have hM_v : KV [2, 3, 4, 5, 6, 7, 8, 9, 10, 11, 12, 13, 14, 15, 16, 17] v v := fun _ _ => rfl
  have hA_f : KF [1, 2, 3, 4, 7, 8] f f := fun _ _ => rfl
  have hown : s.vm.findClass RX6 = some m.cls := hown
  have hS : va_S A s.heap s.heap [] := va_S.rf
  have hl : lv_has ls 2 [(0, .ref (x 2))] := hl
  refine lv_aload_n hx hb dX6_read_0 rfl (lv_at hl 0 rfl) ?_
  refine va_get (D := (dC, dI)) (ci := 6) (v := .ref (x 3)) (C := RX6) (T := TX6) (N := 7) hx hb hts inB_6 hown hE.1 hP 3 rfl rfl 1 (by decide) (hts _ k_266) (fun _ h9 => h9) rfl dX6_read_1 ?_
  refine cbVv (n := 0) (rest := []) hx hb hml hown hts hE hP hD hS hA (sX_X7_clear_1 NF l dC dI cy x0 x  v f hIv ) k_546 k_547 k_548 k_104 k_549 (by decide +kernel) ⟨Nat.le_of_ble_eq_true rfl, Nat.le_of_ble_eq_true rfl⟩ 4 7 rfl rfl (rfl) hl.1 rfl (Nat.le_of_ble_eq_true rfl) dX6_read_4 (fun u H locs hw hP hD hS => ?_)
  obtain ⟨hG1, hw⟩ := hw
  obtain ⟨v2, f3⟩ := u
  obtain ⟨kV_v2, kF_f3, hIv2, hk0_v2, hk1_v2, hk7_v2, hk8_v2⟩ := hw
  have hM_v2 : KV [2, 3, 4, 5, 6, 7, 8, 9, 10, 11, 12, 13, 14, 15, 16, 17] v2 v := KV.tr kV_v2 hM_v (by decide +kernel)
  have hA_f3 : KF [1, 2, 3, 4, 7, 8] f3 f := KF.tr kF_f3 hA_f rfl
  have hP : va_P (dC, dI) vwCl (XW cy x0 x v2 f3) H := hP
  have hD : va_D A (XW cy x0 x v2 f3) := hD
  have hq0_v2 : v2 0 = (v 0) := hk0_v2
  have hq1_v2 : v2 1 = (v 1) := hk1_v2
  have hq7_v2 : v2 7 = (v 7) := hk7_v2
  have hq8_v2 : v2 8 = (v 8) := hk8_v2
  refine lv_aload_n hx hb dX6_read_7 rfl (lv_at hl 0 rfl) ?_
  refine lv_iconst (v := 0) hx hb dX6_read_8 (by decide) ?_
  refine va_put (D := (dC, dI)) (ci := 6) (v := .int 0) (ty := tyX6 4) (C := RX6) (T := TX6) (N := 7) hx hb hts inB_6 tyX6 tyX6_ok nmX6 hown hE.1 hP hD hS 3 rfl rfl 4 (by decide) (hts _ k_270) (fun _ h9 => h9) rfl (tyX6_ok 4 (by decide)) rfl rfl (Nat.le_of_ble_eq_true rfl) dX6_read_9 (fun H locs hP hD hS => ?_)
  have hP : va_P (dC, dI) vwCl (XW cy x0 x (upd v2 6 0) f3) H := hP
  have hD : va_D A (XW cy x0 x (upd v2 6 0) f3) := hD
  refine lv_aload_n hx hb dX6_read_12 rfl (lv_at hl 0 rfl) ?_
  refine lv_iconst (v := 0) hx hb dX6_read_13 (by decide) ?_
  refine va_put (D := (dC, dI)) (ci := 6) (v := .int 0) (ty := tyX6 5) (C := RX6) (T := TX6) (N := 7) hx hb hts inB_6 tyX6 tyX6_ok nmX6 hown hE.1 hP hD hS 3 rfl rfl 5 (by decide) (hts _ k_271) (fun _ h9 => h9) rfl (tyX6_ok 5 (by decide)) rfl rfl (Nat.le_of_ble_eq_true rfl) dX6_read_14 (fun H locs hP hD hS => ?_)
  have hP : va_P (dC, dI) vwCl (XW cy x0 x (upd (upd v2 6 0) 7 0) f3) H := hP
  have hD : va_D A (XW cy x0 x (upd (upd v2 6 0) 7 0) f3) := hD
  refine lv_aload_n hx hb dX6_read_17 rfl (lv_at hl 0 rfl) ?_
  refine lv_iconst (v := (-1)) hx hb dX6_read_18 (by decide) ?_
  refine va_put (D := (dC, dI)) (ci := 6) (v := .int (-1)) (ty := tyX6 6) (C := RX6) (T := TX6) (N := 7) hx hb hts inB_6 tyX6 tyX6_ok nmX6 hown hE.1 hP hD hS 3 rfl rfl 6 (by decide) (hts _ k_273) (fun _ h9 => h9) rfl (tyX6_ok 6 (by decide)) rfl rfl (Nat.le_of_ble_eq_true rfl) dX6_read_19 (fun H locs hP hD hS => ?_)
  have hP : va_P (dC, dI) vwCl (XW cy x0 x (upd (upd (upd v2 6 0) 7 0) 8 (-1)) f3) H := hP
  have hD : va_D A (XW cy x0 x (upd (upd (upd v2 6 0) 7 0) 8 (-1)) f3) := hD
  refine lv_aload_n hx hb dX6_read_22 rfl (lv_at hl 0 rfl) ?_
  refine va_get (D := (dC, dI)) (ci := 6) (v := .ref (x 0)) (C := RX6) (T := TX6) (N := 7) hx hb hts inB_6 hown hE.1 hP 3 rfl rfl 0 (by decide) (hts _ k_265) (fun _ h9 => h9) rfl dX6_read_23 ?_
  refine csVv (n := 0) (rest := []) hx hb hml hown hts hE hP hD hS hA hF hT (sX_X9_rewind_1 NF l dC dI cy x0 x  (upd (upd (upd v2 6 0) 7 0) 8 (-1)) f3 (XI.upd (j := 8) (x := (-1)) (XI.upd (j := 7) (x := 0) (XI.upd (j := 6) (x := 0) hIv2 (rlo _) (rhi _)) (rlo _) (rhi _)) (rlo _) (rhi _)) ) k_554 k_555 k_556 k_102 k_557 (by decide +kernel) ⟨Nat.le_of_ble_eq_true rfl, Nat.le_of_ble_eq_true rfl⟩ 1 9 rfl rfl (rfl) hl.1 rfl (Nat.le_of_ble_eq_true rfl) dX6_read_26 (fun u H locs hw hP hD hS => ?_)
  obtain ⟨hG4, hw⟩ := hw
  obtain ⟨v5, f6⟩ := u
  obtain ⟨kV_v5, kF_f6, hIv5, hk0_v5, hk1_v5, hk7_v5, hk8_v5, hk9_v5, hk10_v5, hk31_v5, hk32_v5⟩ := hw
  have hM_v5 : KV [2, 3, 4, 5, 6, 7, 8, 9, 10, 11, 12, 13, 14, 15, 16, 17] v5 v := KV.tr kV_v5 (KV.up (j := 8) (x := (-1)) (KV.up (j := 7) (x := 0) (KV.up (j := 6) (x := 0) hM_v2 (by decide +kernel)) (by decide +kernel)) (by decide +kernel)) (by decide +kernel)
  have hA_f6 : KF [1, 2, 3, 4, 7, 8] f6 f := KF.tr kF_f6 hA_f3 rfl
  have hP : va_P (dC, dI) vwCl (XW cy x0 x v5 f6) H := hP
  have hD : va_D A (XW cy x0 x v5 f6) := hD
  have hq0_v5 : v5 0 = (v 0) := hk0_v5.trans hq0_v2
  have hq1_v5 : v5 1 = (v 1) := hk1_v5.trans hq1_v2
  have hq7_v5 : v5 7 = 0 := hk7_v5
  have hq8_v5 : v5 8 = (-1) := hk8_v5
  have hq9_v5 : v5 9 = (v2 9) := hk9_v5
  have hq10_v5 : v5 10 = (v2 10) := hk10_v5
  have hq31_v5 : v5 31 = (v2 31) := hk31_v5
  have hq32_v5 : v5 32 = (v2 32) := hk32_v5
  refine lv_iconst (v := 0) hx hb dX6_read_29 (by decide) ?_
  refine lv_istore_n (lv' := [(1, .int 0), (0, .ref (x 2))]) hx hb dX6_read_30 rfl hl (by decide) rfl (fun ls hl => ?_)
  have lp7 : ∀ (n7 : Nat) (l1_7 : Int32) (v7 : Nat → Int32) (f7 : Nat → Nat → Int32), XI v7 → v7 0 = (v 0) → v7 1 = (v 1) → gsX_X6_read_1_L7 NF n7 l1_7 v7 f7 = (gsX_X6_read_1 NF v f) → ((0 : Int) ≤ l1_7.toInt ∧ l1_7.toInt ≤ 2147483647) → KV [2, 3, 4, 5, 6, 7, 8, 9, 10, 11, 12, 13, 14, 15, 16, 17] v7 v → KF [1, 2, 3, 4, 7, 8] f7 f → (2147483647 - l1_7.toInt).toNat < n7 → ∀ (H : Heap) (locs : List Loc) (ls : Array Slot), va_P (dC, dI) vwCl (XW cy x0 x v7 f7) H → va_D A (XW cy x0 x v7 f7) → va_S A s.heap H locs → lv_has ls 2 [(1, .int l1_7), (0, .ref (x 2))] → W p l e { frames := 64, cells := 0, slots := 0, locals := 1595 } s m ([.ref (x 2)] : List Value).toArray below meth c H locs 0 0 Q (F0 m 31 ls []) := by
    intro n7
    induction n7 with
    | zero => intro l1_7 v7 f7 hIv7 hq0_v7 hq1_v7 hT7 hr1_7 hM_v7 hA_f7 hm; exact absurd hm (Nat.not_lt_zero _)
    | succ n7 ih7 =>
      intro l1_7 v7 f7 hIv7 hq0_v7 hq1_v7 hT7 hr1_7 hM_v7 hA_f7 hm7 H locs ls hP hD hS hl
      refine lv_iload_n hx hb dX6_read_31 rfl (lv_at hl 0 rfl) ?_
      refine lv_sipush (v := 1600) hx hb dX6_read_32 (by decide) ?_
      refine lv_icmp_ge (tgt := 63) hx hb dX6_read_35 (by decide) (fun c8 => ?_) (fun c8 => ?_)
      · skip
        have zc8 : 1600 ≤ l1_7.toInt := by rw [fa_le, show (1600 : Int32).toInt = 1600 from by decide] at c8; exact c8
        refine lv_iconst (v := 1) hx hb dX6_read_63 (by decide) ?_
        exact ret 1 (v7, f7) _ _ _ _ _ _ rfl ⟨(hT7.symm.trans (gsX_X6_read_1_q0 c8)), hM_v7, hA_f7, hIv7, hq0_v7, hq1_v7, (Or.inl rfl)⟩ hP hD hS dX6_read_64 (Nat.le_refl _) (Nat.le_refl _)
      · skip
        have zc8 : ¬ (1600 ≤ l1_7.toInt) := by rw [fa_le, show (1600 : Int32).toInt = 1600 from by decide] at c8; exact c8
        refine lv_aload_n hx hb dX6_read_38 rfl (lv_at hl 1 rfl) ?_
        refine va_get (D := (dC, dI)) (ci := 6) (v := .ref (x 0)) (C := RX6) (T := TX6) (N := 7) hx hb hts inB_6 hown hE.1 hP 3 rfl rfl 0 (by decide) (hts _ k_265) (fun _ h9 => h9) rfl dX6_read_39 ?_
        refine va_getN (D := (dC, dI)) (ci := 9) (v := .int (v7 2)) (C := RX9) (T := TX9) (N := 6) hx hb hts inB_9 hown hE.1 hP 1 rfl rfl 2 (by decide) (va_Nw.use rfl (hE.2 _ k_139)) (fun _ h9 => h9) rfl dX6_read_42 ?_
        refine lv_if_eq (tgt := 63) hx hb dX6_read_45 (by decide) (fun c9 => ?_) (fun c9 => ?_)
        · skip
          have zc9 : (v7 2).toInt = 0 := by rw [fa_eq, show (0 : Int32).toInt = 0 from by decide] at c9; exact c9
          refine lv_iconst (v := 1) hx hb dX6_read_63 (by decide) ?_
          exact ret 1 (v7, f7) _ _ _ _ _ _ rfl ⟨(hT7.symm.trans (gsX_X6_read_1_q1 c8 c9)), hM_v7, hA_f7, hIv7, hq0_v7, hq1_v7, (Or.inl rfl)⟩ hP hD hS dX6_read_64 (Nat.le_refl _) (Nat.le_refl _)
        · skip
          have zc9 : ¬ ((v7 2).toInt = 0) := by rw [fa_eq, show (0 : Int32).toInt = 0 from by decide] at c9; exact c9
          refine lv_aload_n hx hb dX6_read_48 rfl (lv_at hl 1 rfl) ?_
          refine csVi (n := 0) (rest := []) hx hb hml hown hts hE hP hD hS hA hF hT (sX_X6_line_1 NF l dC dI cy x0 x  v7 f7 hIv7 ) k_683 k_685 k_4 k_103 k_686 (by decide +kernel) ⟨Nat.le_of_ble_eq_true rfl, Nat.le_of_ble_eq_true rfl⟩ 3 6 rfl rfl (rfl) hl.1 rfl (Nat.le_of_ble_eq_true rfl) dX6_read_49 (fun r10 u H locs hw hP hD hS => ?_)
          obtain ⟨hG11, hw⟩ := hw
          obtain ⟨v12, f13⟩ := u
          obtain ⟨kV_v12, kF_f13, hIv12, hk0_v12, hk1_v12, hw⟩ := hw
          have hM_v12 : KV [2, 3, 4, 5, 6, 7, 8, 9, 10, 11, 12, 13, 14, 15, 16, 17] v12 v := KV.tr kV_v12 hM_v7 (by decide +kernel)
          have hA_f13 : KF [1, 2, 3, 4, 7, 8] f13 f := KF.tr kF_f13 hA_f7 rfl
          have hP : va_P (dC, dI) vwCl (XW cy x0 x v12 f13) H := hP
          have hD : va_D A (XW cy x0 x v12 f13) := hD
          have hq0_v12 : v12 0 = (v 0) := hk0_v12.trans hq0_v7
          have hq1_v12 : v12 1 = (v 1) := hk1_v12.trans hq1_v7
          rcases hw with ⟨g14⟩ | ⟨g14⟩
          · skip
            subst g14
            refine lv_if_ne (tgt := 57) hx hb dX6_read_52 (by decide) (fun _ => ?_) (fun c0 => absurd c0 (by decide))
            obtain ⟨t15, et15⟩ : ∃ y : Int32, y = l1_7 + 1 := ⟨_, rfl⟩
            have rg16 := fb_rng l1_7
            have zt15 : t15.toInt = l1_7.toInt + 1 := by rw [et15]; exact add_i rfl (by decide) (by omega) (by omega)
            refine lv_iinc (v := t15) (lv' := [(1, .int t15), (0, .ref (x 2))]) hx hb dX6_read_57 hl (k := 0) rfl (by rw [et15]; rfl) (by decide) rfl (fun ls hl => ?_)
            refine lv_goto (tgt := 31) hx hb dX6_read_60 (by decide) ?_
            have rg17 := fb_rng t15
            exact ih7 t15 v12 f13 hIv12 hq0_v12 hq1_v12 ((gsX_X6_read_1_q2 c8 c9 hG11 et15).symm.trans hT7) ⟨show (0 : Int) ≤ t15.toInt by omega, show t15.toInt ≤ (2147483647 : Int) by omega⟩ hM_v12 hA_f13 (by show (2147483647 - t15.toInt).toNat < n7; omega) _ _ _ hP hD hS (lv_sub hl [0, 1] rfl)
          · skip
            subst g14
            refine lv_if_ne (tgt := 57) hx hb dX6_read_52 (by decide) (fun c0 => absurd (by decide) c0) (fun _ => ?_)
            refine lv_iconst (v := 0) hx hb dX6_read_55 (by decide) ?_
            exact ret 0 (v12, f13) _ _ _ _ _ _ rfl ⟨(hT7.symm.trans (gsX_X6_read_1_q3 c8 c9 hG11)), hM_v12, hA_f13, hIv12, (hk0_v12.trans hq0_v7), (hk1_v12.trans hq1_v7), (Or.inr rfl)⟩ hP hD hS dX6_read_56 (Nat.le_refl _) (Nat.le_refl _)
  exact lp7 (4294967296 + NF) 0 v5 f6 hIv5 hq0_v5 hq1_v5 (gsX_X6_read_1_q4 hG1 hG4).symm ⟨by decide, by decide⟩ hM_v5 hA_f6 (by have q1 : (0 : Int32).toInt = 0 := (by decide); show (2147483647 - (0 : Int32).toInt).toNat < 4294967296 + NF; omega) _ _ _ hP hD hS (lv_sub hl [0, 1] rfl)
set_option maxHeartbeats 4000000 in
set_option maxRecDepth 100000 in
theorem sX_X4_copy_1 (NF : Nat) (l : Launch) (dC : Nat → ClassId) (dI : Nat → Nat → Nat) (cy : Nat → ClassId) (x0 : Nat) (x : Nat → Nat)  (v : Nat → Int32) (f : Nat → Nat → Int32) (hIv : XI v)  : ctV l (dC, dI) cy yX4_copy cX4_copy 2 1 100 0 0 ((Nat → Int32) × (Nat → Nat → Int32)) [.ref (x 15), .ref (x 6)] (XW cy x0 x v f) (fun u => gsX_X4_copy_1 NF v f = u ∧ KV [18, 19] u.1 v ∧ KF [11, 12] u.2 f ∧ XI u.1 ∧ u.1 0 = v 0 ∧ u.1 1 = v 1 ∧ u.1 7 = v 7 ∧ u.1 8 = v 8 ∧ u.1 9 = v 9 ∧ u.1 10 = v 10 ∧ u.1 31 = v 31 ∧ u.1 32 = v 32) (fun u => XW cy x0 x u.1 u.2) := by
  refine ctV_of (by decide) (Nat.le_of_ble_eq_true rfl) (fun p e s m below meth c A ls Q hx hb hml hts hown hnm hE hP hD hA hl ret => ?_)
  have hM_v : KV [18, 19] v v := fun _ _ => rfl
  have hA_f : KF [11, 12] f f := fun _ _ => rfl
  have hown : s.vm.findClass RX4 = some m.cls := hown
  have hS : va_S A s.heap s.heap [] := va_S.rf
  have hl : lv_has ls 2 [(0, .ref (x 15)), (1, .ref (x 6))] := hl
  refine lv_aload_n hx hb dX4_copy_0 rfl (lv_at hl 1 rfl) ?_
  refine va_get (D := (dC, dI)) (ci := 4) (v := .ref (x 7)) (C := RX4) (T := TX4) (N := 6) hx hb hts inB_4 hown hE.1 hP 7 rfl rfl 0 (by decide) (hts _ k_178) (fun _ h9 => h9) rfl dX4_copy_1 ?_
  refine lv_iconst (v := 0) hx hb dX4_copy_4 (by decide) ?_
  refine lv_aload_n hx hb dX4_copy_5 rfl (lv_at hl 0 rfl) ?_
  refine va_get (D := (dC, dI)) (ci := 4) (v := .ref (x 16)) (C := RX4) (T := TX4) (N := 6) hx hb hts inB_4 hown hE.1 hP 16 rfl rfl 0 (by decide) (hts _ k_178) (fun _ h9 => h9) rfl dX4_copy_6 ?_
  refine lv_iconst (v := 0) hx hb dX4_copy_9 (by decide) ?_
  refine lv_sipush (v := 300) hx hb dX4_copy_10 (by decide) ?_
  refine cpE (zs := 0) (zd := 0) (zn := 300) hx hb (by rw [hml]; exact hl.1.symm) hown (hts _ k_776) (hts _ k_337) (hts _ k_336) (hts _ k_108) hE hP hD hS 8 17 rfl rfl (by decide) (by decide) (by decide) (by omega) (by omega) (by omega) (by omega) (by omega) (Nat.le_of_ble_eq_true rfl) (Nat.le_of_ble_eq_true rfl) dX4_copy_13 (fun H locs hP hD hS => ?_)
  obtain ⟨f1, ef1, hP, hD⟩ : ∃ fz9, fz9 = upd2 f 11 (va_cpy (f 3) (f 11) (0 : Int32).toNatClampNeg (0 : Int32).toNatClampNeg (300 : Int32).toNatClampNeg) ∧ va_P (dC, dI) vwCl (XW cy x0 x v fz9) H ∧ va_D A (XW cy x0 x v fz9) := ⟨_, rfl, hP, hD⟩
  have hA_f1 : KF [11, 12] f1 f := by rw [ef1]; exact KF.up hA_f rfl
  refine lv_aload_n hx hb dX4_copy_16 rfl (lv_at hl 1 rfl) ?_
  refine va_get (D := (dC, dI)) (ci := 4) (v := .ref (x 8)) (C := RX4) (T := TX4) (N := 6) hx hb hts inB_4 hown hE.1 hP 7 rfl rfl 1 (by decide) (hts _ k_179) (fun _ h9 => h9) rfl dX4_copy_17 ?_
  refine lv_iconst (v := 0) hx hb dX4_copy_20 (by decide) ?_
  refine lv_aload_n hx hb dX4_copy_21 rfl (lv_at hl 0 rfl) ?_
  refine va_get (D := (dC, dI)) (ci := 4) (v := .ref (x 17)) (C := RX4) (T := TX4) (N := 6) hx hb hts inB_4 hown hE.1 hP 16 rfl rfl 1 (by decide) (hts _ k_179) (fun _ h9 => h9) rfl dX4_copy_22 ?_
  refine lv_iconst (v := 0) hx hb dX4_copy_25 (by decide) ?_
  refine lv_sipush (v := 300) hx hb dX4_copy_26 (by decide) ?_
  refine cpE (zs := 0) (zd := 0) (zn := 300) hx hb (by rw [hml]; exact hl.1.symm) hown (hts _ k_776) (hts _ k_337) (hts _ k_336) (hts _ k_108) hE hP hD hS 9 18 rfl rfl (by decide) (by decide) (by decide) (by omega) (by omega) (by omega) (by omega) (by omega) (Nat.le_of_ble_eq_true rfl) (Nat.le_of_ble_eq_true rfl) dX4_copy_29 (fun H locs hP hD hS => ?_)
  obtain ⟨f2, ef2, hP, hD⟩ : ∃ fz9, fz9 = upd2 f1 12 (va_cpy (f1 4) (f1 12) (0 : Int32).toNatClampNeg (0 : Int32).toNatClampNeg (300 : Int32).toNatClampNeg) ∧ va_P (dC, dI) vwCl (XW cy x0 x v fz9) H ∧ va_D A (XW cy x0 x v fz9) := ⟨_, rfl, hP, hD⟩
  have hA_f2 : KF [11, 12] f2 f := by rw [ef2]; exact KF.up hA_f1 rfl
  refine lv_aload_n hx hb dX4_copy_32 rfl (lv_at hl 0 rfl) ?_
  refine lv_aload_n hx hb dX4_copy_33 rfl (lv_at hl 1 rfl) ?_
  refine va_get (D := (dC, dI)) (ci := 4) (v := .int (v 16)) (C := RX4) (T := TX4) (N := 6) hx hb hts inB_4 hown hE.1 hP 7 rfl rfl 4 (by decide) (hts _ k_182) (fun _ h9 => h9) rfl dX4_copy_34 ?_
  have b16_v : 0 ≤ (v 16).toInt ∧ (v 16).toInt ≤ 300 := XI.b hIv 16 (by decide)
  refine va_put (D := (dC, dI)) (ci := 4) (v := .int (v 16)) (ty := tyX4 4) (C := RX4) (T := TX4) (N := 6) hx hb hts inB_4 tyX4 tyX4_ok nmX4 hown hE.1 hP hD hS 16 rfl rfl 4 (by decide) (hts _ k_182) (fun _ h9 => h9) rfl (tyX4_ok 4 (by decide)) rfl rfl (Nat.le_of_ble_eq_true rfl) dX4_copy_37 (fun H locs hP hD hS => ?_)
  have hP : va_P (dC, dI) vwCl (XW cy x0 x (upd v 18 (v 16)) f2) H := hP
  have hD : va_D A (XW cy x0 x (upd v 18 (v 16)) f2) := hD
  refine lv_aload_n hx hb dX4_copy_40 rfl (lv_at hl 0 rfl) ?_
  refine lv_aload_n hx hb dX4_copy_41 rfl (lv_at hl 1 rfl) ?_
  refine va_get (D := (dC, dI)) (ci := 4) (v := .int (v 17)) (C := RX4) (T := TX4) (N := 6) hx hb hts inB_4 hown hE.1 hP 7 rfl rfl 5 (by decide) (hts _ k_183) (fun _ h9 => h9) rfl dX4_copy_42 ?_
  refine va_put (D := (dC, dI)) (ci := 4) (v := .int (v 17)) (ty := tyX4 5) (C := RX4) (T := TX4) (N := 6) hx hb hts inB_4 tyX4 tyX4_ok nmX4 hown hE.1 hP hD hS 16 rfl rfl 5 (by decide) (hts _ k_183) (fun _ h9 => h9) rfl (tyX4_ok 5 (by decide)) rfl rfl (Nat.le_of_ble_eq_true rfl) dX4_copy_45 (fun H locs hP hD hS => ?_)
  have hP : va_P (dC, dI) vwCl (XW cy x0 x (upd (upd v 18 (v 16)) 19 (v 17)) f2) H := hP
  have hD : va_D A (XW cy x0 x (upd (upd v 18 (v 16)) 19 (v 17)) f2) := hD
  exact ret ((upd (upd v 18 (v 16)) 19 (v 17)), f2) _ _ _ _ _ _ ⟨(gsX_X4_copy_1_q0 ef1 ef2), (KV.up (j := 19) (x := (v 17)) (KV.up (j := 18) (x := (v 16)) hM_v rfl) rfl), hA_f2, (XI.upd (j := 19) (x := (v 17)) (XI.upd (j := 18) (x := (v 16)) hIv (show (0 : Int) ≤ (v 16).toInt by omega) (show (v 16).toInt ≤ (300 : Int) by omega)) (rlo _) (rhi _)), rfl, rfl, rfl, rfl, rfl, rfl, rfl, rfl⟩ hP hD hS dX4_copy_48 (Nat.le_refl _) (Nat.le_refl _)
set_option maxHeartbeats 4000000 in
set_option maxRecDepth 100000 in
theorem sX_X7_copy_1 (NF : Nat) (l : Launch) (dC : Nat → ClassId) (dI : Nat → Nat → Nat) (cy : Nat → ClassId) (x0 : Nat) (x : Nat → Nat)  (v : Nat → Int32) (f : Nat → Nat → Int32) (hIv : XI v)  : ctV l (dC, dI) cy yX7_copy cX7_copy 2 2 121 0 0 ((Nat → Int32) × (Nat → Nat → Int32)) [.ref (x 26), .ref (x 3)] (XW cy x0 x v f) (fun u => gsX_X7_copy_1 NF v f = u ∧ KV [18, 19, 31, 32, 33, 34, 35, 36, 37] u.1 v ∧ KF [9, 10, 11, 12] u.2 f ∧ XI u.1 ∧ u.1 0 = v 0 ∧ u.1 1 = v 1 ∧ u.1 7 = v 7 ∧ u.1 8 = v 8) (fun u => XW cy x0 x u.1 u.2) := by
  refine ctV_of (by decide) (Nat.le_of_ble_eq_true rfl) (fun p e s m below meth c A ls Q hx hb hml hts hown hnm hE hP hD hA hl ret => ?_)
  have hM_v : KV [18, 19, 31, 32, 33, 34, 35, 36, 37] v v := fun _ _ => rfl
  have hA_f : KF [9, 10, 11, 12] f f := fun _ _ => rfl
  have hown : s.vm.findClass RX7 = some m.cls := hown
  have hS : va_S A s.heap s.heap [] := va_S.rf
  have hl : lv_has ls 2 [(0, .ref (x 26)), (1, .ref (x 3))] := hl
  refine lv_aload_n hx hb dX7_copy_0 rfl (lv_at hl 1 rfl) ?_
  refine va_get (D := (dC, dI)) (ci := 7) (v := .ref (x 4)) (C := RX7) (T := TX7) (N := 10) hx hb hts inB_7 hown hE.1 hP 4 rfl rfl 0 (by decide) (hts _ k_204) (fun _ h9 => h9) rfl dX7_copy_1 ?_
  refine lv_iconst (v := 0) hx hb dX7_copy_4 (by decide) ?_
  refine lv_aload_n hx hb dX7_copy_5 rfl (lv_at hl 0 rfl) ?_
  refine va_get (D := (dC, dI)) (ci := 7) (v := .ref (x 13)) (C := RX7) (T := TX7) (N := 10) hx hb hts inB_7 hown hE.1 hP 27 rfl rfl 0 (by decide) (hts _ k_204) (fun _ h9 => h9) rfl dX7_copy_6 ?_
  refine lv_iconst (v := 0) hx hb dX7_copy_9 (by decide) ?_
  refine lv_aload_n hx hb dX7_copy_10 rfl (lv_at hl 0 rfl) ?_
  refine va_get (D := (dC, dI)) (ci := 7) (v := .ref (x 13)) (C := RX7) (T := TX7) (N := 10) hx hb hts inB_7 hown hE.1 hP 27 rfl rfl 0 (by decide) (hts _ k_204) (fun _ h9 => h9) rfl dX7_copy_11 ?_
  refine va_alen (v := 18) hx hb hE.1 hP 14 1 rfl rfl rfl dX7_copy_14 ?_
  refine cpE (zs := 0) (zd := 0) (zn := 18) hx hb (by rw [hml]; exact hl.1.symm) hown (hts _ k_771) (hts _ k_337) (hts _ k_336) (hts _ k_108) hE hP hD hS 5 14 rfl rfl (by decide) (by decide) (by decide) (by omega) (by omega) (by omega) (by omega) (by omega) (Nat.le_of_ble_eq_true rfl) (Nat.le_of_ble_eq_true rfl) dX7_copy_15 (fun H locs hP hD hS => ?_)
  obtain ⟨f1, ef1, hP, hD⟩ : ∃ fz9, fz9 = upd2 f 9 (va_cpy (f 1) (f 9) (0 : Int32).toNatClampNeg (0 : Int32).toNatClampNeg (18 : Int32).toNatClampNeg) ∧ va_P (dC, dI) vwCl (XW cy x0 x v fz9) H ∧ va_D A (XW cy x0 x v fz9) := ⟨_, rfl, hP, hD⟩
  have hA_f1 : KF [9, 10, 11, 12] f1 f := by rw [ef1]; exact KF.up hA_f rfl
  refine lv_aload_n hx hb dX7_copy_18 rfl (lv_at hl 1 rfl) ?_
  refine va_get (D := (dC, dI)) (ci := 7) (v := .ref (x 5)) (C := RX7) (T := TX7) (N := 10) hx hb hts inB_7 hown hE.1 hP 4 rfl rfl 1 (by decide) (hts _ k_205) (fun _ h9 => h9) rfl dX7_copy_19 ?_
  refine lv_iconst (v := 0) hx hb dX7_copy_22 (by decide) ?_
  refine lv_aload_n hx hb dX7_copy_23 rfl (lv_at hl 0 rfl) ?_
  refine va_get (D := (dC, dI)) (ci := 7) (v := .ref (x 14)) (C := RX7) (T := TX7) (N := 10) hx hb hts inB_7 hown hE.1 hP 27 rfl rfl 1 (by decide) (hts _ k_205) (fun _ h9 => h9) rfl dX7_copy_24 ?_
  refine lv_iconst (v := 0) hx hb dX7_copy_27 (by decide) ?_
  refine lv_aload_n hx hb dX7_copy_28 rfl (lv_at hl 0 rfl) ?_
  refine va_get (D := (dC, dI)) (ci := 7) (v := .ref (x 14)) (C := RX7) (T := TX7) (N := 10) hx hb hts inB_7 hown hE.1 hP 27 rfl rfl 1 (by decide) (hts _ k_205) (fun _ h9 => h9) rfl dX7_copy_29 ?_
  refine va_alen (v := 24) hx hb hE.1 hP 15 1 rfl rfl rfl dX7_copy_32 ?_
  refine cpE (zs := 0) (zd := 0) (zn := 24) hx hb (by rw [hml]; exact hl.1.symm) hown (hts _ k_771) (hts _ k_337) (hts _ k_336) (hts _ k_108) hE hP hD hS 6 15 rfl rfl (by decide) (by decide) (by decide) (by omega) (by omega) (by omega) (by omega) (by omega) (Nat.le_of_ble_eq_true rfl) (Nat.le_of_ble_eq_true rfl) dX7_copy_33 (fun H locs hP hD hS => ?_)
  obtain ⟨f2, ef2, hP, hD⟩ : ∃ fz9, fz9 = upd2 f1 10 (va_cpy (f1 2) (f1 10) (0 : Int32).toNatClampNeg (0 : Int32).toNatClampNeg (24 : Int32).toNatClampNeg) ∧ va_P (dC, dI) vwCl (XW cy x0 x v fz9) H ∧ va_D A (XW cy x0 x v fz9) := ⟨_, rfl, hP, hD⟩
  have hA_f2 : KF [9, 10, 11, 12] f2 f := by rw [ef2]; exact KF.up hA_f1 rfl
  refine lv_aload_n hx hb dX7_copy_36 rfl (lv_at hl 0 rfl) ?_
  refine va_get (D := (dC, dI)) (ci := 7) (v := .ref (x 15)) (C := RX7) (T := TX7) (N := 10) hx hb hts inB_7 hown hE.1 hP 27 rfl rfl 2 (by decide) (hts _ k_206) (fun _ h9 => h9) rfl dX7_copy_37 ?_
  refine lv_aload_n hx hb dX7_copy_40 rfl (lv_at hl 1 rfl) ?_
  refine va_get (D := (dC, dI)) (ci := 7) (v := .ref (x 6)) (C := RX7) (T := TX7) (N := 10) hx hb hts inB_7 hown hE.1 hP 4 rfl rfl 2 (by decide) (hts _ k_206) (fun _ h9 => h9) rfl dX7_copy_41 ?_
  refine cbVv (n := 1) (rest := []) hx hb hml hown hts hE hP hD hS hA (sX_X4_copy_1 NF l dC dI cy x0 x  v f2 hIv ) k_772 k_773 k_774 k_105 k_775 (by decide +kernel) ⟨Nat.le_of_ble_eq_true rfl, Nat.le_of_ble_eq_true rfl⟩ 16 4 rfl rfl (rfl) hl.1 rfl (Nat.le_of_ble_eq_true rfl) dX7_copy_44 (fun u H locs hw hP hD hS => ?_)
  obtain ⟨hG3, hw⟩ := hw
  obtain ⟨v4, f5⟩ := u
  obtain ⟨kV_v4, kF_f5, hIv4, hk0_v4, hk1_v4, hk7_v4, hk8_v4, hk9_v4, hk10_v4, hk31_v4, hk32_v4⟩ := hw
  have hM_v4 : KV [18, 19, 31, 32, 33, 34, 35, 36, 37] v4 v := KV.tr kV_v4 hM_v rfl
  have hA_f5 : KF [9, 10, 11, 12] f5 f := KF.tr kF_f5 hA_f2 rfl
  have hP : va_P (dC, dI) vwCl (XW cy x0 x v4 f5) H := hP
  have hD : va_D A (XW cy x0 x v4 f5) := hD
  have hq0_v4 : v4 0 = (v 0) := hk0_v4
  have hq1_v4 : v4 1 = (v 1) := hk1_v4
  have hq7_v4 : v4 7 = (v 7) := hk7_v4
  have hq8_v4 : v4 8 = (v 8) := hk8_v4
  have hq9_v4 : v4 9 = (v 9) := hk9_v4
  have hq10_v4 : v4 10 = (v 10) := hk10_v4
  have hq31_v4 : v4 31 = (v 31) := hk31_v4
  have hq32_v4 : v4 32 = (v 32) := hk32_v4
  refine lv_aload_n hx hb dX7_copy_47 rfl (lv_at hl 0 rfl) ?_
  refine lv_aload_n hx hb dX7_copy_48 rfl (lv_at hl 1 rfl) ?_
  refine va_get (D := (dC, dI)) (ci := 7) (v := .int (v4 9)) (C := RX7) (T := TX7) (N := 10) hx hb hts inB_7 hown hE.1 hP 4 rfl rfl 3 (by decide) (hts _ k_212) (fun _ h9 => h9) rfl dX7_copy_49 ?_
  refine tI (y := (v 9)) hq9_v4 ?_
  have b9_v : 0 ≤ (v 9).toInt ∧ (v 9).toInt ≤ 6 := XI.b hIv 9 (by decide)
  refine va_put (D := (dC, dI)) (ci := 7) (v := .int (v 9)) (ty := tyX7 3) (C := RX7) (T := TX7) (N := 10) hx hb hts inB_7 tyX7 tyX7_ok nmX7 hown hE.1 hP hD hS 27 rfl rfl 3 (by decide) (hts _ k_212) (fun _ h9 => h9) rfl (tyX7_ok 3 (by decide)) rfl rfl (Nat.le_of_ble_eq_true rfl) dX7_copy_52 (fun H locs hP hD hS => ?_)
  have hP : va_P (dC, dI) vwCl (XW cy x0 x (upd v4 31 (v 9)) f5) H := hP
  have hD : va_D A (XW cy x0 x (upd v4 31 (v 9)) f5) := hD
  refine lv_aload_n hx hb dX7_copy_55 rfl (lv_at hl 0 rfl) ?_
  refine lv_aload_n hx hb dX7_copy_56 rfl (lv_at hl 1 rfl) ?_
  refine va_get (D := (dC, dI)) (ci := 7) (v := .int (v4 10)) (C := RX7) (T := TX7) (N := 10) hx hb hts inB_7 hown hE.1 hP 4 rfl rfl 4 (by decide) (hts _ k_220) (fun _ h9 => h9) rfl dX7_copy_57 ?_
  refine tI (y := (v 10)) hq10_v4 ?_
  have b10_v : 0 ≤ (v 10).toInt ∧ (v 10).toInt ≤ 6 := XI.b hIv 10 (by decide)
  refine va_put (D := (dC, dI)) (ci := 7) (v := .int (v 10)) (ty := tyX7 4) (C := RX7) (T := TX7) (N := 10) hx hb hts inB_7 tyX7 tyX7_ok nmX7 hown hE.1 hP hD hS 27 rfl rfl 4 (by decide) (hts _ k_220) (fun _ h9 => h9) rfl (tyX7_ok 4 (by decide)) rfl rfl (Nat.le_of_ble_eq_true rfl) dX7_copy_60 (fun H locs hP hD hS => ?_)
  have hP : va_P (dC, dI) vwCl (XW cy x0 x (upd (upd v4 31 (v 9)) 32 (v 10)) f5) H := hP
  have hD : va_D A (XW cy x0 x (upd (upd v4 31 (v 9)) 32 (v 10)) f5) := hD
  refine lv_aload_n hx hb dX7_copy_63 rfl (lv_at hl 0 rfl) ?_
  refine lv_aload_n hx hb dX7_copy_64 rfl (lv_at hl 1 rfl) ?_
  refine va_get (D := (dC, dI)) (ci := 7) (v := .int (v4 11)) (C := RX7) (T := TX7) (N := 10) hx hb hts inB_7 hown hE.1 hP 4 rfl rfl 5 (by decide) (hts _ k_228) (fun _ h9 => h9) rfl dX7_copy_65 ?_
  refine va_put (D := (dC, dI)) (ci := 7) (v := .int (v4 11)) (ty := tyX7 5) (C := RX7) (T := TX7) (N := 10) hx hb hts inB_7 tyX7 tyX7_ok nmX7 hown hE.1 hP hD hS 27 rfl rfl 5 (by decide) (hts _ k_228) (fun _ h9 => h9) rfl (tyX7_ok 5 (by decide)) rfl rfl (Nat.le_of_ble_eq_true rfl) dX7_copy_68 (fun H locs hP hD hS => ?_)
  have hP : va_P (dC, dI) vwCl (XW cy x0 x (upd (upd (upd v4 31 (v 9)) 32 (v 10)) 33 (v4 11)) f5) H := hP
  have hD : va_D A (XW cy x0 x (upd (upd (upd v4 31 (v 9)) 32 (v 10)) 33 (v4 11)) f5) := hD
  refine lv_aload_n hx hb dX7_copy_71 rfl (lv_at hl 0 rfl) ?_
  refine lv_aload_n hx hb dX7_copy_72 rfl (lv_at hl 1 rfl) ?_
  refine va_get (D := (dC, dI)) (ci := 7) (v := .int (v4 12)) (C := RX7) (T := TX7) (N := 10) hx hb hts inB_7 hown hE.1 hP 4 rfl rfl 6 (by decide) (hts _ k_234) (fun _ h9 => h9) rfl dX7_copy_73 ?_
  refine va_put (D := (dC, dI)) (ci := 7) (v := .int (v4 12)) (ty := tyX7 6) (C := RX7) (T := TX7) (N := 10) hx hb hts inB_7 tyX7 tyX7_ok nmX7 hown hE.1 hP hD hS 27 rfl rfl 6 (by decide) (hts _ k_234) (fun _ h9 => h9) rfl (tyX7_ok 6 (by decide)) rfl rfl (Nat.le_of_ble_eq_true rfl) dX7_copy_76 (fun H locs hP hD hS => ?_)
  have hP : va_P (dC, dI) vwCl (XW cy x0 x (upd (upd (upd (upd v4 31 (v 9)) 32 (v 10)) 33 (v4 11)) 34 (v4 12)) f5) H := hP
  have hD : va_D A (XW cy x0 x (upd (upd (upd (upd v4 31 (v 9)) 32 (v 10)) 33 (v4 11)) 34 (v4 12)) f5) := hD
  refine lv_aload_n hx hb dX7_copy_79 rfl (lv_at hl 0 rfl) ?_
  refine lv_aload_n hx hb dX7_copy_80 rfl (lv_at hl 1 rfl) ?_
  refine va_get (D := (dC, dI)) (ci := 7) (v := .int (v4 13)) (C := RX7) (T := TX7) (N := 10) hx hb hts inB_7 hown hE.1 hP 4 rfl rfl 7 (by decide) (hts _ k_237) (fun _ h9 => h9) rfl dX7_copy_81 ?_
  refine va_put (D := (dC, dI)) (ci := 7) (v := .int (v4 13)) (ty := tyX7 7) (C := RX7) (T := TX7) (N := 10) hx hb hts inB_7 tyX7 tyX7_ok nmX7 hown hE.1 hP hD hS 27 rfl rfl 7 (by decide) (hts _ k_237) (fun _ h9 => h9) rfl (tyX7_ok 7 (by decide)) rfl rfl (Nat.le_of_ble_eq_true rfl) dX7_copy_84 (fun H locs hP hD hS => ?_)
  have hP : va_P (dC, dI) vwCl (XW cy x0 x (upd (upd (upd (upd (upd v4 31 (v 9)) 32 (v 10)) 33 (v4 11)) 34 (v4 12)) 35 (v4 13)) f5) H := hP
  have hD : va_D A (XW cy x0 x (upd (upd (upd (upd (upd v4 31 (v 9)) 32 (v 10)) 33 (v4 11)) 34 (v4 12)) 35 (v4 13)) f5) := hD
  refine lv_aload_n hx hb dX7_copy_87 rfl (lv_at hl 0 rfl) ?_
  refine lv_aload_n hx hb dX7_copy_88 rfl (lv_at hl 1 rfl) ?_
  refine va_get (D := (dC, dI)) (ci := 7) (v := .int (v4 14)) (C := RX7) (T := TX7) (N := 10) hx hb hts inB_7 hown hE.1 hP 4 rfl rfl 8 (by decide) (hts _ k_240) (fun _ h9 => h9) rfl dX7_copy_89 ?_
  refine va_put (D := (dC, dI)) (ci := 7) (v := .int (v4 14)) (ty := tyX7 8) (C := RX7) (T := TX7) (N := 10) hx hb hts inB_7 tyX7 tyX7_ok nmX7 hown hE.1 hP hD hS 27 rfl rfl 8 (by decide) (hts _ k_240) (fun _ h9 => h9) rfl (tyX7_ok 8 (by decide)) rfl rfl (Nat.le_of_ble_eq_true rfl) dX7_copy_92 (fun H locs hP hD hS => ?_)
  have hP : va_P (dC, dI) vwCl (XW cy x0 x (upd (upd (upd (upd (upd (upd v4 31 (v 9)) 32 (v 10)) 33 (v4 11)) 34 (v4 12)) 35 (v4 13)) 36 (v4 14)) f5) H := hP
  have hD : va_D A (XW cy x0 x (upd (upd (upd (upd (upd (upd v4 31 (v 9)) 32 (v 10)) 33 (v4 11)) 34 (v4 12)) 35 (v4 13)) 36 (v4 14)) f5) := hD
  refine lv_aload_n hx hb dX7_copy_95 rfl (lv_at hl 0 rfl) ?_
  refine lv_aload_n hx hb dX7_copy_96 rfl (lv_at hl 1 rfl) ?_
  refine va_get (D := (dC, dI)) (ci := 7) (v := .int (v4 15)) (C := RX7) (T := TX7) (N := 10) hx hb hts inB_7 hown hE.1 hP 4 rfl rfl 9 (by decide) (hts _ k_243) (fun _ h9 => h9) rfl dX7_copy_97 ?_
  refine va_put (D := (dC, dI)) (ci := 7) (v := .int (v4 15)) (ty := tyX7 9) (C := RX7) (T := TX7) (N := 10) hx hb hts inB_7 tyX7 tyX7_ok nmX7 hown hE.1 hP hD hS 27 rfl rfl 9 (by decide) (hts _ k_243) (fun _ h9 => h9) rfl (tyX7_ok 9 (by decide)) rfl rfl (Nat.le_of_ble_eq_true rfl) dX7_copy_100 (fun H locs hP hD hS => ?_)
  have hP : va_P (dC, dI) vwCl (XW cy x0 x (upd (upd (upd (upd (upd (upd (upd v4 31 (v 9)) 32 (v 10)) 33 (v4 11)) 34 (v4 12)) 35 (v4 13)) 36 (v4 14)) 37 (v4 15)) f5) H := hP
  have hD : va_D A (XW cy x0 x (upd (upd (upd (upd (upd (upd (upd v4 31 (v 9)) 32 (v 10)) 33 (v4 11)) 34 (v4 12)) 35 (v4 13)) 36 (v4 14)) 37 (v4 15)) f5) := hD
  exact ret ((upd (upd (upd (upd (upd (upd (upd v4 31 (v 9)) 32 (v 10)) 33 (v4 11)) 34 (v4 12)) 35 (v4 13)) 36 (v4 14)) 37 (v4 15)), f5) _ _ _ _ _ _ ⟨(gsX_X7_copy_1_q0 ef1 ef2 hG3), (KV.up (j := 37) (x := (v4 15)) (KV.up (j := 36) (x := (v4 14)) (KV.up (j := 35) (x := (v4 13)) (KV.up (j := 34) (x := (v4 12)) (KV.up (j := 33) (x := (v4 11)) (KV.up (j := 32) (x := (v 10)) (KV.up (j := 31) (x := (v 9)) hM_v4 rfl) rfl) rfl) rfl) rfl) rfl) rfl), hA_f5, (XI.upd (j := 37) (x := (v4 15)) (XI.upd (j := 36) (x := (v4 14)) (XI.upd (j := 35) (x := (v4 13)) (XI.upd (j := 34) (x := (v4 12)) (XI.upd (j := 33) (x := (v4 11)) (XI.upd (j := 32) (x := (v 10)) (XI.upd (j := 31) (x := (v 9)) hIv4 (show (0 : Int) ≤ (v 9).toInt by omega) (show (v 9).toInt ≤ (6 : Int) by omega)) (show (0 : Int) ≤ (v 10).toInt by omega) (show (v 10).toInt ≤ (6 : Int) by omega)) (rlo _) (rhi _)) (rlo _) (rhi _)) (rlo _) (rhi _)) (rlo _) (rhi _)) (rlo _) (rhi _)), hk0_v4, hk1_v4, hk7_v4, hk8_v4⟩ hP hD hS dX7_copy_103 (Nat.le_refl _) (Nat.le_refl _)
set_option maxHeartbeats 4000000 in
set_option maxRecDepth 100000 in
theorem sX_X7_hasCoat_1 (NF : Nat) (l : Launch) (dC : Nat → ClassId) (dI : Nat → Nat → Nat) (cy : Nat → ClassId) (x0 : Nat) (x : Nat → Nat) (p1 : Int32) (v : Nat → Int32) (f : Nat → Nat → Int32) (hIv : XI v)  : ctI l (dC, dI) cy yX7_hasCoat cX7_hasCoat 2 .boolean 1 60 0 0 Unit [.ref (x 26), .int p1] (XW cy x0 x v f) (fun r u => gsX_X7_hasCoat_1 NF p1 v f = r ∧ ((r = 1 ∧ 0 ≤ p1.toInt ∧ p1.toInt < (v 32).toInt ∧ p1.toInt ≤ 5) ∨ (r = 0))) (fun u => XW cy x0 x v f) := by
  refine ctI_of (by decide) (Nat.le_of_ble_eq_true rfl) (fun p e s m below meth c A ls Q hx hb hml hts hown hE hP hD hA hl ret => ?_)
  have hown : s.vm.findClass RX7 = some m.cls := hown
  have hS : va_S A s.heap s.heap [] := va_S.rf
  have hl : lv_has ls 2 [(0, .ref (x 26)), (1, .int p1)] := hl
  refine lv_iload_n hx hb dX7_hasCoat_0 rfl (lv_at hl 1 rfl) ?_
  refine lv_if_lt (tgt := 16) hx hb dX7_hasCoat_1 (by decide) (fun c1 => ?_) (fun c1 => ?_)
  · skip
    have zc1 : p1.toInt < 0 := by rw [fa_lt, show (0 : Int32).toInt = 0 from by decide] at c1; exact c1
    refine lv_iconst (v := 0) hx hb dX7_hasCoat_16 (by decide) ?_
    exact ret 0 () _ _ _ _ _ _ rfl ⟨(gsX_X7_hasCoat_1_q0 c1), (Or.inr rfl)⟩ hP hD hS dX7_hasCoat_17 (Nat.le_refl _) (Nat.le_refl _)
  · skip
    have zc1 : ¬ (p1.toInt < 0) := by rw [fa_lt, show (0 : Int32).toInt = 0 from by decide] at c1; exact c1
    refine lv_iload_n hx hb dX7_hasCoat_4 rfl (lv_at hl 1 rfl) ?_
    refine lv_aload_n hx hb dX7_hasCoat_5 rfl (lv_at hl 0 rfl) ?_
    refine va_get (D := (dC, dI)) (ci := 7) (v := .int (v 32)) (C := RX7) (T := TX7) (N := 10) hx hb hts inB_7 hown hE.1 hP 27 rfl rfl 4 (by decide) (hts _ k_220) (fun _ h9 => h9) rfl dX7_hasCoat_6 ?_
    have b32_v : 0 ≤ (v 32).toInt ∧ (v 32).toInt ≤ 6 := XI.b hIv 32 (by decide)
    refine lv_icmp_ge (tgt := 16) hx hb dX7_hasCoat_9 (by decide) (fun c2 => ?_) (fun c2 => ?_)
    · skip
      have zc2 : (v 32).toInt ≤ p1.toInt := by rw [fa_le] at c2; exact c2
      have rg3 := fb_rng p1
      have rg4 := fb_rng (v 32)
      refine lv_iconst (v := 0) hx hb dX7_hasCoat_16 (by decide) ?_
      exact ret 0 () _ _ _ _ _ _ rfl ⟨(gsX_X7_hasCoat_1_q1 c1 c2), (Or.inr rfl)⟩ hP hD hS dX7_hasCoat_17 (Nat.le_refl _) (Nat.le_refl _)
    · skip
      have zc2 : ¬ ((v 32).toInt ≤ p1.toInt) := by rw [fa_le] at c2; exact c2
      have rg5 := fb_rng p1
      have rg6 := fb_rng (v 32)
      refine lv_iconst (v := 1) hx hb dX7_hasCoat_12 (by decide) ?_
      refine lv_goto (tgt := 17) hx hb dX7_hasCoat_13 (by decide) ?_
      exact ret 1 () _ _ _ _ _ _ rfl ⟨(gsX_X7_hasCoat_1_q2 c1 c2), (Or.inl ⟨rfl, by omega, by omega, by omega⟩)⟩ hP hD hS dX7_hasCoat_17 (Nat.le_refl _) (Nat.le_refl _)
set_option maxHeartbeats 4000000 in
set_option maxRecDepth 100000 in
theorem sX_X7_coatPart_1 (NF : Nat) (l : Launch) (dC : Nat → ClassId) (dI : Nat → Nat → Nat) (cy : Nat → ClassId) (x0 : Nat) (x : Nat → Nat) (p1 : Int32) (p2 : Int32) (v : Nat → Int32) (f : Nat → Nat → Int32) (hIv : XI v)  : ctI l (dC, dI) cy yX7_coatPart cX7_coatPart 3 .int 2 81 0 0 Unit [.ref (x 26), .int p1, .int p2] (XW cy x0 x v f) (fun r u => gsX_X7_coatPart_1 NF p1 p2 v f = r) (fun u => XW cy x0 x v f) := by
  refine ctI_of (by decide) (Nat.le_of_ble_eq_true rfl) (fun p e s m below meth c A ls Q hx hb hml hts hown hE hP hD hA hl ret => ?_)
  have hown : s.vm.findClass RX7 = some m.cls := hown
  have hS : va_S A s.heap s.heap [] := va_S.rf
  have hl : lv_has ls 3 [(0, .ref (x 26)), (1, .int p1), (2, .int p2)] := hl
  refine lv_aload_n hx hb dX7_coatPart_0 rfl (lv_at hl 0 rfl) ?_
  refine lv_iload_n hx hb dX7_coatPart_1 rfl (lv_at hl 2 rfl) ?_
  refine cbVi (n := 1) (rest := []) hx hb hml hown hts hE hP hD hS hA (sX_X7_hasCoat_1 NF l dC dI cy x0 x p2 v f hIv ) k_314 k_315 k_316 k_104 k_317 (by decide +kernel) ⟨Nat.le_of_ble_eq_true rfl, Nat.le_of_ble_eq_true rfl⟩ 27 7 rfl rfl (rfl) hl.1 rfl (Nat.le_of_ble_eq_true rfl) dX7_coatPart_2 (fun r1 u H locs hw hP hD hS => ?_)
  obtain ⟨hG2, hw⟩ := hw
  rcases hw with ⟨g3, g3_0, g3_1, g3_2⟩ | ⟨g3⟩
  · skip
    subst g3
    refine lv_if_eq (tgt := 31) hx hb dX7_coatPart_5 (by decide) (fun c0 => absurd c0 (by decide)) (fun _ => ?_)
    refine lv_iload_n hx hb dX7_coatPart_8 rfl (lv_at hl 1 rfl) ?_
    refine lv_if_lt (tgt := 31) hx hb dX7_coatPart_9 (by decide) (fun c4 => ?_) (fun c4 => ?_)
    · skip
      have zc4 : p1.toInt < 0 := by rw [fa_lt, show (0 : Int32).toInt = 0 from by decide] at c4; exact c4
      refine lv_iconst (v := 0) hx hb dX7_coatPart_31 (by decide) ?_
      exact ret 0 () _ _ _ _ _ _ rfl (gsX_X7_coatPart_1_q0 hG2 c4) hP hD hS dX7_coatPart_32 (Nat.le_refl _) (Nat.le_refl _)
    · skip
      have zc4 : ¬ (p1.toInt < 0) := by rw [fa_lt, show (0 : Int32).toInt = 0 from by decide] at c4; exact c4
      refine lv_iload_n hx hb dX7_coatPart_12 rfl (lv_at hl 1 rfl) ?_
      refine lv_iconst (v := 4) hx hb dX7_coatPart_13 (by decide) ?_
      refine lv_icmp_ge (tgt := 31) hx hb dX7_coatPart_14 (by decide) (fun c5 => ?_) (fun c5 => ?_)
      · skip
        have zc5 : 4 ≤ p1.toInt := by rw [fa_le, show (4 : Int32).toInt = 4 from by decide] at c5; exact c5
        refine lv_iconst (v := 0) hx hb dX7_coatPart_31 (by decide) ?_
        exact ret 0 () _ _ _ _ _ _ rfl (gsX_X7_coatPart_1_q1 hG2 c4 c5) hP hD hS dX7_coatPart_32 (Nat.le_refl _) (Nat.le_refl _)
      · skip
        have zc5 : ¬ (4 ≤ p1.toInt) := by rw [fa_le, show (4 : Int32).toInt = 4 from by decide] at c5; exact c5
        refine lv_aload_n hx hb dX7_coatPart_17 rfl (lv_at hl 0 rfl) ?_
        refine va_get (D := (dC, dI)) (ci := 7) (v := .ref (x 14)) (C := RX7) (T := TX7) (N := 10) hx hb hts inB_7 hown hE.1 hP 27 rfl rfl 1 (by decide) (hts _ k_205) (fun _ h9 => h9) rfl dX7_coatPart_18 ?_
        refine lv_iload_n hx hb dX7_coatPart_21 rfl (lv_at hl 1 rfl) ?_
        refine lv_bipush (v := 6) hx hb dX7_coatPart_22 (by decide) ?_
        refine lv_imul hx hb dX7_coatPart_24 ?_
        refine lv_topi (fun t6 et6 => ?_)
        have rg7 := fb_rng p1
        have zt6 : t6.toInt = p1.toInt * 6 := by rw [et6]; exact mul_i rfl (by decide) (by omega) (by omega)
        refine lv_iload_n hx hb dX7_coatPart_25 rfl (lv_at hl 2 rfl) ?_
        refine lv_iadd hx hb dX7_coatPart_26 ?_
        refine lv_topi (fun t8 et8 => ?_)
        have rg9 := fb_rng t6
        have rg10 := fb_rng p2
        have zt8 : t8.toInt = t6.toInt + p2.toInt := by rw [et8]; exact add_i rfl rfl (by omega) (by omega)
        refine ldI hx hb hE hP 15 rfl (vp_in_iff.mpr ⟨by omega, by omega⟩) rfl rfl dX7_coatPart_27 ?_
        refine lv_topi (fun t11 et11 => ?_)
        refine lv_goto (tgt := 32) hx hb dX7_coatPart_28 (by decide) ?_
        exact ret t11 () _ _ _ _ _ _ rfl (gsX_X7_coatPart_1_q2 hG2 c4 c5 et6 et8 et11) hP hD hS dX7_coatPart_32 (Nat.le_refl _) (Nat.le_refl _)
  · skip
    subst g3
    refine lv_if_eq (tgt := 31) hx hb dX7_coatPart_5 (by decide) (fun _ => ?_) (fun c0 => absurd (by decide) c0)
    refine lv_iconst (v := 0) hx hb dX7_coatPart_31 (by decide) ?_
    exact ret 0 () _ _ _ _ _ _ rfl (gsX_X7_coatPart_1_q3 hG2) hP hD hS dX7_coatPart_32 (Nat.le_refl _) (Nat.le_refl _)
set_option maxHeartbeats 4000000 in
set_option maxRecDepth 100000 in
theorem sX_X7_hasMan_1 (NF : Nat) (l : Launch) (dC : Nat → ClassId) (dI : Nat → Nat → Nat) (cy : Nat → ClassId) (x0 : Nat) (x : Nat → Nat) (p1 : Int32) (v : Nat → Int32) (f : Nat → Nat → Int32) (hIv : XI v)  : ctI l (dC, dI) cy yX7_hasMan cX7_hasMan 2 .boolean 1 60 0 0 Unit [.ref (x 26), .int p1] (XW cy x0 x v f) (fun r u => gsX_X7_hasMan_1 NF p1 v f = r ∧ ((r = 1 ∧ 0 ≤ p1.toInt ∧ p1.toInt < (v 31).toInt ∧ p1.toInt ≤ 5) ∨ (r = 0))) (fun u => XW cy x0 x v f) := by
  refine ctI_of (by decide) (Nat.le_of_ble_eq_true rfl) (fun p e s m below meth c A ls Q hx hb hml hts hown hE hP hD hA hl ret => ?_)
  have hown : s.vm.findClass RX7 = some m.cls := hown
  have hS : va_S A s.heap s.heap [] := va_S.rf
  have hl : lv_has ls 2 [(0, .ref (x 26)), (1, .int p1)] := hl
  refine lv_iload_n hx hb dX7_hasMan_0 rfl (lv_at hl 1 rfl) ?_
  refine lv_if_lt (tgt := 16) hx hb dX7_hasMan_1 (by decide) (fun c1 => ?_) (fun c1 => ?_)
  · skip
    have zc1 : p1.toInt < 0 := by rw [fa_lt, show (0 : Int32).toInt = 0 from by decide] at c1; exact c1
    refine lv_iconst (v := 0) hx hb dX7_hasMan_16 (by decide) ?_
    exact ret 0 () _ _ _ _ _ _ rfl ⟨(gsX_X7_hasMan_1_q0 c1), (Or.inr rfl)⟩ hP hD hS dX7_hasMan_17 (Nat.le_refl _) (Nat.le_refl _)
  · skip
    have zc1 : ¬ (p1.toInt < 0) := by rw [fa_lt, show (0 : Int32).toInt = 0 from by decide] at c1; exact c1
    refine lv_iload_n hx hb dX7_hasMan_4 rfl (lv_at hl 1 rfl) ?_
    refine lv_aload_n hx hb dX7_hasMan_5 rfl (lv_at hl 0 rfl) ?_
    refine va_get (D := (dC, dI)) (ci := 7) (v := .int (v 31)) (C := RX7) (T := TX7) (N := 10) hx hb hts inB_7 hown hE.1 hP 27 rfl rfl 3 (by decide) (hts _ k_212) (fun _ h9 => h9) rfl dX7_hasMan_6 ?_
    have b31_v : 0 ≤ (v 31).toInt ∧ (v 31).toInt ≤ 6 := XI.b hIv 31 (by decide)
    refine lv_icmp_ge (tgt := 16) hx hb dX7_hasMan_9 (by decide) (fun c2 => ?_) (fun c2 => ?_)
    · skip
      have zc2 : (v 31).toInt ≤ p1.toInt := by rw [fa_le] at c2; exact c2
      have rg3 := fb_rng p1
      have rg4 := fb_rng (v 31)
      refine lv_iconst (v := 0) hx hb dX7_hasMan_16 (by decide) ?_
      exact ret 0 () _ _ _ _ _ _ rfl ⟨(gsX_X7_hasMan_1_q1 c1 c2), (Or.inr rfl)⟩ hP hD hS dX7_hasMan_17 (Nat.le_refl _) (Nat.le_refl _)
    · skip
      have zc2 : ¬ ((v 31).toInt ≤ p1.toInt) := by rw [fa_le] at c2; exact c2
      have rg5 := fb_rng p1
      have rg6 := fb_rng (v 31)
      refine lv_iconst (v := 1) hx hb dX7_hasMan_12 (by decide) ?_
      refine lv_goto (tgt := 17) hx hb dX7_hasMan_13 (by decide) ?_
      exact ret 1 () _ _ _ _ _ _ rfl ⟨(gsX_X7_hasMan_1_q2 c1 c2), (Or.inl ⟨rfl, by omega, by omega, by omega⟩)⟩ hP hD hS dX7_hasMan_17 (Nat.le_refl _) (Nat.le_refl _)
set_option maxHeartbeats 4000000 in
set_option maxRecDepth 100000 in
theorem sX_X7_manPart_1 (NF : Nat) (l : Launch) (dC : Nat → ClassId) (dI : Nat → Nat → Nat) (cy : Nat → ClassId) (x0 : Nat) (x : Nat → Nat) (p1 : Int32) (p2 : Int32) (v : Nat → Int32) (f : Nat → Nat → Int32) (hIv : XI v)  : ctI l (dC, dI) cy yX7_manPart cX7_manPart 3 .int 2 81 0 0 Unit [.ref (x 26), .int p1, .int p2] (XW cy x0 x v f) (fun r u => gsX_X7_manPart_1 NF p1 p2 v f = r) (fun u => XW cy x0 x v f) := by
  refine ctI_of (by decide) (Nat.le_of_ble_eq_true rfl) (fun p e s m below meth c A ls Q hx hb hml hts hown hE hP hD hA hl ret => ?_)
  have hown : s.vm.findClass RX7 = some m.cls := hown
  have hS : va_S A s.heap s.heap [] := va_S.rf
  have hl : lv_has ls 3 [(0, .ref (x 26)), (1, .int p1), (2, .int p2)] := hl
  refine lv_aload_n hx hb dX7_manPart_0 rfl (lv_at hl 0 rfl) ?_
  refine lv_iload_n hx hb dX7_manPart_1 rfl (lv_at hl 2 rfl) ?_
  refine cbVi (n := 1) (rest := []) hx hb hml hown hts hE hP hD hS hA (sX_X7_hasMan_1 NF l dC dI cy x0 x p2 v f hIv ) k_306 k_307 k_308 k_104 k_309 (by decide +kernel) ⟨Nat.le_of_ble_eq_true rfl, Nat.le_of_ble_eq_true rfl⟩ 27 7 rfl rfl (rfl) hl.1 rfl (Nat.le_of_ble_eq_true rfl) dX7_manPart_2 (fun r1 u H locs hw hP hD hS => ?_)
  obtain ⟨hG2, hw⟩ := hw
  rcases hw with ⟨g3, g3_0, g3_1, g3_2⟩ | ⟨g3⟩
  · skip
    subst g3
    refine lv_if_eq (tgt := 31) hx hb dX7_manPart_5 (by decide) (fun c0 => absurd c0 (by decide)) (fun _ => ?_)
    refine lv_iload_n hx hb dX7_manPart_8 rfl (lv_at hl 1 rfl) ?_
    refine lv_if_lt (tgt := 31) hx hb dX7_manPart_9 (by decide) (fun c4 => ?_) (fun c4 => ?_)
    · skip
      have zc4 : p1.toInt < 0 := by rw [fa_lt, show (0 : Int32).toInt = 0 from by decide] at c4; exact c4
      refine lv_iconst (v := 0) hx hb dX7_manPart_31 (by decide) ?_
      exact ret 0 () _ _ _ _ _ _ rfl (gsX_X7_manPart_1_q0 hG2 c4) hP hD hS dX7_manPart_32 (Nat.le_refl _) (Nat.le_refl _)
    · skip
      have zc4 : ¬ (p1.toInt < 0) := by rw [fa_lt, show (0 : Int32).toInt = 0 from by decide] at c4; exact c4
      refine lv_iload_n hx hb dX7_manPart_12 rfl (lv_at hl 1 rfl) ?_
      refine lv_iconst (v := 3) hx hb dX7_manPart_13 (by decide) ?_
      refine lv_icmp_ge (tgt := 31) hx hb dX7_manPart_14 (by decide) (fun c5 => ?_) (fun c5 => ?_)
      · skip
        have zc5 : 3 ≤ p1.toInt := by rw [fa_le, show (3 : Int32).toInt = 3 from by decide] at c5; exact c5
        refine lv_iconst (v := 0) hx hb dX7_manPart_31 (by decide) ?_
        exact ret 0 () _ _ _ _ _ _ rfl (gsX_X7_manPart_1_q1 hG2 c4 c5) hP hD hS dX7_manPart_32 (Nat.le_refl _) (Nat.le_refl _)
      · skip
        have zc5 : ¬ (3 ≤ p1.toInt) := by rw [fa_le, show (3 : Int32).toInt = 3 from by decide] at c5; exact c5
        refine lv_aload_n hx hb dX7_manPart_17 rfl (lv_at hl 0 rfl) ?_
        refine va_get (D := (dC, dI)) (ci := 7) (v := .ref (x 13)) (C := RX7) (T := TX7) (N := 10) hx hb hts inB_7 hown hE.1 hP 27 rfl rfl 0 (by decide) (hts _ k_204) (fun _ h9 => h9) rfl dX7_manPart_18 ?_
        refine lv_iload_n hx hb dX7_manPart_21 rfl (lv_at hl 1 rfl) ?_
        refine lv_bipush (v := 6) hx hb dX7_manPart_22 (by decide) ?_
        refine lv_imul hx hb dX7_manPart_24 ?_
        refine lv_topi (fun t6 et6 => ?_)
        have rg7 := fb_rng p1
        have zt6 : t6.toInt = p1.toInt * 6 := by rw [et6]; exact mul_i rfl (by decide) (by omega) (by omega)
        refine lv_iload_n hx hb dX7_manPart_25 rfl (lv_at hl 2 rfl) ?_
        refine lv_iadd hx hb dX7_manPart_26 ?_
        refine lv_topi (fun t8 et8 => ?_)
        have rg9 := fb_rng t6
        have rg10 := fb_rng p2
        have zt8 : t8.toInt = t6.toInt + p2.toInt := by rw [et8]; exact add_i rfl rfl (by omega) (by omega)
        refine ldI hx hb hE hP 14 rfl (vp_in_iff.mpr ⟨by omega, by omega⟩) rfl rfl dX7_manPart_27 ?_
        refine lv_topi (fun t11 et11 => ?_)
        refine lv_goto (tgt := 32) hx hb dX7_manPart_28 (by decide) ?_
        exact ret t11 () _ _ _ _ _ _ rfl (gsX_X7_manPart_1_q2 hG2 c4 c5 et6 et8 et11) hP hD hS dX7_manPart_32 (Nat.le_refl _) (Nat.le_refl _)
  · skip
    subst g3
    refine lv_if_eq (tgt := 31) hx hb dX7_manPart_5 (by decide) (fun _ => ?_) (fun c0 => absurd (by decide) c0)
    refine lv_iconst (v := 0) hx hb dX7_manPart_31 (by decide) ?_
    exact ret 0 () _ _ _ _ _ _ rfl (gsX_X7_manPart_1_q3 hG2) hP hD hS dX7_manPart_32 (Nat.le_refl _) (Nat.le_refl _)
set_option maxHeartbeats 4000000 in
set_option maxRecDepth 100000 in
theorem sX_X1_muster_1 (NF : Nat) (l : Launch) (dC : Nat → ClassId) (dI : Nat → Nat → Nat) (cy : Nat → ClassId) (x0 : Nat) (x : Nat → Nat)  (v : Nat → Int32) (f : Nat → Nat → Int32) (hIv : XI v)  : ctV l (dC, dI) cy yX1_muster cX1_muster 3 3 103 0 0 ((Nat → Int32) × (Nat → Nat → Int32)) [.ref (x 21)] (XW cy x0 x v f) (fun u => gsX_X1_muster_1 NF v f = u ∧ KV [] u.1 v ∧ KF [15] u.2 f ∧ XI u.1 ∧ u.1 0 = v 0 ∧ u.1 1 = v 1 ∧ u.1 7 = v 7 ∧ u.1 8 = v 8 ∧ u.1 9 = v 9 ∧ u.1 10 = v 10 ∧ u.1 31 = v 31 ∧ u.1 32 = v 32) (fun u => XW cy x0 x u.1 u.2) := by
  refine ctV_of (by decide) (Nat.le_of_ble_eq_true rfl) (fun p e s m below meth c A ls Q hx hb hml hts hown hnm hE hP hD hA hl ret => ?_)
  have hM_v : KV [] v v := fun _ _ => rfl
  have hA_f : KF [15] f f := fun _ _ => rfl
  have hown : s.vm.findClass RX1 = some m.cls := hown
  have hS : va_S A s.heap s.heap [] := va_S.rf
  have hl : lv_has ls 3 [(0, .ref (x 21))] := hl
  refine lv_iconst (v := 0) hx hb dX1_muster_0 (by decide) ?_
  refine lv_istore_n (lv' := [(1, .int 0), (0, .ref (x 21))]) hx hb dX1_muster_1 rfl hl (by decide) rfl (fun ls hl => ?_)
  have lp1 : ∀ (n1 : Nat) (l1_1 : Int32) (v1 : Nat → Int32) (f1 : Nat → Nat → Int32), XI v1 → v1 0 = (v 0) → v1 1 = (v 1) → v1 7 = (v 7) → v1 8 = (v 8) → v1 9 = (v 9) → v1 10 = (v 10) → v1 31 = (v 31) → v1 32 = (v 32) → gsX_X1_muster_1_L1 NF n1 l1_1 v1 f1 = (gsX_X1_muster_1 NF v f) → ((0 : Int) ≤ l1_1.toInt ∧ l1_1.toInt ≤ 2147483647) → KV [] v1 v → KF [15] f1 f → (2147483647 - l1_1.toInt).toNat < n1 → ∀ (H : Heap) (locs : List Loc) (ls : Array Slot), va_P (dC, dI) vwCl (XW cy x0 x v1 f1) H → va_D A (XW cy x0 x v1 f1) → va_S A s.heap H locs → lv_has ls 3 [(1, .int l1_1), (0, .ref (x 21))] → W p l e { frames := 3, cells := 0, slots := 0, locals := 103 } s m ([.ref (x 21)] : List Value).toArray below meth c H locs 0 0 Q (F0 m 2 ls []) := by
    intro n1
    induction n1 with
    | zero => intro l1_1 v1 f1 hIv1 hq0_v1 hq1_v1 hq7_v1 hq8_v1 hq9_v1 hq10_v1 hq31_v1 hq32_v1 hT1 hr1_1 hM_v1 hA_f1 hm; exact absurd hm (Nat.not_lt_zero _)
    | succ n1 ih1 =>
      intro l1_1 v1 f1 hIv1 hq0_v1 hq1_v1 hq7_v1 hq8_v1 hq9_v1 hq10_v1 hq31_v1 hq32_v1 hT1 hr1_1 hM_v1 hA_f1 hm1 H locs ls hP hD hS hl
      refine lv_iload_n hx hb dX1_muster_2 rfl (lv_at hl 0 rfl) ?_
      refine lv_bipush (v := 6) hx hb dX1_muster_3 (by decide) ?_
      refine lv_icmp_ge (tgt := 39) hx hb dX1_muster_5 (by decide) (fun c2 => ?_) (fun c2 => ?_)
      · skip
        have zc2 : 6 ≤ l1_1.toInt := by rw [fa_le, show (6 : Int32).toInt = 6 from by decide] at c2; exact c2
        refine lv_iconst (v := 0) hx hb dX1_muster_39 (by decide) ?_
        refine lv_istore_n (lv' := [(1, .int 0), (0, .ref (x 21))]) hx hb dX1_muster_40 rfl hl (by decide) rfl (fun ls hl => ?_)
        have lp3 : ∀ (n3 : Nat) (l1_3 : Int32) (v3 : Nat → Int32) (f3 : Nat → Nat → Int32), XI v3 → v3 0 = (v 0) → v3 1 = (v 1) → v3 7 = (v 7) → v3 8 = (v 8) → v3 9 = (v 9) → v3 10 = (v 10) → v3 31 = (v 31) → v3 32 = (v 32) → gsX_X1_muster_1_L3 NF n3 l1_3 v3 f3 = (gsX_X1_muster_1 NF v f) → ((0 : Int) ≤ l1_3.toInt ∧ l1_3.toInt ≤ 2147483647) → KV [] v3 v → KF [15] f3 f → (2147483647 - l1_3.toInt).toNat < n3 → ∀ (H : Heap) (locs : List Loc) (ls : Array Slot), va_P (dC, dI) vwCl (XW cy x0 x v3 f3) H → va_D A (XW cy x0 x v3 f3) → va_S A s.heap H locs → lv_has ls 3 [(1, .int l1_3), (0, .ref (x 21))] → W p l e { frames := 3, cells := 0, slots := 0, locals := 103 } s m ([.ref (x 21)] : List Value).toArray below meth c H locs 0 0 Q (F0 m 41 ls []) := by
          intro n3
          induction n3 with
          | zero => intro l1_3 v3 f3 hIv3 hq0_v3 hq1_v3 hq7_v3 hq8_v3 hq9_v3 hq10_v3 hq31_v3 hq32_v3 hT3 hr1_3 hM_v3 hA_f3 hm; exact absurd hm (Nat.not_lt_zero _)
          | succ n3 ih3 =>
            intro l1_3 v3 f3 hIv3 hq0_v3 hq1_v3 hq7_v3 hq8_v3 hq9_v3 hq10_v3 hq31_v3 hq32_v3 hT3 hr1_3 hM_v3 hA_f3 hm3 H locs ls hP hD hS hl
            refine lv_iload_n hx hb dX1_muster_41 rfl (lv_at hl 0 rfl) ?_
            refine lv_bipush (v := 6) hx hb dX1_muster_42 (by decide) ?_
            refine lv_icmp_ge (tgt := 89) hx hb dX1_muster_44 (by decide) (fun c4 => ?_) (fun c4 => ?_)
            · skip
              have zc4 : 6 ≤ l1_3.toInt := by rw [fa_le, show (6 : Int32).toInt = 6 from by decide] at c4; exact c4
              refine lv_aload_n hx hb dX1_muster_89 rfl (lv_at hl 1 rfl) ?_
              refine va_get (D := (dC, dI)) (ci := 1) (v := .ref (x 22)) (C := RX1) (T := TX1) (N := 2) hx hb hts inB_1 hown hE.1 hP 22 rfl rfl 1 (by decide) (hts _ k_319) (fun _ h9 => h9) rfl dX1_muster_90 ?_
              refine lv_bipush (v := 42) hx hb dX1_muster_93 (by decide) ?_
              refine lv_iconst (v := 0) hx hb dX1_muster_95 (by decide) ?_
              refine stI hx hb hE hP hD hS 23 rfl (vp_in_nI (n := 42) (by decide) (by decide)) rfl dX1_muster_96 (fun H locs hP hD hS => ?_)
              obtain ⟨f5, ef5, hP, hD⟩ : ∃ fz9, fz9 = upd2 f3 15 (upd (f3 15) (42 : Int32).toNatClampNeg 0) ∧ va_P (dC, dI) vwCl (XW cy x0 x v3 fz9) H ∧ va_D A (XW cy x0 x v3 fz9) := ⟨_, rfl, hP, hD⟩
              have hA_f5 : KF [15] f5 f := by rw [ef5]; exact KF.up hA_f3 rfl
              refine lv_aload_n hx hb dX1_muster_97 rfl (lv_at hl 1 rfl) ?_
              refine va_get (D := (dC, dI)) (ci := 1) (v := .ref (x 22)) (C := RX1) (T := TX1) (N := 2) hx hb hts inB_1 hown hE.1 hP 22 rfl rfl 1 (by decide) (hts _ k_319) (fun _ h9 => h9) rfl dX1_muster_98 ?_
              refine lv_bipush (v := 43) hx hb dX1_muster_101 (by decide) ?_
              refine lv_aload_n hx hb dX1_muster_103 rfl (lv_at hl 1 rfl) ?_
              refine va_get (D := (dC, dI)) (ci := 1) (v := .ref (x 26)) (C := RX1) (T := TX1) (N := 2) hx hb hts inB_1 hown hE.1 hP 22 rfl rfl 0 (by decide) (hts _ k_318) (fun _ h9 => h9) rfl dX1_muster_104 ?_
              refine va_getN (D := (dC, dI)) (ci := 7) (v := .int (v3 37)) (C := RX7) (T := TX7) (N := 10) hx hb hts inB_7 hown hE.1 hP 27 rfl rfl 9 (by decide) (va_Nw.use rfl (hE.2 _ k_242)) (fun _ h9 => h9) rfl dX1_muster_107 ?_
              refine stI hx hb hE hP hD hS 23 rfl (vp_in_nI (n := 43) (by decide) (by decide)) rfl dX1_muster_110 (fun H locs hP hD hS => ?_)
              obtain ⟨f6, ef6, hP, hD⟩ : ∃ fz9, fz9 = upd2 f5 15 (upd (f5 15) (43 : Int32).toNatClampNeg (v3 37)) ∧ va_P (dC, dI) vwCl (XW cy x0 x v3 fz9) H ∧ va_D A (XW cy x0 x v3 fz9) := ⟨_, rfl, hP, hD⟩
              have hA_f6 : KF [15] f6 f := by rw [ef6]; exact KF.up hA_f5 rfl
              exact ret (v3, f6) _ _ _ _ _ _ ⟨(hT3.symm.trans (gsX_X1_muster_1_q0 c4 ef5 ef6)), hM_v3, hA_f6, hIv3, hq0_v3, hq1_v3, hq7_v3, hq8_v3, hq9_v3, hq10_v3, hq31_v3, hq32_v3⟩ hP hD hS dX1_muster_111 (Nat.le_refl _) (Nat.le_refl _)
            · skip
              have zc4 : ¬ (6 ≤ l1_3.toInt) := by rw [fa_le, show (6 : Int32).toInt = 6 from by decide] at c4; exact c4
              refine lv_iconst (v := 0) hx hb dX1_muster_47 (by decide) ?_
              refine lv_istore_n (lv' := [(2, .int 0), (1, .int l1_3), (0, .ref (x 21))]) hx hb dX1_muster_48 rfl hl (by decide) rfl (fun ls hl => ?_)
              have lp7 : ∀ (n7 : Nat) (l2_7 : Int32) (v7 : Nat → Int32) (f7 : Nat → Nat → Int32), XI v7 → v7 0 = (v 0) → v7 1 = (v 1) → v7 7 = (v 7) → v7 8 = (v 8) → v7 9 = (v 9) → v7 10 = (v 10) → v7 31 = (v 31) → v7 32 = (v 32) → gsX_X1_muster_1_L7 NF l1_3 (fun z0 z1 z2 => gsX_X1_muster_1_L3 NF n3 z0 z1 z2) n7 l2_7 v7 f7 = (gsX_X1_muster_1 NF v f) → ((0 : Int) ≤ l2_7.toInt ∧ l2_7.toInt ≤ 2147483647) → KV [] v7 v → KF [15] f7 f → (2147483647 - l2_7.toInt).toNat < n7 → ∀ (H : Heap) (locs : List Loc) (ls : Array Slot), va_P (dC, dI) vwCl (XW cy x0 x v7 f7) H → va_D A (XW cy x0 x v7 f7) → va_S A s.heap H locs → lv_has ls 3 [(2, .int l2_7), (1, .int l1_3), (0, .ref (x 21))] → W p l e { frames := 3, cells := 0, slots := 0, locals := 103 } s m ([.ref (x 21)] : List Value).toArray below meth c H locs 0 0 Q (F0 m 49 ls []) := by
                intro n7
                induction n7 with
                | zero => intro l2_7 v7 f7 hIv7 hq0_v7 hq1_v7 hq7_v7 hq8_v7 hq9_v7 hq10_v7 hq31_v7 hq32_v7 hT7 hr2_7 hM_v7 hA_f7 hm; exact absurd hm (Nat.not_lt_zero _)
                | succ n7 ih7 =>
                  intro l2_7 v7 f7 hIv7 hq0_v7 hq1_v7 hq7_v7 hq8_v7 hq9_v7 hq10_v7 hq31_v7 hq32_v7 hT7 hr2_7 hM_v7 hA_f7 hm7 H locs ls hP hD hS hl
                  refine lv_iload_n hx hb dX1_muster_49 rfl (lv_at hl 0 rfl) ?_
                  refine lv_iconst (v := 5) hx hb dX1_muster_50 (by decide) ?_
                  refine lv_icmp_ge (tgt := 83) hx hb dX1_muster_51 (by decide) (fun c8 => ?_) (fun c8 => ?_)
                  · skip
                    have zc8 : 5 ≤ l2_7.toInt := by rw [fa_le, show (5 : Int32).toInt = 5 from by decide] at c8; exact c8
                    obtain ⟨t9, et9⟩ : ∃ y : Int32, y = l1_3 + 1 := ⟨_, rfl⟩
                    have rg10 := fb_rng l1_3
                    have zt9 : t9.toInt = l1_3.toInt + 1 := by rw [et9]; exact add_i rfl (by decide) (by omega) (by omega)
                    refine lv_iinc (v := t9) (lv' := [(1, .int t9), (2, .int l2_7), (0, .ref (x 21))]) hx hb dX1_muster_83 hl (k := 1) rfl (by rw [et9]; rfl) (by decide) rfl (fun ls hl => ?_)
                    refine lv_goto (tgt := 41) hx hb dX1_muster_86 (by decide) ?_
                    have rg11 := fb_rng t9
                    exact ih3 t9 v7 f7 hIv7 hq0_v7 hq1_v7 hq7_v7 hq8_v7 hq9_v7 hq10_v7 hq31_v7 hq32_v7 ((gsX_X1_muster_1_q1 c8 et9).symm.trans hT7) ⟨show (0 : Int) ≤ t9.toInt by omega, show t9.toInt ≤ (2147483647 : Int) by omega⟩ hM_v7 hA_f7 (by show (2147483647 - t9.toInt).toNat < n3; omega) _ _ _ hP hD hS (lv_sub hl [0, 2] rfl)
                  · skip
                    have zc8 : ¬ (5 ≤ l2_7.toInt) := by rw [fa_le, show (5 : Int32).toInt = 5 from by decide] at c8; exact c8
                    refine lv_aload_n hx hb dX1_muster_54 rfl (lv_at hl 2 rfl) ?_
                    refine va_get (D := (dC, dI)) (ci := 1) (v := .ref (x 22)) (C := RX1) (T := TX1) (N := 2) hx hb hts inB_1 hown hE.1 hP 22 rfl rfl 1 (by decide) (hts _ k_319) (fun _ h9 => h9) rfl dX1_muster_55 ?_
                    refine lv_bipush (v := 12) hx hb dX1_muster_58 (by decide) ?_
                    refine lv_iload_n hx hb dX1_muster_60 rfl (lv_at hl 0 rfl) ?_
                    refine lv_bipush (v := 6) hx hb dX1_muster_61 (by decide) ?_
                    refine lv_imul hx hb dX1_muster_63 ?_
                    refine lv_topi (fun t12 et12 => ?_)
                    have rg13 := fb_rng l2_7
                    have zt12 : t12.toInt = l2_7.toInt * 6 := by rw [et12]; exact mul_i rfl (by decide) (by omega) (by omega)
                    refine lv_iadd hx hb dX1_muster_64 ?_
                    refine lv_topi (fun t14 et14 => ?_)
                    have rg15 := fb_rng t12
                    have zt14 : t14.toInt = 12 + t12.toInt := by rw [et14]; exact add_i (by decide) rfl (by omega) (by omega)
                    refine lv_iload_n hx hb dX1_muster_65 rfl (lv_at hl 1 rfl) ?_
                    refine lv_iadd hx hb dX1_muster_66 ?_
                    refine lv_topi (fun t16 et16 => ?_)
                    have rg17 := fb_rng t14
                    have rg18 := fb_rng l1_3
                    have zt16 : t16.toInt = t14.toInt + l1_3.toInt := by rw [et16]; exact add_i rfl rfl (by omega) (by omega)
                    refine lv_aload_n hx hb dX1_muster_67 rfl (lv_at hl 2 rfl) ?_
                    refine va_get (D := (dC, dI)) (ci := 1) (v := .ref (x 26)) (C := RX1) (T := TX1) (N := 2) hx hb hts inB_1 hown hE.1 hP 22 rfl rfl 0 (by decide) (hts _ k_318) (fun _ h9 => h9) rfl dX1_muster_68 ?_
                    refine lv_iload_n hx hb dX1_muster_71 rfl (lv_at hl 0 rfl) ?_
                    refine lv_iload_n hx hb dX1_muster_72 rfl (lv_at hl 1 rfl) ?_
                    refine cbVi (n := 2) (rest := [.int t16, .ref (x 22)]) hx hb hml hown hts hE hP hD hS hA (sX_X7_coatPart_1 NF l dC dI cy x0 x l2_7 l1_3 v7 f7 hIv7 ) k_310 k_311 k_312 k_104 k_313 (by decide +kernel) ⟨Nat.le_of_ble_eq_true rfl, Nat.le_of_ble_eq_true rfl⟩ 27 7 rfl rfl (rfl) hl.1 rfl (Nat.le_of_ble_eq_true rfl) dX1_muster_73 (fun r19 u H locs hw hP hD hS => ?_)
                    have hG20 := hw
                    refine stI hx hb hE hP hD hS 23 rfl (vp_in_iff.mpr ⟨by omega, by omega⟩) rfl dX1_muster_76 (fun H locs hP hD hS => ?_)
                    obtain ⟨f21, ef21, hP, hD⟩ : ∃ fz9, fz9 = upd2 f7 15 (upd (f7 15) t16.toNatClampNeg r19) ∧ va_P (dC, dI) vwCl (XW cy x0 x v7 fz9) H ∧ va_D A (XW cy x0 x v7 fz9) := ⟨_, rfl, hP, hD⟩
                    have hA_f21 : KF [15] f21 f := by rw [ef21]; exact KF.up hA_f7 rfl
                    obtain ⟨t22, et22⟩ : ∃ y : Int32, y = l2_7 + 1 := ⟨_, rfl⟩
                    have zt22 : t22.toInt = l2_7.toInt + 1 := by rw [et22]; exact add_i rfl (by decide) (by omega) (by omega)
                    refine lv_iinc (v := t22) (lv' := [(2, .int t22), (1, .int l1_3), (0, .ref (x 21))]) hx hb dX1_muster_77 hl (k := 0) rfl (by rw [et22]; rfl) (by decide) rfl (fun ls hl => ?_)
                    refine lv_goto (tgt := 49) hx hb dX1_muster_80 (by decide) ?_
                    have rg23 := fb_rng t22
                    exact ih7 t22 v7 f21 hIv7 hq0_v7 hq1_v7 hq7_v7 hq8_v7 hq9_v7 hq10_v7 hq31_v7 hq32_v7 ((gsX_X1_muster_1_q2 c8 et12 et14 et16 hG20.symm ef21 et22).symm.trans hT7) ⟨show (0 : Int) ≤ t22.toInt by omega, show t22.toInt ≤ (2147483647 : Int) by omega⟩ hM_v7 hA_f21 (by show (2147483647 - t22.toInt).toNat < n7; omega) _ _ _ hP hD hS (lv_sub hl [0, 1, 2] rfl)
              exact lp7 (4294967296 + NF) 0 v3 f3 hIv3 hq0_v3 hq1_v3 hq7_v3 hq8_v3 hq9_v3 hq10_v3 hq31_v3 hq32_v3 ((gsX_X1_muster_1_q3 c4).symm.trans hT3) ⟨by decide, by decide⟩ hM_v3 hA_f3 (by have q2 : (0 : Int32).toInt = 0 := (by decide); show (2147483647 - (0 : Int32).toInt).toNat < 4294967296 + NF; omega) _ _ _ hP hD hS (lv_sub hl [0, 1, 2] rfl)
        exact lp3 (4294967296 + NF) 0 v1 f1 hIv1 hq0_v1 hq1_v1 hq7_v1 hq8_v1 hq9_v1 hq10_v1 hq31_v1 hq32_v1 ((gsX_X1_muster_1_q4 c2).symm.trans hT1) ⟨by decide, by decide⟩ hM_v1 hA_f1 (by have q1 : (0 : Int32).toInt = 0 := (by decide); show (2147483647 - (0 : Int32).toInt).toNat < 4294967296 + NF; omega) _ _ _ hP hD hS (lv_sub hl [0, 1] rfl)
      · skip
        have zc2 : ¬ (6 ≤ l1_1.toInt) := by rw [fa_le, show (6 : Int32).toInt = 6 from by decide] at c2; exact c2
        refine lv_aload_n hx hb dX1_muster_8 rfl (lv_at hl 1 rfl) ?_
        refine va_get (D := (dC, dI)) (ci := 1) (v := .ref (x 22)) (C := RX1) (T := TX1) (N := 2) hx hb hts inB_1 hown hE.1 hP 22 rfl rfl 1 (by decide) (hts _ k_319) (fun _ h9 => h9) rfl dX1_muster_9 ?_
        refine lv_iload_n hx hb dX1_muster_12 rfl (lv_at hl 0 rfl) ?_
        refine lv_aload_n hx hb dX1_muster_13 rfl (lv_at hl 1 rfl) ?_
        refine va_get (D := (dC, dI)) (ci := 1) (v := .ref (x 26)) (C := RX1) (T := TX1) (N := 2) hx hb hts inB_1 hown hE.1 hP 22 rfl rfl 0 (by decide) (hts _ k_318) (fun _ h9 => h9) rfl dX1_muster_14 ?_
        refine lv_iconst (v := 1) hx hb dX1_muster_17 (by decide) ?_
        refine lv_iload_n hx hb dX1_muster_18 rfl (lv_at hl 0 rfl) ?_
        refine cbVi (n := 2) (rest := [.int l1_1, .ref (x 22)]) hx hb hml hown hts hE hP hD hS hA (sX_X7_manPart_1 NF l dC dI cy x0 x 1 l1_1 v1 f1 hIv1 ) k_302 k_303 k_304 k_104 k_305 (by decide +kernel) ⟨Nat.le_of_ble_eq_true rfl, Nat.le_of_ble_eq_true rfl⟩ 27 7 rfl rfl (rfl) hl.1 rfl (Nat.le_of_ble_eq_true rfl) dX1_muster_19 (fun r24 u H locs hw hP hD hS => ?_)
        have hG25 := hw
        refine stI hx hb hE hP hD hS 23 rfl (vp_in_iff.mpr ⟨by omega, by omega⟩) rfl dX1_muster_22 (fun H locs hP hD hS => ?_)
        obtain ⟨f26, ef26, hP, hD⟩ : ∃ fz9, fz9 = upd2 f1 15 (upd (f1 15) l1_1.toNatClampNeg r24) ∧ va_P (dC, dI) vwCl (XW cy x0 x v1 fz9) H ∧ va_D A (XW cy x0 x v1 fz9) := ⟨_, rfl, hP, hD⟩
        have hA_f26 : KF [15] f26 f := by rw [ef26]; exact KF.up hA_f1 rfl
        refine lv_aload_n hx hb dX1_muster_23 rfl (lv_at hl 1 rfl) ?_
        refine va_get (D := (dC, dI)) (ci := 1) (v := .ref (x 22)) (C := RX1) (T := TX1) (N := 2) hx hb hts inB_1 hown hE.1 hP 22 rfl rfl 1 (by decide) (hts _ k_319) (fun _ h9 => h9) rfl dX1_muster_24 ?_
        refine lv_bipush (v := 6) hx hb dX1_muster_27 (by decide) ?_
        refine lv_iload_n hx hb dX1_muster_29 rfl (lv_at hl 0 rfl) ?_
        refine lv_iadd hx hb dX1_muster_30 ?_
        refine lv_topi (fun t27 et27 => ?_)
        have rg28 := fb_rng l1_1
        have zt27 : t27.toInt = 6 + l1_1.toInt := by rw [et27]; exact add_i (by decide) rfl (by omega) (by omega)
        refine lv_iconst (v := (-1)) hx hb dX1_muster_31 (by decide) ?_
        refine stI hx hb hE hP hD hS 23 rfl (vp_in_iff.mpr ⟨by omega, by omega⟩) rfl dX1_muster_32 (fun H locs hP hD hS => ?_)
        obtain ⟨f29, ef29, hP, hD⟩ : ∃ fz9, fz9 = upd2 f26 15 (upd (f26 15) t27.toNatClampNeg (-1)) ∧ va_P (dC, dI) vwCl (XW cy x0 x v1 fz9) H ∧ va_D A (XW cy x0 x v1 fz9) := ⟨_, rfl, hP, hD⟩
        have hA_f29 : KF [15] f29 f := by rw [ef29]; exact KF.up hA_f26 rfl
        obtain ⟨t30, et30⟩ : ∃ y : Int32, y = l1_1 + 1 := ⟨_, rfl⟩
        have zt30 : t30.toInt = l1_1.toInt + 1 := by rw [et30]; exact add_i rfl (by decide) (by omega) (by omega)
        refine lv_iinc (v := t30) (lv' := [(1, .int t30), (0, .ref (x 21))]) hx hb dX1_muster_33 hl (k := 0) rfl (by rw [et30]; rfl) (by decide) rfl (fun ls hl => ?_)
        refine lv_goto (tgt := 2) hx hb dX1_muster_36 (by decide) ?_
        have rg31 := fb_rng t30
        exact ih1 t30 v1 f29 hIv1 hq0_v1 hq1_v1 hq7_v1 hq8_v1 hq9_v1 hq10_v1 hq31_v1 hq32_v1 ((gsX_X1_muster_1_q5 c2 hG25.symm ef26 et27 ef29 et30).symm.trans hT1) ⟨show (0 : Int) ≤ t30.toInt by omega, show t30.toInt ≤ (2147483647 : Int) by omega⟩ hM_v1 hA_f29 (by show (2147483647 - t30.toInt).toNat < n1; omega) _ _ _ hP hD hS (lv_sub hl [0, 1] rfl)
  exact lp1 (4294967296 + NF) 0 v f hIv rfl rfl rfl rfl rfl rfl rfl rfl gsX_X1_muster_1_q6.symm ⟨by decide, by decide⟩ hM_v hA_f (by have q1 : (0 : Int32).toInt = 0 := (by decide); show (2147483647 - (0 : Int32).toInt).toNat < 4294967296 + NF; omega) _ _ _ hP hD hS (lv_sub hl [0, 1] rfl)
set_option maxHeartbeats 4000000 in
set_option maxRecDepth 100000 in
theorem sX_X1_saveTo_1 (NF : Nat) (l : Launch) (dC : Nat → ClassId) (dI : Nat → Nat → Nat) (cy : Nat → ClassId) (x0 : Nat) (x : Nat → Nat) (p2 : Int32) (v : Nat → Int32) (f : Nat → Nat → Int32) (hIv : XI v)  : ctV l (dC, dI) cy yX1_saveTo cX1_saveTo 3 1 100 0 0 ((Nat → Int32) × (Nat → Nat → Int32)) [.ref (x 21), .ref (x 24), .int p2] (XW cy x0 x v f) (fun u => gsX_X1_saveTo_1 NF p2 v f = u ∧ KV [] u.1 v ∧ KF [17] u.2 f ∧ XI u.1 ∧ u.1 0 = v 0 ∧ u.1 1 = v 1 ∧ u.1 7 = v 7 ∧ u.1 8 = v 8 ∧ u.1 9 = v 9 ∧ u.1 10 = v 10 ∧ u.1 31 = v 31 ∧ u.1 32 = v 32) (fun u => XW cy x0 x u.1 u.2) := by
  refine ctV_of (by decide) (Nat.le_of_ble_eq_true rfl) (fun p e s m below meth c A ls Q hx hb hml hts hown hnm hE hP hD hA hl ret => ?_)
  have hM_v : KV [] v v := fun _ _ => rfl
  have hA_f : KF [17] f f := fun _ _ => rfl
  have hown : s.vm.findClass RX1 = some m.cls := hown
  have hS : va_S A s.heap s.heap [] := va_S.rf
  have hl : lv_has ls 3 [(0, .ref (x 21)), (1, .ref (x 24)), (2, .int p2)] := hl
  refine lv_iload_n hx hb dX1_saveTo_0 rfl (lv_at hl 2 rfl) ?_
  refine lv_if_lt (tgt := 28) hx hb dX1_saveTo_1 (by decide) (fun c1 => ?_) (fun c1 => ?_)
  · skip
    have zc1 : p2.toInt < 0 := by rw [fa_lt, show (0 : Int32).toInt = 0 from by decide] at c1; exact c1
    exact ret (v, f) _ _ _ _ _ _ ⟨(gsX_X1_saveTo_1_q0 c1), hM_v, hA_f, hIv, rfl, rfl, rfl, rfl, rfl, rfl, rfl, rfl⟩ hP hD hS dX1_saveTo_28 (Nat.le_refl _) (Nat.le_refl _)
  · skip
    have zc1 : ¬ (p2.toInt < 0) := by rw [fa_lt, show (0 : Int32).toInt = 0 from by decide] at c1; exact c1
    refine lv_iload_n hx hb dX1_saveTo_4 rfl (lv_at hl 2 rfl) ?_
    refine lv_aload_n hx hb dX1_saveTo_5 rfl (lv_at hl 1 rfl) ?_
    refine va_alen (v := 1804) hx hb hE.1 hP 25 1 rfl rfl rfl dX1_saveTo_6 ?_
    refine lv_bipush (v := 44) hx hb dX1_saveTo_7 (by decide) ?_
    refine lv_idiv hx hb dX1_saveTo_9 (by decide) ?_
    refine tI (y := 41) (by decide) ?_
    refine lv_icmp_ge (tgt := 28) hx hb dX1_saveTo_10 (by decide) (fun c2 => ?_) (fun c2 => ?_)
    · skip
      have zc2 : 41 ≤ p2.toInt := by rw [fa_le, show (41 : Int32).toInt = 41 from by decide] at c2; exact c2
      exact ret (v, f) _ _ _ _ _ _ ⟨(gsX_X1_saveTo_1_q1 c1 c2), hM_v, hA_f, hIv, rfl, rfl, rfl, rfl, rfl, rfl, rfl, rfl⟩ hP hD hS dX1_saveTo_28 (Nat.le_refl _) (Nat.le_refl _)
    · skip
      have zc2 : ¬ (41 ≤ p2.toInt) := by rw [fa_le, show (41 : Int32).toInt = 41 from by decide] at c2; exact c2
      refine lv_aload_n hx hb dX1_saveTo_13 rfl (lv_at hl 0 rfl) ?_
      refine va_get (D := (dC, dI)) (ci := 1) (v := .ref (x 22)) (C := RX1) (T := TX1) (N := 2) hx hb hts inB_1 hown hE.1 hP 22 rfl rfl 1 (by decide) (hts _ k_319) (fun _ h9 => h9) rfl dX1_saveTo_14 ?_
      refine lv_iconst (v := 0) hx hb dX1_saveTo_17 (by decide) ?_
      refine lv_aload_n hx hb dX1_saveTo_18 rfl (lv_at hl 1 rfl) ?_
      refine lv_iload_n hx hb dX1_saveTo_19 rfl (lv_at hl 2 rfl) ?_
      refine lv_bipush (v := 44) hx hb dX1_saveTo_20 (by decide) ?_
      refine lv_imul hx hb dX1_saveTo_22 ?_
      refine lv_topi (fun t3 et3 => ?_)
      have rg4 := fb_rng p2
      have zt3 : t3.toInt = p2.toInt * 44 := by rw [et3]; exact mul_i rfl (by decide) (by omega) (by omega)
      refine lv_bipush (v := 44) hx hb dX1_saveTo_23 (by decide) ?_
      refine cpE (zs := 0) (zd := t3.toInt) (zn := 44) hx hb (by rw [hml]; exact hl.1.symm) hown (hts _ k_335) (hts _ k_337) (hts _ k_336) (hts _ k_108) hE hP hD hS 23 25 rfl rfl (by decide) rfl (by decide) (by omega) (by omega) (by omega) (by omega) (by omega) (Nat.le_of_ble_eq_true rfl) (Nat.le_of_ble_eq_true rfl) dX1_saveTo_25 (fun H locs hP hD hS => ?_)
      obtain ⟨f5, ef5, hP, hD⟩ : ∃ fz9, fz9 = upd2 f 17 (va_cpy (f 15) (f 17) (0 : Int32).toNatClampNeg (t3).toNatClampNeg (44 : Int32).toNatClampNeg) ∧ va_P (dC, dI) vwCl (XW cy x0 x v fz9) H ∧ va_D A (XW cy x0 x v fz9) := ⟨_, rfl, hP, hD⟩
      have hA_f5 : KF [17] f5 f := by rw [ef5]; exact KF.up hA_f rfl
      exact ret (v, f5) _ _ _ _ _ _ ⟨(gsX_X1_saveTo_1_q2 c1 c2 et3 ef5), hM_v, hA_f5, hIv, rfl, rfl, rfl, rfl, rfl, rfl, rfl, rfl⟩ hP hD hS dX1_saveTo_28 (Nat.le_refl _) (Nat.le_refl _)
set_option maxHeartbeats 4000000 in
set_option maxRecDepth 100000 in
theorem sX_X5_forgetActs_1 (NF : Nat) (l : Launch) (dC : Nat → ClassId) (dI : Nat → Nat → Nat) (cy : Nat → ClassId) (x0 : Nat) (x : Nat → Nat)  (v : Nat → Int32) (f : Nat → Nat → Int32) (hIv : XI v)  : ctV l (dC, dI) cy yX5_forgetActs cX5_forgetActs 1 2 122 0 0 ((Nat → Int32) × (Nat → Nat → Int32)) [.ref (x 20)] (XW cy x0 x v f) (fun u => gsX_X5_forgetActs_1 NF v f = u ∧ KV [21, 22, 23] u.1 v ∧ KF [17] u.2 f ∧ XI u.1 ∧ u.1 0 = v 0 ∧ u.1 1 = v 1 ∧ u.1 7 = v 7 ∧ u.1 8 = v 8 ∧ u.1 9 = v 9 ∧ u.1 10 = v 10 ∧ u.1 31 = v 31 ∧ u.1 32 = v 32) (fun u => XW cy x0 x u.1 u.2) := by
  refine ctV_of (by decide) (Nat.le_of_ble_eq_true rfl) (fun p e s m below meth c A ls Q hx hb hml hts hown hnm hE hP hD hA hl ret => ?_)
  have hM_v : KV [21, 22, 23] v v := fun _ _ => rfl
  have hA_f : KF [17] f f := fun _ _ => rfl
  have hown : s.vm.findClass RX5 = some m.cls := hown
  have hS : va_S A s.heap s.heap [] := va_S.rf
  have hl : lv_has ls 1 [(0, .ref (x 20))] := hl
  refine lv_aload_n hx hb dX5_forgetActs_0 rfl (lv_at hl 0 rfl) ?_
  refine lv_iconst (v := 0) hx hb dX5_forgetActs_1 (by decide) ?_
  refine va_put (D := (dC, dI)) (ci := 5) (v := .int 0) (ty := tyX5 4) (C := RX5) (T := TX5) (N := 7) hx hb hts inB_5 tyX5 tyX5_ok nmX5 hown hE.1 hP hD hS 21 rfl rfl 4 (by decide) (hts _ k_342) (fun _ h9 => h9) rfl (tyX5_ok 4 (by decide)) rfl rfl (Nat.le_of_ble_eq_true rfl) dX5_forgetActs_2 (fun H locs hP hD hS => ?_)
  have hP : va_P (dC, dI) vwCl (XW cy x0 x (upd v 21 0) f) H := hP
  have hD : va_D A (XW cy x0 x (upd v 21 0) f) := hD
  refine lv_aload_n hx hb dX5_forgetActs_5 rfl (lv_at hl 0 rfl) ?_
  refine lv_iconst (v := 0) hx hb dX5_forgetActs_6 (by decide) ?_
  refine va_put (D := (dC, dI)) (ci := 5) (v := .int 0) (ty := tyX5 5) (C := RX5) (T := TX5) (N := 7) hx hb hts inB_5 tyX5 tyX5_ok nmX5 hown hE.1 hP hD hS 21 rfl rfl 5 (by decide) (hts _ k_343) (fun _ h9 => h9) rfl (tyX5_ok 5 (by decide)) rfl rfl (Nat.le_of_ble_eq_true rfl) dX5_forgetActs_7 (fun H locs hP hD hS => ?_)
  have hP : va_P (dC, dI) vwCl (XW cy x0 x (upd (upd v 21 0) 22 0) f) H := hP
  have hD : va_D A (XW cy x0 x (upd (upd v 21 0) 22 0) f) := hD
  refine lv_aload_n hx hb dX5_forgetActs_10 rfl (lv_at hl 0 rfl) ?_
  refine lv_iconst (v := 0) hx hb dX5_forgetActs_11 (by decide) ?_
  refine va_put (D := (dC, dI)) (ci := 5) (v := .int 0) (ty := tyX5 6) (C := RX5) (T := TX5) (N := 7) hx hb hts inB_5 tyX5 tyX5_ok nmX5 hown hE.1 hP hD hS 21 rfl rfl 6 (by decide) (hts _ k_345) (fun _ h9 => h9) rfl (tyX5_ok 6 (by decide)) rfl rfl (Nat.le_of_ble_eq_true rfl) dX5_forgetActs_12 (fun H locs hP hD hS => ?_)
  have hP : va_P (dC, dI) vwCl (XW cy x0 x (upd (upd (upd v 21 0) 22 0) 23 0) f) H := hP
  have hD : va_D A (XW cy x0 x (upd (upd (upd v 21 0) 22 0) 23 0) f) := hD
  refine lv_aload_n hx hb dX5_forgetActs_15 rfl (lv_at hl 0 rfl) ?_
  refine va_get (D := (dC, dI)) (ci := 5) (v := .ref (x 21)) (C := RX5) (T := TX5) (N := 7) hx hb hts inB_5 hown hE.1 hP 21 rfl rfl 0 (by decide) (hts _ k_338) (fun _ h9 => h9) rfl dX5_forgetActs_16 ?_
  refine lv_aload_n hx hb dX5_forgetActs_19 rfl (lv_at hl 0 rfl) ?_
  refine va_get (D := (dC, dI)) (ci := 5) (v := .ref (x 24)) (C := RX5) (T := TX5) (N := 7) hx hb hts inB_5 hown hE.1 hP 21 rfl rfl 1 (by decide) (hts _ k_339) (fun _ h9 => h9) rfl dX5_forgetActs_20 ?_
  refine lv_iconst (v := 0) hx hb dX5_forgetActs_23 (by decide) ?_
  refine cbVv (n := 2) (rest := []) hx hb hml hown hts hE hP hD hS hA (sX_X1_saveTo_1 NF l dC dI cy x0 x 0 (upd (upd (upd v 21 0) 22 0) 23 0) f (XI.upd (j := 23) (x := 0) (XI.upd (j := 22) (x := 0) (XI.upd (j := 21) (x := 0) hIv (rlo _) (rhi _)) (rlo _) (rhi _)) (rlo _) (rhi _)) ) k_331 k_332 k_333 k_106 k_334 (by decide +kernel) ⟨Nat.le_of_ble_eq_true rfl, Nat.le_of_ble_eq_true rfl⟩ 22 1 rfl rfl (rfl) hl.1 rfl (Nat.le_of_ble_eq_true rfl) dX5_forgetActs_24 (fun u H locs hw hP hD hS => ?_)
  obtain ⟨hG1, hw⟩ := hw
  obtain ⟨v2, f3⟩ := u
  obtain ⟨kV_v2, kF_f3, hIv2, hk0_v2, hk1_v2, hk7_v2, hk8_v2, hk9_v2, hk10_v2, hk31_v2, hk32_v2⟩ := hw
  have hM_v2 : KV [21, 22, 23] v2 v := KV.tr kV_v2 (KV.up (j := 23) (x := 0) (KV.up (j := 22) (x := 0) (KV.up (j := 21) (x := 0) hM_v rfl) rfl) rfl) rfl
  have hA_f3 : KF [17] f3 f := KF.tr kF_f3 hA_f rfl
  have hP : va_P (dC, dI) vwCl (XW cy x0 x v2 f3) H := hP
  have hD : va_D A (XW cy x0 x v2 f3) := hD
  have hq0_v2 : v2 0 = (v 0) := hk0_v2
  have hq1_v2 : v2 1 = (v 1) := hk1_v2
  have hq7_v2 : v2 7 = (v 7) := hk7_v2
  have hq8_v2 : v2 8 = (v 8) := hk8_v2
  have hq9_v2 : v2 9 = (v 9) := hk9_v2
  have hq10_v2 : v2 10 = (v 10) := hk10_v2
  have hq31_v2 : v2 31 = (v 31) := hk31_v2
  have hq32_v2 : v2 32 = (v 32) := hk32_v2
  exact ret (v2, f3) _ _ _ _ _ _ ⟨(gsX_X5_forgetActs_1_q0 hG1), hM_v2, hA_f3, hIv2, hk0_v2, hk1_v2, hk7_v2, hk8_v2, hk9_v2, hk10_v2, hk31_v2, hk32_v2⟩ hP hD hS dX5_forgetActs_27 (Nat.le_refl _) (Nat.le_refl _)
set_option maxHeartbeats 4000000 in
set_option maxRecDepth 100000 in
theorem sX_X5_forgetAll_1 (NF : Nat) (l : Launch) (dC : Nat → ClassId) (dI : Nat → Nat → Nat) (cy : Nat → ClassId) (x0 : Nat) (x : Nat → Nat)  (v : Nat → Int32) (f : Nat → Nat → Int32) (hIv : XI v)  : ctV l (dC, dI) cy yX5_forgetAll cX5_forgetAll 1 3 142 0 0 ((Nat → Int32) × (Nat → Nat → Int32)) [.ref (x 20)] (XW cy x0 x v f) (fun u => gsX_X5_forgetAll_1 NF v f = u ∧ KV [20, 21, 22, 23] u.1 v ∧ KF [17] u.2 f ∧ XI u.1 ∧ u.1 0 = v 0 ∧ u.1 1 = v 1 ∧ u.1 7 = v 7 ∧ u.1 8 = v 8 ∧ u.1 9 = v 9 ∧ u.1 10 = v 10 ∧ u.1 31 = v 31 ∧ u.1 32 = v 32) (fun u => XW cy x0 x u.1 u.2) := by
  refine ctV_of (by decide) (Nat.le_of_ble_eq_true rfl) (fun p e s m below meth c A ls Q hx hb hml hts hown hnm hE hP hD hA hl ret => ?_)
  have hM_v : KV [20, 21, 22, 23] v v := fun _ _ => rfl
  have hA_f : KF [17] f f := fun _ _ => rfl
  have hown : s.vm.findClass RX5 = some m.cls := hown
  have hS : va_S A s.heap s.heap [] := va_S.rf
  have hl : lv_has ls 1 [(0, .ref (x 20))] := hl
  refine lv_aload_n hx hb dX5_forgetAll_0 rfl (lv_at hl 0 rfl) ?_
  refine lv_iconst (v := 0) hx hb dX5_forgetAll_1 (by decide) ?_
  refine va_put (D := (dC, dI)) (ci := 5) (v := .int 0) (ty := tyX5 3) (C := RX5) (T := TX5) (N := 7) hx hb hts inB_5 tyX5 tyX5_ok nmX5 hown hE.1 hP hD hS 21 rfl rfl 3 (by decide) (hts _ k_341) (fun _ h9 => h9) rfl (tyX5_ok 3 (by decide)) rfl rfl (Nat.le_of_ble_eq_true rfl) dX5_forgetAll_2 (fun H locs hP hD hS => ?_)
  have hP : va_P (dC, dI) vwCl (XW cy x0 x (upd v 20 0) f) H := hP
  have hD : va_D A (XW cy x0 x (upd v 20 0) f) := hD
  refine lv_aload_n hx hb dX5_forgetAll_5 rfl (lv_at hl 0 rfl) ?_
  refine cbVv (n := 0) (rest := []) hx hb hml hown hts hE hP hD hS hA (sX_X5_forgetActs_1 NF l dC dI cy x0 x  (upd v 20 0) f (XI.upd (j := 20) (x := 0) hIv (rlo _) (rhi _)) ) k_782 k_784 k_19 k_107 k_785 (by decide +kernel) ⟨Nat.le_of_ble_eq_true rfl, Nat.le_of_ble_eq_true rfl⟩ 21 5 rfl rfl (rfl) hl.1 rfl (Nat.le_of_ble_eq_true rfl) dX5_forgetAll_6 (fun u H locs hw hP hD hS => ?_)
  obtain ⟨hG1, hw⟩ := hw
  obtain ⟨v2, f3⟩ := u
  obtain ⟨kV_v2, kF_f3, hIv2, hk0_v2, hk1_v2, hk7_v2, hk8_v2, hk9_v2, hk10_v2, hk31_v2, hk32_v2⟩ := hw
  have hM_v2 : KV [20, 21, 22, 23] v2 v := KV.tr kV_v2 (KV.up (j := 20) (x := 0) hM_v rfl) rfl
  have hA_f3 : KF [17] f3 f := KF.tr kF_f3 hA_f rfl
  have hP : va_P (dC, dI) vwCl (XW cy x0 x v2 f3) H := hP
  have hD : va_D A (XW cy x0 x v2 f3) := hD
  have hq0_v2 : v2 0 = (v 0) := hk0_v2
  have hq1_v2 : v2 1 = (v 1) := hk1_v2
  have hq7_v2 : v2 7 = (v 7) := hk7_v2
  have hq8_v2 : v2 8 = (v 8) := hk8_v2
  have hq9_v2 : v2 9 = (v 9) := hk9_v2
  have hq10_v2 : v2 10 = (v 10) := hk10_v2
  have hq31_v2 : v2 31 = (v 31) := hk31_v2
  have hq32_v2 : v2 32 = (v 32) := hk32_v2
  exact ret (v2, f3) _ _ _ _ _ _ ⟨(gsX_X5_forgetAll_1_q0 hG1), hM_v2, hA_f3, hIv2, hk0_v2, hk1_v2, hk7_v2, hk8_v2, hk9_v2, hk10_v2, hk31_v2, hk32_v2⟩ hP hD hS dX5_forgetAll_9 (Nat.le_refl _) (Nat.le_refl _)
set_option maxHeartbeats 4000000 in
set_option maxRecDepth 100000 in
theorem sX_X0_clear_1 (NF : Nat) (l : Launch) (dC : Nat → ClassId) (dI : Nat → Nat → Nat) (cy : Nat → ClassId) (x0 : Nat) (x : Nat → Nat)  (v : Nat → Int32) (f : Nat → Nat → Int32) (hIv : XI v)  : ctV l (dC, dI) cy yX0_clear cX0_clear 1 1 60 0 0 ((Nat → Int32) × (Nat → Nat → Int32)) [.ref (x 31)] (XW cy x0 x v f) (fun u => gsX_X0_clear_1 NF v f = u ∧ KV [38] u.1 v ∧ KF [] u.2 f ∧ XI u.1 ∧ u.1 0 = v 0 ∧ u.1 1 = v 1 ∧ u.1 7 = v 7 ∧ u.1 8 = v 8 ∧ u.1 9 = v 9 ∧ u.1 10 = v 10 ∧ u.1 31 = v 31 ∧ u.1 32 = v 32) (fun u => XW cy x0 x u.1 u.2) := by
  refine ctV_of (by decide) (Nat.le_of_ble_eq_true rfl) (fun p e s m below meth c A ls Q hx hb hml hts hown hnm hE hP hD hA hl ret => ?_)
  have hM_v : KV [38] v v := fun _ _ => rfl
  have hA_f : KF [] f f := fun _ _ => rfl
  have hown : s.vm.findClass RX0 = some m.cls := hown
  have hS : va_S A s.heap s.heap [] := va_S.rf
  have hl : lv_has ls 1 [(0, .ref (x 31))] := hl
  refine lv_aload_n hx hb dX0_clear_0 rfl (lv_at hl 0 rfl) ?_
  refine lv_iconst (v := 0) hx hb dX0_clear_1 (by decide) ?_
  refine va_put (D := (dC, dI)) (ci := 0) (v := .int 0) (ty := tyX0 3) (C := RX0) (T := TX0) (N := 8) hx hb hts inB_0 tyX0 tyX0_ok nmX0 hown hE.1 hP hD hS 32 rfl rfl 3 (by decide) (hts _ k_433) (fun _ h9 => h9) rfl (tyX0_ok 3 (by decide)) rfl rfl (Nat.le_of_ble_eq_true rfl) dX0_clear_2 (fun H locs hP hD hS => ?_)
  have hP : va_P (dC, dI) vwCl (XW cy x0 x (upd v 38 0) f) H := hP
  have hD : va_D A (XW cy x0 x (upd v 38 0) f) := hD
  exact ret ((upd v 38 0), f) _ _ _ _ _ _ ⟨gsX_X0_clear_1_q0, (KV.up (j := 38) (x := 0) hM_v rfl), hA_f, (XI.upd (j := 38) (x := 0) hIv (by decide) (by decide)), rfl, rfl, rfl, rfl, rfl, rfl, rfl, rfl⟩ hP hD hS dX0_clear_5 (Nat.le_refl _) (Nat.le_refl _)
set_option maxHeartbeats 4000000 in
set_option maxRecDepth 100000 in
theorem sX_J7_fill_53178_1 (NF : Nat) (l : Launch) (dC : Nat → ClassId) (dI : Nat → Nat → Nat) (cy : Nat → ClassId) (x0 : Nat) (x : Nat → Nat) (p1 : Int32) (v : Nat → Int32) (f : Nat → Nat → Int32) (hIv : XI v)  : ctV l (dC, dI) cy yJ7_fill_53178 cJ7_fill_53178 4 1 60 0 0 ((Nat → Int32) × (Nat → Nat → Int32)) [.ref (x 40), .int p1] (XW cy x0 x v f) (fun u => gsX_J7_fill_53178_1 NF p1 v f = u ∧ KV [] u.1 v ∧ KF [27] u.2 f ∧ XI u.1 ∧ u.1 0 = v 0 ∧ u.1 1 = v 1 ∧ u.1 7 = v 7 ∧ u.1 8 = v 8 ∧ u.1 9 = v 9 ∧ u.1 10 = v 10 ∧ u.1 31 = v 31 ∧ u.1 32 = v 32) (fun u => XW cy x0 x u.1 u.2) := by
  refine ctV_of (by decide) (Nat.le_of_ble_eq_true rfl) (fun p e s m below meth c A ls Q hx hb hml hts hown hnm hE hP hD hA hl ret => ?_)
  have hM_v : KV [] v v := fun _ _ => rfl
  have hA_f : KF [27] f f := fun _ _ => rfl
  have hown : s.vm.findClass RJ7 = some m.cls := hown
  have hS : va_S A s.heap s.heap [] := va_S.rf
  have hl : lv_has ls 4 [(0, .ref (x 40)), (1, .int p1)] := hl
  refine lv_iconst (v := 0) hx hb dJ7_fill_53178_0 (by decide) ?_
  refine lv_istore_n (lv' := [(2, .int 0), (0, .ref (x 40)), (1, .int p1)]) hx hb dJ7_fill_53178_1 rfl hl (by decide) rfl (fun ls hl => ?_)
  refine lv_aload_n hx hb dJ7_fill_53178_2 rfl (lv_at hl 1 rfl) ?_
  refine va_alen (v := 21) hx hb hE.1 hP 41 1 rfl rfl rfl dJ7_fill_53178_3 ?_
  refine lv_istore_n (lv' := [(3, .int 21), (2, .int 0), (0, .ref (x 40)), (1, .int p1)]) hx hb dJ7_fill_53178_4 rfl hl (by decide) rfl (fun ls hl => ?_)
  have lp1 : ∀ (n1 : Nat) (l2_1 : Int32) (v1 : Nat → Int32) (f1 : Nat → Nat → Int32), XI v1 → v1 0 = (v 0) → v1 1 = (v 1) → v1 7 = (v 7) → v1 8 = (v 8) → v1 9 = (v 9) → v1 10 = (v 10) → v1 31 = (v 31) → v1 32 = (v 32) → gsX_J7_fill_53178_1_L1 NF p1 n1 l2_1 v1 f1 = (gsX_J7_fill_53178_1 NF p1 v f) → ((0 : Int) ≤ l2_1.toInt ∧ l2_1.toInt ≤ 2147483647) → KV [] v1 v → KF [27] f1 f → (2147483647 - l2_1.toInt).toNat < n1 → ∀ (H : Heap) (locs : List Loc) (ls : Array Slot), va_P (dC, dI) vwCl (XW cy x0 x v1 f1) H → va_D A (XW cy x0 x v1 f1) → va_S A s.heap H locs → lv_has ls 4 [(3, .int 21), (2, .int l2_1), (0, .ref (x 40)), (1, .int p1)] → W p l e { frames := 1, cells := 0, slots := 0, locals := 60 } s m ([.ref (x 40), .int p1] : List Value).toArray below meth c H locs 0 0 Q (F0 m 5 ls []) := by
    intro n1
    induction n1 with
    | zero => intro l2_1 v1 f1 hIv1 hq0_v1 hq1_v1 hq7_v1 hq8_v1 hq9_v1 hq10_v1 hq31_v1 hq32_v1 hT1 hr2_1 hM_v1 hA_f1 hm; exact absurd hm (Nat.not_lt_zero _)
    | succ n1 ih1 =>
      intro l2_1 v1 f1 hIv1 hq0_v1 hq1_v1 hq7_v1 hq8_v1 hq9_v1 hq10_v1 hq31_v1 hq32_v1 hT1 hr2_1 hM_v1 hA_f1 hm1 H locs ls hP hD hS hl
      refine lv_iload_n hx hb dJ7_fill_53178_5 rfl (lv_at hl 1 rfl) ?_
      refine lv_iload_n hx hb dJ7_fill_53178_6 rfl (lv_at hl 0 rfl) ?_
      refine lv_icmp_ge (tgt := 20) hx hb dJ7_fill_53178_7 (by decide) (fun c2 => ?_) (fun c2 => ?_)
      · skip
        have zc2 : 21 ≤ l2_1.toInt := by rw [fa_le, show (21 : Int32).toInt = 21 from by decide] at c2; exact c2
        exact ret (v1, f1) _ _ _ _ _ _ ⟨(hT1.symm.trans (gsX_J7_fill_53178_1_q0 c2)), hM_v1, hA_f1, hIv1, (show v1 0 = v 0 from hq0_v1), (show v1 1 = v 1 from hq1_v1), (show v1 7 = v 7 from hq7_v1), (show v1 8 = v 8 from hq8_v1), (show v1 9 = v 9 from hq9_v1), (show v1 10 = v 10 from hq10_v1), (show v1 31 = v 31 from hq31_v1), (show v1 32 = v 32 from hq32_v1)⟩ hP hD hS dJ7_fill_53178_20 (Nat.le_refl _) (Nat.le_refl _)
      · skip
        have zc2 : ¬ (21 ≤ l2_1.toInt) := by rw [fa_le, show (21 : Int32).toInt = 21 from by decide] at c2; exact c2
        refine lv_aload_n hx hb dJ7_fill_53178_10 rfl (lv_at hl 2 rfl) ?_
        refine lv_iload_n hx hb dJ7_fill_53178_11 rfl (lv_at hl 1 rfl) ?_
        refine lv_iload_n hx hb dJ7_fill_53178_12 rfl (lv_at hl 3 rfl) ?_
        refine stI hx hb hE hP hD hS 41 rfl (vp_in_iff.mpr ⟨by omega, by omega⟩) rfl dJ7_fill_53178_13 (fun H locs hP hD hS => ?_)
        obtain ⟨f3, ef3, hP, hD⟩ : ∃ fz9, fz9 = upd2 f1 27 (upd (f1 27) l2_1.toNatClampNeg p1) ∧ va_P (dC, dI) vwCl (XW cy x0 x v1 fz9) H ∧ va_D A (XW cy x0 x v1 fz9) := ⟨_, rfl, hP, hD⟩
        have hA_f3 : KF [27] f3 f := by rw [ef3]; exact KF.up hA_f1 rfl
        obtain ⟨t4, et4⟩ : ∃ y : Int32, y = l2_1 + 1 := ⟨_, rfl⟩
        have rg5 := fb_rng l2_1
        have zt4 : t4.toInt = l2_1.toInt + 1 := by rw [et4]; exact add_i rfl (by decide) (by omega) (by omega)
        refine lv_iinc (v := t4) (lv' := [(2, .int t4), (3, .int 21), (0, .ref (x 40)), (1, .int p1)]) hx hb dJ7_fill_53178_14 hl (k := 1) rfl (by rw [et4]; rfl) (by decide) rfl (fun ls hl => ?_)
        refine lv_goto (tgt := 5) hx hb dJ7_fill_53178_17 (by decide) ?_
        have rg6 := fb_rng t4
        exact ih1 t4 v1 f3 hIv1 hq0_v1 hq1_v1 hq7_v1 hq8_v1 hq9_v1 hq10_v1 hq31_v1 hq32_v1 ((gsX_J7_fill_53178_1_q1 c2 ef3 et4).symm.trans hT1) ⟨show (0 : Int) ≤ t4.toInt by omega, show t4.toInt ≤ (2147483647 : Int) by omega⟩ hM_v1 hA_f3 (by show (2147483647 - t4.toInt).toNat < n1; omega) _ _ _ hP hD hS (lv_sub hl [1, 0, 2, 3] rfl)
  exact lp1 (4294967296 + NF) 0 v f hIv rfl rfl rfl rfl rfl rfl rfl rfl gsX_J7_fill_53178_1_q2.symm ⟨by decide, by decide⟩ hM_v hA_f (by have q3 : (21 : Int32).toInt = 21 := (by decide); have q2 : (0 : Int32).toInt = 0 := (by decide); show (2147483647 - (0 : Int32).toInt).toNat < 4294967296 + NF; omega) _ _ _ hP hD hS (lv_sub hl [0, 1, 2, 3] rfl)
set_option maxHeartbeats 4000000 in
set_option maxRecDepth 100000 in
theorem sX_X8_clear_1 (NF : Nat) (l : Launch) (dC : Nat → ClassId) (dI : Nat → Nat → Nat) (cy : Nat → ClassId) (x0 : Nat) (x : Nat → Nat)  (v : Nat → Int32) (f : Nat → Nat → Int32) (hIv : XI v)  : ctV l (dC, dI) cy yX8_clear cX8_clear 1 2 83 0 0 ((Nat → Int32) × (Nat → Nat → Int32)) [.ref (x 35)] (XW cy x0 x v f) (fun u => gsX_X8_clear_1 NF v f = u ∧ KV [41] u.1 v ∧ KF [27] u.2 f ∧ XI u.1 ∧ u.1 0 = v 0 ∧ u.1 1 = v 1 ∧ u.1 7 = v 7 ∧ u.1 8 = v 8 ∧ u.1 9 = v 9 ∧ u.1 10 = v 10 ∧ u.1 31 = v 31 ∧ u.1 32 = v 32) (fun u => XW cy x0 x u.1 u.2) := by
  refine ctV_of (by decide) (Nat.le_of_ble_eq_true rfl) (fun p e s m below meth c A ls Q hx hb hml hts hown hnm hE hP hD hA hl ret => ?_)
  have hM_v : KV [41] v v := fun _ _ => rfl
  have hA_f : KF [27] f f := fun _ _ => rfl
  have hown : s.vm.findClass RX8 = some m.cls := hown
  have hS : va_S A s.heap s.heap [] := va_S.rf
  have hl : lv_has ls 1 [(0, .ref (x 35))] := hl
  refine lv_aload_n hx hb dX8_clear_0 rfl (lv_at hl 0 rfl) ?_
  refine lv_iconst (v := 0) hx hb dX8_clear_1 (by decide) ?_
  refine va_put (D := (dC, dI)) (ci := 8) (v := .int 0) (ty := tyX8 5) (C := RX8) (T := TX8) (N := 7) hx hb hts inB_8 tyX8 tyX8_ok nmX8 hown hE.1 hP hD hS 36 rfl rfl 5 (by decide) (hts _ k_472) (fun _ h9 => h9) rfl (tyX8_ok 5 (by decide)) rfl rfl (Nat.le_of_ble_eq_true rfl) dX8_clear_2 (fun H locs hP hD hS => ?_)
  have hP : va_P (dC, dI) vwCl (XW cy x0 x (upd v 41 0) f) H := hP
  have hD : va_D A (XW cy x0 x (upd v 41 0) f) := hD
  refine lv_aload_n hx hb dX8_clear_5 rfl (lv_at hl 0 rfl) ?_
  refine va_get (D := (dC, dI)) (ci := 8) (v := .ref (x 40)) (C := RX8) (T := TX8) (N := 7) hx hb hts inB_8 hown hE.1 hP 36 rfl rfl 6 (by decide) (hts _ k_474) (fun _ h9 => h9) rfl dX8_clear_6 ?_
  refine lv_iconst (v := (-1)) hx hb dX8_clear_9 (by decide) ?_
  refine cbSv (n := 2) (rest := []) hx hb hml hown hts hE hP hD hS hA (sX_J7_fill_53178_1 NF l dC dI cy x0 x (-1) (upd v 41 0) f (XI.upd (j := 41) (x := 0) hIv (by decide) (by decide)) ) k_464 k_465 k_113 k_466 (by decide +kernel) ⟨Nat.le_of_ble_eq_true rfl, Nat.le_of_ble_eq_true rfl⟩ (rfl) hl.1 rfl (Nat.le_of_ble_eq_true rfl) dX8_clear_10 (fun u H locs hw hP hD hS => ?_)
  obtain ⟨hG1, hw⟩ := hw
  obtain ⟨v2, f3⟩ := u
  obtain ⟨kV_v2, kF_f3, hIv2, hk0_v2, hk1_v2, hk7_v2, hk8_v2, hk9_v2, hk10_v2, hk31_v2, hk32_v2⟩ := hw
  have hM_v2 : KV [41] v2 v := KV.tr kV_v2 (KV.up (j := 41) (x := 0) hM_v rfl) rfl
  have hA_f3 : KF [27] f3 f := KF.tr kF_f3 hA_f rfl
  have hP : va_P (dC, dI) vwCl (XW cy x0 x v2 f3) H := hP
  have hD : va_D A (XW cy x0 x v2 f3) := hD
  have hq0_v2 : v2 0 = (v 0) := hk0_v2
  have hq1_v2 : v2 1 = (v 1) := hk1_v2
  have hq7_v2 : v2 7 = (v 7) := hk7_v2
  have hq8_v2 : v2 8 = (v 8) := hk8_v2
  have hq9_v2 : v2 9 = (v 9) := hk9_v2
  have hq10_v2 : v2 10 = (v 10) := hk10_v2
  have hq31_v2 : v2 31 = (v 31) := hk31_v2
  have hq32_v2 : v2 32 = (v 32) := hk32_v2
  exact ret (v2, f3) _ _ _ _ _ _ ⟨(gsX_X8_clear_1_q0 hG1), hM_v2, hA_f3, hIv2, hk0_v2, hk1_v2, hk7_v2, hk8_v2, hk9_v2, hk10_v2, hk31_v2, hk32_v2⟩ hP hD hS dX8_clear_13 (Nat.le_refl _) (Nat.le_refl _)
set_option maxHeartbeats 4000000 in
set_option maxRecDepth 100000 in
theorem sX_X10_regiment_1 (NF : Nat) (l : Launch) (dC : Nat → ClassId) (dI : Nat → Nat → Nat) (cy : Nat → ClassId) (x0 : Nat) (x : Nat → Nat)  (v : Nat → Int32) (f : Nat → Nat → Int32) (hIv : XI v)  : ctIS l (dC, dI) cy yX10_regiment cX10_regiment 2 .int 65 1616 0 0 ((Nat → Int32) × (Nat → Nat → Int32)) [.ref x0] (XW cy x0 x v f) (fun r u => gsX_X10_regiment_1 NF v f = (r, u) ∧ KV [1, 2, 3, 4, 5, 6, 7, 8, 9, 10, 11, 12, 13, 14, 15, 16, 17, 18, 19, 20, 21, 22, 23, 31, 32, 33, 34, 35, 36, 37, 38, 41] u.1 v ∧ KF [1, 2, 3, 4, 7, 8, 9, 10, 11, 12, 15, 17, 27] u.2 f ∧ XI u.1 ∧ u.1 0 = v 0 ∧ ((u.1 1).toInt = 0) ∧ ((gsX_X6_read_1 NF v f).1 = 1 ∨ ((∀ k, ([18, 31, 32, 33, 34, 35, 36, 0, 41] : List Nat).contains k = true → u.1 k = v k) ∧ ∀ k, ([9, 10, 11, 12, 23, 24, 25, 26] : List Nat).contains k = true → u.2 k = f k))) (fun u => XW cy x0 x u.1 u.2) := by
  refine ctIS_of (by decide) (Nat.le_of_ble_eq_true rfl) (fun p e s m below meth c A ls Q hx hb hml hts hown hE hF hT hP hD hA hl ret => ?_)
  have hM_v : KV [1, 2, 3, 4, 5, 6, 7, 8, 9, 10, 11, 12, 13, 14, 15, 16, 17, 18, 19, 20, 21, 22, 23, 31, 32, 33, 34, 35, 36, 37, 38, 41] v v := fun _ _ => rfl
  have hA_f : KF [1, 2, 3, 4, 7, 8, 9, 10, 11, 12, 15, 17, 27] f f := fun _ _ => rfl
  have hown : s.vm.findClass RX10 = some m.cls := hown
  have hS : va_S A s.heap s.heap [] := va_S.rf
  have hl : lv_has ls 2 [(0, .ref x0)] := hl
  refine lv_aload_n hx hb dX10_regiment_0 rfl (lv_at hl 0 rfl) ?_
  refine va_get (D := (dC, dI)) (ci := 10) (v := .ref (x 2)) (C := RX10) (T := TX10) (N := 10) hx hb hts inB_10 hown hE.1 hP 0 rfl rfl 1 (by decide) (hts _ k_492) (fun _ h9 => h9) rfl dX10_regiment_1 ?_
  refine csVi (n := 0) (rest := []) hx hb hml hown hts hE hP hD hS hA hF hT (sX_X6_read_1 NF l dC dI cy x0 x  v f hIv ) k_542 k_543 k_544 k_103 k_545 (by decide +kernel) ⟨Nat.le_of_ble_eq_true rfl, Nat.le_of_ble_eq_true rfl⟩ 3 6 rfl rfl (rfl) hl.1 rfl (Nat.le_of_ble_eq_true rfl) dX10_regiment_4 (fun r1 u H locs hw hP hD hS => ?_)
  obtain ⟨hG2, hw⟩ := hw
  obtain ⟨v3, f4⟩ := u
  obtain ⟨kV_v3, kF_f4, hIv3, hk0_v3, hk1_v3, hw⟩ := hw
  have hM_v3 : KV [1, 2, 3, 4, 5, 6, 7, 8, 9, 10, 11, 12, 13, 14, 15, 16, 17, 18, 19, 20, 21, 22, 23, 31, 32, 33, 34, 35, 36, 37, 38, 41] v3 v := KV.tr kV_v3 hM_v (by decide +kernel)
  have hA_f4 : KF [1, 2, 3, 4, 7, 8, 9, 10, 11, 12, 15, 17, 27] f4 f := KF.tr kF_f4 hA_f (by decide +kernel)
  have hP : va_P (dC, dI) vwCl (XW cy x0 x v3 f4) H := hP
  have hD : va_D A (XW cy x0 x v3 f4) := hD
  have hq0_v3 : v3 0 = (v 0) := hk0_v3
  have hq1_v3 : v3 1 = (v 1) := hk1_v3
  rcases hw with ⟨g5⟩ | ⟨g5⟩
  · skip
    subst g5
    refine lv_istore_n (lv' := [(1, .int 1), (0, .ref x0)]) hx hb dX10_regiment_7 rfl hl (by decide) rfl (fun ls hl => ?_)
    refine lv_aload_n hx hb dX10_regiment_8 rfl (lv_at hl 1 rfl) ?_
    refine va_get (D := (dC, dI)) (ci := 10) (v := .ref (x 0)) (C := RX10) (T := TX10) (N := 10) hx hb hts inB_10 hown hE.1 hP 0 rfl rfl 0 (by decide) (hts _ k_491) (fun _ h9 => h9) rfl dX10_regiment_9 ?_
    refine lv_iconst (v := 0) hx hb dX10_regiment_12 (by decide) ?_
    refine va_putN (D := (dC, dI)) (ci := 9) (v := .int 0) (ty := tyX9 1) (C := RX9) (T := TX9) (N := 6) hx hb hts inB_9 tyX9 tyX9_ok nmX9 hown hE.1 hP hD hS 1 rfl rfl 1 (by decide) (va_Nw.use rfl (hE.2 _ k_138)) (fun _ h9 => h9) rfl (tyX9_ok 1 (by decide)) rfl rfl (Nat.le_of_ble_eq_true rfl) dX10_regiment_13 (fun H locs hP hD hS => ?_)
    have hP : va_P (dC, dI) vwCl (XW cy x0 x (upd v3 1 0) f4) H := hP
    have hD : va_D A (XW cy x0 x (upd v3 1 0) f4) := hD
    refine lv_iload_n hx hb dX10_regiment_16 rfl (lv_at hl 0 rfl) ?_
    refine lv_if_ne (tgt := 22) hx hb dX10_regiment_17 (by decide) (fun _ => ?_) (fun c0 => absurd c0 (by decide))
    refine lv_aload_n hx hb dX10_regiment_22 rfl (lv_at hl 1 rfl) ?_
    refine va_get (D := (dC, dI)) (ci := 10) (v := .ref (x 26)) (C := RX10) (T := TX10) (N := 10) hx hb hts inB_10 hown hE.1 hP 0 rfl rfl 2 (by decide) (hts _ k_493) (fun _ h9 => h9) rfl dX10_regiment_23 ?_
    refine lv_aload_n hx hb dX10_regiment_26 rfl (lv_at hl 1 rfl) ?_
    refine va_get (D := (dC, dI)) (ci := 10) (v := .ref (x 2)) (C := RX10) (T := TX10) (N := 10) hx hb hts inB_10 hown hE.1 hP 0 rfl rfl 1 (by decide) (hts _ k_492) (fun _ h9 => h9) rfl dX10_regiment_27 ?_
    refine va_getN (D := (dC, dI)) (ci := 6) (v := .ref (x 3)) (C := RX6) (T := TX6) (N := 7) hx hb hts inB_6 hown hE.1 hP 3 rfl rfl 1 (by decide) (va_Nw.use rfl (hE.2 _ k_267)) (fun _ h9 => h9) rfl dX10_regiment_30 ?_
    refine cbVv (n := 1) (rest := []) hx hb hml hown hts hE hP hD hS hA (sX_X7_copy_1 NF l dC dI cy x0 x  (upd v3 1 0) f4 (XI.upd (j := 1) (x := 0) hIv3 (by decide) (by decide)) ) k_767 k_768 k_769 k_104 k_770 (by decide +kernel) ⟨Nat.le_of_ble_eq_true rfl, Nat.le_of_ble_eq_true rfl⟩ 27 7 rfl rfl (rfl) hl.1 rfl (Nat.le_of_ble_eq_true rfl) dX10_regiment_33 (fun u H locs hw hP hD hS => ?_)
    obtain ⟨hG6, hw⟩ := hw
    obtain ⟨v7, f8⟩ := u
    obtain ⟨kV_v7, kF_f8, hIv7, hk0_v7, hk1_v7, hk7_v7, hk8_v7⟩ := hw
    have hM_v7 : KV [1, 2, 3, 4, 5, 6, 7, 8, 9, 10, 11, 12, 13, 14, 15, 16, 17, 18, 19, 20, 21, 22, 23, 31, 32, 33, 34, 35, 36, 37, 38, 41] v7 v := KV.tr kV_v7 (KV.up (j := 1) (x := 0) hM_v3 (by decide +kernel)) (by decide +kernel)
    have hA_f8 : KF [1, 2, 3, 4, 7, 8, 9, 10, 11, 12, 15, 17, 27] f8 f := KF.tr kF_f8 hA_f4 (by decide +kernel)
    have hP : va_P (dC, dI) vwCl (XW cy x0 x v7 f8) H := hP
    have hD : va_D A (XW cy x0 x v7 f8) := hD
    have hq0_v7 : v7 0 = (v 0) := hk0_v7.trans hq0_v3
    have hq1_v7 : v7 1 = 0 := hk1_v7
    have hq7_v7 : v7 7 = (v3 7) := hk7_v7
    have hq8_v7 : v7 8 = (v3 8) := hk8_v7
    refine lv_aload_n hx hb dX10_regiment_36 rfl (lv_at hl 1 rfl) ?_
    refine va_get (D := (dC, dI)) (ci := 10) (v := .ref (x 21)) (C := RX10) (T := TX10) (N := 10) hx hb hts inB_10 hown hE.1 hP 0 rfl rfl 3 (by decide) (hts _ k_494) (fun _ h9 => h9) rfl dX10_regiment_37 ?_
    refine cbVv (n := 0) (rest := []) hx hb hml hown hts hE hP hD hS hA (sX_X1_muster_1 NF l dC dI cy x0 x  v7 f8 hIv7 ) k_777 k_299 k_300 k_106 k_301 (by decide +kernel) ⟨Nat.le_of_ble_eq_true rfl, Nat.le_of_ble_eq_true rfl⟩ 22 1 rfl rfl (rfl) hl.1 rfl (Nat.le_of_ble_eq_true rfl) dX10_regiment_40 (fun u H locs hw hP hD hS => ?_)
    obtain ⟨hG9, hw⟩ := hw
    obtain ⟨v10, f11⟩ := u
    obtain ⟨kV_v10, kF_f11, hIv10, hk0_v10, hk1_v10, hk7_v10, hk8_v10, hk9_v10, hk10_v10, hk31_v10, hk32_v10⟩ := hw
    have hM_v10 : KV [1, 2, 3, 4, 5, 6, 7, 8, 9, 10, 11, 12, 13, 14, 15, 16, 17, 18, 19, 20, 21, 22, 23, 31, 32, 33, 34, 35, 36, 37, 38, 41] v10 v := KV.tr kV_v10 hM_v7 (by decide +kernel)
    have hA_f11 : KF [1, 2, 3, 4, 7, 8, 9, 10, 11, 12, 15, 17, 27] f11 f := KF.tr kF_f11 hA_f8 (by decide +kernel)
    have hP : va_P (dC, dI) vwCl (XW cy x0 x v10 f11) H := hP
    have hD : va_D A (XW cy x0 x v10 f11) := hD
    have hq0_v10 : v10 0 = (v 0) := hk0_v10.trans hq0_v7
    have hq1_v10 : v10 1 = 0 := hk1_v10.trans hq1_v7
    have hq7_v10 : v10 7 = (v3 7) := hk7_v10.trans hq7_v7
    have hq8_v10 : v10 8 = (v3 8) := hk8_v10.trans hq8_v7
    have hq9_v10 : v10 9 = (v7 9) := hk9_v10
    have hq10_v10 : v10 10 = (v7 10) := hk10_v10
    have hq31_v10 : v10 31 = (v7 31) := hk31_v10
    have hq32_v10 : v10 32 = (v7 32) := hk32_v10
    refine lv_aload_n hx hb dX10_regiment_43 rfl (lv_at hl 1 rfl) ?_
    refine va_get (D := (dC, dI)) (ci := 10) (v := .ref (x 20)) (C := RX10) (T := TX10) (N := 10) hx hb hts inB_10 hown hE.1 hP 0 rfl rfl 4 (by decide) (hts _ k_495) (fun _ h9 => h9) rfl dX10_regiment_44 ?_
    refine cbVv (n := 0) (rest := []) hx hb hml hown hts hE hP hD hS hA (sX_X5_forgetAll_1 NF l dC dI cy x0 x  v10 f11 hIv10 ) k_778 k_779 k_780 k_107 k_781 (by decide +kernel) ⟨Nat.le_of_ble_eq_true rfl, Nat.le_of_ble_eq_true rfl⟩ 21 5 rfl rfl (rfl) hl.1 rfl (Nat.le_of_ble_eq_true rfl) dX10_regiment_47 (fun u H locs hw hP hD hS => ?_)
    obtain ⟨hG12, hw⟩ := hw
    obtain ⟨v13, f14⟩ := u
    obtain ⟨kV_v13, kF_f14, hIv13, hk0_v13, hk1_v13, hk7_v13, hk8_v13, hk9_v13, hk10_v13, hk31_v13, hk32_v13⟩ := hw
    have hM_v13 : KV [1, 2, 3, 4, 5, 6, 7, 8, 9, 10, 11, 12, 13, 14, 15, 16, 17, 18, 19, 20, 21, 22, 23, 31, 32, 33, 34, 35, 36, 37, 38, 41] v13 v := KV.tr kV_v13 hM_v10 (by decide +kernel)
    have hA_f14 : KF [1, 2, 3, 4, 7, 8, 9, 10, 11, 12, 15, 17, 27] f14 f := KF.tr kF_f14 hA_f11 (by decide +kernel)
    have hP : va_P (dC, dI) vwCl (XW cy x0 x v13 f14) H := hP
    have hD : va_D A (XW cy x0 x v13 f14) := hD
    have hq0_v13 : v13 0 = (v 0) := hk0_v13.trans hq0_v10
    have hq1_v13 : v13 1 = 0 := hk1_v13.trans hq1_v10
    have hq7_v13 : v13 7 = (v3 7) := hk7_v13.trans hq7_v10
    have hq8_v13 : v13 8 = (v3 8) := hk8_v13.trans hq8_v10
    have hq9_v13 : v13 9 = (v7 9) := hk9_v13.trans hq9_v10
    have hq10_v13 : v13 10 = (v7 10) := hk10_v13.trans hq10_v10
    have hq31_v13 : v13 31 = (v7 31) := hk31_v13.trans hq31_v10
    have hq32_v13 : v13 32 = (v7 32) := hk32_v13.trans hq32_v10
    refine lv_aload_n hx hb dX10_regiment_50 rfl (lv_at hl 1 rfl) ?_
    refine va_get (D := (dC, dI)) (ci := 10) (v := .ref (x 31)) (C := RX10) (T := TX10) (N := 10) hx hb hts inB_10 hown hE.1 hP 0 rfl rfl 7 (by decide) (hts _ k_498) (fun _ h9 => h9) rfl dX10_regiment_51 ?_
    refine cbVv (n := 0) (rest := []) hx hb hml hown hts hE hP hD hS hA (sX_X0_clear_1 NF l dC dI cy x0 x  v13 f14 hIv13 ) k_786 k_787 k_788 k_111 k_789 (by decide +kernel) ⟨Nat.le_of_ble_eq_true rfl, Nat.le_of_ble_eq_true rfl⟩ 32 0 rfl rfl (rfl) hl.1 rfl (Nat.le_of_ble_eq_true rfl) dX10_regiment_54 (fun u H locs hw hP hD hS => ?_)
    obtain ⟨hG15, hw⟩ := hw
    obtain ⟨v16, f17⟩ := u
    obtain ⟨kV_v16, kF_f17, hIv16, hk0_v16, hk1_v16, hk7_v16, hk8_v16, hk9_v16, hk10_v16, hk31_v16, hk32_v16⟩ := hw
    have hM_v16 : KV [1, 2, 3, 4, 5, 6, 7, 8, 9, 10, 11, 12, 13, 14, 15, 16, 17, 18, 19, 20, 21, 22, 23, 31, 32, 33, 34, 35, 36, 37, 38, 41] v16 v := KV.tr kV_v16 hM_v13 (by decide +kernel)
    have hA_f17 : KF [1, 2, 3, 4, 7, 8, 9, 10, 11, 12, 15, 17, 27] f17 f := KF.tr kF_f17 hA_f14 (by decide +kernel)
    have hP : va_P (dC, dI) vwCl (XW cy x0 x v16 f17) H := hP
    have hD : va_D A (XW cy x0 x v16 f17) := hD
    have hq0_v16 : v16 0 = (v 0) := hk0_v16.trans hq0_v13
    have hq1_v16 : v16 1 = 0 := hk1_v16.trans hq1_v13
    have hq7_v16 : v16 7 = (v3 7) := hk7_v16.trans hq7_v13
    have hq8_v16 : v16 8 = (v3 8) := hk8_v16.trans hq8_v13
    have hq9_v16 : v16 9 = (v7 9) := hk9_v16.trans hq9_v13
    have hq10_v16 : v16 10 = (v7 10) := hk10_v16.trans hq10_v13
    have hq31_v16 : v16 31 = (v7 31) := hk31_v16.trans hq31_v13
    have hq32_v16 : v16 32 = (v7 32) := hk32_v16.trans hq32_v13
    refine lv_aload_n hx hb dX10_regiment_57 rfl (lv_at hl 1 rfl) ?_
    refine va_get (D := (dC, dI)) (ci := 10) (v := .ref (x 35)) (C := RX10) (T := TX10) (N := 10) hx hb hts inB_10 hown hE.1 hP 0 rfl rfl 8 (by decide) (hts _ k_499) (fun _ h9 => h9) rfl dX10_regiment_58 ?_
    refine cbVv (n := 0) (rest := []) hx hb hml hown hts hE hP hD hS hA (sX_X8_clear_1 NF l dC dI cy x0 x  v16 f17 hIv16 ) k_790 k_791 k_792 k_112 k_793 (by decide +kernel) ⟨Nat.le_of_ble_eq_true rfl, Nat.le_of_ble_eq_true rfl⟩ 36 8 rfl rfl (rfl) hl.1 rfl (Nat.le_of_ble_eq_true rfl) dX10_regiment_61 (fun u H locs hw hP hD hS => ?_)
    obtain ⟨hG18, hw⟩ := hw
    obtain ⟨v19, f20⟩ := u
    obtain ⟨kV_v19, kF_f20, hIv19, hk0_v19, hk1_v19, hk7_v19, hk8_v19, hk9_v19, hk10_v19, hk31_v19, hk32_v19⟩ := hw
    have hM_v19 : KV [1, 2, 3, 4, 5, 6, 7, 8, 9, 10, 11, 12, 13, 14, 15, 16, 17, 18, 19, 20, 21, 22, 23, 31, 32, 33, 34, 35, 36, 37, 38, 41] v19 v := KV.tr kV_v19 hM_v16 (by decide +kernel)
    have hA_f20 : KF [1, 2, 3, 4, 7, 8, 9, 10, 11, 12, 15, 17, 27] f20 f := KF.tr kF_f20 hA_f17 (by decide +kernel)
    have hP : va_P (dC, dI) vwCl (XW cy x0 x v19 f20) H := hP
    have hD : va_D A (XW cy x0 x v19 f20) := hD
    have hq0_v19 : v19 0 = (v 0) := hk0_v19.trans hq0_v16
    have hq1_v19 : v19 1 = 0 := hk1_v19.trans hq1_v16
    have hq7_v19 : v19 7 = (v3 7) := hk7_v19.trans hq7_v16
    have hq8_v19 : v19 8 = (v3 8) := hk8_v19.trans hq8_v16
    have hq9_v19 : v19 9 = (v7 9) := hk9_v19.trans hq9_v16
    have hq10_v19 : v19 10 = (v7 10) := hk10_v19.trans hq10_v16
    have hq31_v19 : v19 31 = (v7 31) := hk31_v19.trans hq31_v16
    have hq32_v19 : v19 32 = (v7 32) := hk32_v19.trans hq32_v16
    refine lv_aload_n hx hb dX10_regiment_64 rfl (lv_at hl 1 rfl) ?_
    refine va_get (D := (dC, dI)) (ci := 10) (v := .ref (x 26)) (C := RX10) (T := TX10) (N := 10) hx hb hts inB_10 hown hE.1 hP 0 rfl rfl 2 (by decide) (hts _ k_493) (fun _ h9 => h9) rfl dX10_regiment_65 ?_
    refine va_getN (D := (dC, dI)) (ci := 7) (v := .int (v19 31)) (C := RX7) (T := TX7) (N := 10) hx hb hts inB_7 hown hE.1 hP 27 rfl rfl 3 (by decide) (va_Nw.use rfl (hE.2 _ k_214)) (fun _ h9 => h9) rfl dX10_regiment_68 ?_
    refine tI (y := (v7 31)) hq31_v19 ?_
    have b31_v7 : 0 ≤ (v7 31).toInt ∧ (v7 31).toInt ≤ 6 := XI.b hIv7 31 (by decide)
    exact ret (v7 31) (v19, f20) _ _ _ _ _ _ rfl ⟨(gsX_X10_regiment_1_q0 hG2 hG6 hG9 hG12 hG15 hG18), hM_v19, hA_f20, hIv19, (hk0_v19.trans (hk0_v16.trans (hk0_v13.trans (hk0_v10.trans (hk0_v7.trans hk0_v3))))), (by show (v19 1).toInt = 0; rw [hq1_v19]; decide), (Or.inl (show (gsX_X6_read_1 NF v f).1 = 1 from congrArg (fun z => z.1) hG2))⟩ hP hD hS dX10_regiment_71 (Nat.le_refl _) (Nat.le_refl _)
  · skip
    subst g5
    refine lv_istore_n (lv' := [(1, .int 0), (0, .ref x0)]) hx hb dX10_regiment_7 rfl hl (by decide) rfl (fun ls hl => ?_)
    refine lv_aload_n hx hb dX10_regiment_8 rfl (lv_at hl 1 rfl) ?_
    refine va_get (D := (dC, dI)) (ci := 10) (v := .ref (x 0)) (C := RX10) (T := TX10) (N := 10) hx hb hts inB_10 hown hE.1 hP 0 rfl rfl 0 (by decide) (hts _ k_491) (fun _ h9 => h9) rfl dX10_regiment_9 ?_
    refine lv_iconst (v := 0) hx hb dX10_regiment_12 (by decide) ?_
    refine va_putN (D := (dC, dI)) (ci := 9) (v := .int 0) (ty := tyX9 1) (C := RX9) (T := TX9) (N := 6) hx hb hts inB_9 tyX9 tyX9_ok nmX9 hown hE.1 hP hD hS 1 rfl rfl 1 (by decide) (va_Nw.use rfl (hE.2 _ k_138)) (fun _ h9 => h9) rfl (tyX9_ok 1 (by decide)) rfl rfl (Nat.le_of_ble_eq_true rfl) dX10_regiment_13 (fun H locs hP hD hS => ?_)
    have hP : va_P (dC, dI) vwCl (XW cy x0 x (upd v3 1 0) f4) H := hP
    have hD : va_D A (XW cy x0 x (upd v3 1 0) f4) := hD
    refine lv_iload_n hx hb dX10_regiment_16 rfl (lv_at hl 0 rfl) ?_
    refine lv_if_ne (tgt := 22) hx hb dX10_regiment_17 (by decide) (fun c0 => absurd (by decide) c0) (fun _ => ?_)
    refine lv_iconst (v := (-1)) hx hb dX10_regiment_20 (by decide) ?_
    exact ret (-1) ((upd v3 1 0), f4) _ _ _ _ _ _ rfl ⟨(gsX_X10_regiment_1_q1 hG2), (KV.up (j := 1) (x := 0) hM_v3 (by decide +kernel)), hA_f4, (XI.upd (j := 1) (x := 0) hIv3 (by decide) (by decide)), hk0_v3, (by have q0 : (0 : Int32).toInt = 0 := (by decide); show (0 : Int32).toInt = 0; decide), (Or.inr ⟨KV.use (KV.up (j := 1) (x := 0) (KV.tr (M := [1, 2, 3, 4, 5, 6, 7, 8, 9, 10, 11, 12, 13, 14, 15, 16, 17]) kV_v3 (fun _ _ => rfl) rfl) rfl) rfl, KF.use kF_f4 rfl⟩)⟩ hP hD hS dX10_regiment_21 (Nat.le_refl _) (Nat.le_refl _)
set_option maxHeartbeats 4000000 in
set_option maxRecDepth 100000 in
theorem sX_X8_tell_1 (NF : Nat) (l : Launch) (dC : Nat → ClassId) (dI : Nat → Nat → Nat) (cy : Nat → ClassId) (x0 : Nat) (x : Nat → Nat) (p1 : Int32) (p2 : Int32) (p3 : Int32) (v : Nat → Int32) (f : Nat → Nat → Int32) (hIv : XI v)  : ctI l (dC, dI) cy yX8_tell cX8_tell 4 .int 1 60 0 0 ((Nat → Int32) × (Nat → Nat → Int32)) [.ref (x 35), .int p1, .int p2, .int p3] (XW cy x0 x v f) (fun r u => gsX_X8_tell_1 NF p1 p2 p3 v f = (r, u) ∧ KV [41] u.1 v ∧ KF [23, 24, 25, 26] u.2 f ∧ XI u.1 ∧ u.1 0 = v 0 ∧ u.1 1 = v 1 ∧ u.1 7 = v 7 ∧ u.1 8 = v 8 ∧ u.1 9 = v 9 ∧ u.1 10 = v 10 ∧ u.1 31 = v 31 ∧ u.1 32 = v 32) (fun u => XW cy x0 x u.1 u.2) := by
  refine ctI_of (by decide) (Nat.le_of_ble_eq_true rfl) (fun p e s m below meth c A ls Q hx hb hml hts hown hE hP hD hA hl ret => ?_)
  have hM_v : KV [41] v v := fun _ _ => rfl
  have hA_f : KF [23, 24, 25, 26] f f := fun _ _ => rfl
  have hown : s.vm.findClass RX8 = some m.cls := hown
  have hS : va_S A s.heap s.heap [] := va_S.rf
  have hl : lv_has ls 4 [(0, .ref (x 35)), (1, .int p1), (2, .int p2), (3, .int p3)] := hl
  refine lv_iload_n hx hb dX8_tell_0 rfl (lv_at hl 1 rfl) ?_
  refine lv_if_lt (tgt := 19) hx hb dX8_tell_1 (by decide) (fun c1 => ?_) (fun c1 => ?_)
  · skip
    have zc1 : p1.toInt < 0 := by rw [fa_lt, show (0 : Int32).toInt = 0 from by decide] at c1; exact c1
    refine lv_iconst (v := (-1)) hx hb dX8_tell_19 (by decide) ?_
    exact ret (-1) (v, f) _ _ _ _ _ _ rfl ⟨(gsX_X8_tell_1_q0 c1), hM_v, hA_f, hIv, rfl, rfl, rfl, rfl, rfl, rfl, rfl, rfl⟩ hP hD hS dX8_tell_20 (Nat.le_refl _) (Nat.le_refl _)
  · skip
    have zc1 : ¬ (p1.toInt < 0) := by rw [fa_lt, show (0 : Int32).toInt = 0 from by decide] at c1; exact c1
    refine lv_iload_n hx hb dX8_tell_4 rfl (lv_at hl 1 rfl) ?_
    refine lv_bipush (v := 20) hx hb dX8_tell_5 (by decide) ?_
    refine lv_icmp_gt (tgt := 19) hx hb dX8_tell_7 (by decide) (fun c2 => ?_) (fun c2 => ?_)
    · skip
      have zc2 : 20 < p1.toInt := by rw [fa_lt, show (20 : Int32).toInt = 20 from by decide] at c2; exact c2
      refine lv_iconst (v := (-1)) hx hb dX8_tell_19 (by decide) ?_
      exact ret (-1) (v, f) _ _ _ _ _ _ rfl ⟨(gsX_X8_tell_1_q1 c1 c2), hM_v, hA_f, hIv, rfl, rfl, rfl, rfl, rfl, rfl, rfl, rfl⟩ hP hD hS dX8_tell_20 (Nat.le_refl _) (Nat.le_refl _)
    · skip
      have zc2 : ¬ (20 < p1.toInt) := by rw [fa_lt, show (20 : Int32).toInt = 20 from by decide] at c2; exact c2
      refine lv_aload_n hx hb dX8_tell_10 rfl (lv_at hl 0 rfl) ?_
      refine va_get (D := (dC, dI)) (ci := 8) (v := .int (v 41)) (C := RX8) (T := TX8) (N := 7) hx hb hts inB_8 hown hE.1 hP 36 rfl rfl 5 (by decide) (hts _ k_472) (fun _ h9 => h9) rfl dX8_tell_11 ?_
      have b41_v : 0 ≤ (v 41).toInt ∧ (v 41).toInt ≤ 30 := XI.b hIv 41 (by decide)
      refine lv_bipush (v := 30) hx hb dX8_tell_14 (by decide) ?_
      refine lv_icmp_lt (tgt := 21) hx hb dX8_tell_16 (by decide) (fun c3 => ?_) (fun c3 => ?_)
      · skip
        have zc3 : (v 41).toInt < 30 := by rw [fa_lt, show (30 : Int32).toInt = 30 from by decide] at c3; exact c3
        refine lv_aload_n hx hb dX8_tell_21 rfl (lv_at hl 0 rfl) ?_
        refine va_get (D := (dC, dI)) (ci := 8) (v := .ref (x 36)) (C := RX8) (T := TX8) (N := 7) hx hb hts inB_8 hown hE.1 hP 36 rfl rfl 1 (by decide) (hts _ k_468) (fun _ h9 => h9) rfl dX8_tell_22 ?_
        refine lv_aload_n hx hb dX8_tell_25 rfl (lv_at hl 0 rfl) ?_
        refine va_get (D := (dC, dI)) (ci := 8) (v := .int (v 41)) (C := RX8) (T := TX8) (N := 7) hx hb hts inB_8 hown hE.1 hP 36 rfl rfl 5 (by decide) (hts _ k_472) (fun _ h9 => h9) rfl dX8_tell_26 ?_
        refine lv_iload_n hx hb dX8_tell_29 rfl (lv_at hl 1 rfl) ?_
        refine stI hx hb hE hP hD hS 37 rfl (vp_in_iff.mpr ⟨by omega, by omega⟩) rfl dX8_tell_30 (fun H locs hP hD hS => ?_)
        obtain ⟨f4, ef4, hP, hD⟩ : ∃ fz9, fz9 = upd2 f 23 (upd (f 23) (v 41).toNatClampNeg p1) ∧ va_P (dC, dI) vwCl (XW cy x0 x v fz9) H ∧ va_D A (XW cy x0 x v fz9) := ⟨_, rfl, hP, hD⟩
        have hA_f4 : KF [23, 24, 25, 26] f4 f := by rw [ef4]; exact KF.up hA_f rfl
        refine lv_aload_n hx hb dX8_tell_31 rfl (lv_at hl 0 rfl) ?_
        refine va_get (D := (dC, dI)) (ci := 8) (v := .ref (x 37)) (C := RX8) (T := TX8) (N := 7) hx hb hts inB_8 hown hE.1 hP 36 rfl rfl 2 (by decide) (hts _ k_469) (fun _ h9 => h9) rfl dX8_tell_32 ?_
        refine lv_aload_n hx hb dX8_tell_35 rfl (lv_at hl 0 rfl) ?_
        refine va_get (D := (dC, dI)) (ci := 8) (v := .int (v 41)) (C := RX8) (T := TX8) (N := 7) hx hb hts inB_8 hown hE.1 hP 36 rfl rfl 5 (by decide) (hts _ k_472) (fun _ h9 => h9) rfl dX8_tell_36 ?_
        refine lv_iload_n hx hb dX8_tell_39 rfl (lv_at hl 2 rfl) ?_
        refine stZ hx hb hE hP hD hS 38 rfl (vp_in_iff.mpr ⟨by omega, by omega⟩) rfl dX8_tell_40 (fun H locs hP hD hS => ?_)
        obtain ⟨f5, ef5, hP, hD⟩ : ∃ fz9, fz9 = upd2 f4 24 (upd (f4 24) (v 41).toNatClampNeg (vp_nar .boolean p2)) ∧ va_P (dC, dI) vwCl (XW cy x0 x v fz9) H ∧ va_D A (XW cy x0 x v fz9) := ⟨_, rfl, hP, hD⟩
        have hA_f5 : KF [23, 24, 25, 26] f5 f := by rw [ef5]; exact KF.up hA_f4 rfl
        refine lv_aload_n hx hb dX8_tell_41 rfl (lv_at hl 0 rfl) ?_
        refine va_get (D := (dC, dI)) (ci := 8) (v := .ref (x 38)) (C := RX8) (T := TX8) (N := 7) hx hb hts inB_8 hown hE.1 hP 36 rfl rfl 3 (by decide) (hts _ k_470) (fun _ h9 => h9) rfl dX8_tell_42 ?_
        refine lv_aload_n hx hb dX8_tell_45 rfl (lv_at hl 0 rfl) ?_
        refine va_get (D := (dC, dI)) (ci := 8) (v := .int (v 41)) (C := RX8) (T := TX8) (N := 7) hx hb hts inB_8 hown hE.1 hP 36 rfl rfl 5 (by decide) (hts _ k_472) (fun _ h9 => h9) rfl dX8_tell_46 ?_
        refine lv_iload_n hx hb dX8_tell_49 rfl (lv_at hl 3 rfl) ?_
        refine stI hx hb hE hP hD hS 39 rfl (vp_in_iff.mpr ⟨by omega, by omega⟩) rfl dX8_tell_50 (fun H locs hP hD hS => ?_)
        obtain ⟨f6, ef6, hP, hD⟩ : ∃ fz9, fz9 = upd2 f5 25 (upd (f5 25) (v 41).toNatClampNeg p3) ∧ va_P (dC, dI) vwCl (XW cy x0 x v fz9) H ∧ va_D A (XW cy x0 x v fz9) := ⟨_, rfl, hP, hD⟩
        have hA_f6 : KF [23, 24, 25, 26] f6 f := by rw [ef6]; exact KF.up hA_f5 rfl
        refine lv_aload_n hx hb dX8_tell_51 rfl (lv_at hl 0 rfl) ?_
        refine va_get (D := (dC, dI)) (ci := 8) (v := .ref (x 39)) (C := RX8) (T := TX8) (N := 7) hx hb hts inB_8 hown hE.1 hP 36 rfl rfl 4 (by decide) (hts _ k_471) (fun _ h9 => h9) rfl dX8_tell_52 ?_
        refine lv_aload_n hx hb dX8_tell_55 rfl (lv_at hl 0 rfl) ?_
        refine va_get (D := (dC, dI)) (ci := 8) (v := .int (v 41)) (C := RX8) (T := TX8) (N := 7) hx hb hts inB_8 hown hE.1 hP 36 rfl rfl 5 (by decide) (hts _ k_472) (fun _ h9 => h9) rfl dX8_tell_56 ?_
        refine lv_iconst (v := (-1)) hx hb dX8_tell_59 (by decide) ?_
        refine stI hx hb hE hP hD hS 40 rfl (vp_in_iff.mpr ⟨by omega, by omega⟩) rfl dX8_tell_60 (fun H locs hP hD hS => ?_)
        obtain ⟨f7, ef7, hP, hD⟩ : ∃ fz9, fz9 = upd2 f6 26 (upd (f6 26) (v 41).toNatClampNeg (-1)) ∧ va_P (dC, dI) vwCl (XW cy x0 x v fz9) H ∧ va_D A (XW cy x0 x v fz9) := ⟨_, rfl, hP, hD⟩
        have hA_f7 : KF [23, 24, 25, 26] f7 f := by rw [ef7]; exact KF.up hA_f6 rfl
        refine lv_aload_n hx hb dX8_tell_61 rfl (lv_at hl 0 rfl) ?_
        refine lv_dup hx hb dX8_tell_62 rfl ?_
        refine va_get (D := (dC, dI)) (ci := 8) (v := .int (v 41)) (C := RX8) (T := TX8) (N := 7) hx hb hts inB_8 hown hE.1 hP 36 rfl rfl 5 (by decide) (hts _ k_472) (fun _ h9 => h9) rfl dX8_tell_63 ?_
        refine lv_iconst (v := 1) hx hb dX8_tell_66 (by decide) ?_
        refine lv_iadd hx hb dX8_tell_67 ?_
        refine lv_topi (fun t8 et8 => ?_)
        have rg9 := fb_rng (v 41)
        have zt8 : t8.toInt = (v 41).toInt + 1 := by rw [et8]; exact add_i rfl (by decide) (by omega) (by omega)
        refine va_put (D := (dC, dI)) (ci := 8) (v := .int t8) (ty := tyX8 5) (C := RX8) (T := TX8) (N := 7) hx hb hts inB_8 tyX8 tyX8_ok nmX8 hown hE.1 hP hD hS 36 rfl rfl 5 (by decide) (hts _ k_472) (fun _ h9 => h9) rfl (tyX8_ok 5 (by decide)) rfl rfl (Nat.le_of_ble_eq_true rfl) dX8_tell_68 (fun H locs hP hD hS => ?_)
        have hP : va_P (dC, dI) vwCl (XW cy x0 x (upd v 41 t8) f7) H := hP
        have hD : va_D A (XW cy x0 x (upd v 41 t8) f7) := hD
        refine lv_aload_n hx hb dX8_tell_71 rfl (lv_at hl 0 rfl) ?_
        refine va_get (D := (dC, dI)) (ci := 8) (v := .int t8) (C := RX8) (T := TX8) (N := 7) hx hb hts inB_8 hown hE.1 hP 36 rfl rfl 5 (by decide) (hts _ k_472) (fun _ h9 => h9) rfl dX8_tell_72 ?_
        refine lv_iconst (v := 1) hx hb dX8_tell_75 (by decide) ?_
        refine lv_isub hx hb dX8_tell_76 ?_
        refine lv_topi (fun t10 et10 => ?_)
        have rg11 := fb_rng t8
        have zt10 : t10.toInt = t8.toInt - 1 := by rw [et10]; exact sub_i rfl (by decide) (by omega) (by omega)
        exact ret t10 ((upd v 41 t8), f7) _ _ _ _ _ _ rfl ⟨(gsX_X8_tell_1_q2 c1 c2 c3 ef4 ef5 ef6 ef7 et8 et10), (KV.up (j := 41) (x := t8) hM_v rfl), hA_f7, (XI.upd (j := 41) (x := t8) hIv (show (0 : Int) ≤ t8.toInt by omega) (show t8.toInt ≤ (30 : Int) by omega)), rfl, rfl, rfl, rfl, rfl, rfl, rfl, rfl⟩ hP hD hS dX8_tell_77 (Nat.le_refl _) (Nat.le_refl _)
      · skip
        have zc3 : ¬ ((v 41).toInt < 30) := by rw [fa_lt, show (30 : Int32).toInt = 30 from by decide] at c3; exact c3
        refine lv_iconst (v := (-1)) hx hb dX8_tell_19 (by decide) ?_
        exact ret (-1) (v, f) _ _ _ _ _ _ rfl ⟨(gsX_X8_tell_1_q3 c1 c2 c3), hM_v, hA_f, hIv, rfl, rfl, rfl, rfl, rfl, rfl, rfl, rfl⟩ hP hD hS dX8_tell_20 (Nat.le_refl _) (Nat.le_refl _)
set_option maxHeartbeats 4000000 in
set_option maxRecDepth 100000 in
theorem sX_X10_seen_1 (NF : Nat) (l : Launch) (dC : Nat → ClassId) (dI : Nat → Nat → Nat) (cy : Nat → ClassId) (x0 : Nat) (x : Nat → Nat) (p1 : Int32) (p2 : Int32) (v : Nat → Int32) (f : Nat → Nat → Int32) (hIv : XI v)  : ctI l (dC, dI) cy yX10_seen cX10_seen 3 .int 2 83 0 0 ((Nat → Int32) × (Nat → Nat → Int32)) [.ref x0, .int p1, .int p2] (XW cy x0 x v f) (fun r u => gsX_X10_seen_1 NF p1 p2 v f = (r, u) ∧ KV [41] u.1 v ∧ KF [23, 24, 25, 26] u.2 f ∧ XI u.1 ∧ u.1 0 = v 0 ∧ u.1 1 = v 1 ∧ u.1 7 = v 7 ∧ u.1 8 = v 8 ∧ u.1 9 = v 9 ∧ u.1 10 = v 10 ∧ u.1 31 = v 31 ∧ u.1 32 = v 32) (fun u => XW cy x0 x u.1 u.2) := by
  refine ctI_of (by decide) (Nat.le_of_ble_eq_true rfl) (fun p e s m below meth c A ls Q hx hb hml hts hown hE hP hD hA hl ret => ?_)
  have hM_v : KV [41] v v := fun _ _ => rfl
  have hA_f : KF [23, 24, 25, 26] f f := fun _ _ => rfl
  have hown : s.vm.findClass RX10 = some m.cls := hown
  have hS : va_S A s.heap s.heap [] := va_S.rf
  have hl : lv_has ls 3 [(0, .ref x0), (1, .int p1), (2, .int p2)] := hl
  refine lv_aload_n hx hb dX10_seen_0 rfl (lv_at hl 0 rfl) ?_
  refine va_get (D := (dC, dI)) (ci := 10) (v := .ref (x 26)) (C := RX10) (T := TX10) (N := 10) hx hb hts inB_10 hown hE.1 hP 0 rfl rfl 2 (by decide) (hts _ k_493) (fun _ h9 => h9) rfl dX10_seen_1 ?_
  refine va_getN (D := (dC, dI)) (ci := 7) (v := .int (v 31)) (C := RX7) (T := TX7) (N := 10) hx hb hts inB_7 hown hE.1 hP 27 rfl rfl 3 (by decide) (va_Nw.use rfl (hE.2 _ k_214)) (fun _ h9 => h9) rfl dX10_seen_4 ?_
  have b31_v : 0 ≤ (v 31).toInt ∧ (v 31).toInt ≤ 6 := XI.b hIv 31 (by decide)
  refine lv_if_eq (tgt := 20) hx hb dX10_seen_7 (by decide) (fun c1 => ?_) (fun c1 => ?_)
  · skip
    have zc1 : (v 31).toInt = 0 := by rw [fa_eq, show (0 : Int32).toInt = 0 from by decide] at c1; exact c1
    refine lv_iconst (v := (-1)) hx hb dX10_seen_20 (by decide) ?_
    exact ret (-1) (v, f) _ _ _ _ _ _ rfl ⟨(gsX_X10_seen_1_q0 c1), hM_v, hA_f, hIv, rfl, rfl, rfl, rfl, rfl, rfl, rfl, rfl⟩ hP hD hS dX10_seen_21 (Nat.le_refl _) (Nat.le_refl _)
  · skip
    have zc1 : ¬ ((v 31).toInt = 0) := by rw [fa_eq, show (0 : Int32).toInt = 0 from by decide] at c1; exact c1
    refine lv_aload_n hx hb dX10_seen_10 rfl (lv_at hl 0 rfl) ?_
    refine va_get (D := (dC, dI)) (ci := 10) (v := .ref (x 26)) (C := RX10) (T := TX10) (N := 10) hx hb hts inB_10 hown hE.1 hP 0 rfl rfl 2 (by decide) (hts _ k_493) (fun _ h9 => h9) rfl dX10_seen_11 ?_
    refine va_getN (D := (dC, dI)) (ci := 7) (v := .int (v 32)) (C := RX7) (T := TX7) (N := 10) hx hb hts inB_7 hown hE.1 hP 27 rfl rfl 4 (by decide) (va_Nw.use rfl (hE.2 _ k_227)) (fun _ h9 => h9) rfl dX10_seen_14 ?_
    have b32_v : 0 ≤ (v 32).toInt ∧ (v 32).toInt ≤ 6 := XI.b hIv 32 (by decide)
    refine lv_if_ne (tgt := 22) hx hb dX10_seen_17 (by decide) (fun c2 => ?_) (fun c2 => ?_)
    · skip
      have zc2 : ¬ ((v 32).toInt = 0) := by rw [fa_eq, show (0 : Int32).toInt = 0 from by decide] at c2; exact c2
      refine lv_aload_n hx hb dX10_seen_22 rfl (lv_at hl 0 rfl) ?_
      refine va_get (D := (dC, dI)) (ci := 10) (v := .ref (x 35)) (C := RX10) (T := TX10) (N := 10) hx hb hts inB_10 hown hE.1 hP 0 rfl rfl 8 (by decide) (hts _ k_499) (fun _ h9 => h9) rfl dX10_seen_23 ?_
      refine lv_iload_n hx hb dX10_seen_26 rfl (lv_at hl 1 rfl) ?_
      refine lv_iload_n hx hb dX10_seen_27 rfl (lv_at hl 2 rfl) ?_
      refine lv_aload_n hx hb dX10_seen_28 rfl (lv_at hl 0 rfl) ?_
      refine va_get (D := (dC, dI)) (ci := 10) (v := .int (v 0)) (C := RX10) (T := TX10) (N := 10) hx hb hts inB_10 hown hE.1 hP 0 rfl rfl 9 (by decide) (hts _ k_500) (fun _ h9 => h9) rfl dX10_seen_29 ?_
      have b0_v : 0 ≤ (v 0).toInt ∧ (v 0).toInt ≤ 100000 := XI.b hIv 0 (by decide)
      refine cbVi (n := 3) (rest := []) hx hb hml hown hts hE hP hD hS hA (sX_X8_tell_1 NF l dC dI cy x0 x p1 p2 (v 0) v f hIv ) k_1226 k_1227 k_1228 k_112 k_1229 (by decide +kernel) ⟨Nat.le_of_ble_eq_true rfl, Nat.le_of_ble_eq_true rfl⟩ 36 8 rfl rfl (rfl) hl.1 rfl (Nat.le_of_ble_eq_true rfl) dX10_seen_32 (fun r3 u H locs hw hP hD hS => ?_)
      obtain ⟨hG4, hw⟩ := hw
      obtain ⟨v5, f6⟩ := u
      obtain ⟨kV_v5, kF_f6, hIv5, hk0_v5, hk1_v5, hk7_v5, hk8_v5, hk9_v5, hk10_v5, hk31_v5, hk32_v5⟩ := hw
      have hM_v5 : KV [41] v5 v := KV.tr kV_v5 hM_v rfl
      have hA_f6 : KF [23, 24, 25, 26] f6 f := KF.tr kF_f6 hA_f rfl
      have hP : va_P (dC, dI) vwCl (XW cy x0 x v5 f6) H := hP
      have hD : va_D A (XW cy x0 x v5 f6) := hD
      have hq0_v5 : v5 0 = (v 0) := hk0_v5
      have hq1_v5 : v5 1 = (v 1) := hk1_v5
      have hq7_v5 : v5 7 = (v 7) := hk7_v5
      have hq8_v5 : v5 8 = (v 8) := hk8_v5
      have hq9_v5 : v5 9 = (v 9) := hk9_v5
      have hq10_v5 : v5 10 = (v 10) := hk10_v5
      have hq31_v5 : v5 31 = (v 31) := hk31_v5
      have hq32_v5 : v5 32 = (v 32) := hk32_v5
      exact ret r3 (v5, f6) _ _ _ _ _ _ rfl ⟨(gsX_X10_seen_1_q1 c1 c2 hG4), hM_v5, hA_f6, hIv5, hk0_v5, hk1_v5, hk7_v5, hk8_v5, hk9_v5, hk10_v5, hk31_v5, hk32_v5⟩ hP hD hS dX10_seen_35 (Nat.le_refl _) (Nat.le_refl _)
    · skip
      have zc2 : (v 32).toInt = 0 := by rw [fa_eq, show (0 : Int32).toInt = 0 from by decide] at c2; exact c2
      refine lv_iconst (v := (-1)) hx hb dX10_seen_20 (by decide) ?_
      exact ret (-1) (v, f) _ _ _ _ _ _ rfl ⟨(gsX_X10_seen_1_q2 c1 c2), hM_v, hA_f, hIv, rfl, rfl, rfl, rfl, rfl, rfl, rfl, rfl⟩ hP hD hS dX10_seen_21 (Nat.le_refl _) (Nat.le_refl _)
set_option maxHeartbeats 4000000 in
set_option maxRecDepth 100000 in
theorem sX_X8_takeBack_1 (NF : Nat) (l : Launch) (dC : Nat → ClassId) (dI : Nat → Nat → Nat) (cy : Nat → ClassId) (x0 : Nat) (x : Nat → Nat) (p1 : Int32) (p2 : Int32) (v : Nat → Int32) (f : Nat → Nat → Int32) (hIv : XI v)  : ctI l (dC, dI) cy yX8_takeBack cX8_takeBack 3 .boolean 1 60 0 0 ((Nat → Int32) × (Nat → Nat → Int32)) [.ref (x 35), .int p1, .int p2] (XW cy x0 x v f) (fun r u => gsX_X8_takeBack_1 NF p1 p2 v f = (r, u) ∧ KV [] u.1 v ∧ KF [26] u.2 f ∧ XI u.1 ∧ u.1 0 = v 0 ∧ u.1 1 = v 1 ∧ u.1 7 = v 7 ∧ u.1 8 = v 8 ∧ u.1 9 = v 9 ∧ u.1 10 = v 10 ∧ u.1 31 = v 31 ∧ u.1 32 = v 32 ∧ ((r = 1) ∨ (r = 0))) (fun u => XW cy x0 x u.1 u.2) := by
  refine ctI_of (by decide) (Nat.le_of_ble_eq_true rfl) (fun p e s m below meth c A ls Q hx hb hml hts hown hE hP hD hA hl ret => ?_)
  have hM_v : KV [] v v := fun _ _ => rfl
  have hA_f : KF [26] f f := fun _ _ => rfl
  have hown : s.vm.findClass RX8 = some m.cls := hown
  have hS : va_S A s.heap s.heap [] := va_S.rf
  have hl : lv_has ls 3 [(0, .ref (x 35)), (1, .int p1), (2, .int p2)] := hl
  refine lv_iload_n hx hb dX8_takeBack_0 rfl (lv_at hl 1 rfl) ?_
  refine lv_if_lt (tgt := 28) hx hb dX8_takeBack_1 (by decide) (fun c1 => ?_) (fun c1 => ?_)
  · skip
    have zc1 : p1.toInt < 0 := by rw [fa_lt, show (0 : Int32).toInt = 0 from by decide] at c1; exact c1
    refine lv_iconst (v := 0) hx hb dX8_takeBack_28 (by decide) ?_
    exact ret 0 (v, f) _ _ _ _ _ _ rfl ⟨(gsX_X8_takeBack_1_q0 c1), hM_v, hA_f, hIv, rfl, rfl, rfl, rfl, rfl, rfl, rfl, rfl, (Or.inr rfl)⟩ hP hD hS dX8_takeBack_29 (Nat.le_refl _) (Nat.le_refl _)
  · skip
    have zc1 : ¬ (p1.toInt < 0) := by rw [fa_lt, show (0 : Int32).toInt = 0 from by decide] at c1; exact c1
    refine lv_iload_n hx hb dX8_takeBack_4 rfl (lv_at hl 1 rfl) ?_
    refine lv_aload_n hx hb dX8_takeBack_5 rfl (lv_at hl 0 rfl) ?_
    refine va_get (D := (dC, dI)) (ci := 8) (v := .int (v 41)) (C := RX8) (T := TX8) (N := 7) hx hb hts inB_8 hown hE.1 hP 36 rfl rfl 5 (by decide) (hts _ k_472) (fun _ h9 => h9) rfl dX8_takeBack_6 ?_
    have b41_v : 0 ≤ (v 41).toInt ∧ (v 41).toInt ≤ 30 := XI.b hIv 41 (by decide)
    refine lv_icmp_ge (tgt := 28) hx hb dX8_takeBack_9 (by decide) (fun c2 => ?_) (fun c2 => ?_)
    · skip
      have zc2 : (v 41).toInt ≤ p1.toInt := by rw [fa_le] at c2; exact c2
      have rg3 := fb_rng p1
      have rg4 := fb_rng (v 41)
      refine lv_iconst (v := 0) hx hb dX8_takeBack_28 (by decide) ?_
      exact ret 0 (v, f) _ _ _ _ _ _ rfl ⟨(gsX_X8_takeBack_1_q1 c1 c2), hM_v, hA_f, hIv, rfl, rfl, rfl, rfl, rfl, rfl, rfl, rfl, (Or.inr rfl)⟩ hP hD hS dX8_takeBack_29 (Nat.le_refl _) (Nat.le_refl _)
    · skip
      have zc2 : ¬ ((v 41).toInt ≤ p1.toInt) := by rw [fa_le] at c2; exact c2
      have rg5 := fb_rng p1
      have rg6 := fb_rng (v 41)
      refine lv_iload_n hx hb dX8_takeBack_12 rfl (lv_at hl 1 rfl) ?_
      refine lv_bipush (v := 30) hx hb dX8_takeBack_13 (by decide) ?_
      refine lv_icmp_ge (tgt := 28) hx hb dX8_takeBack_15 (by decide) (fun c7 => ?_) (fun c7 => ?_)
      · skip
        have zc7 : 30 ≤ p1.toInt := by rw [fa_le, show (30 : Int32).toInt = 30 from by decide] at c7; exact c7
        refine lv_iconst (v := 0) hx hb dX8_takeBack_28 (by decide) ?_
        exact ret 0 (v, f) _ _ _ _ _ _ rfl ⟨(gsX_X8_takeBack_1_q2 c1 c2 c7), hM_v, hA_f, hIv, rfl, rfl, rfl, rfl, rfl, rfl, rfl, rfl, (Or.inr rfl)⟩ hP hD hS dX8_takeBack_29 (Nat.le_refl _) (Nat.le_refl _)
      · skip
        have zc7 : ¬ (30 ≤ p1.toInt) := by rw [fa_le, show (30 : Int32).toInt = 30 from by decide] at c7; exact c7
        refine lv_aload_n hx hb dX8_takeBack_18 rfl (lv_at hl 0 rfl) ?_
        refine va_get (D := (dC, dI)) (ci := 8) (v := .ref (x 39)) (C := RX8) (T := TX8) (N := 7) hx hb hts inB_8 hown hE.1 hP 36 rfl rfl 4 (by decide) (hts _ k_471) (fun _ h9 => h9) rfl dX8_takeBack_19 ?_
        refine lv_iload_n hx hb dX8_takeBack_22 rfl (lv_at hl 1 rfl) ?_
        refine ldI hx hb hE hP 40 rfl (vp_in_iff.mpr ⟨by omega, by omega⟩) rfl rfl dX8_takeBack_23 ?_
        refine lv_topi (fun t8 et8 => ?_)
        refine lv_iconst (v := (-1)) hx hb dX8_takeBack_24 (by decide) ?_
        refine lv_icmp_eq (tgt := 30) hx hb dX8_takeBack_25 (by decide) (fun c9 => ?_) (fun c9 => ?_)
        · skip
          have zc9 : t8.toInt = (-1) := by rw [fa_eq, show ((-1) : Int32).toInt = -1 from by decide] at c9; exact c9
          refine lv_aload_n hx hb dX8_takeBack_30 rfl (lv_at hl 0 rfl) ?_
          refine va_get (D := (dC, dI)) (ci := 8) (v := .ref (x 39)) (C := RX8) (T := TX8) (N := 7) hx hb hts inB_8 hown hE.1 hP 36 rfl rfl 4 (by decide) (hts _ k_471) (fun _ h9 => h9) rfl dX8_takeBack_31 ?_
          refine lv_iload_n hx hb dX8_takeBack_34 rfl (lv_at hl 1 rfl) ?_
          refine lv_iload_n hx hb dX8_takeBack_35 rfl (lv_at hl 2 rfl) ?_
          refine stI hx hb hE hP hD hS 40 rfl (vp_in_iff.mpr ⟨by omega, by omega⟩) rfl dX8_takeBack_36 (fun H locs hP hD hS => ?_)
          obtain ⟨f10, ef10, hP, hD⟩ : ∃ fz9, fz9 = upd2 f 26 (upd (f 26) p1.toNatClampNeg p2) ∧ va_P (dC, dI) vwCl (XW cy x0 x v fz9) H ∧ va_D A (XW cy x0 x v fz9) := ⟨_, rfl, hP, hD⟩
          have hA_f10 : KF [26] f10 f := by rw [ef10]; exact KF.up hA_f rfl
          refine lv_iconst (v := 1) hx hb dX8_takeBack_37 (by decide) ?_
          exact ret 1 (v, f10) _ _ _ _ _ _ rfl ⟨(gsX_X8_takeBack_1_q3 c1 c2 c7 et8 c9 ef10), hM_v, hA_f10, hIv, rfl, rfl, rfl, rfl, rfl, rfl, rfl, rfl, (Or.inl rfl)⟩ hP hD hS dX8_takeBack_38 (Nat.le_refl _) (Nat.le_refl _)
        · skip
          have zc9 : ¬ (t8.toInt = (-1)) := by rw [fa_eq, show ((-1) : Int32).toInt = -1 from by decide] at c9; exact c9
          refine lv_iconst (v := 0) hx hb dX8_takeBack_28 (by decide) ?_
          exact ret 0 (v, f) _ _ _ _ _ _ rfl ⟨(gsX_X8_takeBack_1_q4 c1 c2 c7 et8 c9), hM_v, hA_f, hIv, rfl, rfl, rfl, rfl, rfl, rfl, rfl, rfl, (Or.inr rfl)⟩ hP hD hS dX8_takeBack_29 (Nat.le_refl _) (Nat.le_refl _)
