set_option maxHeartbeats 4000000 in
set_option maxRecDepth 100000 in
theorem sX_X4_worth_1 (l : Launch) (dC : Nat → ClassId) (dI : Nat → Nat → Nat) (cy : Nat → ClassId) (x0 : Nat) (x : Nat → Nat) (p1 : Int32) (p2 : Int32) (p3 : Int32) (p4 : Int32) (p5 : Int32) (p6 : Int32) (v : Nat → Int32) (f : Nat → Nat → Int32) (hIv : XI v)  : ctI l (dC, dI) cy yX4_worth cX4_worth 10 .int 2 82 0 0 ((Nat → Int32) × (Nat → Nat → Int32)) [.ref (x 15), .int p1, .int p2, .int p3, .int p4, .int p5, .int p6] (XW cy x0 x v f) (fun r u => KV [] u.1 v ∧ KF [13, 14] u.2 f ∧ XI u.1 ∧ u.1 0 = v 0 ∧ u.1 1 = v 1 ∧ u.1 7 = v 7 ∧ u.1 8 = v 8 ∧ u.1 9 = v 9 ∧ u.1 10 = v 10 ∧ u.1 31 = v 31 ∧ u.1 32 = v 32) (fun u => XW cy x0 x u.1 u.2) := by
  refine ctI_of (by decide) (Nat.le_of_ble_eq_true rfl) (fun p e s m below meth c A ls Q hx hb hml hts hown hE hP hD hA hl ret => ?_)
  have hM_v : KV [] v v := fun _ _ => rfl
  have hA_f : KF [13, 14] f f := fun _ _ => rfl
  have hown : s.vm.findClass RX4 = some m.cls := hown
  have hS : va_S A s.heap s.heap [] := va_S.rf
  have hl : lv_has ls 10 [(0, .ref (x 15)), (1, .int p1), (2, .int p2), (3, .int p3), (4, .int p4), (5, .int p5), (6, .int p6)] := hl
  refine lv_aload_n hx hb dX4_worth_0 rfl (lv_at hl 0 rfl) ?_
  refine va_get (D := (dC, dI)) (ci := 4) (v := .ref (x 19)) (C := RX4) (T := TX4) (N := 6) hx hb hts inB_4 hown hE.1 hP 16 rfl rfl 3 (by decide) (hts _ k_181) (fun _ h9 => h9) rfl dX4_worth_1 ?_
  refine lv_iconst (v := 0) hx hb dX4_worth_4 (by decide) ?_
  refine lv_iconst (v := 0) hx hb dX4_worth_5 (by decide) ?_
  refine lv_iload_n hx hb dX4_worth_6 rfl (lv_at hl 2 rfl) ?_
  refine lv_iload hx hb dX4_worth_7 (lv_at hl 4 rfl) ?_
  refine lv_isub hx hb dX4_worth_9 ?_
  refine lv_topi (fun t1 et1 => ?_)
  refine va_mmax hx hb (by rw [hml]; exact hl.1.symm) hown (hts _ k_839) (hts _ k_640) (hts _ k_119) (hts _ k_641) (Nat.le_of_ble_eq_true rfl) (Nat.le_of_ble_eq_true rfl) (Nat.le_of_ble_eq_true rfl) (Nat.le_of_ble_eq_true rfl) dX4_worth_10 ?_
  refine lv_topi (fun t2 et2 => ?_)
  have zt2 : t2.toInt = max (0) (t1.toInt) := by rw [et2]; exact mmax_i (by decide) rfl
  refine stI hx hb hE hP hD hS 20 rfl (vp_in_nI (n := 0) (by decide) (by decide)) rfl dX4_worth_13 (fun H locs hP hD hS => ?_)
  obtain ⟨f3, ef3, hP, hD⟩ : ∃ fz9, fz9 = upd2 f 14 (upd (f 14) (0 : Int32).toNatClampNeg t2) ∧ va_P (dC, dI) vwCl (XW cy x0 x v fz9) H ∧ va_D A (XW cy x0 x v fz9) := ⟨_, rfl, hP, hD⟩
  have hA_f3 : KF [13, 14] f3 f := by rw [ef3]; exact KF.up hA_f rfl
  refine lv_aload_n hx hb dX4_worth_14 rfl (lv_at hl 0 rfl) ?_
  refine va_get (D := (dC, dI)) (ci := 4) (v := .ref (x 19)) (C := RX4) (T := TX4) (N := 6) hx hb hts inB_4 hown hE.1 hP 16 rfl rfl 3 (by decide) (hts _ k_181) (fun _ h9 => h9) rfl dX4_worth_15 ?_
  refine lv_iconst (v := 1) hx hb dX4_worth_18 (by decide) ?_
  refine lv_iconst (v := 0) hx hb dX4_worth_19 (by decide) ?_
  refine lv_iload hx hb dX4_worth_20 (lv_at hl 4 rfl) ?_
  refine lv_iload_n hx hb dX4_worth_22 rfl (lv_at hl 2 rfl) ?_
  refine lv_isub hx hb dX4_worth_23 ?_
  refine lv_topi (fun t4 et4 => ?_)
  refine va_mmax hx hb (by rw [hml]; exact hl.1.symm) hown (hts _ k_839) (hts _ k_640) (hts _ k_119) (hts _ k_641) (Nat.le_of_ble_eq_true rfl) (Nat.le_of_ble_eq_true rfl) (Nat.le_of_ble_eq_true rfl) (Nat.le_of_ble_eq_true rfl) dX4_worth_24 ?_
  refine lv_topi (fun t5 et5 => ?_)
  have zt5 : t5.toInt = max (0) (t4.toInt) := by rw [et5]; exact mmax_i (by decide) rfl
  refine stI hx hb hE hP hD hS 20 rfl (vp_in_nI (n := 1) (by decide) (by decide)) rfl dX4_worth_27 (fun H locs hP hD hS => ?_)
  obtain ⟨f6, ef6, hP, hD⟩ : ∃ fz9, fz9 = upd2 f3 14 (upd (f3 14) (1 : Int32).toNatClampNeg t5) ∧ va_P (dC, dI) vwCl (XW cy x0 x v fz9) H ∧ va_D A (XW cy x0 x v fz9) := ⟨_, rfl, hP, hD⟩
  have hA_f6 : KF [13, 14] f6 f := by rw [ef6]; exact KF.up hA_f3 rfl
  refine lv_aload_n hx hb dX4_worth_28 rfl (lv_at hl 0 rfl) ?_
  refine va_get (D := (dC, dI)) (ci := 4) (v := .ref (x 19)) (C := RX4) (T := TX4) (N := 6) hx hb hts inB_4 hown hE.1 hP 16 rfl rfl 3 (by decide) (hts _ k_181) (fun _ h9 => h9) rfl dX4_worth_29 ?_
  refine lv_iconst (v := 2) hx hb dX4_worth_32 (by decide) ?_
  refine lv_iconst (v := 0) hx hb dX4_worth_33 (by decide) ?_
  refine lv_iload_n hx hb dX4_worth_34 rfl (lv_at hl 1 rfl) ?_
  refine lv_iload_n hx hb dX4_worth_35 rfl (lv_at hl 3 rfl) ?_
  refine lv_isub hx hb dX4_worth_36 ?_
  refine lv_topi (fun t7 et7 => ?_)
  refine va_mmax hx hb (by rw [hml]; exact hl.1.symm) hown (hts _ k_839) (hts _ k_640) (hts _ k_119) (hts _ k_641) (Nat.le_of_ble_eq_true rfl) (Nat.le_of_ble_eq_true rfl) (Nat.le_of_ble_eq_true rfl) (Nat.le_of_ble_eq_true rfl) dX4_worth_37 ?_
  refine lv_topi (fun t8 et8 => ?_)
  have zt8 : t8.toInt = max (0) (t7.toInt) := by rw [et8]; exact mmax_i (by decide) rfl
  refine stI hx hb hE hP hD hS 20 rfl (vp_in_nI (n := 2) (by decide) (by decide)) rfl dX4_worth_40 (fun H locs hP hD hS => ?_)
  obtain ⟨f9, ef9, hP, hD⟩ : ∃ fz9, fz9 = upd2 f6 14 (upd (f6 14) (2 : Int32).toNatClampNeg t8) ∧ va_P (dC, dI) vwCl (XW cy x0 x v fz9) H ∧ va_D A (XW cy x0 x v fz9) := ⟨_, rfl, hP, hD⟩
  have hA_f9 : KF [13, 14] f9 f := by rw [ef9]; exact KF.up hA_f6 rfl
  refine lv_aload_n hx hb dX4_worth_41 rfl (lv_at hl 0 rfl) ?_
  refine va_get (D := (dC, dI)) (ci := 4) (v := .ref (x 19)) (C := RX4) (T := TX4) (N := 6) hx hb hts inB_4 hown hE.1 hP 16 rfl rfl 3 (by decide) (hts _ k_181) (fun _ h9 => h9) rfl dX4_worth_42 ?_
  refine lv_iconst (v := 3) hx hb dX4_worth_45 (by decide) ?_
  refine lv_iconst (v := 0) hx hb dX4_worth_46 (by decide) ?_
  refine lv_iload_n hx hb dX4_worth_47 rfl (lv_at hl 3 rfl) ?_
  refine lv_iload_n hx hb dX4_worth_48 rfl (lv_at hl 1 rfl) ?_
  refine lv_isub hx hb dX4_worth_49 ?_
  refine lv_topi (fun t10 et10 => ?_)
  refine va_mmax hx hb (by rw [hml]; exact hl.1.symm) hown (hts _ k_839) (hts _ k_640) (hts _ k_119) (hts _ k_641) (Nat.le_of_ble_eq_true rfl) (Nat.le_of_ble_eq_true rfl) (Nat.le_of_ble_eq_true rfl) (Nat.le_of_ble_eq_true rfl) dX4_worth_50 ?_
  refine lv_topi (fun t11 et11 => ?_)
  have zt11 : t11.toInt = max (0) (t10.toInt) := by rw [et11]; exact mmax_i (by decide) rfl
  refine stI hx hb hE hP hD hS 20 rfl (vp_in_nI (n := 3) (by decide) (by decide)) rfl dX4_worth_53 (fun H locs hP hD hS => ?_)
  obtain ⟨f12, ef12, hP, hD⟩ : ∃ fz9, fz9 = upd2 f9 14 (upd (f9 14) (3 : Int32).toNatClampNeg t11) ∧ va_P (dC, dI) vwCl (XW cy x0 x v fz9) H ∧ va_D A (XW cy x0 x v fz9) := ⟨_, rfl, hP, hD⟩
  have hA_f12 : KF [13, 14] f12 f := by rw [ef12]; exact KF.up hA_f9 rfl
  refine lv_aload_n hx hb dX4_worth_54 rfl (lv_at hl 0 rfl) ?_
  refine va_get (D := (dC, dI)) (ci := 4) (v := .ref (x 19)) (C := RX4) (T := TX4) (N := 6) hx hb hts inB_4 hown hE.1 hP 16 rfl rfl 3 (by decide) (hts _ k_181) (fun _ h9 => h9) rfl dX4_worth_55 ?_
  refine lv_iconst (v := 4) hx hb dX4_worth_58 (by decide) ?_
  refine lv_iload hx hb dX4_worth_59 (lv_at hl 5 rfl) ?_
  refine stI hx hb hE hP hD hS 20 rfl (vp_in_nI (n := 4) (by decide) (by decide)) rfl dX4_worth_61 (fun H locs hP hD hS => ?_)
  obtain ⟨f13, ef13, hP, hD⟩ : ∃ fz9, fz9 = upd2 f12 14 (upd (f12 14) (4 : Int32).toNatClampNeg p5) ∧ va_P (dC, dI) vwCl (XW cy x0 x v fz9) H ∧ va_D A (XW cy x0 x v fz9) := ⟨_, rfl, hP, hD⟩
  have hA_f13 : KF [13, 14] f13 f := by rw [ef13]; exact KF.up hA_f12 rfl
  refine lv_aload_n hx hb dX4_worth_62 rfl (lv_at hl 0 rfl) ?_
  refine va_get (D := (dC, dI)) (ci := 4) (v := .ref (x 19)) (C := RX4) (T := TX4) (N := 6) hx hb hts inB_4 hown hE.1 hP 16 rfl rfl 3 (by decide) (hts _ k_181) (fun _ h9 => h9) rfl dX4_worth_63 ?_
  refine lv_iconst (v := 5) hx hb dX4_worth_66 (by decide) ?_
  refine lv_iload hx hb dX4_worth_67 (lv_at hl 6 rfl) ?_
  refine stI hx hb hE hP hD hS 20 rfl (vp_in_nI (n := 5) (by decide) (by decide)) rfl dX4_worth_69 (fun H locs hP hD hS => ?_)
  obtain ⟨f14, ef14, hP, hD⟩ : ∃ fz9, fz9 = upd2 f13 14 (upd (f13 14) (5 : Int32).toNatClampNeg p6) ∧ va_P (dC, dI) vwCl (XW cy x0 x v fz9) H ∧ va_D A (XW cy x0 x v fz9) := ⟨_, rfl, hP, hD⟩
  have hA_f14 : KF [13, 14] f14 f := by rw [ef14]; exact KF.up hA_f13 rfl
  refine lv_aload_n hx hb dX4_worth_70 rfl (lv_at hl 0 rfl) ?_
  refine va_get (D := (dC, dI)) (ci := 4) (v := .int (v 18)) (C := RX4) (T := TX4) (N := 6) hx hb hts inB_4 hown hE.1 hP 16 rfl rfl 4 (by decide) (hts _ k_182) (fun _ h9 => h9) rfl dX4_worth_71 ?_
  have b18_v : 0 ≤ (v 18).toInt ∧ (v 18).toInt ≤ 300 := XI.b hIv 18 (by decide)
  refine lv_if_ne (tgt := 118) hx hb dX4_worth_74 (by decide) (fun c15 => ?_) (fun c15 => ?_)
  · skip
    have zc15 : ¬ ((v 18).toInt = 0) := by rw [fa_eq, show (0 : Int32).toInt = 0 from by decide] at c15; exact c15
    refine lv_iconst (v := 0) hx hb dX4_worth_118 (by decide) ?_
    refine lv_istore (lv' := [(7, .int 0), (0, .ref (x 15)), (1, .int p1), (2, .int p2), (3, .int p3), (4, .int p4), (5, .int p5), (6, .int p6)]) hx hb dX4_worth_119 hl (by decide) rfl (fun ls hl => ?_)
    refine lv_iconst (v := 0) hx hb dX4_worth_121 (by decide) ?_
    refine lv_istore (lv' := [(8, .int 0), (7, .int 0), (0, .ref (x 15)), (1, .int p1), (2, .int p2), (3, .int p3), (4, .int p4), (5, .int p5), (6, .int p6)]) hx hb dX4_worth_122 hl (by decide) rfl (fun ls hl => ?_)
    have lp16 : ∀ (n16 : Nat) (l7_16 : Int32) (l8_16 : Int32) (v16 : Nat → Int32) (f16 : Nat → Nat → Int32), XI v16 → v16 0 = (v 0) → v16 1 = (v 1) → v16 7 = (v 7) → v16 8 = (v 8) → v16 9 = (v 9) → v16 10 = (v 10) → v16 31 = (v 31) → v16 32 = (v 32) → ((0 : Int) ≤ l7_16.toInt ∧ l7_16.toInt ≤ 30) → ((0 : Int) ≤ l8_16.toInt ∧ l8_16.toInt ≤ 2147483647) → KV [] v16 v → KF [13, 14] f16 f → (2147483647 - l8_16.toInt).toNat < n16 → ∀ (H : Heap) (locs : List Loc) (ls : Array Slot), va_P (dC, dI) vwCl (XW cy x0 x v16 f16) H → va_D A (XW cy x0 x v16 f16) → va_S A s.heap H locs → lv_has ls 10 [(8, .int l8_16), (7, .int l7_16), (0, .ref (x 15)), (1, .int p1), (2, .int p2), (3, .int p3), (4, .int p4), (5, .int p5), (6, .int p6)] → W p l e { frames := 2, cells := 0, slots := 0, locals := 82 } s m ([.ref (x 15), .int p1, .int p2, .int p3, .int p4, .int p5, .int p6] : List Value).toArray below meth c H locs 0 0 Q (F0 m 124 ls []) := by
      intro n16
      induction n16 with
      | zero => intro l7_16 l8_16 v16 f16 hIv16 hq0_v16 hq1_v16 hq7_v16 hq8_v16 hq9_v16 hq10_v16 hq31_v16 hq32_v16 hr7_16 hr8_16 hM_v16 hA_f16 hm; exact absurd hm (Nat.not_lt_zero _)
      | succ n16 ih16 =>
        intro l7_16 l8_16 v16 f16 hIv16 hq0_v16 hq1_v16 hq7_v16 hq8_v16 hq9_v16 hq10_v16 hq31_v16 hq32_v16 hr7_16 hr8_16 hM_v16 hA_f16 hm16 H locs ls hP hD hS hl
        refine lv_iload hx hb dX4_worth_124 (lv_at hl 0 rfl) ?_
        refine lv_aload_n hx hb dX4_worth_126 rfl (lv_at hl 2 rfl) ?_
        refine va_get (D := (dC, dI)) (ci := 4) (v := .int (v16 18)) (C := RX4) (T := TX4) (N := 6) hx hb hts inB_4 hown hE.1 hP 16 rfl rfl 4 (by decide) (hts _ k_182) (fun _ h9 => h9) rfl dX4_worth_127 ?_
        have b18_v16 : 0 ≤ (v16 18).toInt ∧ (v16 18).toInt ≤ 300 := XI.b hIv16 18 (by decide)
        refine lv_icmp_ge (tgt := 305) hx hb dX4_worth_130 (by decide) (fun c17 => ?_) (fun c17 => ?_)
        · skip
          have zc17 : (v16 18).toInt ≤ l8_16.toInt := by rw [fa_le] at c17; exact c17
          have rg18 := fb_rng l8_16
          have rg19 := fb_rng (v16 18)
          refine lv_iconst (v := 0) hx hb dX4_worth_305 (by decide) ?_
          refine lv_sipush (v := 999) hx hb dX4_worth_306 (by decide) ?_
          refine lv_aload_n hx hb dX4_worth_309 rfl (lv_at hl 2 rfl) ?_
          refine va_get (D := (dC, dI)) (ci := 4) (v := .ref (x 18)) (C := RX4) (T := TX4) (N := 6) hx hb hts inB_4 hown hE.1 hP 16 rfl rfl 2 (by decide) (hts _ k_180) (fun _ h9 => h9) rfl dX4_worth_310 ?_
          refine lv_iconst (v := 0) hx hb dX4_worth_313 (by decide) ?_
          refine ldI hx hb hE hP 19 rfl (vp_in_nI (n := 0) (by decide) (by decide)) rfl rfl dX4_worth_314 ?_
          refine lv_topi (fun t20 et20 => ?_)
          refine va_mmin hx hb (by rw [hml]; exact hl.1.symm) hown (hts _ k_840) (hts _ k_643) (hts _ k_119) (hts _ k_644) (Nat.le_of_ble_eq_true rfl) (Nat.le_of_ble_eq_true rfl) (Nat.le_of_ble_eq_true rfl) (Nat.le_of_ble_eq_true rfl) dX4_worth_315 ?_
          refine lv_topi (fun t21 et21 => ?_)
          have zt21 : t21.toInt = min (999) (t20.toInt) := by rw [et21]; exact mmin_i (by decide) rfl
          refine va_mmax hx hb (by rw [hml]; exact hl.1.symm) hown (hts _ k_839) (hts _ k_640) (hts _ k_119) (hts _ k_641) (Nat.le_of_ble_eq_true rfl) (Nat.le_of_ble_eq_true rfl) (Nat.le_of_ble_eq_true rfl) (Nat.le_of_ble_eq_true rfl) dX4_worth_318 ?_
          refine lv_topi (fun t22 et22 => ?_)
          have zt22 : t22.toInt = max (0) (t21.toInt) := by rw [et22]; exact mmax_i (by decide) rfl
          exact ret t22 (v16, f16) _ _ _ _ _ _ rfl ⟨hM_v16, hA_f16, hIv16, (show v16 0 = v 0 from hq0_v16), (show v16 1 = v 1 from hq1_v16), (show v16 7 = v 7 from hq7_v16), (show v16 8 = v 8 from hq8_v16), (show v16 9 = v 9 from hq9_v16), (show v16 10 = v 10 from hq10_v16), (show v16 31 = v 31 from hq31_v16), (show v16 32 = v 32 from hq32_v16)⟩ hP hD hS dX4_worth_321 (Nat.le_refl _) (Nat.le_refl _)
        · skip
          have zc17 : ¬ ((v16 18).toInt ≤ l8_16.toInt) := by rw [fa_le] at c17; exact c17
          have rg23 := fb_rng l8_16
          have rg24 := fb_rng (v16 18)
          refine lv_iload hx hb dX4_worth_133 (lv_at hl 0 rfl) ?_
          refine lv_sipush (v := 300) hx hb dX4_worth_135 (by decide) ?_
          refine lv_icmp_ge (tgt := 305) hx hb dX4_worth_138 (by decide) (fun c25 => ?_) (fun c25 => ?_)
          · skip
            have zc25 : 300 ≤ l8_16.toInt := by rw [fa_le, show (300 : Int32).toInt = 300 from by decide] at c25; exact c25
            refine lv_iconst (v := 0) hx hb dX4_worth_305 (by decide) ?_
            refine lv_sipush (v := 999) hx hb dX4_worth_306 (by decide) ?_
            refine lv_aload_n hx hb dX4_worth_309 rfl (lv_at hl 2 rfl) ?_
            refine va_get (D := (dC, dI)) (ci := 4) (v := .ref (x 18)) (C := RX4) (T := TX4) (N := 6) hx hb hts inB_4 hown hE.1 hP 16 rfl rfl 2 (by decide) (hts _ k_180) (fun _ h9 => h9) rfl dX4_worth_310 ?_
            refine lv_iconst (v := 0) hx hb dX4_worth_313 (by decide) ?_
            refine ldI hx hb hE hP 19 rfl (vp_in_nI (n := 0) (by decide) (by decide)) rfl rfl dX4_worth_314 ?_
            refine lv_topi (fun t26 et26 => ?_)
            refine va_mmin hx hb (by rw [hml]; exact hl.1.symm) hown (hts _ k_840) (hts _ k_643) (hts _ k_119) (hts _ k_644) (Nat.le_of_ble_eq_true rfl) (Nat.le_of_ble_eq_true rfl) (Nat.le_of_ble_eq_true rfl) (Nat.le_of_ble_eq_true rfl) dX4_worth_315 ?_
            refine lv_topi (fun t27 et27 => ?_)
            have zt27 : t27.toInt = min (999) (t26.toInt) := by rw [et27]; exact mmin_i (by decide) rfl
            refine va_mmax hx hb (by rw [hml]; exact hl.1.symm) hown (hts _ k_839) (hts _ k_640) (hts _ k_119) (hts _ k_641) (Nat.le_of_ble_eq_true rfl) (Nat.le_of_ble_eq_true rfl) (Nat.le_of_ble_eq_true rfl) (Nat.le_of_ble_eq_true rfl) dX4_worth_318 ?_
            refine lv_topi (fun t28 et28 => ?_)
            have zt28 : t28.toInt = max (0) (t27.toInt) := by rw [et28]; exact mmax_i (by decide) rfl
            exact ret t28 (v16, f16) _ _ _ _ _ _ rfl ⟨hM_v16, hA_f16, hIv16, (show v16 0 = v 0 from hq0_v16), (show v16 1 = v 1 from hq1_v16), (show v16 7 = v 7 from hq7_v16), (show v16 8 = v 8 from hq8_v16), (show v16 9 = v 9 from hq9_v16), (show v16 10 = v 10 from hq10_v16), (show v16 31 = v 31 from hq31_v16), (show v16 32 = v 32 from hq32_v16)⟩ hP hD hS dX4_worth_321 (Nat.le_refl _) (Nat.le_refl _)
          · skip
            have zc25 : ¬ (300 ≤ l8_16.toInt) := by rw [fa_le, show (300 : Int32).toInt = 300 from by decide] at c25; exact c25
            refine lv_aload_n hx hb dX4_worth_141 rfl (lv_at hl 2 rfl) ?_
            refine va_get (D := (dC, dI)) (ci := 4) (v := .ref (x 16)) (C := RX4) (T := TX4) (N := 6) hx hb hts inB_4 hown hE.1 hP 16 rfl rfl 0 (by decide) (hts _ k_178) (fun _ h9 => h9) rfl dX4_worth_142 ?_
            refine lv_iload hx hb dX4_worth_145 (lv_at hl 0 rfl) ?_
            refine ldI hx hb hE hP 17 rfl (vp_in_iff.mpr ⟨by omega, by omega⟩) rfl rfl dX4_worth_147 ?_
            refine lv_topi (fun t29 et29 => ?_)
            refine lv_istore (lv' := [(9, .int t29), (8, .int l8_16), (7, .int l7_16), (0, .ref (x 15)), (1, .int p1), (2, .int p2), (3, .int p3), (4, .int p4), (5, .int p5), (6, .int p6)]) hx hb dX4_worth_148 hl (by decide) rfl (fun ls hl => ?_)
            refine lv_iload hx hb dX4_worth_150 (lv_at hl 0 rfl) ?_
            refine lv_iconst (v := 2) hx hb dX4_worth_152 (by decide) ?_
            refine lv_icmp_eq (tgt := 170) hx hb dX4_worth_153 (by decide) (fun c30 => ?_) (fun c30 => ?_)
            · skip
              have zc30 : t29.toInt = 2 := by rw [fa_eq, show (2 : Int32).toInt = 2 from by decide] at c30; exact c30
              refine lv_iload hx hb dX4_worth_170 (lv_at hl 2 rfl) ?_
              refine lv_bipush (v := 30) hx hb dX4_worth_172 (by decide) ?_
              refine lv_icmp_ge (tgt := 299) hx hb dX4_worth_174 (by decide) (fun c31 => ?_) (fun c31 => ?_)
              · skip
                have zc31 : 30 ≤ l7_16.toInt := by rw [fa_le, show (30 : Int32).toInt = 30 from by decide] at c31; exact c31
                obtain ⟨t32, et32⟩ : ∃ y : Int32, y = l8_16 + 1 := ⟨_, rfl⟩
                have zt32 : t32.toInt = l8_16.toInt + 1 := by rw [et32]; exact add_i rfl (by decide) (by omega) (by omega)
                refine lv_iinc (v := t32) (lv' := [(8, .int t32), (9, .int t29), (7, .int l7_16), (0, .ref (x 15)), (1, .int p1), (2, .int p2), (3, .int p3), (4, .int p4), (5, .int p5), (6, .int p6)]) hx hb dX4_worth_299 hl (k := 1) rfl (by rw [et32]; rfl) (by decide) rfl (fun ls hl => ?_)
                refine lv_goto (tgt := 124) hx hb dX4_worth_302 (by decide) ?_
                have rg33 := fb_rng l7_16
                have rg34 := fb_rng t32
                exact ih16 l7_16 t32 v16 f16 hIv16 hq0_v16 hq1_v16 hq7_v16 hq8_v16 hq9_v16 hq10_v16 hq31_v16 hq32_v16 ⟨show (0 : Int) ≤ l7_16.toInt by omega, show l7_16.toInt ≤ (30 : Int) by omega⟩ ⟨show (0 : Int) ≤ t32.toInt by omega, show t32.toInt ≤ (2147483647 : Int) by omega⟩ hM_v16 hA_f16 (by show (2147483647 - t32.toInt).toNat < n16; omega) _ _ _ hP hD hS (lv_sub hl [0, 2, 3, 4, 5, 6, 7, 8, 9] rfl)
              · skip
                have zc31 : ¬ (30 ≤ l7_16.toInt) := by rw [fa_le, show (30 : Int32).toInt = 30 from by decide] at c31; exact c31
                refine lv_aload_n hx hb dX4_worth_177 rfl (lv_at hl 3 rfl) ?_
                refine va_get (D := (dC, dI)) (ci := 4) (v := .ref (x 18)) (C := RX4) (T := TX4) (N := 6) hx hb hts inB_4 hown hE.1 hP 16 rfl rfl 2 (by decide) (hts _ k_180) (fun _ h9 => h9) rfl dX4_worth_178 ?_
                refine lv_iload hx hb dX4_worth_181 (lv_at hl 2 rfl) ?_
                refine lv_iload hx hb dX4_worth_183 (lv_at hl 0 rfl) ?_
                refine lv_iconst (v := 2) hx hb dX4_worth_185 (by decide) ?_
                refine lv_icmp_ne (tgt := 199) hx hb dX4_worth_186 (by decide) (fun c35 => ?_) (fun c35 => ?_)
                · skip
                  have zc35 : ¬ (t29.toInt = 2) := by rw [fa_eq, show (2 : Int32).toInt = 2 from by decide] at c35; exact c35
                  refine lv_aload_n hx hb dX4_worth_199 rfl (lv_at hl 3 rfl) ?_
                  refine va_get (D := (dC, dI)) (ci := 4) (v := .ref (x 19)) (C := RX4) (T := TX4) (N := 6) hx hb hts inB_4 hown hE.1 hP 16 rfl rfl 3 (by decide) (hts _ k_181) (fun _ h9 => h9) rfl dX4_worth_200 ?_
                  refine lv_iload hx hb dX4_worth_203 (lv_at hl 0 rfl) ?_
                  refine lv_bipush (v := 116) hx hb dX4_worth_205 (by decide) ?_
                  refine lv_isub hx hb dX4_worth_207 ?_
                  refine lv_topi (fun t36 et36 => ?_)
                  have rg37 := fb_rng t29
                  have zt36 : t36.toInt = t29.toInt - 116 := by rw [et36]; exact sub_i rfl (by decide) (by omega) (by omega)
                  refine ldI hx hb hE hP 20 rfl (vp_in_iff.mpr ⟨by omega, by omega⟩) rfl rfl dX4_worth_208 ?_
                  refine lv_topi (fun t38 et38 => ?_)
                  refine stI hx hb hE hP hD hS 19 rfl (vp_in_iff.mpr ⟨by omega, by omega⟩) rfl dX4_worth_209 (fun H locs hP hD hS => ?_)
                  obtain ⟨f39, ef39, hP, hD⟩ : ∃ fz9, fz9 = upd2 f16 13 (upd (f16 13) l7_16.toNatClampNeg t38) ∧ va_P (dC, dI) vwCl (XW cy x0 x v16 fz9) H ∧ va_D A (XW cy x0 x v16 fz9) := ⟨_, rfl, hP, hD⟩
                  have hA_f39 : KF [13, 14] f39 f := by rw [ef39]; exact KF.up hA_f16 rfl
                  obtain ⟨t40, et40⟩ : ∃ y : Int32, y = l7_16 + 1 := ⟨_, rfl⟩
                  have rg41 := fb_rng l7_16
                  have zt40 : t40.toInt = l7_16.toInt + 1 := by rw [et40]; exact add_i rfl (by decide) (by omega) (by omega)
                  refine lv_iinc (v := t40) (lv' := [(7, .int t40), (9, .int t29), (8, .int l8_16), (0, .ref (x 15)), (1, .int p1), (2, .int p2), (3, .int p3), (4, .int p4), (5, .int p5), (6, .int p6)]) hx hb dX4_worth_210 hl (k := 2) rfl (by rw [et40]; rfl) (by decide) rfl (fun ls hl => ?_)
                  refine lv_goto (tgt := 299) hx hb dX4_worth_213 (by decide) ?_
                  obtain ⟨t42, et42⟩ : ∃ y : Int32, y = l8_16 + 1 := ⟨_, rfl⟩
                  have zt42 : t42.toInt = l8_16.toInt + 1 := by rw [et42]; exact add_i rfl (by decide) (by omega) (by omega)
                  refine lv_iinc (v := t42) (lv' := [(8, .int t42), (7, .int t40), (9, .int t29), (0, .ref (x 15)), (1, .int p1), (2, .int p2), (3, .int p3), (4, .int p4), (5, .int p5), (6, .int p6)]) hx hb dX4_worth_299 hl (k := 2) rfl (by rw [et42]; rfl) (by decide) rfl (fun ls hl => ?_)
                  refine lv_goto (tgt := 124) hx hb dX4_worth_302 (by decide) ?_
                  have rg43 := fb_rng t40
                  have rg44 := fb_rng t42
                  exact ih16 t40 t42 v16 f39 hIv16 hq0_v16 hq1_v16 hq7_v16 hq8_v16 hq9_v16 hq10_v16 hq31_v16 hq32_v16 ⟨show (0 : Int) ≤ t40.toInt by omega, show t40.toInt ≤ (30 : Int) by omega⟩ ⟨show (0 : Int) ≤ t42.toInt by omega, show t42.toInt ≤ (2147483647 : Int) by omega⟩ hM_v16 hA_f39 (by show (2147483647 - t42.toInt).toNat < n16; omega) _ _ _ hP hD hS (lv_sub hl [0, 1, 3, 4, 5, 6, 7, 8, 9] rfl)
                · skip
                  have zc35 : t29.toInt = 2 := by rw [fa_eq, show (2 : Int32).toInt = 2 from by decide] at c35; exact c35
                  refine lv_aload_n hx hb dX4_worth_189 rfl (lv_at hl 3 rfl) ?_
                  refine va_get (D := (dC, dI)) (ci := 4) (v := .ref (x 17)) (C := RX4) (T := TX4) (N := 6) hx hb hts inB_4 hown hE.1 hP 16 rfl rfl 1 (by decide) (hts _ k_179) (fun _ h9 => h9) rfl dX4_worth_190 ?_
                  refine lv_iload hx hb dX4_worth_193 (lv_at hl 1 rfl) ?_
                  refine ldI hx hb hE hP 18 rfl (vp_in_iff.mpr ⟨by omega, by omega⟩) rfl rfl dX4_worth_195 ?_
                  refine lv_topi (fun t45 et45 => ?_)
                  refine lv_goto (tgt := 209) hx hb dX4_worth_196 (by decide) ?_
                  refine stI hx hb hE hP hD hS 19 rfl (vp_in_iff.mpr ⟨by omega, by omega⟩) rfl dX4_worth_209 (fun H locs hP hD hS => ?_)
                  obtain ⟨f46, ef46, hP, hD⟩ : ∃ fz9, fz9 = upd2 f16 13 (upd (f16 13) l7_16.toNatClampNeg t45) ∧ va_P (dC, dI) vwCl (XW cy x0 x v16 fz9) H ∧ va_D A (XW cy x0 x v16 fz9) := ⟨_, rfl, hP, hD⟩
                  have hA_f46 : KF [13, 14] f46 f := by rw [ef46]; exact KF.up hA_f16 rfl
                  obtain ⟨t47, et47⟩ : ∃ y : Int32, y = l7_16 + 1 := ⟨_, rfl⟩
                  have rg48 := fb_rng l7_16
                  have zt47 : t47.toInt = l7_16.toInt + 1 := by rw [et47]; exact add_i rfl (by decide) (by omega) (by omega)
                  refine lv_iinc (v := t47) (lv' := [(7, .int t47), (9, .int t29), (8, .int l8_16), (0, .ref (x 15)), (1, .int p1), (2, .int p2), (3, .int p3), (4, .int p4), (5, .int p5), (6, .int p6)]) hx hb dX4_worth_210 hl (k := 2) rfl (by rw [et47]; rfl) (by decide) rfl (fun ls hl => ?_)
                  refine lv_goto (tgt := 299) hx hb dX4_worth_213 (by decide) ?_
                  obtain ⟨t49, et49⟩ : ∃ y : Int32, y = l8_16 + 1 := ⟨_, rfl⟩
                  have zt49 : t49.toInt = l8_16.toInt + 1 := by rw [et49]; exact add_i rfl (by decide) (by omega) (by omega)
                  refine lv_iinc (v := t49) (lv' := [(8, .int t49), (7, .int t47), (9, .int t29), (0, .ref (x 15)), (1, .int p1), (2, .int p2), (3, .int p3), (4, .int p4), (5, .int p5), (6, .int p6)]) hx hb dX4_worth_299 hl (k := 2) rfl (by rw [et49]; rfl) (by decide) rfl (fun ls hl => ?_)
                  refine lv_goto (tgt := 124) hx hb dX4_worth_302 (by decide) ?_
                  have rg50 := fb_rng t47
                  have rg51 := fb_rng t49
                  exact ih16 t47 t49 v16 f46 hIv16 hq0_v16 hq1_v16 hq7_v16 hq8_v16 hq9_v16 hq10_v16 hq31_v16 hq32_v16 ⟨show (0 : Int) ≤ t47.toInt by omega, show t47.toInt ≤ (30 : Int) by omega⟩ ⟨show (0 : Int) ≤ t49.toInt by omega, show t49.toInt ≤ (2147483647 : Int) by omega⟩ hM_v16 hA_f46 (by show (2147483647 - t49.toInt).toNat < n16; omega) _ _ _ hP hD hS (lv_sub hl [0, 1, 3, 4, 5, 6, 7, 8, 9] rfl)
            · skip
              have zc30 : ¬ (t29.toInt = 2) := by rw [fa_eq, show (2 : Int32).toInt = 2 from by decide] at c30; exact c30
              refine lv_iload hx hb dX4_worth_156 (lv_at hl 0 rfl) ?_
              refine lv_bipush (v := 116) hx hb dX4_worth_158 (by decide) ?_
              refine lv_icmp_lt (tgt := 216) hx hb dX4_worth_160 (by decide) (fun c52 => ?_) (fun c52 => ?_)
              · skip
                have zc52 : t29.toInt < 116 := by rw [fa_lt, show (116 : Int32).toInt = 116 from by decide] at c52; exact c52
                refine lv_iload hx hb dX4_worth_216 (lv_at hl 0 rfl) ?_
                refine lv_bipush (v := 115) hx hb dX4_worth_218 (by decide) ?_
                refine lv_icmp_ne (tgt := 258) hx hb dX4_worth_220 (by decide) (fun c53 => ?_) (fun c53 => ?_)
                · skip
                  have zc53 : ¬ (t29.toInt = 115) := by rw [fa_eq, show (115 : Int32).toInt = 115 from by decide] at c53; exact c53
                  refine lv_iload hx hb dX4_worth_258 (lv_at hl 2 rfl) ?_
                  refine lv_iconst (v := 2) hx hb dX4_worth_260 (by decide) ?_
                  refine lv_icmp_lt (tgt := 299) hx hb dX4_worth_261 (by decide) (fun c54 => ?_) (fun c54 => ?_)
                  · skip
                    have zc54 : l7_16.toInt < 2 := by rw [fa_lt, show (2 : Int32).toInt = 2 from by decide] at c54; exact c54
                    obtain ⟨t55, et55⟩ : ∃ y : Int32, y = l8_16 + 1 := ⟨_, rfl⟩
                    have zt55 : t55.toInt = l8_16.toInt + 1 := by rw [et55]; exact add_i rfl (by decide) (by omega) (by omega)
                    refine lv_iinc (v := t55) (lv' := [(8, .int t55), (9, .int t29), (7, .int l7_16), (0, .ref (x 15)), (1, .int p1), (2, .int p2), (3, .int p3), (4, .int p4), (5, .int p5), (6, .int p6)]) hx hb dX4_worth_299 hl (k := 1) rfl (by rw [et55]; rfl) (by decide) rfl (fun ls hl => ?_)
                    refine lv_goto (tgt := 124) hx hb dX4_worth_302 (by decide) ?_
                    have rg56 := fb_rng l7_16
                    have rg57 := fb_rng t55
                    exact ih16 l7_16 t55 v16 f16 hIv16 hq0_v16 hq1_v16 hq7_v16 hq8_v16 hq9_v16 hq10_v16 hq31_v16 hq32_v16 ⟨show (0 : Int) ≤ l7_16.toInt by omega, show l7_16.toInt ≤ (30 : Int) by omega⟩ ⟨show (0 : Int) ≤ t55.toInt by omega, show t55.toInt ≤ (2147483647 : Int) by omega⟩ hM_v16 hA_f16 (by show (2147483647 - t55.toInt).toNat < n16; omega) _ _ _ hP hD hS (lv_sub hl [0, 2, 3, 4, 5, 6, 7, 8, 9] rfl)
                  · skip
                    have zc54 : ¬ (l7_16.toInt < 2) := by rw [fa_lt, show (2 : Int32).toInt = 2 from by decide] at c54; exact c54
                    refine lv_aload_n hx hb dX4_worth_264 rfl (lv_at hl 3 rfl) ?_
                    refine va_get (D := (dC, dI)) (ci := 4) (v := .ref (x 18)) (C := RX4) (T := TX4) (N := 6) hx hb hts inB_4 hown hE.1 hP 16 rfl rfl 2 (by decide) (hts _ k_180) (fun _ h9 => h9) rfl dX4_worth_265 ?_
                    refine lv_iload hx hb dX4_worth_268 (lv_at hl 2 rfl) ?_
                    refine lv_iconst (v := 2) hx hb dX4_worth_270 (by decide) ?_
                    refine lv_isub hx hb dX4_worth_271 ?_
                    refine lv_topi (fun t58 et58 => ?_)
                    have rg59 := fb_rng l7_16
                    have zt58 : t58.toInt = l7_16.toInt - 2 := by rw [et58]; exact sub_i rfl (by decide) (by omega) (by omega)
                    refine lv_iload hx hb dX4_worth_272 (lv_at hl 0 rfl) ?_
                    refine lv_aload_n hx hb dX4_worth_274 rfl (lv_at hl 3 rfl) ?_
                    refine va_get (D := (dC, dI)) (ci := 4) (v := .ref (x 18)) (C := RX4) (T := TX4) (N := 6) hx hb hts inB_4 hown hE.1 hP 16 rfl rfl 2 (by decide) (hts _ k_180) (fun _ h9 => h9) rfl dX4_worth_275 ?_
                    refine lv_iload hx hb dX4_worth_278 (lv_at hl 2 rfl) ?_
                    refine lv_iconst (v := 2) hx hb dX4_worth_280 (by decide) ?_
                    refine lv_isub hx hb dX4_worth_281 ?_
                    refine tI (y := t58) et58.symm ?_
                    refine ldI hx hb hE hP 19 rfl (vp_in_iff.mpr ⟨by omega, by omega⟩) rfl rfl dX4_worth_282 ?_
                    refine lv_topi (fun t60 et60 => ?_)
                    refine lv_aload_n hx hb dX4_worth_283 rfl (lv_at hl 3 rfl) ?_
                    refine va_get (D := (dC, dI)) (ci := 4) (v := .ref (x 18)) (C := RX4) (T := TX4) (N := 6) hx hb hts inB_4 hown hE.1 hP 16 rfl rfl 2 (by decide) (hts _ k_180) (fun _ h9 => h9) rfl dX4_worth_284 ?_
                    refine lv_iload hx hb dX4_worth_287 (lv_at hl 2 rfl) ?_
                    refine lv_iconst (v := 1) hx hb dX4_worth_289 (by decide) ?_
                    refine lv_isub hx hb dX4_worth_290 ?_
                    refine lv_topi (fun t61 et61 => ?_)
                    have zt61 : t61.toInt = l7_16.toInt - 1 := by rw [et61]; exact sub_i rfl (by decide) (by omega) (by omega)
                    refine ldI hx hb hE hP 19 rfl (vp_in_iff.mpr ⟨by omega, by omega⟩) rfl rfl dX4_worth_291 ?_
                    refine lv_topi (fun t62 et62 => ?_)
                    refine cbSi (n := 3) (rest := [.int t58, .ref (x 18)]) hx hb hml hown hts hE hP hD hS hA (sX_X4_joined_1 l dC dI cy x0 x t29 t60 t62 v16 f16 hIv16 ) k_841 k_842 k_105 k_843 (by decide +kernel) ⟨Nat.le_of_ble_eq_true rfl, Nat.le_of_ble_eq_true rfl⟩ (rfl) hl.1 rfl (Nat.le_of_ble_eq_true rfl) dX4_worth_292 (fun r63 u H locs hw hP hD hS => ?_)
                    refine stI hx hb hE hP hD hS 19 rfl (vp_in_iff.mpr ⟨by omega, by omega⟩) rfl dX4_worth_295 (fun H locs hP hD hS => ?_)
                    obtain ⟨f64, ef64, hP, hD⟩ : ∃ fz9, fz9 = upd2 f16 13 (upd (f16 13) t58.toNatClampNeg r63) ∧ va_P (dC, dI) vwCl (XW cy x0 x v16 fz9) H ∧ va_D A (XW cy x0 x v16 fz9) := ⟨_, rfl, hP, hD⟩
                    have hA_f64 : KF [13, 14] f64 f := by rw [ef64]; exact KF.up hA_f16 rfl
                    obtain ⟨t65, et65⟩ : ∃ y : Int32, y = l7_16 + (-1) := ⟨_, rfl⟩
                    have zt65 : t65.toInt = l7_16.toInt + (-1) := by rw [et65]; exact add_i rfl (by decide) (by omega) (by omega)
                    refine lv_iinc (v := t65) (lv' := [(7, .int t65), (9, .int t29), (8, .int l8_16), (0, .ref (x 15)), (1, .int p1), (2, .int p2), (3, .int p3), (4, .int p4), (5, .int p5), (6, .int p6)]) hx hb dX4_worth_296 hl (k := 2) rfl (by rw [et65]; rfl) (by decide) rfl (fun ls hl => ?_)
                    obtain ⟨t66, et66⟩ : ∃ y : Int32, y = l8_16 + 1 := ⟨_, rfl⟩
                    have zt66 : t66.toInt = l8_16.toInt + 1 := by rw [et66]; exact add_i rfl (by decide) (by omega) (by omega)
                    refine lv_iinc (v := t66) (lv' := [(8, .int t66), (7, .int t65), (9, .int t29), (0, .ref (x 15)), (1, .int p1), (2, .int p2), (3, .int p3), (4, .int p4), (5, .int p5), (6, .int p6)]) hx hb dX4_worth_299 hl (k := 2) rfl (by rw [et66]; rfl) (by decide) rfl (fun ls hl => ?_)
                    refine lv_goto (tgt := 124) hx hb dX4_worth_302 (by decide) ?_
                    have rg67 := fb_rng t65
                    have rg68 := fb_rng t66
                    exact ih16 t65 t66 v16 f64 hIv16 hq0_v16 hq1_v16 hq7_v16 hq8_v16 hq9_v16 hq10_v16 hq31_v16 hq32_v16 ⟨show (0 : Int) ≤ t65.toInt by omega, show t65.toInt ≤ (30 : Int) by omega⟩ ⟨show (0 : Int) ≤ t66.toInt by omega, show t66.toInt ≤ (2147483647 : Int) by omega⟩ hM_v16 hA_f64 (by show (2147483647 - t66.toInt).toNat < n16; omega) _ _ _ hP hD hS (lv_sub hl [0, 1, 3, 4, 5, 6, 7, 8, 9] rfl)
                · skip
                  have zc53 : t29.toInt = 115 := by rw [fa_eq, show (115 : Int32).toInt = 115 from by decide] at c53; exact c53
                  refine lv_iload hx hb dX4_worth_223 (lv_at hl 2 rfl) ?_
                  refine lv_iconst (v := 1) hx hb dX4_worth_225 (by decide) ?_
                  refine lv_icmp_lt (tgt := 258) hx hb dX4_worth_226 (by decide) (fun c69 => ?_) (fun c69 => ?_)
                  · skip
                    have zc69 : l7_16.toInt < 1 := by rw [fa_lt, show (1 : Int32).toInt = 1 from by decide] at c69; exact c69
                    refine lv_iload hx hb dX4_worth_258 (lv_at hl 2 rfl) ?_
                    refine lv_iconst (v := 2) hx hb dX4_worth_260 (by decide) ?_
                    refine lv_icmp_lt (tgt := 299) hx hb dX4_worth_261 (by decide) (fun c70 => ?_) (fun c70 => ?_)
                    · skip
                      have zc70 : l7_16.toInt < 2 := by rw [fa_lt, show (2 : Int32).toInt = 2 from by decide] at c70; exact c70
                      obtain ⟨t71, et71⟩ : ∃ y : Int32, y = l8_16 + 1 := ⟨_, rfl⟩
                      have zt71 : t71.toInt = l8_16.toInt + 1 := by rw [et71]; exact add_i rfl (by decide) (by omega) (by omega)
                      refine lv_iinc (v := t71) (lv' := [(8, .int t71), (9, .int t29), (7, .int l7_16), (0, .ref (x 15)), (1, .int p1), (2, .int p2), (3, .int p3), (4, .int p4), (5, .int p5), (6, .int p6)]) hx hb dX4_worth_299 hl (k := 1) rfl (by rw [et71]; rfl) (by decide) rfl (fun ls hl => ?_)
                      refine lv_goto (tgt := 124) hx hb dX4_worth_302 (by decide) ?_
                      have rg72 := fb_rng l7_16
                      have rg73 := fb_rng t71
                      exact ih16 l7_16 t71 v16 f16 hIv16 hq0_v16 hq1_v16 hq7_v16 hq8_v16 hq9_v16 hq10_v16 hq31_v16 hq32_v16 ⟨show (0 : Int) ≤ l7_16.toInt by omega, show l7_16.toInt ≤ (30 : Int) by omega⟩ ⟨show (0 : Int) ≤ t71.toInt by omega, show t71.toInt ≤ (2147483647 : Int) by omega⟩ hM_v16 hA_f16 (by show (2147483647 - t71.toInt).toNat < n16; omega) _ _ _ hP hD hS (lv_sub hl [0, 2, 3, 4, 5, 6, 7, 8, 9] rfl)
                    · skip
                      have zc70 : ¬ (l7_16.toInt < 2) := by rw [fa_lt, show (2 : Int32).toInt = 2 from by decide] at c70; exact c70
                      refine lv_aload_n hx hb dX4_worth_264 rfl (lv_at hl 3 rfl) ?_
                      refine va_get (D := (dC, dI)) (ci := 4) (v := .ref (x 18)) (C := RX4) (T := TX4) (N := 6) hx hb hts inB_4 hown hE.1 hP 16 rfl rfl 2 (by decide) (hts _ k_180) (fun _ h9 => h9) rfl dX4_worth_265 ?_
                      refine lv_iload hx hb dX4_worth_268 (lv_at hl 2 rfl) ?_
                      refine lv_iconst (v := 2) hx hb dX4_worth_270 (by decide) ?_
                      refine lv_isub hx hb dX4_worth_271 ?_
                      refine lv_topi (fun t74 et74 => ?_)
                      have rg75 := fb_rng l7_16
                      have zt74 : t74.toInt = l7_16.toInt - 2 := by rw [et74]; exact sub_i rfl (by decide) (by omega) (by omega)
                      refine lv_iload hx hb dX4_worth_272 (lv_at hl 0 rfl) ?_
                      refine lv_aload_n hx hb dX4_worth_274 rfl (lv_at hl 3 rfl) ?_
                      refine va_get (D := (dC, dI)) (ci := 4) (v := .ref (x 18)) (C := RX4) (T := TX4) (N := 6) hx hb hts inB_4 hown hE.1 hP 16 rfl rfl 2 (by decide) (hts _ k_180) (fun _ h9 => h9) rfl dX4_worth_275 ?_
                      refine lv_iload hx hb dX4_worth_278 (lv_at hl 2 rfl) ?_
                      refine lv_iconst (v := 2) hx hb dX4_worth_280 (by decide) ?_
                      refine lv_isub hx hb dX4_worth_281 ?_
                      refine tI (y := t74) et74.symm ?_
                      refine ldI hx hb hE hP 19 rfl (vp_in_iff.mpr ⟨by omega, by omega⟩) rfl rfl dX4_worth_282 ?_
                      refine lv_topi (fun t76 et76 => ?_)
                      refine lv_aload_n hx hb dX4_worth_283 rfl (lv_at hl 3 rfl) ?_
                      refine va_get (D := (dC, dI)) (ci := 4) (v := .ref (x 18)) (C := RX4) (T := TX4) (N := 6) hx hb hts inB_4 hown hE.1 hP 16 rfl rfl 2 (by decide) (hts _ k_180) (fun _ h9 => h9) rfl dX4_worth_284 ?_
                      refine lv_iload hx hb dX4_worth_287 (lv_at hl 2 rfl) ?_
                      refine lv_iconst (v := 1) hx hb dX4_worth_289 (by decide) ?_
                      refine lv_isub hx hb dX4_worth_290 ?_
                      refine lv_topi (fun t77 et77 => ?_)
                      have zt77 : t77.toInt = l7_16.toInt - 1 := by rw [et77]; exact sub_i rfl (by decide) (by omega) (by omega)
                      refine ldI hx hb hE hP 19 rfl (vp_in_iff.mpr ⟨by omega, by omega⟩) rfl rfl dX4_worth_291 ?_
                      refine lv_topi (fun t78 et78 => ?_)
                      refine cbSi (n := 3) (rest := [.int t74, .ref (x 18)]) hx hb hml hown hts hE hP hD hS hA (sX_X4_joined_1 l dC dI cy x0 x t29 t76 t78 v16 f16 hIv16 ) k_841 k_842 k_105 k_843 (by decide +kernel) ⟨Nat.le_of_ble_eq_true rfl, Nat.le_of_ble_eq_true rfl⟩ (rfl) hl.1 rfl (Nat.le_of_ble_eq_true rfl) dX4_worth_292 (fun r79 u H locs hw hP hD hS => ?_)
                      refine stI hx hb hE hP hD hS 19 rfl (vp_in_iff.mpr ⟨by omega, by omega⟩) rfl dX4_worth_295 (fun H locs hP hD hS => ?_)
                      obtain ⟨f80, ef80, hP, hD⟩ : ∃ fz9, fz9 = upd2 f16 13 (upd (f16 13) t74.toNatClampNeg r79) ∧ va_P (dC, dI) vwCl (XW cy x0 x v16 fz9) H ∧ va_D A (XW cy x0 x v16 fz9) := ⟨_, rfl, hP, hD⟩
                      have hA_f80 : KF [13, 14] f80 f := by rw [ef80]; exact KF.up hA_f16 rfl
                      obtain ⟨t81, et81⟩ : ∃ y : Int32, y = l7_16 + (-1) := ⟨_, rfl⟩
                      have zt81 : t81.toInt = l7_16.toInt + (-1) := by rw [et81]; exact add_i rfl (by decide) (by omega) (by omega)
                      refine lv_iinc (v := t81) (lv' := [(7, .int t81), (9, .int t29), (8, .int l8_16), (0, .ref (x 15)), (1, .int p1), (2, .int p2), (3, .int p3), (4, .int p4), (5, .int p5), (6, .int p6)]) hx hb dX4_worth_296 hl (k := 2) rfl (by rw [et81]; rfl) (by decide) rfl (fun ls hl => ?_)
                      obtain ⟨t82, et82⟩ : ∃ y : Int32, y = l8_16 + 1 := ⟨_, rfl⟩
                      have zt82 : t82.toInt = l8_16.toInt + 1 := by rw [et82]; exact add_i rfl (by decide) (by omega) (by omega)
                      refine lv_iinc (v := t82) (lv' := [(8, .int t82), (7, .int t81), (9, .int t29), (0, .ref (x 15)), (1, .int p1), (2, .int p2), (3, .int p3), (4, .int p4), (5, .int p5), (6, .int p6)]) hx hb dX4_worth_299 hl (k := 2) rfl (by rw [et82]; rfl) (by decide) rfl (fun ls hl => ?_)
                      refine lv_goto (tgt := 124) hx hb dX4_worth_302 (by decide) ?_
                      have rg83 := fb_rng t81
                      have rg84 := fb_rng t82
                      exact ih16 t81 t82 v16 f80 hIv16 hq0_v16 hq1_v16 hq7_v16 hq8_v16 hq9_v16 hq10_v16 hq31_v16 hq32_v16 ⟨show (0 : Int) ≤ t81.toInt by omega, show t81.toInt ≤ (30 : Int) by omega⟩ ⟨show (0 : Int) ≤ t82.toInt by omega, show t82.toInt ≤ (2147483647 : Int) by omega⟩ hM_v16 hA_f80 (by show (2147483647 - t82.toInt).toNat < n16; omega) _ _ _ hP hD hS (lv_sub hl [0, 1, 3, 4, 5, 6, 7, 8, 9] rfl)
                  · skip
                    have zc69 : ¬ (l7_16.toInt < 1) := by rw [fa_lt, show (1 : Int32).toInt = 1 from by decide] at c69; exact c69
                    refine lv_aload_n hx hb dX4_worth_229 rfl (lv_at hl 3 rfl) ?_
                    refine va_get (D := (dC, dI)) (ci := 4) (v := .ref (x 18)) (C := RX4) (T := TX4) (N := 6) hx hb hts inB_4 hown hE.1 hP 16 rfl rfl 2 (by decide) (hts _ k_180) (fun _ h9 => h9) rfl dX4_worth_230 ?_
                    refine lv_iload hx hb dX4_worth_233 (lv_at hl 2 rfl) ?_
                    refine lv_iconst (v := 1) hx hb dX4_worth_235 (by decide) ?_
                    refine lv_isub hx hb dX4_worth_236 ?_
                    refine lv_topi (fun t85 et85 => ?_)
                    have rg86 := fb_rng l7_16
                    have zt85 : t85.toInt = l7_16.toInt - 1 := by rw [et85]; exact sub_i rfl (by decide) (by omega) (by omega)
                    refine lv_aload_n hx hb dX4_worth_237 rfl (lv_at hl 3 rfl) ?_
                    refine va_get (D := (dC, dI)) (ci := 4) (v := .ref (x 18)) (C := RX4) (T := TX4) (N := 6) hx hb hts inB_4 hown hE.1 hP 16 rfl rfl 2 (by decide) (hts _ k_180) (fun _ h9 => h9) rfl dX4_worth_238 ?_
                    refine lv_iload hx hb dX4_worth_241 (lv_at hl 2 rfl) ?_
                    refine lv_iconst (v := 1) hx hb dX4_worth_243 (by decide) ?_
                    refine lv_isub hx hb dX4_worth_244 ?_
                    refine tI (y := t85) et85.symm ?_
                    refine ldI hx hb hE hP 19 rfl (vp_in_iff.mpr ⟨by omega, by omega⟩) rfl rfl dX4_worth_245 ?_
                    refine lv_topi (fun t87 et87 => ?_)
                    refine lv_if_ne (tgt := 253) hx hb dX4_worth_246 (by decide) (fun c88 => ?_) (fun c88 => ?_)
                    · skip
                      have zc88 : ¬ (t87.toInt = 0) := by rw [fa_eq, show (0 : Int32).toInt = 0 from by decide] at c88; exact c88
                      refine lv_iconst (v := 0) hx hb dX4_worth_253 (by decide) ?_
                      refine stI hx hb hE hP hD hS 19 rfl (vp_in_iff.mpr ⟨by omega, by omega⟩) rfl dX4_worth_254 (fun H locs hP hD hS => ?_)
                      obtain ⟨f89, ef89, hP, hD⟩ : ∃ fz9, fz9 = upd2 f16 13 (upd (f16 13) t85.toNatClampNeg 0) ∧ va_P (dC, dI) vwCl (XW cy x0 x v16 fz9) H ∧ va_D A (XW cy x0 x v16 fz9) := ⟨_, rfl, hP, hD⟩
                      have hA_f89 : KF [13, 14] f89 f := by rw [ef89]; exact KF.up hA_f16 rfl
                      refine lv_goto (tgt := 299) hx hb dX4_worth_255 (by decide) ?_
                      obtain ⟨t90, et90⟩ : ∃ y : Int32, y = l8_16 + 1 := ⟨_, rfl⟩
                      have zt90 : t90.toInt = l8_16.toInt + 1 := by rw [et90]; exact add_i rfl (by decide) (by omega) (by omega)
                      refine lv_iinc (v := t90) (lv' := [(8, .int t90), (9, .int t29), (7, .int l7_16), (0, .ref (x 15)), (1, .int p1), (2, .int p2), (3, .int p3), (4, .int p4), (5, .int p5), (6, .int p6)]) hx hb dX4_worth_299 hl (k := 1) rfl (by rw [et90]; rfl) (by decide) rfl (fun ls hl => ?_)
                      refine lv_goto (tgt := 124) hx hb dX4_worth_302 (by decide) ?_
                      have rg91 := fb_rng t90
                      exact ih16 l7_16 t90 v16 f89 hIv16 hq0_v16 hq1_v16 hq7_v16 hq8_v16 hq9_v16 hq10_v16 hq31_v16 hq32_v16 ⟨show (0 : Int) ≤ l7_16.toInt by omega, show l7_16.toInt ≤ (30 : Int) by omega⟩ ⟨show (0 : Int) ≤ t90.toInt by omega, show t90.toInt ≤ (2147483647 : Int) by omega⟩ hM_v16 hA_f89 (by show (2147483647 - t90.toInt).toNat < n16; omega) _ _ _ hP hD hS (lv_sub hl [0, 2, 3, 4, 5, 6, 7, 8, 9] rfl)
                    · skip
                      have zc88 : t87.toInt = 0 := by rw [fa_eq, show (0 : Int32).toInt = 0 from by decide] at c88; exact c88
                      refine lv_iconst (v := 1) hx hb dX4_worth_249 (by decide) ?_
                      refine lv_goto (tgt := 254) hx hb dX4_worth_250 (by decide) ?_
                      refine stI hx hb hE hP hD hS 19 rfl (vp_in_iff.mpr ⟨by omega, by omega⟩) rfl dX4_worth_254 (fun H locs hP hD hS => ?_)
                      obtain ⟨f92, ef92, hP, hD⟩ : ∃ fz9, fz9 = upd2 f16 13 (upd (f16 13) t85.toNatClampNeg 1) ∧ va_P (dC, dI) vwCl (XW cy x0 x v16 fz9) H ∧ va_D A (XW cy x0 x v16 fz9) := ⟨_, rfl, hP, hD⟩
                      have hA_f92 : KF [13, 14] f92 f := by rw [ef92]; exact KF.up hA_f16 rfl
                      refine lv_goto (tgt := 299) hx hb dX4_worth_255 (by decide) ?_
                      obtain ⟨t93, et93⟩ : ∃ y : Int32, y = l8_16 + 1 := ⟨_, rfl⟩
                      have zt93 : t93.toInt = l8_16.toInt + 1 := by rw [et93]; exact add_i rfl (by decide) (by omega) (by omega)
                      refine lv_iinc (v := t93) (lv' := [(8, .int t93), (9, .int t29), (7, .int l7_16), (0, .ref (x 15)), (1, .int p1), (2, .int p2), (3, .int p3), (4, .int p4), (5, .int p5), (6, .int p6)]) hx hb dX4_worth_299 hl (k := 1) rfl (by rw [et93]; rfl) (by decide) rfl (fun ls hl => ?_)
                      refine lv_goto (tgt := 124) hx hb dX4_worth_302 (by decide) ?_
                      have rg94 := fb_rng t93
                      exact ih16 l7_16 t93 v16 f92 hIv16 hq0_v16 hq1_v16 hq7_v16 hq8_v16 hq9_v16 hq10_v16 hq31_v16 hq32_v16 ⟨show (0 : Int) ≤ l7_16.toInt by omega, show l7_16.toInt ≤ (30 : Int) by omega⟩ ⟨show (0 : Int) ≤ t93.toInt by omega, show t93.toInt ≤ (2147483647 : Int) by omega⟩ hM_v16 hA_f92 (by show (2147483647 - t93.toInt).toNat < n16; omega) _ _ _ hP hD hS (lv_sub hl [0, 2, 3, 4, 5, 6, 7, 8, 9] rfl)
              · skip
                have zc52 : ¬ (t29.toInt < 116) := by rw [fa_lt, show (116 : Int32).toInt = 116 from by decide] at c52; exact c52
                refine lv_iload hx hb dX4_worth_163 (lv_at hl 0 rfl) ?_
                refine lv_bipush (v := 122) hx hb dX4_worth_165 (by decide) ?_
                refine lv_icmp_ge (tgt := 216) hx hb dX4_worth_167 (by decide) (fun c95 => ?_) (fun c95 => ?_)
                · skip
                  have zc95 : 122 ≤ t29.toInt := by rw [fa_le, show (122 : Int32).toInt = 122 from by decide] at c95; exact c95
                  refine lv_iload hx hb dX4_worth_216 (lv_at hl 0 rfl) ?_
                  refine lv_bipush (v := 115) hx hb dX4_worth_218 (by decide) ?_
                  refine lv_icmp_ne (tgt := 258) hx hb dX4_worth_220 (by decide) (fun c96 => ?_) (fun c96 => ?_)
                  · skip
                    have zc96 : ¬ (t29.toInt = 115) := by rw [fa_eq, show (115 : Int32).toInt = 115 from by decide] at c96; exact c96
                    refine lv_iload hx hb dX4_worth_258 (lv_at hl 2 rfl) ?_
                    refine lv_iconst (v := 2) hx hb dX4_worth_260 (by decide) ?_
                    refine lv_icmp_lt (tgt := 299) hx hb dX4_worth_261 (by decide) (fun c97 => ?_) (fun c97 => ?_)
                    · skip
                      have zc97 : l7_16.toInt < 2 := by rw [fa_lt, show (2 : Int32).toInt = 2 from by decide] at c97; exact c97
                      obtain ⟨t98, et98⟩ : ∃ y : Int32, y = l8_16 + 1 := ⟨_, rfl⟩
                      have zt98 : t98.toInt = l8_16.toInt + 1 := by rw [et98]; exact add_i rfl (by decide) (by omega) (by omega)
                      refine lv_iinc (v := t98) (lv' := [(8, .int t98), (9, .int t29), (7, .int l7_16), (0, .ref (x 15)), (1, .int p1), (2, .int p2), (3, .int p3), (4, .int p4), (5, .int p5), (6, .int p6)]) hx hb dX4_worth_299 hl (k := 1) rfl (by rw [et98]; rfl) (by decide) rfl (fun ls hl => ?_)
                      refine lv_goto (tgt := 124) hx hb dX4_worth_302 (by decide) ?_
                      have rg99 := fb_rng l7_16
                      have rg100 := fb_rng t98
                      exact ih16 l7_16 t98 v16 f16 hIv16 hq0_v16 hq1_v16 hq7_v16 hq8_v16 hq9_v16 hq10_v16 hq31_v16 hq32_v16 ⟨show (0 : Int) ≤ l7_16.toInt by omega, show l7_16.toInt ≤ (30 : Int) by omega⟩ ⟨show (0 : Int) ≤ t98.toInt by omega, show t98.toInt ≤ (2147483647 : Int) by omega⟩ hM_v16 hA_f16 (by show (2147483647 - t98.toInt).toNat < n16; omega) _ _ _ hP hD hS (lv_sub hl [0, 2, 3, 4, 5, 6, 7, 8, 9] rfl)
                    · skip
                      have zc97 : ¬ (l7_16.toInt < 2) := by rw [fa_lt, show (2 : Int32).toInt = 2 from by decide] at c97; exact c97
                      refine lv_aload_n hx hb dX4_worth_264 rfl (lv_at hl 3 rfl) ?_
                      refine va_get (D := (dC, dI)) (ci := 4) (v := .ref (x 18)) (C := RX4) (T := TX4) (N := 6) hx hb hts inB_4 hown hE.1 hP 16 rfl rfl 2 (by decide) (hts _ k_180) (fun _ h9 => h9) rfl dX4_worth_265 ?_
                      refine lv_iload hx hb dX4_worth_268 (lv_at hl 2 rfl) ?_
                      refine lv_iconst (v := 2) hx hb dX4_worth_270 (by decide) ?_
                      refine lv_isub hx hb dX4_worth_271 ?_
                      refine lv_topi (fun t101 et101 => ?_)
                      have rg102 := fb_rng l7_16
                      have zt101 : t101.toInt = l7_16.toInt - 2 := by rw [et101]; exact sub_i rfl (by decide) (by omega) (by omega)
                      refine lv_iload hx hb dX4_worth_272 (lv_at hl 0 rfl) ?_
                      refine lv_aload_n hx hb dX4_worth_274 rfl (lv_at hl 3 rfl) ?_
                      refine va_get (D := (dC, dI)) (ci := 4) (v := .ref (x 18)) (C := RX4) (T := TX4) (N := 6) hx hb hts inB_4 hown hE.1 hP 16 rfl rfl 2 (by decide) (hts _ k_180) (fun _ h9 => h9) rfl dX4_worth_275 ?_
                      refine lv_iload hx hb dX4_worth_278 (lv_at hl 2 rfl) ?_
                      refine lv_iconst (v := 2) hx hb dX4_worth_280 (by decide) ?_
                      refine lv_isub hx hb dX4_worth_281 ?_
                      refine tI (y := t101) et101.symm ?_
                      refine ldI hx hb hE hP 19 rfl (vp_in_iff.mpr ⟨by omega, by omega⟩) rfl rfl dX4_worth_282 ?_
                      refine lv_topi (fun t103 et103 => ?_)
                      refine lv_aload_n hx hb dX4_worth_283 rfl (lv_at hl 3 rfl) ?_
                      refine va_get (D := (dC, dI)) (ci := 4) (v := .ref (x 18)) (C := RX4) (T := TX4) (N := 6) hx hb hts inB_4 hown hE.1 hP 16 rfl rfl 2 (by decide) (hts _ k_180) (fun _ h9 => h9) rfl dX4_worth_284 ?_
                      refine lv_iload hx hb dX4_worth_287 (lv_at hl 2 rfl) ?_
                      refine lv_iconst (v := 1) hx hb dX4_worth_289 (by decide) ?_
                      refine lv_isub hx hb dX4_worth_290 ?_
                      refine lv_topi (fun t104 et104 => ?_)
                      have zt104 : t104.toInt = l7_16.toInt - 1 := by rw [et104]; exact sub_i rfl (by decide) (by omega) (by omega)
                      refine ldI hx hb hE hP 19 rfl (vp_in_iff.mpr ⟨by omega, by omega⟩) rfl rfl dX4_worth_291 ?_
                      refine lv_topi (fun t105 et105 => ?_)
                      refine cbSi (n := 3) (rest := [.int t101, .ref (x 18)]) hx hb hml hown hts hE hP hD hS hA (sX_X4_joined_1 l dC dI cy x0 x t29 t103 t105 v16 f16 hIv16 ) k_841 k_842 k_105 k_843 (by decide +kernel) ⟨Nat.le_of_ble_eq_true rfl, Nat.le_of_ble_eq_true rfl⟩ (rfl) hl.1 rfl (Nat.le_of_ble_eq_true rfl) dX4_worth_292 (fun r106 u H locs hw hP hD hS => ?_)
                      refine stI hx hb hE hP hD hS 19 rfl (vp_in_iff.mpr ⟨by omega, by omega⟩) rfl dX4_worth_295 (fun H locs hP hD hS => ?_)
                      obtain ⟨f107, ef107, hP, hD⟩ : ∃ fz9, fz9 = upd2 f16 13 (upd (f16 13) t101.toNatClampNeg r106) ∧ va_P (dC, dI) vwCl (XW cy x0 x v16 fz9) H ∧ va_D A (XW cy x0 x v16 fz9) := ⟨_, rfl, hP, hD⟩
                      have hA_f107 : KF [13, 14] f107 f := by rw [ef107]; exact KF.up hA_f16 rfl
                      obtain ⟨t108, et108⟩ : ∃ y : Int32, y = l7_16 + (-1) := ⟨_, rfl⟩
                      have zt108 : t108.toInt = l7_16.toInt + (-1) := by rw [et108]; exact add_i rfl (by decide) (by omega) (by omega)
                      refine lv_iinc (v := t108) (lv' := [(7, .int t108), (9, .int t29), (8, .int l8_16), (0, .ref (x 15)), (1, .int p1), (2, .int p2), (3, .int p3), (4, .int p4), (5, .int p5), (6, .int p6)]) hx hb dX4_worth_296 hl (k := 2) rfl (by rw [et108]; rfl) (by decide) rfl (fun ls hl => ?_)
                      obtain ⟨t109, et109⟩ : ∃ y : Int32, y = l8_16 + 1 := ⟨_, rfl⟩
                      have zt109 : t109.toInt = l8_16.toInt + 1 := by rw [et109]; exact add_i rfl (by decide) (by omega) (by omega)
                      refine lv_iinc (v := t109) (lv' := [(8, .int t109), (7, .int t108), (9, .int t29), (0, .ref (x 15)), (1, .int p1), (2, .int p2), (3, .int p3), (4, .int p4), (5, .int p5), (6, .int p6)]) hx hb dX4_worth_299 hl (k := 2) rfl (by rw [et109]; rfl) (by decide) rfl (fun ls hl => ?_)
                      refine lv_goto (tgt := 124) hx hb dX4_worth_302 (by decide) ?_
                      have rg110 := fb_rng t108
                      have rg111 := fb_rng t109
                      exact ih16 t108 t109 v16 f107 hIv16 hq0_v16 hq1_v16 hq7_v16 hq8_v16 hq9_v16 hq10_v16 hq31_v16 hq32_v16 ⟨show (0 : Int) ≤ t108.toInt by omega, show t108.toInt ≤ (30 : Int) by omega⟩ ⟨show (0 : Int) ≤ t109.toInt by omega, show t109.toInt ≤ (2147483647 : Int) by omega⟩ hM_v16 hA_f107 (by show (2147483647 - t109.toInt).toNat < n16; omega) _ _ _ hP hD hS (lv_sub hl [0, 1, 3, 4, 5, 6, 7, 8, 9] rfl)
                  · skip
                    have zc96 : t29.toInt = 115 := by rw [fa_eq, show (115 : Int32).toInt = 115 from by decide] at c96; exact c96
                    refine lv_iload hx hb dX4_worth_223 (lv_at hl 2 rfl) ?_
                    refine lv_iconst (v := 1) hx hb dX4_worth_225 (by decide) ?_
                    refine lv_icmp_lt (tgt := 258) hx hb dX4_worth_226 (by decide) (fun c112 => ?_) (fun c112 => ?_)
                    · skip
                      have zc112 : l7_16.toInt < 1 := by rw [fa_lt, show (1 : Int32).toInt = 1 from by decide] at c112; exact c112
                      refine lv_iload hx hb dX4_worth_258 (lv_at hl 2 rfl) ?_
                      refine lv_iconst (v := 2) hx hb dX4_worth_260 (by decide) ?_
                      refine lv_icmp_lt (tgt := 299) hx hb dX4_worth_261 (by decide) (fun c113 => ?_) (fun c113 => ?_)
                      · skip
                        have zc113 : l7_16.toInt < 2 := by rw [fa_lt, show (2 : Int32).toInt = 2 from by decide] at c113; exact c113
                        obtain ⟨t114, et114⟩ : ∃ y : Int32, y = l8_16 + 1 := ⟨_, rfl⟩
                        have zt114 : t114.toInt = l8_16.toInt + 1 := by rw [et114]; exact add_i rfl (by decide) (by omega) (by omega)
                        refine lv_iinc (v := t114) (lv' := [(8, .int t114), (9, .int t29), (7, .int l7_16), (0, .ref (x 15)), (1, .int p1), (2, .int p2), (3, .int p3), (4, .int p4), (5, .int p5), (6, .int p6)]) hx hb dX4_worth_299 hl (k := 1) rfl (by rw [et114]; rfl) (by decide) rfl (fun ls hl => ?_)
                        refine lv_goto (tgt := 124) hx hb dX4_worth_302 (by decide) ?_
                        have rg115 := fb_rng l7_16
                        have rg116 := fb_rng t114
                        exact ih16 l7_16 t114 v16 f16 hIv16 hq0_v16 hq1_v16 hq7_v16 hq8_v16 hq9_v16 hq10_v16 hq31_v16 hq32_v16 ⟨show (0 : Int) ≤ l7_16.toInt by omega, show l7_16.toInt ≤ (30 : Int) by omega⟩ ⟨show (0 : Int) ≤ t114.toInt by omega, show t114.toInt ≤ (2147483647 : Int) by omega⟩ hM_v16 hA_f16 (by show (2147483647 - t114.toInt).toNat < n16; omega) _ _ _ hP hD hS (lv_sub hl [0, 2, 3, 4, 5, 6, 7, 8, 9] rfl)
                      · skip
                        have zc113 : ¬ (l7_16.toInt < 2) := by rw [fa_lt, show (2 : Int32).toInt = 2 from by decide] at c113; exact c113
                        refine lv_aload_n hx hb dX4_worth_264 rfl (lv_at hl 3 rfl) ?_
                        refine va_get (D := (dC, dI)) (ci := 4) (v := .ref (x 18)) (C := RX4) (T := TX4) (N := 6) hx hb hts inB_4 hown hE.1 hP 16 rfl rfl 2 (by decide) (hts _ k_180) (fun _ h9 => h9) rfl dX4_worth_265 ?_
                        refine lv_iload hx hb dX4_worth_268 (lv_at hl 2 rfl) ?_
                        refine lv_iconst (v := 2) hx hb dX4_worth_270 (by decide) ?_
                        refine lv_isub hx hb dX4_worth_271 ?_
                        refine lv_topi (fun t117 et117 => ?_)
                        have rg118 := fb_rng l7_16
                        have zt117 : t117.toInt = l7_16.toInt - 2 := by rw [et117]; exact sub_i rfl (by decide) (by omega) (by omega)
                        refine lv_iload hx hb dX4_worth_272 (lv_at hl 0 rfl) ?_
                        refine lv_aload_n hx hb dX4_worth_274 rfl (lv_at hl 3 rfl) ?_
                        refine va_get (D := (dC, dI)) (ci := 4) (v := .ref (x 18)) (C := RX4) (T := TX4) (N := 6) hx hb hts inB_4 hown hE.1 hP 16 rfl rfl 2 (by decide) (hts _ k_180) (fun _ h9 => h9) rfl dX4_worth_275 ?_
                        refine lv_iload hx hb dX4_worth_278 (lv_at hl 2 rfl) ?_
                        refine lv_iconst (v := 2) hx hb dX4_worth_280 (by decide) ?_
                        refine lv_isub hx hb dX4_worth_281 ?_
                        refine tI (y := t117) et117.symm ?_
                        refine ldI hx hb hE hP 19 rfl (vp_in_iff.mpr ⟨by omega, by omega⟩) rfl rfl dX4_worth_282 ?_
                        refine lv_topi (fun t119 et119 => ?_)
                        refine lv_aload_n hx hb dX4_worth_283 rfl (lv_at hl 3 rfl) ?_
                        refine va_get (D := (dC, dI)) (ci := 4) (v := .ref (x 18)) (C := RX4) (T := TX4) (N := 6) hx hb hts inB_4 hown hE.1 hP 16 rfl rfl 2 (by decide) (hts _ k_180) (fun _ h9 => h9) rfl dX4_worth_284 ?_
                        refine lv_iload hx hb dX4_worth_287 (lv_at hl 2 rfl) ?_
                        refine lv_iconst (v := 1) hx hb dX4_worth_289 (by decide) ?_
                        refine lv_isub hx hb dX4_worth_290 ?_
                        refine lv_topi (fun t120 et120 => ?_)
                        have zt120 : t120.toInt = l7_16.toInt - 1 := by rw [et120]; exact sub_i rfl (by decide) (by omega) (by omega)
                        refine ldI hx hb hE hP 19 rfl (vp_in_iff.mpr ⟨by omega, by omega⟩) rfl rfl dX4_worth_291 ?_
                        refine lv_topi (fun t121 et121 => ?_)
                        refine cbSi (n := 3) (rest := [.int t117, .ref (x 18)]) hx hb hml hown hts hE hP hD hS hA (sX_X4_joined_1 l dC dI cy x0 x t29 t119 t121 v16 f16 hIv16 ) k_841 k_842 k_105 k_843 (by decide +kernel) ⟨Nat.le_of_ble_eq_true rfl, Nat.le_of_ble_eq_true rfl⟩ (rfl) hl.1 rfl (Nat.le_of_ble_eq_true rfl) dX4_worth_292 (fun r122 u H locs hw hP hD hS => ?_)
                        refine stI hx hb hE hP hD hS 19 rfl (vp_in_iff.mpr ⟨by omega, by omega⟩) rfl dX4_worth_295 (fun H locs hP hD hS => ?_)
                        obtain ⟨f123, ef123, hP, hD⟩ : ∃ fz9, fz9 = upd2 f16 13 (upd (f16 13) t117.toNatClampNeg r122) ∧ va_P (dC, dI) vwCl (XW cy x0 x v16 fz9) H ∧ va_D A (XW cy x0 x v16 fz9) := ⟨_, rfl, hP, hD⟩
                        have hA_f123 : KF [13, 14] f123 f := by rw [ef123]; exact KF.up hA_f16 rfl
                        obtain ⟨t124, et124⟩ : ∃ y : Int32, y = l7_16 + (-1) := ⟨_, rfl⟩
                        have zt124 : t124.toInt = l7_16.toInt + (-1) := by rw [et124]; exact add_i rfl (by decide) (by omega) (by omega)
                        refine lv_iinc (v := t124) (lv' := [(7, .int t124), (9, .int t29), (8, .int l8_16), (0, .ref (x 15)), (1, .int p1), (2, .int p2), (3, .int p3), (4, .int p4), (5, .int p5), (6, .int p6)]) hx hb dX4_worth_296 hl (k := 2) rfl (by rw [et124]; rfl) (by decide) rfl (fun ls hl => ?_)
                        obtain ⟨t125, et125⟩ : ∃ y : Int32, y = l8_16 + 1 := ⟨_, rfl⟩
                        have zt125 : t125.toInt = l8_16.toInt + 1 := by rw [et125]; exact add_i rfl (by decide) (by omega) (by omega)
                        refine lv_iinc (v := t125) (lv' := [(8, .int t125), (7, .int t124), (9, .int t29), (0, .ref (x 15)), (1, .int p1), (2, .int p2), (3, .int p3), (4, .int p4), (5, .int p5), (6, .int p6)]) hx hb dX4_worth_299 hl (k := 2) rfl (by rw [et125]; rfl) (by decide) rfl (fun ls hl => ?_)
                        refine lv_goto (tgt := 124) hx hb dX4_worth_302 (by decide) ?_
                        have rg126 := fb_rng t124
                        have rg127 := fb_rng t125
                        exact ih16 t124 t125 v16 f123 hIv16 hq0_v16 hq1_v16 hq7_v16 hq8_v16 hq9_v16 hq10_v16 hq31_v16 hq32_v16 ⟨show (0 : Int) ≤ t124.toInt by omega, show t124.toInt ≤ (30 : Int) by omega⟩ ⟨show (0 : Int) ≤ t125.toInt by omega, show t125.toInt ≤ (2147483647 : Int) by omega⟩ hM_v16 hA_f123 (by show (2147483647 - t125.toInt).toNat < n16; omega) _ _ _ hP hD hS (lv_sub hl [0, 1, 3, 4, 5, 6, 7, 8, 9] rfl)
                    · skip
                      have zc112 : ¬ (l7_16.toInt < 1) := by rw [fa_lt, show (1 : Int32).toInt = 1 from by decide] at c112; exact c112
                      refine lv_aload_n hx hb dX4_worth_229 rfl (lv_at hl 3 rfl) ?_
                      refine va_get (D := (dC, dI)) (ci := 4) (v := .ref (x 18)) (C := RX4) (T := TX4) (N := 6) hx hb hts inB_4 hown hE.1 hP 16 rfl rfl 2 (by decide) (hts _ k_180) (fun _ h9 => h9) rfl dX4_worth_230 ?_
                      refine lv_iload hx hb dX4_worth_233 (lv_at hl 2 rfl) ?_
                      refine lv_iconst (v := 1) hx hb dX4_worth_235 (by decide) ?_
                      refine lv_isub hx hb dX4_worth_236 ?_
                      refine lv_topi (fun t128 et128 => ?_)
                      have rg129 := fb_rng l7_16
                      have zt128 : t128.toInt = l7_16.toInt - 1 := by rw [et128]; exact sub_i rfl (by decide) (by omega) (by omega)
                      refine lv_aload_n hx hb dX4_worth_237 rfl (lv_at hl 3 rfl) ?_
                      refine va_get (D := (dC, dI)) (ci := 4) (v := .ref (x 18)) (C := RX4) (T := TX4) (N := 6) hx hb hts inB_4 hown hE.1 hP 16 rfl rfl 2 (by decide) (hts _ k_180) (fun _ h9 => h9) rfl dX4_worth_238 ?_
                      refine lv_iload hx hb dX4_worth_241 (lv_at hl 2 rfl) ?_
                      refine lv_iconst (v := 1) hx hb dX4_worth_243 (by decide) ?_
                      refine lv_isub hx hb dX4_worth_244 ?_
                      refine tI (y := t128) et128.symm ?_
                      refine ldI hx hb hE hP 19 rfl (vp_in_iff.mpr ⟨by omega, by omega⟩) rfl rfl dX4_worth_245 ?_
                      refine lv_topi (fun t130 et130 => ?_)
                      refine lv_if_ne (tgt := 253) hx hb dX4_worth_246 (by decide) (fun c131 => ?_) (fun c131 => ?_)
                      · skip
                        have zc131 : ¬ (t130.toInt = 0) := by rw [fa_eq, show (0 : Int32).toInt = 0 from by decide] at c131; exact c131
                        refine lv_iconst (v := 0) hx hb dX4_worth_253 (by decide) ?_
                        refine stI hx hb hE hP hD hS 19 rfl (vp_in_iff.mpr ⟨by omega, by omega⟩) rfl dX4_worth_254 (fun H locs hP hD hS => ?_)
                        obtain ⟨f132, ef132, hP, hD⟩ : ∃ fz9, fz9 = upd2 f16 13 (upd (f16 13) t128.toNatClampNeg 0) ∧ va_P (dC, dI) vwCl (XW cy x0 x v16 fz9) H ∧ va_D A (XW cy x0 x v16 fz9) := ⟨_, rfl, hP, hD⟩
                        have hA_f132 : KF [13, 14] f132 f := by rw [ef132]; exact KF.up hA_f16 rfl
                        refine lv_goto (tgt := 299) hx hb dX4_worth_255 (by decide) ?_
                        obtain ⟨t133, et133⟩ : ∃ y : Int32, y = l8_16 + 1 := ⟨_, rfl⟩
                        have zt133 : t133.toInt = l8_16.toInt + 1 := by rw [et133]; exact add_i rfl (by decide) (by omega) (by omega)
                        refine lv_iinc (v := t133) (lv' := [(8, .int t133), (9, .int t29), (7, .int l7_16), (0, .ref (x 15)), (1, .int p1), (2, .int p2), (3, .int p3), (4, .int p4), (5, .int p5), (6, .int p6)]) hx hb dX4_worth_299 hl (k := 1) rfl (by rw [et133]; rfl) (by decide) rfl (fun ls hl => ?_)
                        refine lv_goto (tgt := 124) hx hb dX4_worth_302 (by decide) ?_
                        have rg134 := fb_rng t133
                        exact ih16 l7_16 t133 v16 f132 hIv16 hq0_v16 hq1_v16 hq7_v16 hq8_v16 hq9_v16 hq10_v16 hq31_v16 hq32_v16 ⟨show (0 : Int) ≤ l7_16.toInt by omega, show l7_16.toInt ≤ (30 : Int) by omega⟩ ⟨show (0 : Int) ≤ t133.toInt by omega, show t133.toInt ≤ (2147483647 : Int) by omega⟩ hM_v16 hA_f132 (by show (2147483647 - t133.toInt).toNat < n16; omega) _ _ _ hP hD hS (lv_sub hl [0, 2, 3, 4, 5, 6, 7, 8, 9] rfl)
                      · skip
                        have zc131 : t130.toInt = 0 := by rw [fa_eq, show (0 : Int32).toInt = 0 from by decide] at c131; exact c131
                        refine lv_iconst (v := 1) hx hb dX4_worth_249 (by decide) ?_
                        refine lv_goto (tgt := 254) hx hb dX4_worth_250 (by decide) ?_
                        refine stI hx hb hE hP hD hS 19 rfl (vp_in_iff.mpr ⟨by omega, by omega⟩) rfl dX4_worth_254 (fun H locs hP hD hS => ?_)
                        obtain ⟨f135, ef135, hP, hD⟩ : ∃ fz9, fz9 = upd2 f16 13 (upd (f16 13) t128.toNatClampNeg 1) ∧ va_P (dC, dI) vwCl (XW cy x0 x v16 fz9) H ∧ va_D A (XW cy x0 x v16 fz9) := ⟨_, rfl, hP, hD⟩
                        have hA_f135 : KF [13, 14] f135 f := by rw [ef135]; exact KF.up hA_f16 rfl
                        refine lv_goto (tgt := 299) hx hb dX4_worth_255 (by decide) ?_
                        obtain ⟨t136, et136⟩ : ∃ y : Int32, y = l8_16 + 1 := ⟨_, rfl⟩
                        have zt136 : t136.toInt = l8_16.toInt + 1 := by rw [et136]; exact add_i rfl (by decide) (by omega) (by omega)
                        refine lv_iinc (v := t136) (lv' := [(8, .int t136), (9, .int t29), (7, .int l7_16), (0, .ref (x 15)), (1, .int p1), (2, .int p2), (3, .int p3), (4, .int p4), (5, .int p5), (6, .int p6)]) hx hb dX4_worth_299 hl (k := 1) rfl (by rw [et136]; rfl) (by decide) rfl (fun ls hl => ?_)
                        refine lv_goto (tgt := 124) hx hb dX4_worth_302 (by decide) ?_
                        have rg137 := fb_rng t136
                        exact ih16 l7_16 t136 v16 f135 hIv16 hq0_v16 hq1_v16 hq7_v16 hq8_v16 hq9_v16 hq10_v16 hq31_v16 hq32_v16 ⟨show (0 : Int) ≤ l7_16.toInt by omega, show l7_16.toInt ≤ (30 : Int) by omega⟩ ⟨show (0 : Int) ≤ t136.toInt by omega, show t136.toInt ≤ (2147483647 : Int) by omega⟩ hM_v16 hA_f135 (by show (2147483647 - t136.toInt).toNat < n16; omega) _ _ _ hP hD hS (lv_sub hl [0, 2, 3, 4, 5, 6, 7, 8, 9] rfl)
                · skip
                  have zc95 : ¬ (122 ≤ t29.toInt) := by rw [fa_le, show (122 : Int32).toInt = 122 from by decide] at c95; exact c95
                  refine lv_iload hx hb dX4_worth_170 (lv_at hl 2 rfl) ?_
                  refine lv_bipush (v := 30) hx hb dX4_worth_172 (by decide) ?_
                  refine lv_icmp_ge (tgt := 299) hx hb dX4_worth_174 (by decide) (fun c138 => ?_) (fun c138 => ?_)
                  · skip
                    have zc138 : 30 ≤ l7_16.toInt := by rw [fa_le, show (30 : Int32).toInt = 30 from by decide] at c138; exact c138
                    obtain ⟨t139, et139⟩ : ∃ y : Int32, y = l8_16 + 1 := ⟨_, rfl⟩
                    have zt139 : t139.toInt = l8_16.toInt + 1 := by rw [et139]; exact add_i rfl (by decide) (by omega) (by omega)
                    refine lv_iinc (v := t139) (lv' := [(8, .int t139), (9, .int t29), (7, .int l7_16), (0, .ref (x 15)), (1, .int p1), (2, .int p2), (3, .int p3), (4, .int p4), (5, .int p5), (6, .int p6)]) hx hb dX4_worth_299 hl (k := 1) rfl (by rw [et139]; rfl) (by decide) rfl (fun ls hl => ?_)
                    refine lv_goto (tgt := 124) hx hb dX4_worth_302 (by decide) ?_
                    have rg140 := fb_rng l7_16
                    have rg141 := fb_rng t139
                    exact ih16 l7_16 t139 v16 f16 hIv16 hq0_v16 hq1_v16 hq7_v16 hq8_v16 hq9_v16 hq10_v16 hq31_v16 hq32_v16 ⟨show (0 : Int) ≤ l7_16.toInt by omega, show l7_16.toInt ≤ (30 : Int) by omega⟩ ⟨show (0 : Int) ≤ t139.toInt by omega, show t139.toInt ≤ (2147483647 : Int) by omega⟩ hM_v16 hA_f16 (by show (2147483647 - t139.toInt).toNat < n16; omega) _ _ _ hP hD hS (lv_sub hl [0, 2, 3, 4, 5, 6, 7, 8, 9] rfl)
                  · skip
                    have zc138 : ¬ (30 ≤ l7_16.toInt) := by rw [fa_le, show (30 : Int32).toInt = 30 from by decide] at c138; exact c138
                    refine lv_aload_n hx hb dX4_worth_177 rfl (lv_at hl 3 rfl) ?_
                    refine va_get (D := (dC, dI)) (ci := 4) (v := .ref (x 18)) (C := RX4) (T := TX4) (N := 6) hx hb hts inB_4 hown hE.1 hP 16 rfl rfl 2 (by decide) (hts _ k_180) (fun _ h9 => h9) rfl dX4_worth_178 ?_
                    refine lv_iload hx hb dX4_worth_181 (lv_at hl 2 rfl) ?_
                    refine lv_iload hx hb dX4_worth_183 (lv_at hl 0 rfl) ?_
                    refine lv_iconst (v := 2) hx hb dX4_worth_185 (by decide) ?_
                    refine lv_icmp_ne (tgt := 199) hx hb dX4_worth_186 (by decide) (fun c142 => ?_) (fun c142 => ?_)
                    · skip
                      have zc142 : ¬ (t29.toInt = 2) := by rw [fa_eq, show (2 : Int32).toInt = 2 from by decide] at c142; exact c142
                      refine lv_aload_n hx hb dX4_worth_199 rfl (lv_at hl 3 rfl) ?_
                      refine va_get (D := (dC, dI)) (ci := 4) (v := .ref (x 19)) (C := RX4) (T := TX4) (N := 6) hx hb hts inB_4 hown hE.1 hP 16 rfl rfl 3 (by decide) (hts _ k_181) (fun _ h9 => h9) rfl dX4_worth_200 ?_
                      refine lv_iload hx hb dX4_worth_203 (lv_at hl 0 rfl) ?_
                      refine lv_bipush (v := 116) hx hb dX4_worth_205 (by decide) ?_
                      refine lv_isub hx hb dX4_worth_207 ?_
                      refine lv_topi (fun t143 et143 => ?_)
                      have rg144 := fb_rng t29
                      have zt143 : t143.toInt = t29.toInt - 116 := by rw [et143]; exact sub_i rfl (by decide) (by omega) (by omega)
                      refine ldI hx hb hE hP 20 rfl (vp_in_iff.mpr ⟨by omega, by omega⟩) rfl rfl dX4_worth_208 ?_
                      refine lv_topi (fun t145 et145 => ?_)
                      refine stI hx hb hE hP hD hS 19 rfl (vp_in_iff.mpr ⟨by omega, by omega⟩) rfl dX4_worth_209 (fun H locs hP hD hS => ?_)
                      obtain ⟨f146, ef146, hP, hD⟩ : ∃ fz9, fz9 = upd2 f16 13 (upd (f16 13) l7_16.toNatClampNeg t145) ∧ va_P (dC, dI) vwCl (XW cy x0 x v16 fz9) H ∧ va_D A (XW cy x0 x v16 fz9) := ⟨_, rfl, hP, hD⟩
                      have hA_f146 : KF [13, 14] f146 f := by rw [ef146]; exact KF.up hA_f16 rfl
                      obtain ⟨t147, et147⟩ : ∃ y : Int32, y = l7_16 + 1 := ⟨_, rfl⟩
                      have rg148 := fb_rng l7_16
                      have zt147 : t147.toInt = l7_16.toInt + 1 := by rw [et147]; exact add_i rfl (by decide) (by omega) (by omega)
                      refine lv_iinc (v := t147) (lv' := [(7, .int t147), (9, .int t29), (8, .int l8_16), (0, .ref (x 15)), (1, .int p1), (2, .int p2), (3, .int p3), (4, .int p4), (5, .int p5), (6, .int p6)]) hx hb dX4_worth_210 hl (k := 2) rfl (by rw [et147]; rfl) (by decide) rfl (fun ls hl => ?_)
                      refine lv_goto (tgt := 299) hx hb dX4_worth_213 (by decide) ?_
                      obtain ⟨t149, et149⟩ : ∃ y : Int32, y = l8_16 + 1 := ⟨_, rfl⟩
                      have zt149 : t149.toInt = l8_16.toInt + 1 := by rw [et149]; exact add_i rfl (by decide) (by omega) (by omega)
                      refine lv_iinc (v := t149) (lv' := [(8, .int t149), (7, .int t147), (9, .int t29), (0, .ref (x 15)), (1, .int p1), (2, .int p2), (3, .int p3), (4, .int p4), (5, .int p5), (6, .int p6)]) hx hb dX4_worth_299 hl (k := 2) rfl (by rw [et149]; rfl) (by decide) rfl (fun ls hl => ?_)
                      refine lv_goto (tgt := 124) hx hb dX4_worth_302 (by decide) ?_
                      have rg150 := fb_rng t147
                      have rg151 := fb_rng t149
                      exact ih16 t147 t149 v16 f146 hIv16 hq0_v16 hq1_v16 hq7_v16 hq8_v16 hq9_v16 hq10_v16 hq31_v16 hq32_v16 ⟨show (0 : Int) ≤ t147.toInt by omega, show t147.toInt ≤ (30 : Int) by omega⟩ ⟨show (0 : Int) ≤ t149.toInt by omega, show t149.toInt ≤ (2147483647 : Int) by omega⟩ hM_v16 hA_f146 (by show (2147483647 - t149.toInt).toNat < n16; omega) _ _ _ hP hD hS (lv_sub hl [0, 1, 3, 4, 5, 6, 7, 8, 9] rfl)
                    · skip
                      have zc142 : t29.toInt = 2 := by rw [fa_eq, show (2 : Int32).toInt = 2 from by decide] at c142; exact c142
                      refine lv_aload_n hx hb dX4_worth_189 rfl (lv_at hl 3 rfl) ?_
                      refine va_get (D := (dC, dI)) (ci := 4) (v := .ref (x 17)) (C := RX4) (T := TX4) (N := 6) hx hb hts inB_4 hown hE.1 hP 16 rfl rfl 1 (by decide) (hts _ k_179) (fun _ h9 => h9) rfl dX4_worth_190 ?_
                      refine lv_iload hx hb dX4_worth_193 (lv_at hl 1 rfl) ?_
                      refine ldI hx hb hE hP 18 rfl (vp_in_iff.mpr ⟨by omega, by omega⟩) rfl rfl dX4_worth_195 ?_
                      refine lv_topi (fun t152 et152 => ?_)
                      refine lv_goto (tgt := 209) hx hb dX4_worth_196 (by decide) ?_
                      refine stI hx hb hE hP hD hS 19 rfl (vp_in_iff.mpr ⟨by omega, by omega⟩) rfl dX4_worth_209 (fun H locs hP hD hS => ?_)
                      obtain ⟨f153, ef153, hP, hD⟩ : ∃ fz9, fz9 = upd2 f16 13 (upd (f16 13) l7_16.toNatClampNeg t152) ∧ va_P (dC, dI) vwCl (XW cy x0 x v16 fz9) H ∧ va_D A (XW cy x0 x v16 fz9) := ⟨_, rfl, hP, hD⟩
                      have hA_f153 : KF [13, 14] f153 f := by rw [ef153]; exact KF.up hA_f16 rfl
                      obtain ⟨t154, et154⟩ : ∃ y : Int32, y = l7_16 + 1 := ⟨_, rfl⟩
                      have rg155 := fb_rng l7_16
                      have zt154 : t154.toInt = l7_16.toInt + 1 := by rw [et154]; exact add_i rfl (by decide) (by omega) (by omega)
                      refine lv_iinc (v := t154) (lv' := [(7, .int t154), (9, .int t29), (8, .int l8_16), (0, .ref (x 15)), (1, .int p1), (2, .int p2), (3, .int p3), (4, .int p4), (5, .int p5), (6, .int p6)]) hx hb dX4_worth_210 hl (k := 2) rfl (by rw [et154]; rfl) (by decide) rfl (fun ls hl => ?_)
                      refine lv_goto (tgt := 299) hx hb dX4_worth_213 (by decide) ?_
                      obtain ⟨t156, et156⟩ : ∃ y : Int32, y = l8_16 + 1 := ⟨_, rfl⟩
                      have zt156 : t156.toInt = l8_16.toInt + 1 := by rw [et156]; exact add_i rfl (by decide) (by omega) (by omega)
                      refine lv_iinc (v := t156) (lv' := [(8, .int t156), (7, .int t154), (9, .int t29), (0, .ref (x 15)), (1, .int p1), (2, .int p2), (3, .int p3), (4, .int p4), (5, .int p5), (6, .int p6)]) hx hb dX4_worth_299 hl (k := 2) rfl (by rw [et156]; rfl) (by decide) rfl (fun ls hl => ?_)
                      refine lv_goto (tgt := 124) hx hb dX4_worth_302 (by decide) ?_
                      have rg157 := fb_rng t154
                      have rg158 := fb_rng t156
                      exact ih16 t154 t156 v16 f153 hIv16 hq0_v16 hq1_v16 hq7_v16 hq8_v16 hq9_v16 hq10_v16 hq31_v16 hq32_v16 ⟨show (0 : Int) ≤ t154.toInt by omega, show t154.toInt ≤ (30 : Int) by omega⟩ ⟨show (0 : Int) ≤ t156.toInt by omega, show t156.toInt ≤ (2147483647 : Int) by omega⟩ hM_v16 hA_f153 (by show (2147483647 - t156.toInt).toNat < n16; omega) _ _ _ hP hD hS (lv_sub hl [0, 1, 3, 4, 5, 6, 7, 8, 9] rfl)
    exact lp16 _ 0 0 v f14 hIv rfl rfl rfl rfl rfl rfl rfl rfl ⟨by decide, by decide⟩ ⟨by decide, by decide⟩ hM_v hA_f14 (Nat.lt_succ_self _) _ _ _ hP hD hS (lv_sub hl [0, 1, 2, 3, 4, 5, 6, 7, 8] rfl)
  · skip
    have zc15 : (v 18).toInt = 0 := by rw [fa_eq, show (0 : Int32).toInt = 0 from by decide] at c15; exact c15
    refine lv_sipush (v := 999) hx hb dX4_worth_77 (by decide) ?_
    refine lv_aload_n hx hb dX4_worth_80 rfl (lv_at hl 0 rfl) ?_
    refine va_get (D := (dC, dI)) (ci := 4) (v := .ref (x 19)) (C := RX4) (T := TX4) (N := 6) hx hb hts inB_4 hown hE.1 hP 16 rfl rfl 3 (by decide) (hts _ k_181) (fun _ h9 => h9) rfl dX4_worth_81 ?_
    refine lv_iconst (v := 0) hx hb dX4_worth_84 (by decide) ?_
    refine ldI hx hb hE hP 20 rfl (vp_in_nI (n := 0) (by decide) (by decide)) rfl rfl dX4_worth_85 ?_
    refine lv_topi (fun t159 et159 => ?_)
    refine lv_iconst (v := 3) hx hb dX4_worth_86 (by decide) ?_
    refine lv_imul hx hb dX4_worth_87 ?_
    refine lv_topi (fun t160 et160 => ?_)
    refine lv_aload_n hx hb dX4_worth_88 rfl (lv_at hl 0 rfl) ?_
    refine va_get (D := (dC, dI)) (ci := 4) (v := .ref (x 19)) (C := RX4) (T := TX4) (N := 6) hx hb hts inB_4 hown hE.1 hP 16 rfl rfl 3 (by decide) (hts _ k_181) (fun _ h9 => h9) rfl dX4_worth_89 ?_
    refine lv_iconst (v := 1) hx hb dX4_worth_92 (by decide) ?_
    refine ldI hx hb hE hP 20 rfl (vp_in_nI (n := 1) (by decide) (by decide)) rfl rfl dX4_worth_93 ?_
    refine lv_topi (fun t161 et161 => ?_)
    refine lv_iadd hx hb dX4_worth_94 ?_
    refine lv_topi (fun t162 et162 => ?_)
    refine lv_aload_n hx hb dX4_worth_95 rfl (lv_at hl 0 rfl) ?_
    refine va_get (D := (dC, dI)) (ci := 4) (v := .ref (x 19)) (C := RX4) (T := TX4) (N := 6) hx hb hts inB_4 hown hE.1 hP 16 rfl rfl 3 (by decide) (hts _ k_181) (fun _ h9 => h9) rfl dX4_worth_96 ?_
    refine lv_iconst (v := 2) hx hb dX4_worth_99 (by decide) ?_
    refine ldI hx hb hE hP 20 rfl (vp_in_nI (n := 2) (by decide) (by decide)) rfl rfl dX4_worth_100 ?_
    refine lv_topi (fun t163 et163 => ?_)
    refine lv_iconst (v := 2) hx hb dX4_worth_101 (by decide) ?_
    refine lv_imul hx hb dX4_worth_102 ?_
    refine lv_topi (fun t164 et164 => ?_)
    refine lv_iadd hx hb dX4_worth_103 ?_
    refine lv_topi (fun t165 et165 => ?_)
    refine lv_aload_n hx hb dX4_worth_104 rfl (lv_at hl 0 rfl) ?_
    refine va_get (D := (dC, dI)) (ci := 4) (v := .ref (x 19)) (C := RX4) (T := TX4) (N := 6) hx hb hts inB_4 hown hE.1 hP 16 rfl rfl 3 (by decide) (hts _ k_181) (fun _ h9 => h9) rfl dX4_worth_105 ?_
    refine lv_iconst (v := 3) hx hb dX4_worth_108 (by decide) ?_
    refine ldI hx hb hE hP 20 rfl (vp_in_nI (n := 3) (by decide) (by decide)) rfl rfl dX4_worth_109 ?_
    refine lv_topi (fun t166 et166 => ?_)
    refine lv_iadd hx hb dX4_worth_110 ?_
    refine lv_topi (fun t167 et167 => ?_)
    refine lv_iload hx hb dX4_worth_111 (lv_at hl 5 rfl) ?_
    refine lv_iadd hx hb dX4_worth_113 ?_
    refine lv_topi (fun t168 et168 => ?_)
    refine va_mmin hx hb (by rw [hml]; exact hl.1.symm) hown (hts _ k_840) (hts _ k_643) (hts _ k_119) (hts _ k_644) (Nat.le_of_ble_eq_true rfl) (Nat.le_of_ble_eq_true rfl) (Nat.le_of_ble_eq_true rfl) (Nat.le_of_ble_eq_true rfl) dX4_worth_114 ?_
    refine lv_topi (fun t169 et169 => ?_)
    have zt169 : t169.toInt = min (999) (t168.toInt) := by rw [et169]; exact mmin_i (by decide) rfl
    exact ret t169 (v, f14) _ _ _ _ _ _ rfl ⟨hM_v, hA_f14, hIv, rfl, rfl, rfl, rfl, rfl, rfl, rfl, rfl⟩ hP hD hS dX4_worth_117 (Nat.le_refl _) (Nat.le_refl _)
set_option maxHeartbeats 4000000 in
set_option maxRecDepth 100000 in
theorem sX_X1_illness_1 (l : Launch) (dC : Nat → ClassId) (dI : Nat → Nat → Nat) (cy : Nat → ClassId) (x0 : Nat) (x : Nat → Nat) (p1 : Int32) (p2 : Int32) (v : Nat → Int32) (f : Nat → Nat → Int32) (hIv : XI v)  : ctI l (dC, dI) cy yX1_illness cX1_illness 3 .int 3 111 0 0 ((Nat → Int32) × (Nat → Nat → Int32)) [.ref (x 21), .int p1, .int p2] (XW cy x0 x v f) (fun r u => KV [] u.1 v ∧ KF [13, 14] u.2 f ∧ XI u.1 ∧ u.1 0 = v 0 ∧ u.1 1 = v 1 ∧ u.1 7 = v 7 ∧ u.1 8 = v 8 ∧ u.1 9 = v 9 ∧ u.1 10 = v 10 ∧ u.1 31 = v 31 ∧ u.1 32 = v 32) (fun u => XW cy x0 x u.1 u.2) := by
  refine ctI_of (by decide) (Nat.le_of_ble_eq_true rfl) (fun p e s m below meth c A ls Q hx hb hml hts hown hE hP hD hA hl ret => ?_)
  have hM_v : KV [] v v := fun _ _ => rfl
  have hA_f : KF [13, 14] f f := fun _ _ => rfl
  have hown : s.vm.findClass RX1 = some m.cls := hown
  have hS : va_S A s.heap s.heap [] := va_S.rf
  have hl : lv_has ls 3 [(0, .ref (x 21)), (1, .int p1), (2, .int p2)] := hl
  refine lv_aload_n hx hb dX1_illness_0 rfl (lv_at hl 0 rfl) ?_
  refine va_get (D := (dC, dI)) (ci := 1) (v := .ref (x 26)) (C := RX1) (T := TX1) (N := 2) hx hb hts inB_1 hown hE.1 hP 22 rfl rfl 0 (by decide) (hts _ k_318) (fun _ h9 => h9) rfl dX1_illness_1 ?_
  refine va_getN (D := (dC, dI)) (ci := 7) (v := .ref (x 15)) (C := RX7) (T := TX7) (N := 10) hx hb hts inB_7 hown hE.1 hP 27 rfl rfl 2 (by decide) (va_Nw.use rfl (hE.2 _ k_209)) (fun _ h9 => h9) rfl dX1_illness_4 ?_
  refine lv_aload_n hx hb dX1_illness_7 rfl (lv_at hl 0 rfl) ?_
  refine va_get (D := (dC, dI)) (ci := 1) (v := .ref (x 26)) (C := RX1) (T := TX1) (N := 2) hx hb hts inB_1 hown hE.1 hP 22 rfl rfl 0 (by decide) (hts _ k_318) (fun _ h9 => h9) rfl dX1_illness_8 ?_
  refine lv_iconst (v := 0) hx hb dX1_illness_11 (by decide) ?_
  refine lv_iload_n hx hb dX1_illness_12 rfl (lv_at hl 1 rfl) ?_
  refine cbVi (n := 2) (rest := [.ref (x 15)]) hx hb hml hown hts hE hP hD hS hA (sX_X7_manPart_1 0 l dC dI cy x0 x 0 p1 v f hIv ) k_302 k_303 k_304 k_104 k_305 (by decide +kernel) ⟨Nat.le_of_ble_eq_true rfl, Nat.le_of_ble_eq_true rfl⟩ 27 7 rfl rfl (rfl) hl.1 rfl (Nat.le_of_ble_eq_true rfl) dX1_illness_13 (fun r1 u H locs hw hP hD hS => ?_)
  have hG2 := hw
  refine lv_aload_n hx hb dX1_illness_16 rfl (lv_at hl 0 rfl) ?_
  refine lv_iload_n hx hb dX1_illness_17 rfl (lv_at hl 1 rfl) ?_
  refine cbVi (n := 1) (rest := [.int r1, .ref (x 15)]) hx hb hml hown hts hE hP hD hS hA (sX_X1_manWide_1 l dC dI cy x0 x p1 v f hIv ) k_826 k_805 k_806 k_106 k_807 (by decide +kernel) ⟨Nat.le_of_ble_eq_true rfl, Nat.le_of_ble_eq_true rfl⟩ 22 1 rfl rfl (rfl) hl.1 rfl (Nat.le_of_ble_eq_true rfl) dX1_illness_18 (fun r3 u H locs hw hP hD hS => ?_)
  refine lv_aload_n hx hb dX1_illness_21 rfl (lv_at hl 0 rfl) ?_
  refine lv_iconst (v := 0) hx hb dX1_illness_22 (by decide) ?_
  refine lv_iload_n hx hb dX1_illness_23 rfl (lv_at hl 2 rfl) ?_
  refine cbVi (n := 2) (rest := [.int r3, .int r1, .ref (x 15)]) hx hb hml hown hts hE hP hD hS hA (sX_X1_part_1 l dC dI cy x0 x 0 p2 v f hIv ) k_827 k_828 k_829 k_106 k_830 (by decide +kernel) ⟨Nat.le_of_ble_eq_true rfl, Nat.le_of_ble_eq_true rfl⟩ 22 1 rfl rfl (rfl) hl.1 rfl (Nat.le_of_ble_eq_true rfl) dX1_illness_24 (fun r4 u H locs hw hP hD hS => ?_)
  refine lv_aload_n hx hb dX1_illness_27 rfl (lv_at hl 0 rfl) ?_
  refine lv_iconst (v := 1) hx hb dX1_illness_28 (by decide) ?_
  refine lv_iload_n hx hb dX1_illness_29 rfl (lv_at hl 2 rfl) ?_
  refine cbVi (n := 2) (rest := [.int r4, .int r3, .int r1, .ref (x 15)]) hx hb hml hown hts hE hP hD hS hA (sX_X1_part_1 l dC dI cy x0 x 1 p2 v f hIv ) k_827 k_828 k_829 k_106 k_830 (by decide +kernel) ⟨Nat.le_of_ble_eq_true rfl, Nat.le_of_ble_eq_true rfl⟩ 22 1 rfl rfl (rfl) hl.1 rfl (Nat.le_of_ble_eq_true rfl) dX1_illness_30 (fun r5 u H locs hw hP hD hS => ?_)
  refine lv_aload_n hx hb dX1_illness_33 rfl (lv_at hl 0 rfl) ?_
  refine lv_iconst (v := 3) hx hb dX1_illness_34 (by decide) ?_
  refine lv_iload_n hx hb dX1_illness_35 rfl (lv_at hl 2 rfl) ?_
  refine cbVi (n := 2) (rest := [.int r5, .int r4, .int r3, .int r1, .ref (x 15)]) hx hb hml hown hts hE hP hD hS hA (sX_X1_part_1 l dC dI cy x0 x 3 p2 v f hIv ) k_827 k_828 k_829 k_106 k_830 (by decide +kernel) ⟨Nat.le_of_ble_eq_true rfl, Nat.le_of_ble_eq_true rfl⟩ 22 1 rfl rfl (rfl) hl.1 rfl (Nat.le_of_ble_eq_true rfl) dX1_illness_36 (fun r6 u H locs hw hP hD hS => ?_)
  refine lv_aload_n hx hb dX1_illness_39 rfl (lv_at hl 0 rfl) ?_
  refine cbVi (n := 0) (rest := [.int r6, .int r5, .int r4, .int r3, .int r1, .ref (x 15)]) hx hb hml hown hts hE hP hD hS hA (sX_X1_today_1 l dC dI cy x0 x  v f hIv ) k_831 k_832 k_833 k_106 k_834 (by decide +kernel) ⟨Nat.le_of_ble_eq_true rfl, Nat.le_of_ble_eq_true rfl⟩ 22 1 rfl rfl (rfl) hl.1 rfl (Nat.le_of_ble_eq_true rfl) dX1_illness_40 (fun r7 u H locs hw hP hD hS => ?_)
  refine cbVi (n := 6) (rest := []) hx hb hml hown hts hE hP hD hS hA (sX_X4_worth_1 l dC dI cy x0 x r1 r3 r4 r5 r6 r7 v f hIv ) k_835 k_836 k_837 k_105 k_838 (by decide +kernel) ⟨Nat.le_of_ble_eq_true rfl, Nat.le_of_ble_eq_true rfl⟩ 16 4 rfl rfl (rfl) hl.1 rfl (Nat.le_of_ble_eq_true rfl) dX1_illness_43 (fun r8 u H locs hw hP hD hS => ?_)
  obtain ⟨v9, f10⟩ := u
  obtain ⟨kV_v9, kF_f10, hIv9, hk0_v9, hk1_v9, hk7_v9, hk8_v9, hk9_v9, hk10_v9, hk31_v9, hk32_v9⟩ := hw
  have hM_v9 : KV [] v9 v := KV.tr kV_v9 hM_v rfl
  have hA_f10 : KF [13, 14] f10 f := KF.tr kF_f10 hA_f rfl
  have hP : va_P (dC, dI) vwCl (XW cy x0 x v9 f10) H := hP
  have hD : va_D A (XW cy x0 x v9 f10) := hD
  have hq0_v9 : v9 0 = (v 0) := hk0_v9
  have hq1_v9 : v9 1 = (v 1) := hk1_v9
  have hq7_v9 : v9 7 = (v 7) := hk7_v9
  have hq8_v9 : v9 8 = (v 8) := hk8_v9
  have hq9_v9 : v9 9 = (v 9) := hk9_v9
  have hq10_v9 : v9 10 = (v 10) := hk10_v9
  have hq31_v9 : v9 31 = (v 31) := hk31_v9
  have hq32_v9 : v9 32 = (v 32) := hk32_v9
  exact ret r8 (v9, f10) _ _ _ _ _ _ rfl ⟨hM_v9, hA_f10, hIv9, hk0_v9, hk1_v9, hk7_v9, hk8_v9, hk9_v9, hk10_v9, hk31_v9, hk32_v9⟩ hP hD hS dX1_illness_46 (Nat.le_refl _) (Nat.le_refl _)
set_option maxHeartbeats 4000000 in
set_option maxRecDepth 100000 in
theorem sX_X1_fits_1 (l : Launch) (dC : Nat → ClassId) (dI : Nat → Nat → Nat) (cy : Nat → ClassId) (x0 : Nat) (x : Nat → Nat) (p1 : Int32) (p2 : Int32) (v : Nat → Int32) (f : Nat → Nat → Int32) (hIv : XI v)  : ctI l (dC, dI) cy yX1_fits cX1_fits 3 .boolean 4 133 0 0 ((Nat → Int32) × (Nat → Nat → Int32)) [.ref (x 21), .int p1, .int p2] (XW cy x0 x v f) (fun r u => KV [] u.1 v ∧ KF [13, 14] u.2 f ∧ XI u.1 ∧ u.1 0 = v 0 ∧ u.1 1 = v 1 ∧ u.1 7 = v 7 ∧ u.1 8 = v 8 ∧ u.1 9 = v 9 ∧ u.1 10 = v 10 ∧ u.1 31 = v 31 ∧ u.1 32 = v 32 ∧ ((r = 1) ∨ (r = 0))) (fun u => XW cy x0 x u.1 u.2) := by
  refine ctI_of (by decide) (Nat.le_of_ble_eq_true rfl) (fun p e s m below meth c A ls Q hx hb hml hts hown hE hP hD hA hl ret => ?_)
  have hM_v : KV [] v v := fun _ _ => rfl
  have hA_f : KF [13, 14] f f := fun _ _ => rfl
  have hown : s.vm.findClass RX1 = some m.cls := hown
  have hS : va_S A s.heap s.heap [] := va_S.rf
  have hl : lv_has ls 3 [(0, .ref (x 21)), (1, .int p1), (2, .int p2)] := hl
  refine lv_aload_n hx hb dX1_fits_0 rfl (lv_at hl 0 rfl) ?_
  refine va_get (D := (dC, dI)) (ci := 1) (v := .ref (x 26)) (C := RX1) (T := TX1) (N := 2) hx hb hts inB_1 hown hE.1 hP 22 rfl rfl 0 (by decide) (hts _ k_318) (fun _ h9 => h9) rfl dX1_fits_1 ?_
  refine lv_iload_n hx hb dX1_fits_4 rfl (lv_at hl 1 rfl) ?_
  refine cbVi (n := 1) (rest := []) hx hb hml hown hts hE hP hD hS hA (sX_X7_hasMan_1 0 l dC dI cy x0 x p1 v f hIv ) k_808 k_307 k_308 k_104 k_309 (by decide +kernel) ⟨Nat.le_of_ble_eq_true rfl, Nat.le_of_ble_eq_true rfl⟩ 27 7 rfl rfl (rfl) hl.1 rfl (Nat.le_of_ble_eq_true rfl) dX1_fits_5 (fun r1 u H locs hw hP hD hS => ?_)
  obtain ⟨hG2, hw⟩ := hw
  rcases hw with ⟨g3, g3_0, g3_1, g3_2⟩ | ⟨g3⟩
  · skip
    subst g3
    refine lv_if_eq (tgt := 42) hx hb dX1_fits_8 (by decide) (fun c0 => absurd c0 (by decide)) (fun _ => ?_)
    refine lv_aload_n hx hb dX1_fits_11 rfl (lv_at hl 0 rfl) ?_
    refine va_get (D := (dC, dI)) (ci := 1) (v := .ref (x 26)) (C := RX1) (T := TX1) (N := 2) hx hb hts inB_1 hown hE.1 hP 22 rfl rfl 0 (by decide) (hts _ k_318) (fun _ h9 => h9) rfl dX1_fits_12 ?_
    refine lv_iload_n hx hb dX1_fits_15 rfl (lv_at hl 2 rfl) ?_
    refine cbVi (n := 1) (rest := []) hx hb hml hown hts hE hP hD hS hA (sX_X7_hasCoat_1 0 l dC dI cy x0 x p2 v f hIv ) k_821 k_315 k_316 k_104 k_317 (by decide +kernel) ⟨Nat.le_of_ble_eq_true rfl, Nat.le_of_ble_eq_true rfl⟩ 27 7 rfl rfl (rfl) hl.1 rfl (Nat.le_of_ble_eq_true rfl) dX1_fits_16 (fun r4 u H locs hw hP hD hS => ?_)
    obtain ⟨hG5, hw⟩ := hw
    rcases hw with ⟨g6, g6_0, g6_1, g6_2⟩ | ⟨g6⟩
    · skip
      subst g6
      refine lv_if_eq (tgt := 42) hx hb dX1_fits_19 (by decide) (fun c0 => absurd c0 (by decide)) (fun _ => ?_)
      refine lv_aload_n hx hb dX1_fits_22 rfl (lv_at hl 0 rfl) ?_
      refine lv_iload_n hx hb dX1_fits_23 rfl (lv_at hl 1 rfl) ?_
      refine lv_iload_n hx hb dX1_fits_24 rfl (lv_at hl 2 rfl) ?_
      refine cbVi (n := 2) (rest := []) hx hb hml hown hts hE hP hD hS hA (sX_X1_illness_1 l dC dI cy x0 x p1 p2 v f hIv ) k_822 k_823 k_824 k_106 k_825 (by decide +kernel) ⟨Nat.le_of_ble_eq_true rfl, Nat.le_of_ble_eq_true rfl⟩ 22 1 rfl rfl (rfl) hl.1 rfl (Nat.le_of_ble_eq_true rfl) dX1_fits_25 (fun r7 u H locs hw hP hD hS => ?_)
      obtain ⟨v8, f9⟩ := u
      obtain ⟨kV_v8, kF_f9, hIv8, hk0_v8, hk1_v8, hk7_v8, hk8_v8, hk9_v8, hk10_v8, hk31_v8, hk32_v8⟩ := hw
      have hM_v8 : KV [] v8 v := KV.tr kV_v8 hM_v rfl
      have hA_f9 : KF [13, 14] f9 f := KF.tr kF_f9 hA_f rfl
      have hP : va_P (dC, dI) vwCl (XW cy x0 x v8 f9) H := hP
      have hD : va_D A (XW cy x0 x v8 f9) := hD
      have hq0_v8 : v8 0 = (v 0) := hk0_v8
      have hq1_v8 : v8 1 = (v 1) := hk1_v8
      have hq7_v8 : v8 7 = (v 7) := hk7_v8
      have hq8_v8 : v8 8 = (v 8) := hk8_v8
      have hq9_v8 : v8 9 = (v 9) := hk9_v8
      have hq10_v8 : v8 10 = (v 10) := hk10_v8
      have hq31_v8 : v8 31 = (v 31) := hk31_v8
      have hq32_v8 : v8 32 = (v 32) := hk32_v8
      refine lv_aload_n hx hb dX1_fits_28 rfl (lv_at hl 0 rfl) ?_
      refine va_get (D := (dC, dI)) (ci := 1) (v := .ref (x 26)) (C := RX1) (T := TX1) (N := 2) hx hb hts inB_1 hown hE.1 hP 22 rfl rfl 0 (by decide) (hts _ k_318) (fun _ h9 => h9) rfl dX1_fits_29 ?_
      refine va_getN (D := (dC, dI)) (ci := 7) (v := .int (v8 33)) (C := RX7) (T := TX7) (N := 10) hx hb hts inB_7 hown hE.1 hP 27 rfl rfl 5 (by decide) (va_Nw.use rfl (hE.2 _ k_232)) (fun _ h9 => h9) rfl dX1_fits_32 ?_
      refine lv_icmp_gt (tgt := 42) hx hb dX1_fits_35 (by decide) (fun c10 => ?_) (fun c10 => ?_)
      · skip
        have zc10 : (v8 33).toInt < r7.toInt := by rw [fa_lt] at c10; exact c10
        have rg11 := fb_rng r7
        have rg12 := fb_rng (v8 33)
        refine lv_iconst (v := 0) hx hb dX1_fits_42 (by decide) ?_
        exact ret 0 (v8, f9) _ _ _ _ _ _ rfl ⟨hM_v8, hA_f9, hIv8, hk0_v8, hk1_v8, hk7_v8, hk8_v8, hk9_v8, hk10_v8, hk31_v8, hk32_v8, (Or.inr rfl)⟩ hP hD hS dX1_fits_43 (Nat.le_refl _) (Nat.le_refl _)
      · skip
        have zc10 : ¬ ((v8 33).toInt < r7.toInt) := by rw [fa_lt] at c10; exact c10
        have rg13 := fb_rng r7
        have rg14 := fb_rng (v8 33)
        refine lv_iconst (v := 1) hx hb dX1_fits_38 (by decide) ?_
        refine lv_goto (tgt := 43) hx hb dX1_fits_39 (by decide) ?_
        exact ret 1 (v8, f9) _ _ _ _ _ _ rfl ⟨hM_v8, hA_f9, hIv8, hk0_v8, hk1_v8, hk7_v8, hk8_v8, hk9_v8, hk10_v8, hk31_v8, hk32_v8, (Or.inl rfl)⟩ hP hD hS dX1_fits_43 (Nat.le_refl _) (Nat.le_refl _)
    · skip
      subst g6
      refine lv_if_eq (tgt := 42) hx hb dX1_fits_19 (by decide) (fun _ => ?_) (fun c0 => absurd (by decide) c0)
      refine lv_iconst (v := 0) hx hb dX1_fits_42 (by decide) ?_
      exact ret 0 (v, f) _ _ _ _ _ _ rfl ⟨hM_v, hA_f, hIv, rfl, rfl, rfl, rfl, rfl, rfl, rfl, rfl, (Or.inr rfl)⟩ hP hD hS dX1_fits_43 (Nat.le_refl _) (Nat.le_refl _)
  · skip
    subst g3
    refine lv_if_eq (tgt := 42) hx hb dX1_fits_8 (by decide) (fun _ => ?_) (fun c0 => absurd (by decide) c0)
    refine lv_iconst (v := 0) hx hb dX1_fits_42 (by decide) ?_
    exact ret 0 (v, f) _ _ _ _ _ _ rfl ⟨hM_v, hA_f, hIv, rfl, rfl, rfl, rfl, rfl, rfl, rfl, rfl, (Or.inr rfl)⟩ hP hD hS dX1_fits_43 (Nat.le_refl _) (Nat.le_refl _)
set_option maxHeartbeats 4000000 in
set_option maxRecDepth 100000 in
theorem sX_X1_fittingCoats_1 (l : Launch) (dC : Nat → ClassId) (dI : Nat → Nat → Nat) (cy : Nat → ClassId) (x0 : Nat) (x : Nat → Nat) (p1 : Int32) (v : Nat → Int32) (f : Nat → Nat → Int32) (hIv : XI v)  : ctI l (dC, dI) cy yX1_fittingCoats cX1_fittingCoats 4 .int 5 155 0 0 ((Nat → Int32) × (Nat → Nat → Int32)) [.ref (x 21), .int p1] (XW cy x0 x v f) (fun r u => KV [] u.1 v ∧ KF [13, 14] u.2 f ∧ XI u.1 ∧ u.1 0 = v 0 ∧ u.1 1 = v 1 ∧ u.1 7 = v 7 ∧ u.1 8 = v 8 ∧ u.1 9 = v 9 ∧ u.1 10 = v 10 ∧ u.1 31 = v 31 ∧ u.1 32 = v 32) (fun u => XW cy x0 x u.1 u.2) := by
  refine ctI_of (by decide) (Nat.le_of_ble_eq_true rfl) (fun p e s m below meth c A ls Q hx hb hml hts hown hE hP hD hA hl ret => ?_)
  have hM_v : KV [] v v := fun _ _ => rfl
  have hA_f : KF [13, 14] f f := fun _ _ => rfl
  have hown : s.vm.findClass RX1 = some m.cls := hown
  have hS : va_S A s.heap s.heap [] := va_S.rf
  have hl : lv_has ls 4 [(0, .ref (x 21)), (1, .int p1)] := hl
  refine lv_iconst (v := 0) hx hb dX1_fittingCoats_0 (by decide) ?_
  refine lv_istore_n (lv' := [(2, .int 0), (0, .ref (x 21)), (1, .int p1)]) hx hb dX1_fittingCoats_1 rfl hl (by decide) rfl (fun ls hl => ?_)
  refine lv_iconst (v := 0) hx hb dX1_fittingCoats_2 (by decide) ?_
  refine lv_istore_n (lv' := [(3, .int 0), (2, .int 0), (0, .ref (x 21)), (1, .int p1)]) hx hb dX1_fittingCoats_3 rfl hl (by decide) rfl (fun ls hl => ?_)
  have lp1 : ∀ (n1 : Nat) (l2_1 : Int32) (l3_1 : Int32) (v1 : Nat → Int32) (f1 : Nat → Nat → Int32), XI v1 → v1 0 = (v 0) → v1 1 = (v 1) → v1 7 = (v 7) → v1 8 = (v 8) → v1 9 = (v 9) → v1 10 = (v 10) → v1 31 = (v 31) → v1 32 = (v 32) → ((0 : Int) ≤ l3_1.toInt ∧ l3_1.toInt ≤ 2147483647) → KV [] v1 v → KF [13, 14] f1 f → (2147483647 - l3_1.toInt).toNat < n1 → ∀ (H : Heap) (locs : List Loc) (ls : Array Slot), va_P (dC, dI) vwCl (XW cy x0 x v1 f1) H → va_D A (XW cy x0 x v1 f1) → va_S A s.heap H locs → lv_has ls 4 [(3, .int l3_1), (2, .int l2_1), (0, .ref (x 21)), (1, .int p1)] → W p l e { frames := 5, cells := 0, slots := 0, locals := 155 } s m ([.ref (x 21), .int p1] : List Value).toArray below meth c H locs 0 0 Q (F0 m 4 ls []) := by
    intro n1
    induction n1 with
    | zero => intro l2_1 l3_1 v1 f1 hIv1 hq0_v1 hq1_v1 hq7_v1 hq8_v1 hq9_v1 hq10_v1 hq31_v1 hq32_v1 hr3_1 hM_v1 hA_f1 hm; exact absurd hm (Nat.not_lt_zero _)
    | succ n1 ih1 =>
      intro l2_1 l3_1 v1 f1 hIv1 hq0_v1 hq1_v1 hq7_v1 hq8_v1 hq9_v1 hq10_v1 hq31_v1 hq32_v1 hr3_1 hM_v1 hA_f1 hm1 H locs ls hP hD hS hl
      refine lv_iload_n hx hb dX1_fittingCoats_4 rfl (lv_at hl 0 rfl) ?_
      refine lv_aload_n hx hb dX1_fittingCoats_5 rfl (lv_at hl 2 rfl) ?_
      refine va_get (D := (dC, dI)) (ci := 1) (v := .ref (x 26)) (C := RX1) (T := TX1) (N := 2) hx hb hts inB_1 hown hE.1 hP 22 rfl rfl 0 (by decide) (hts _ k_318) (fun _ h9 => h9) rfl dX1_fittingCoats_6 ?_
      refine va_getN (D := (dC, dI)) (ci := 7) (v := .int (v1 32)) (C := RX7) (T := TX7) (N := 10) hx hb hts inB_7 hown hE.1 hP 27 rfl rfl 4 (by decide) (va_Nw.use rfl (hE.2 _ k_226)) (fun _ h9 => h9) rfl dX1_fittingCoats_9 ?_
      refine tI (y := (v 32)) hq32_v1 ?_
      have b32_v : 0 ≤ (v 32).toInt ∧ (v 32).toInt ≤ 6 := XI.b hIv 32 (by decide)
      refine lv_icmp_ge (tgt := 36) hx hb dX1_fittingCoats_12 (by decide) (fun c2 => ?_) (fun c2 => ?_)
      · skip
        have zc2 : (v 32).toInt ≤ l3_1.toInt := by rw [fa_le] at c2; exact c2
        have rg3 := fb_rng l3_1
        have rg4 := fb_rng (v 32)
        refine lv_iload_n hx hb dX1_fittingCoats_36 rfl (lv_at hl 1 rfl) ?_
        exact ret l2_1 (v1, f1) _ _ _ _ _ _ rfl ⟨hM_v1, hA_f1, hIv1, (show v1 0 = v 0 from hq0_v1), (show v1 1 = v 1 from hq1_v1), (show v1 7 = v 7 from hq7_v1), (show v1 8 = v 8 from hq8_v1), (show v1 9 = v 9 from hq9_v1), (show v1 10 = v 10 from hq10_v1), (show v1 31 = v 31 from hq31_v1), (show v1 32 = v 32 from hq32_v1)⟩ hP hD hS dX1_fittingCoats_37 (Nat.le_refl _) (Nat.le_refl _)
      · skip
        have zc2 : ¬ ((v 32).toInt ≤ l3_1.toInt) := by rw [fa_le] at c2; exact c2
        have rg5 := fb_rng l3_1
        have rg6 := fb_rng (v 32)
        refine lv_aload_n hx hb dX1_fittingCoats_15 rfl (lv_at hl 2 rfl) ?_
        refine lv_iload_n hx hb dX1_fittingCoats_16 rfl (lv_at hl 3 rfl) ?_
        refine lv_iload_n hx hb dX1_fittingCoats_17 rfl (lv_at hl 0 rfl) ?_
        refine cbVi (n := 2) (rest := []) hx hb hml hown hts hE hP hD hS hA (sX_X1_fits_1 l dC dI cy x0 x p1 l3_1 v1 f1 hIv1 ) k_817 k_818 k_819 k_106 k_820 (by decide +kernel) ⟨Nat.le_of_ble_eq_true rfl, Nat.le_of_ble_eq_true rfl⟩ 22 1 rfl rfl (rfl) hl.1 rfl (Nat.le_of_ble_eq_true rfl) dX1_fittingCoats_18 (fun r7 u H locs hw hP hD hS => ?_)
        obtain ⟨v8, f9⟩ := u
        obtain ⟨kV_v8, kF_f9, hIv8, hk0_v8, hk1_v8, hk7_v8, hk8_v8, hk9_v8, hk10_v8, hk31_v8, hk32_v8, hw⟩ := hw
        have hM_v8 : KV [] v8 v := KV.tr kV_v8 hM_v1 rfl
        have hA_f9 : KF [13, 14] f9 f := KF.tr kF_f9 hA_f1 rfl
        have hP : va_P (dC, dI) vwCl (XW cy x0 x v8 f9) H := hP
        have hD : va_D A (XW cy x0 x v8 f9) := hD
        have hq0_v8 : v8 0 = (v 0) := hk0_v8.trans hq0_v1
        have hq1_v8 : v8 1 = (v 1) := hk1_v8.trans hq1_v1
        have hq7_v8 : v8 7 = (v 7) := hk7_v8.trans hq7_v1
        have hq8_v8 : v8 8 = (v 8) := hk8_v8.trans hq8_v1
        have hq9_v8 : v8 9 = (v 9) := hk9_v8.trans hq9_v1
        have hq10_v8 : v8 10 = (v 10) := hk10_v8.trans hq10_v1
        have hq31_v8 : v8 31 = (v 31) := hk31_v8.trans hq31_v1
        have hq32_v8 : v8 32 = (v 32) := hk32_v8.trans hq32_v1
        rcases hw with ⟨g10⟩ | ⟨g10⟩
        · skip
          subst g10
          refine lv_if_eq (tgt := 30) hx hb dX1_fittingCoats_21 (by decide) (fun c0 => absurd c0 (by decide)) (fun _ => ?_)
          refine lv_iload_n hx hb dX1_fittingCoats_24 rfl (lv_at hl 1 rfl) ?_
          refine lv_iconst (v := 1) hx hb dX1_fittingCoats_25 (by decide) ?_
          refine lv_iload_n hx hb dX1_fittingCoats_26 rfl (lv_at hl 0 rfl) ?_
          refine lv_ishl hx hb dX1_fittingCoats_27 ?_
          refine lv_topi (fun t11 et11 => ?_)
          have zt11 : 1 ≤ t11.toInt ∧ t11.toInt ≤ 32 := by rw [et11]; exact shl1_rng (by omega) (by omega)
          refine lv_ior hx hb dX1_fittingCoats_28 ?_
          refine lv_topi (fun t12 et12 => ?_)
          refine lv_istore_n (lv' := [(2, .int t12), (3, .int l3_1), (0, .ref (x 21)), (1, .int p1)]) hx hb dX1_fittingCoats_29 rfl hl (by decide) rfl (fun ls hl => ?_)
          obtain ⟨t13, et13⟩ : ∃ y : Int32, y = l3_1 + 1 := ⟨_, rfl⟩
          have zt13 : t13.toInt = l3_1.toInt + 1 := by rw [et13]; exact add_i rfl (by decide) (by omega) (by omega)
          refine lv_iinc (v := t13) (lv' := [(3, .int t13), (2, .int t12), (0, .ref (x 21)), (1, .int p1)]) hx hb dX1_fittingCoats_30 hl (k := 1) rfl (by rw [et13]; rfl) (by decide) rfl (fun ls hl => ?_)
          refine lv_goto (tgt := 4) hx hb dX1_fittingCoats_33 (by decide) ?_
          have rg14 := fb_rng t13
          exact ih1 t12 t13 v8 f9 hIv8 hq0_v8 hq1_v8 hq7_v8 hq8_v8 hq9_v8 hq10_v8 hq31_v8 hq32_v8 ⟨show (0 : Int) ≤ t13.toInt by omega, show t13.toInt ≤ (2147483647 : Int) by omega⟩ hM_v8 hA_f9 (by show (2147483647 - t13.toInt).toNat < n1; omega) _ _ _ hP hD hS (lv_sub hl [0, 1, 2, 3] rfl)
        · skip
          subst g10
          refine lv_if_eq (tgt := 30) hx hb dX1_fittingCoats_21 (by decide) (fun _ => ?_) (fun c0 => absurd (by decide) c0)
          obtain ⟨t15, et15⟩ : ∃ y : Int32, y = l3_1 + 1 := ⟨_, rfl⟩
          have zt15 : t15.toInt = l3_1.toInt + 1 := by rw [et15]; exact add_i rfl (by decide) (by omega) (by omega)
          refine lv_iinc (v := t15) (lv' := [(3, .int t15), (2, .int l2_1), (0, .ref (x 21)), (1, .int p1)]) hx hb dX1_fittingCoats_30 hl (k := 0) rfl (by rw [et15]; rfl) (by decide) rfl (fun ls hl => ?_)
          refine lv_goto (tgt := 4) hx hb dX1_fittingCoats_33 (by decide) ?_
          have rg16 := fb_rng t15
          exact ih1 l2_1 t15 v8 f9 hIv8 hq0_v8 hq1_v8 hq7_v8 hq8_v8 hq9_v8 hq10_v8 hq31_v8 hq32_v8 ⟨show (0 : Int) ≤ t15.toInt by omega, show t15.toInt ≤ (2147483647 : Int) by omega⟩ hM_v8 hA_f9 (by show (2147483647 - t15.toInt).toNat < n1; omega) _ _ _ hP hD hS (lv_sub hl [0, 1, 2, 3] rfl)
  exact lp1 _ 0 0 v f hIv rfl rfl rfl rfl rfl rfl rfl rfl ⟨by decide, by decide⟩ hM_v hA_f (Nat.lt_succ_self _) _ _ _ hP hD hS (lv_sub hl [0, 1, 2, 3] rfl)
set_option maxHeartbeats 4000000 in
set_option maxRecDepth 100000 in
theorem sX_X10_man_1 (l : Launch) (dC : Nat → ClassId) (dI : Nat → Nat → Nat) (cy : Nat → ClassId) (x0 : Nat) (x : Nat → Nat) (p1 : Int32) (p2 : Int32) (v : Nat → Int32) (f : Nat → Nat → Int32) (hIv : XI v)  : ctI l (dC, dI) cy yX10_man cX10_man 3 .int 6 178 0 0 ((Nat → Int32) × (Nat → Nat → Int32)) [.ref x0, .int p1, .int p2] (XW cy x0 x v f) (fun r u => KV [] u.1 v ∧ KF [13, 14] u.2 f ∧ XI u.1 ∧ u.1 0 = v 0 ∧ u.1 1 = v 1 ∧ u.1 7 = v 7 ∧ u.1 8 = v 8 ∧ u.1 9 = v 9 ∧ u.1 10 = v 10 ∧ u.1 31 = v 31 ∧ u.1 32 = v 32) (fun u => XW cy x0 x u.1 u.2) := by
  refine ctI_of (by decide) (Nat.le_of_ble_eq_true rfl) (fun p e s m below meth c A ls Q hx hb hml hts hown hE hP hD hA hl ret => ?_)
  have hM_v : KV [] v v := fun _ _ => rfl
  have hA_f : KF [13, 14] f f := fun _ _ => rfl
  have hown : s.vm.findClass RX10 = some m.cls := hown
  have hS : va_S A s.heap s.heap [] := va_S.rf
  have hl : lv_has ls 3 [(0, .ref x0), (1, .int p1), (2, .int p2)] := hl
  refine lv_aload_n hx hb dX10_man_0 rfl (lv_at hl 0 rfl) ?_
  refine va_get (D := (dC, dI)) (ci := 10) (v := .ref (x 26)) (C := RX10) (T := TX10) (N := 10) hx hb hts inB_10 hown hE.1 hP 0 rfl rfl 2 (by decide) (hts _ k_493) (fun _ h9 => h9) rfl dX10_man_1 ?_
  refine lv_iload_n hx hb dX10_man_4 rfl (lv_at hl 1 rfl) ?_
  refine cbVi (n := 1) (rest := []) hx hb hml hown hts hE hP hD hS hA (sX_X7_hasMan_1 0 l dC dI cy x0 x p1 v f hIv ) k_802 k_307 k_308 k_104 k_309 (by decide +kernel) ⟨Nat.le_of_ble_eq_true rfl, Nat.le_of_ble_eq_true rfl⟩ 27 7 rfl rfl (rfl) hl.1 rfl (Nat.le_of_ble_eq_true rfl) dX10_man_5 (fun r1 u H locs hw hP hD hS => ?_)
  obtain ⟨hG2, hw⟩ := hw
  rcases hw with ⟨g3, g3_0, g3_1, g3_2⟩ | ⟨g3⟩
  · skip
    subst g3
    refine lv_if_ne (tgt := 14) hx hb dX10_man_8 (by decide) (fun _ => ?_) (fun c0 => absurd c0 (by decide))
    refine lv_iload_n hx hb dX10_man_14 rfl (lv_at hl 2 rfl) ?_
    by_cases c4 : p2 = 0
    · skip
      refine lv_tableIn (off := 33) (tgt := 48) hx hb dX10_man_15 (by rw [c4]; decide) (by rw [c4]; decide) (by rw [c4]; decide) (by decide) ?_
      have zc4 : p2.toInt = 0 := by rw [fa_eq, show (0 : Int32).toInt = 0 from by decide] at c4; exact c4
      refine lv_aload_n hx hb dX10_man_48 rfl (lv_at hl 0 rfl) ?_
      refine va_get (D := (dC, dI)) (ci := 10) (v := .ref (x 26)) (C := RX10) (T := TX10) (N := 10) hx hb hts inB_10 hown hE.1 hP 0 rfl rfl 2 (by decide) (hts _ k_493) (fun _ h9 => h9) rfl dX10_man_49 ?_
      refine lv_iconst (v := 0) hx hb dX10_man_52 (by decide) ?_
      refine lv_iload_n hx hb dX10_man_53 rfl (lv_at hl 1 rfl) ?_
      refine cbVi (n := 2) (rest := []) hx hb hml hown hts hE hP hD hS hA (sX_X7_manPart_1 0 l dC dI cy x0 x 0 p1 v f hIv ) k_803 k_303 k_304 k_104 k_305 (by decide +kernel) ⟨Nat.le_of_ble_eq_true rfl, Nat.le_of_ble_eq_true rfl⟩ 27 7 rfl rfl (rfl) hl.1 rfl (Nat.le_of_ble_eq_true rfl) dX10_man_54 (fun r5 u H locs hw hP hD hS => ?_)
      have hG6 := hw
      exact ret r5 (v, f) _ _ _ _ _ _ rfl ⟨hM_v, hA_f, hIv, rfl, rfl, rfl, rfl, rfl, rfl, rfl, rfl⟩ hP hD hS dX10_man_57 (Nat.le_refl _) (Nat.le_refl _)
    · skip
      have zc4 : ¬ (p2.toInt = 0) := by rw [fa_eq, show (0 : Int32).toInt = 0 from by decide] at c4; exact c4
      by_cases c7 : p2 = 1
      · skip
        refine lv_tableIn (off := 43) (tgt := 58) hx hb dX10_man_15 (by rw [c7]; decide) (by rw [c7]; decide) (by rw [c7]; decide) (by decide) ?_
        have zc7 : p2.toInt = 1 := by rw [fa_eq, show (1 : Int32).toInt = 1 from by decide] at c7; exact c7
        refine lv_aload_n hx hb dX10_man_58 rfl (lv_at hl 0 rfl) ?_
        refine va_get (D := (dC, dI)) (ci := 10) (v := .ref (x 21)) (C := RX10) (T := TX10) (N := 10) hx hb hts inB_10 hown hE.1 hP 0 rfl rfl 3 (by decide) (hts _ k_494) (fun _ h9 => h9) rfl dX10_man_59 ?_
        refine lv_iload_n hx hb dX10_man_62 rfl (lv_at hl 1 rfl) ?_
        refine cbVi (n := 1) (rest := []) hx hb hml hown hts hE hP hD hS hA (sX_X1_manWide_1 l dC dI cy x0 x p1 v f hIv ) k_804 k_805 k_806 k_106 k_807 (by decide +kernel) ⟨Nat.le_of_ble_eq_true rfl, Nat.le_of_ble_eq_true rfl⟩ 22 1 rfl rfl (rfl) hl.1 rfl (Nat.le_of_ble_eq_true rfl) dX10_man_63 (fun r8 u H locs hw hP hD hS => ?_)
        exact ret r8 (v, f) _ _ _ _ _ _ rfl ⟨hM_v, hA_f, hIv, rfl, rfl, rfl, rfl, rfl, rfl, rfl, rfl⟩ hP hD hS dX10_man_66 (Nat.le_refl _) (Nat.le_refl _)
      · skip
        have zc7 : ¬ (p2.toInt = 1) := by rw [fa_eq, show (1 : Int32).toInt = 1 from by decide] at c7; exact c7
        by_cases c9 : p2 = 2
        · skip
          refine lv_tableIn (off := 52) (tgt := 67) hx hb dX10_man_15 (by rw [c9]; decide) (by rw [c9]; decide) (by rw [c9]; decide) (by decide) ?_
          have zc9 : p2.toInt = 2 := by rw [fa_eq, show (2 : Int32).toInt = 2 from by decide] at c9; exact c9
          refine lv_aload_n hx hb dX10_man_67 rfl (lv_at hl 0 rfl) ?_
          refine va_get (D := (dC, dI)) (ci := 10) (v := .ref (x 26)) (C := RX10) (T := TX10) (N := 10) hx hb hts inB_10 hown hE.1 hP 0 rfl rfl 2 (by decide) (hts _ k_493) (fun _ h9 => h9) rfl dX10_man_68 ?_
          refine lv_iconst (v := 2) hx hb dX10_man_71 (by decide) ?_
          refine lv_iload_n hx hb dX10_man_72 rfl (lv_at hl 1 rfl) ?_
          refine cbVi (n := 2) (rest := []) hx hb hml hown hts hE hP hD hS hA (sX_X7_manPart_1 0 l dC dI cy x0 x 2 p1 v f hIv ) k_803 k_303 k_304 k_104 k_305 (by decide +kernel) ⟨Nat.le_of_ble_eq_true rfl, Nat.le_of_ble_eq_true rfl⟩ 27 7 rfl rfl (rfl) hl.1 rfl (Nat.le_of_ble_eq_true rfl) dX10_man_73 (fun r10 u H locs hw hP hD hS => ?_)
          have hG11 := hw
          exact ret r10 (v, f) _ _ _ _ _ _ rfl ⟨hM_v, hA_f, hIv, rfl, rfl, rfl, rfl, rfl, rfl, rfl, rfl⟩ hP hD hS dX10_man_76 (Nat.le_refl _) (Nat.le_refl _)
        · skip
          have zc9 : ¬ (p2.toInt = 2) := by rw [fa_eq, show (2 : Int32).toInt = 2 from by decide] at c9; exact c9
          by_cases c12 : p2 = 3
          · skip
            refine lv_tableIn (off := 62) (tgt := 77) hx hb dX10_man_15 (by rw [c12]; decide) (by rw [c12]; decide) (by rw [c12]; decide) (by decide) ?_
            have zc12 : p2.toInt = 3 := by rw [fa_eq, show (3 : Int32).toInt = 3 from by decide] at c12; exact c12
            refine lv_aload_n hx hb dX10_man_77 rfl (lv_at hl 0 rfl) ?_
            refine va_get (D := (dC, dI)) (ci := 10) (v := .ref (x 21)) (C := RX10) (T := TX10) (N := 10) hx hb hts inB_10 hown hE.1 hP 0 rfl rfl 3 (by decide) (hts _ k_494) (fun _ h9 => h9) rfl dX10_man_78 ?_
            refine lv_iload_n hx hb dX10_man_81 rfl (lv_at hl 1 rfl) ?_
            refine cbVi (n := 1) (rest := []) hx hb hml hown hts hE hP hD hS hA (sX_X1_wears_1 l dC dI cy x0 x p1 v f hIv ) k_809 k_810 k_811 k_106 k_812 (by decide +kernel) ⟨Nat.le_of_ble_eq_true rfl, Nat.le_of_ble_eq_true rfl⟩ 22 1 rfl rfl (rfl) hl.1 rfl (Nat.le_of_ble_eq_true rfl) dX10_man_82 (fun r13 u H locs hw hP hD hS => ?_)
            exact ret r13 (v, f) _ _ _ _ _ _ rfl ⟨hM_v, hA_f, hIv, rfl, rfl, rfl, rfl, rfl, rfl, rfl, rfl⟩ hP hD hS dX10_man_85 (Nat.le_refl _) (Nat.le_refl _)
          · skip
            have zc12 : ¬ (p2.toInt = 3) := by rw [fa_eq, show (3 : Int32).toInt = 3 from by decide] at c12; exact c12
            by_cases c14 : p2 = 4
            · skip
              refine lv_tableIn (off := 71) (tgt := 86) hx hb dX10_man_15 (by rw [c14]; decide) (by rw [c14]; decide) (by rw [c14]; decide) (by decide) ?_
              have zc14 : p2.toInt = 4 := by rw [fa_eq, show (4 : Int32).toInt = 4 from by decide] at c14; exact c14
              refine lv_aload_n hx hb dX10_man_86 rfl (lv_at hl 0 rfl) ?_
              refine va_get (D := (dC, dI)) (ci := 10) (v := .ref (x 21)) (C := RX10) (T := TX10) (N := 10) hx hb hts inB_10 hown hE.1 hP 0 rfl rfl 3 (by decide) (hts _ k_494) (fun _ h9 => h9) rfl dX10_man_87 ?_
              refine lv_iload_n hx hb dX10_man_90 rfl (lv_at hl 1 rfl) ?_
              refine cbVi (n := 1) (rest := []) hx hb hml hown hts hE hP hD hS hA (sX_X1_fittingCoats_1 l dC dI cy x0 x p1 v f hIv ) k_813 k_814 k_815 k_106 k_816 (by decide +kernel) ⟨Nat.le_of_ble_eq_true rfl, Nat.le_of_ble_eq_true rfl⟩ 22 1 rfl rfl (rfl) hl.1 rfl (Nat.le_of_ble_eq_true rfl) dX10_man_91 (fun r15 u H locs hw hP hD hS => ?_)
              obtain ⟨v16, f17⟩ := u
              obtain ⟨kV_v16, kF_f17, hIv16, hk0_v16, hk1_v16, hk7_v16, hk8_v16, hk9_v16, hk10_v16, hk31_v16, hk32_v16⟩ := hw
              have hM_v16 : KV [] v16 v := KV.tr kV_v16 hM_v rfl
              have hA_f17 : KF [13, 14] f17 f := KF.tr kF_f17 hA_f rfl
              have hP : va_P (dC, dI) vwCl (XW cy x0 x v16 f17) H := hP
              have hD : va_D A (XW cy x0 x v16 f17) := hD
              have hq0_v16 : v16 0 = (v 0) := hk0_v16
              have hq1_v16 : v16 1 = (v 1) := hk1_v16
              have hq7_v16 : v16 7 = (v 7) := hk7_v16
              have hq8_v16 : v16 8 = (v 8) := hk8_v16
              have hq9_v16 : v16 9 = (v 9) := hk9_v16
              have hq10_v16 : v16 10 = (v 10) := hk10_v16
              have hq31_v16 : v16 31 = (v 31) := hk31_v16
              have hq32_v16 : v16 32 = (v 32) := hk32_v16
              exact ret r15 (v16, f17) _ _ _ _ _ _ rfl ⟨hM_v16, hA_f17, hIv16, hk0_v16, hk1_v16, hk7_v16, hk8_v16, hk9_v16, hk10_v16, hk31_v16, hk32_v16⟩ hP hD hS dX10_man_94 (Nat.le_refl _) (Nat.le_refl _)
            · skip
              have zc14 : ¬ (p2.toInt = 4) := by rw [fa_eq, show (4 : Int32).toInt = 4 from by decide] at c14; exact c14
              refine lv_tableOut (tgt := 95) hx hb dX10_man_15 (by omega) (by decide) ?_
              refine lv_bipush (v := (-2)) hx hb dX10_man_95 (by decide) ?_
              exact ret (-2) (v, f) _ _ _ _ _ _ rfl ⟨hM_v, hA_f, hIv, rfl, rfl, rfl, rfl, rfl, rfl, rfl, rfl⟩ hP hD hS dX10_man_97 (Nat.le_refl _) (Nat.le_refl _)
  · skip
    subst g3
    refine lv_if_ne (tgt := 14) hx hb dX10_man_8 (by decide) (fun c0 => absurd (by decide) c0) (fun _ => ?_)
    refine lv_bipush (v := (-2)) hx hb dX10_man_11 (by decide) ?_
    exact ret (-2) (v, f) _ _ _ _ _ _ rfl ⟨hM_v, hA_f, hIv, rfl, rfl, rfl, rfl, rfl, rfl, rfl, rfl⟩ hP hD hS dX10_man_13 (Nat.le_refl _) (Nat.le_refl _)
set_option maxHeartbeats 4000000 in
set_option maxRecDepth 100000 in
theorem sX_X1_wearer_1 (l : Launch) (dC : Nat → ClassId) (dI : Nat → Nat → Nat) (cy : Nat → ClassId) (x0 : Nat) (x : Nat → Nat) (p1 : Int32) (v : Nat → Int32) (f : Nat → Nat → Int32) (hIv : XI v)  : ctI l (dC, dI) cy yX1_wearer cX1_wearer 3 .int 3 102 0 0 Unit [.ref (x 21), .int p1] (XW cy x0 x v f) (fun r u => True) (fun u => XW cy x0 x v f) := by
  refine ctI_of (by decide) (Nat.le_of_ble_eq_true rfl) (fun p e s m below meth c A ls Q hx hb hml hts hown hE hP hD hA hl ret => ?_)
  have hown : s.vm.findClass RX1 = some m.cls := hown
  have hS : va_S A s.heap s.heap [] := va_S.rf
  have hl : lv_has ls 3 [(0, .ref (x 21)), (1, .int p1)] := hl
  refine lv_iconst (v := 0) hx hb dX1_wearer_0 (by decide) ?_
  refine lv_istore_n (lv' := [(2, .int 0), (0, .ref (x 21)), (1, .int p1)]) hx hb dX1_wearer_1 rfl hl (by decide) rfl (fun ls hl => ?_)
  have lp1 : ∀ (n1 : Nat) (l2_1 : Int32), ((0 : Int) ≤ l2_1.toInt ∧ l2_1.toInt ≤ 2147483647) → (2147483647 - l2_1.toInt).toNat < n1 → ∀ (H : Heap) (locs : List Loc) (ls : Array Slot), va_P (dC, dI) vwCl (XW cy x0 x v f) H → va_D A (XW cy x0 x v f) → va_S A s.heap H locs → lv_has ls 3 [(2, .int l2_1), (0, .ref (x 21)), (1, .int p1)] → W p l e { frames := 3, cells := 0, slots := 0, locals := 102 } s m ([.ref (x 21), .int p1] : List Value).toArray below meth c H locs 0 0 Q (F0 m 2 ls []) := by
    intro n1
    induction n1 with
    | zero => intro l2_1 hr2_1 hm; exact absurd hm (Nat.not_lt_zero _)
    | succ n1 ih1 =>
      intro l2_1 hr2_1 hm1 H locs ls hP hD hS hl
      refine lv_iload_n hx hb dX1_wearer_2 rfl (lv_at hl 0 rfl) ?_
      refine lv_aload_n hx hb dX1_wearer_3 rfl (lv_at hl 1 rfl) ?_
      refine va_get (D := (dC, dI)) (ci := 1) (v := .ref (x 26)) (C := RX1) (T := TX1) (N := 2) hx hb hts inB_1 hown hE.1 hP 22 rfl rfl 0 (by decide) (hts _ k_318) (fun _ h9 => h9) rfl dX1_wearer_4 ?_
      refine va_getN (D := (dC, dI)) (ci := 7) (v := .int (v 31)) (C := RX7) (T := TX7) (N := 10) hx hb hts inB_7 hown hE.1 hP 27 rfl rfl 3 (by decide) (va_Nw.use rfl (hE.2 _ k_219)) (fun _ h9 => h9) rfl dX1_wearer_7 ?_
      have b31_v : 0 ≤ (v 31).toInt ∧ (v 31).toInt ≤ 6 := XI.b hIv 31 (by decide)
      refine lv_icmp_ge (tgt := 30) hx hb dX1_wearer_10 (by decide) (fun c2 => ?_) (fun c2 => ?_)
      · skip
        have zc2 : (v 31).toInt ≤ l2_1.toInt := by rw [fa_le] at c2; exact c2
        have rg3 := fb_rng l2_1
        have rg4 := fb_rng (v 31)
        refine lv_iconst (v := (-1)) hx hb dX1_wearer_30 (by decide) ?_
        exact ret (-1) () _ _ _ _ _ _ rfl trivial hP hD hS dX1_wearer_31 (Nat.le_refl _) (Nat.le_refl _)
      · skip
        have zc2 : ¬ ((v 31).toInt ≤ l2_1.toInt) := by rw [fa_le] at c2; exact c2
        have rg5 := fb_rng l2_1
        have rg6 := fb_rng (v 31)
        refine lv_aload_n hx hb dX1_wearer_13 rfl (lv_at hl 1 rfl) ?_
        refine lv_iload_n hx hb dX1_wearer_14 rfl (lv_at hl 0 rfl) ?_
        refine cbVi (n := 1) (rest := []) hx hb hml hown hts hE hP hD hS hA (sX_X1_wears_1 l dC dI cy x0 x l2_1 v f hIv ) k_853 k_810 k_811 k_106 k_812 (by decide +kernel) ⟨Nat.le_of_ble_eq_true rfl, Nat.le_of_ble_eq_true rfl⟩ 22 1 rfl rfl (rfl) hl.1 rfl (Nat.le_of_ble_eq_true rfl) dX1_wearer_15 (fun r7 u H locs hw hP hD hS => ?_)
        refine lv_iload_n hx hb dX1_wearer_18 rfl (lv_at hl 2 rfl) ?_
        refine lv_icmp_ne (tgt := 24) hx hb dX1_wearer_19 (by decide) (fun c8 => ?_) (fun c8 => ?_)
        · skip
          have zc8 : ¬ (r7.toInt = p1.toInt) := by rw [fa_eq] at c8; exact c8
          have rg9 := fb_rng r7
          have rg10 := fb_rng p1
          obtain ⟨t11, et11⟩ : ∃ y : Int32, y = l2_1 + 1 := ⟨_, rfl⟩
          have zt11 : t11.toInt = l2_1.toInt + 1 := by rw [et11]; exact add_i rfl (by decide) (by omega) (by omega)
          refine lv_iinc (v := t11) (lv' := [(2, .int t11), (0, .ref (x 21)), (1, .int p1)]) hx hb dX1_wearer_24 hl (k := 0) rfl (by rw [et11]; rfl) (by decide) rfl (fun ls hl => ?_)
          refine lv_goto (tgt := 2) hx hb dX1_wearer_27 (by decide) ?_
          have rg12 := fb_rng t11
          exact ih1 t11 ⟨show (0 : Int) ≤ t11.toInt by omega, show t11.toInt ≤ (2147483647 : Int) by omega⟩ (by show (2147483647 - t11.toInt).toNat < n1; omega) _ _ _ hP hD hS (lv_sub hl [0, 1, 2] rfl)
        · skip
          have zc8 : r7.toInt = p1.toInt := by rw [fa_eq] at c8; exact c8
          have rg13 := fb_rng r7
          have rg14 := fb_rng p1
          refine lv_iload_n hx hb dX1_wearer_22 rfl (lv_at hl 0 rfl) ?_
          exact ret l2_1 () _ _ _ _ _ _ rfl trivial hP hD hS dX1_wearer_23 (Nat.le_refl _) (Nat.le_refl _)
  exact lp1 _ 0 ⟨by decide, by decide⟩ (Nat.lt_succ_self _) _ _ _ hP hD hS (lv_sub hl [0, 1, 2] rfl)
set_option maxHeartbeats 4000000 in
set_option maxRecDepth 100000 in
theorem sX_X10_coat_1 (l : Launch) (dC : Nat → ClassId) (dI : Nat → Nat → Nat) (cy : Nat → ClassId) (x0 : Nat) (x : Nat → Nat) (p1 : Int32) (p2 : Int32) (v : Nat → Int32) (f : Nat → Nat → Int32) (hIv : XI v)  : ctI l (dC, dI) cy yX10_coat cX10_coat 3 .int 4 124 0 0 Unit [.ref x0, .int p1, .int p2] (XW cy x0 x v f) (fun r u => True) (fun u => XW cy x0 x v f) := by
  refine ctI_of (by decide) (Nat.le_of_ble_eq_true rfl) (fun p e s m below meth c A ls Q hx hb hml hts hown hE hP hD hA hl ret => ?_)
  have hown : s.vm.findClass RX10 = some m.cls := hown
  have hS : va_S A s.heap s.heap [] := va_S.rf
  have hl : lv_has ls 3 [(0, .ref x0), (1, .int p1), (2, .int p2)] := hl
  refine lv_aload_n hx hb dX10_coat_0 rfl (lv_at hl 0 rfl) ?_
  refine va_get (D := (dC, dI)) (ci := 10) (v := .ref (x 26)) (C := RX10) (T := TX10) (N := 10) hx hb hts inB_10 hown hE.1 hP 0 rfl rfl 2 (by decide) (hts _ k_493) (fun _ h9 => h9) rfl dX10_coat_1 ?_
  refine lv_iload_n hx hb dX10_coat_4 rfl (lv_at hl 1 rfl) ?_
  refine cbVi (n := 1) (rest := []) hx hb hml hown hts hE hP hD hS hA (sX_X7_hasCoat_1 0 l dC dI cy x0 x p1 v f hIv ) k_848 k_315 k_316 k_104 k_317 (by decide +kernel) ⟨Nat.le_of_ble_eq_true rfl, Nat.le_of_ble_eq_true rfl⟩ 27 7 rfl rfl (rfl) hl.1 rfl (Nat.le_of_ble_eq_true rfl) dX10_coat_5 (fun r1 u H locs hw hP hD hS => ?_)
  obtain ⟨hG2, hw⟩ := hw
  rcases hw with ⟨g3, g3_0, g3_1, g3_2⟩ | ⟨g3⟩
  · skip
    subst g3
    refine lv_if_eq (tgt := 20) hx hb dX10_coat_8 (by decide) (fun c0 => absurd c0 (by decide)) (fun _ => ?_)
    refine lv_iload_n hx hb dX10_coat_11 rfl (lv_at hl 2 rfl) ?_
    refine lv_if_lt (tgt := 20) hx hb dX10_coat_12 (by decide) (fun c4 => ?_) (fun c4 => ?_)
    · skip
      have zc4 : p2.toInt < 0 := by rw [fa_lt, show (0 : Int32).toInt = 0 from by decide] at c4; exact c4
      refine lv_bipush (v := (-2)) hx hb dX10_coat_20 (by decide) ?_
      exact ret (-2) () _ _ _ _ _ _ rfl trivial hP hD hS dX10_coat_22 (Nat.le_refl _) (Nat.le_refl _)
    · skip
      have zc4 : ¬ (p2.toInt < 0) := by rw [fa_lt, show (0 : Int32).toInt = 0 from by decide] at c4; exact c4
      refine lv_iload_n hx hb dX10_coat_15 rfl (lv_at hl 2 rfl) ?_
      refine lv_iconst (v := 5) hx hb dX10_coat_16 (by decide) ?_
      refine lv_icmp_le (tgt := 23) hx hb dX10_coat_17 (by decide) (fun c5 => ?_) (fun c5 => ?_)
      · skip
        have zc5 : p2.toInt ≤ 5 := by rw [fa_le, show (5 : Int32).toInt = 5 from by decide] at c5; exact c5
        refine lv_iload_n hx hb dX10_coat_23 rfl (lv_at hl 2 rfl) ?_
        refine lv_iconst (v := 5) hx hb dX10_coat_24 (by decide) ?_
        refine lv_icmp_ne (tgt := 39) hx hb dX10_coat_25 (by decide) (fun c6 => ?_) (fun c6 => ?_)
        · skip
          have zc6 : ¬ (p2.toInt = 5) := by rw [fa_eq, show (5 : Int32).toInt = 5 from by decide] at c6; exact c6
          refine lv_aload_n hx hb dX10_coat_39 rfl (lv_at hl 0 rfl) ?_
          refine va_get (D := (dC, dI)) (ci := 10) (v := .ref (x 21)) (C := RX10) (T := TX10) (N := 10) hx hb hts inB_10 hown hE.1 hP 0 rfl rfl 3 (by decide) (hts _ k_494) (fun _ h9 => h9) rfl dX10_coat_40 ?_
          refine lv_iload_n hx hb dX10_coat_43 rfl (lv_at hl 2 rfl) ?_
          refine lv_iload_n hx hb dX10_coat_44 rfl (lv_at hl 1 rfl) ?_
          refine cbVi (n := 2) (rest := []) hx hb hml hown hts hE hP hD hS hA (sX_X1_part_1 l dC dI cy x0 x p2 p1 v f hIv ) k_854 k_828 k_829 k_106 k_830 (by decide +kernel) ⟨Nat.le_of_ble_eq_true rfl, Nat.le_of_ble_eq_true rfl⟩ 22 1 rfl rfl (rfl) hl.1 rfl (Nat.le_of_ble_eq_true rfl) dX10_coat_45 (fun r7 u H locs hw hP hD hS => ?_)
          exact ret r7 () _ _ _ _ _ _ rfl trivial hP hD hS dX10_coat_48 (Nat.le_refl _) (Nat.le_refl _)
        · skip
          have zc6 : p2.toInt = 5 := by rw [fa_eq, show (5 : Int32).toInt = 5 from by decide] at c6; exact c6
          refine lv_aload_n hx hb dX10_coat_28 rfl (lv_at hl 0 rfl) ?_
          refine va_get (D := (dC, dI)) (ci := 10) (v := .ref (x 21)) (C := RX10) (T := TX10) (N := 10) hx hb hts inB_10 hown hE.1 hP 0 rfl rfl 3 (by decide) (hts _ k_494) (fun _ h9 => h9) rfl dX10_coat_29 ?_
          refine lv_iload_n hx hb dX10_coat_32 rfl (lv_at hl 1 rfl) ?_
          refine cbVi (n := 1) (rest := []) hx hb hml hown hts hE hP hD hS hA (sX_X1_wearer_1 l dC dI cy x0 x p1 v f hIv ) k_849 k_850 k_851 k_106 k_852 (by decide +kernel) ⟨Nat.le_of_ble_eq_true rfl, Nat.le_of_ble_eq_true rfl⟩ 22 1 rfl rfl (rfl) hl.1 rfl (Nat.le_of_ble_eq_true rfl) dX10_coat_33 (fun r8 u H locs hw hP hD hS => ?_)
          refine lv_goto (tgt := 48) hx hb dX10_coat_36 (by decide) ?_
          exact ret r8 () _ _ _ _ _ _ rfl trivial hP hD hS dX10_coat_48 (Nat.le_refl _) (Nat.le_refl _)
      · skip
        have zc5 : ¬ (p2.toInt ≤ 5) := by rw [fa_le, show (5 : Int32).toInt = 5 from by decide] at c5; exact c5
        refine lv_bipush (v := (-2)) hx hb dX10_coat_20 (by decide) ?_
        exact ret (-2) () _ _ _ _ _ _ rfl trivial hP hD hS dX10_coat_22 (Nat.le_refl _) (Nat.le_refl _)
  · skip
    subst g3
    refine lv_if_eq (tgt := 20) hx hb dX10_coat_8 (by decide) (fun _ => ?_) (fun c0 => absurd (by decide) c0)
    refine lv_bipush (v := (-2)) hx hb dX10_coat_20 (by decide) ?_
    exact ret (-2) () _ _ _ _ _ _ rfl trivial hP hD hS dX10_coat_22 (Nat.le_refl _) (Nat.le_refl _)
set_option maxHeartbeats 4000000 in
set_option maxRecDepth 100000 in
theorem sX_X10_misfit_1 (l : Launch) (dC : Nat → ClassId) (dI : Nat → Nat → Nat) (cy : Nat → ClassId) (x0 : Nat) (x : Nat → Nat) (p1 : Int32) (p2 : Int32) (v : Nat → Int32) (f : Nat → Nat → Int32) (hIv : XI v)  : ctI l (dC, dI) cy yX10_misfit cX10_misfit 3 .int 4 133 0 0 ((Nat → Int32) × (Nat → Nat → Int32)) [.ref x0, .int p1, .int p2] (XW cy x0 x v f) (fun r u => KV [] u.1 v ∧ KF [13, 14] u.2 f ∧ XI u.1 ∧ u.1 0 = v 0 ∧ u.1 1 = v 1 ∧ u.1 7 = v 7 ∧ u.1 8 = v 8 ∧ u.1 9 = v 9 ∧ u.1 10 = v 10 ∧ u.1 31 = v 31 ∧ u.1 32 = v 32) (fun u => XW cy x0 x u.1 u.2) := by
  refine ctI_of (by decide) (Nat.le_of_ble_eq_true rfl) (fun p e s m below meth c A ls Q hx hb hml hts hown hE hP hD hA hl ret => ?_)
  have hM_v : KV [] v v := fun _ _ => rfl
  have hA_f : KF [13, 14] f f := fun _ _ => rfl
  have hown : s.vm.findClass RX10 = some m.cls := hown
  have hS : va_S A s.heap s.heap [] := va_S.rf
  have hl : lv_has ls 3 [(0, .ref x0), (1, .int p1), (2, .int p2)] := hl
  refine lv_aload_n hx hb dX10_misfit_0 rfl (lv_at hl 0 rfl) ?_
  refine va_get (D := (dC, dI)) (ci := 10) (v := .ref (x 26)) (C := RX10) (T := TX10) (N := 10) hx hb hts inB_10 hown hE.1 hP 0 rfl rfl 2 (by decide) (hts _ k_493) (fun _ h9 => h9) rfl dX10_misfit_1 ?_
  refine lv_iload_n hx hb dX10_misfit_4 rfl (lv_at hl 1 rfl) ?_
  refine cbVi (n := 1) (rest := []) hx hb hml hown hts hE hP hD hS hA (sX_X7_hasMan_1 0 l dC dI cy x0 x p1 v f hIv ) k_802 k_307 k_308 k_104 k_309 (by decide +kernel) ⟨Nat.le_of_ble_eq_true rfl, Nat.le_of_ble_eq_true rfl⟩ 27 7 rfl rfl (rfl) hl.1 rfl (Nat.le_of_ble_eq_true rfl) dX10_misfit_5 (fun r1 u H locs hw hP hD hS => ?_)
  obtain ⟨hG2, hw⟩ := hw
  rcases hw with ⟨g3, g3_0, g3_1, g3_2⟩ | ⟨g3⟩
  · skip
    subst g3
    refine lv_if_eq (tgt := 34) hx hb dX10_misfit_8 (by decide) (fun c0 => absurd c0 (by decide)) (fun _ => ?_)
    refine lv_aload_n hx hb dX10_misfit_11 rfl (lv_at hl 0 rfl) ?_
    refine va_get (D := (dC, dI)) (ci := 10) (v := .ref (x 26)) (C := RX10) (T := TX10) (N := 10) hx hb hts inB_10 hown hE.1 hP 0 rfl rfl 2 (by decide) (hts _ k_493) (fun _ h9 => h9) rfl dX10_misfit_12 ?_
    refine lv_iload_n hx hb dX10_misfit_15 rfl (lv_at hl 2 rfl) ?_
    refine cbVi (n := 1) (rest := []) hx hb hml hown hts hE hP hD hS hA (sX_X7_hasCoat_1 0 l dC dI cy x0 x p2 v f hIv ) k_848 k_315 k_316 k_104 k_317 (by decide +kernel) ⟨Nat.le_of_ble_eq_true rfl, Nat.le_of_ble_eq_true rfl⟩ 27 7 rfl rfl (rfl) hl.1 rfl (Nat.le_of_ble_eq_true rfl) dX10_misfit_16 (fun r4 u H locs hw hP hD hS => ?_)
    obtain ⟨hG5, hw⟩ := hw
    rcases hw with ⟨g6, g6_0, g6_1, g6_2⟩ | ⟨g6⟩
    · skip
      subst g6
      refine lv_if_eq (tgt := 34) hx hb dX10_misfit_19 (by decide) (fun c0 => absurd c0 (by decide)) (fun _ => ?_)
      refine lv_aload_n hx hb dX10_misfit_22 rfl (lv_at hl 0 rfl) ?_
      refine va_get (D := (dC, dI)) (ci := 10) (v := .ref (x 21)) (C := RX10) (T := TX10) (N := 10) hx hb hts inB_10 hown hE.1 hP 0 rfl rfl 3 (by decide) (hts _ k_494) (fun _ h9 => h9) rfl dX10_misfit_23 ?_
      refine lv_iload_n hx hb dX10_misfit_26 rfl (lv_at hl 1 rfl) ?_
      refine lv_iload_n hx hb dX10_misfit_27 rfl (lv_at hl 2 rfl) ?_
      refine cbVi (n := 2) (rest := []) hx hb hml hown hts hE hP hD hS hA (sX_X1_illness_1 l dC dI cy x0 x p1 p2 v f hIv ) k_859 k_823 k_824 k_106 k_825 (by decide +kernel) ⟨Nat.le_of_ble_eq_true rfl, Nat.le_of_ble_eq_true rfl⟩ 22 1 rfl rfl (rfl) hl.1 rfl (Nat.le_of_ble_eq_true rfl) dX10_misfit_28 (fun r7 u H locs hw hP hD hS => ?_)
      obtain ⟨v8, f9⟩ := u
      obtain ⟨kV_v8, kF_f9, hIv8, hk0_v8, hk1_v8, hk7_v8, hk8_v8, hk9_v8, hk10_v8, hk31_v8, hk32_v8⟩ := hw
      have hM_v8 : KV [] v8 v := KV.tr kV_v8 hM_v rfl
      have hA_f9 : KF [13, 14] f9 f := KF.tr kF_f9 hA_f rfl
      have hP : va_P (dC, dI) vwCl (XW cy x0 x v8 f9) H := hP
      have hD : va_D A (XW cy x0 x v8 f9) := hD
      have hq0_v8 : v8 0 = (v 0) := hk0_v8
      have hq1_v8 : v8 1 = (v 1) := hk1_v8
      have hq7_v8 : v8 7 = (v 7) := hk7_v8
      have hq8_v8 : v8 8 = (v 8) := hk8_v8
      have hq9_v8 : v8 9 = (v 9) := hk9_v8
      have hq10_v8 : v8 10 = (v 10) := hk10_v8
      have hq31_v8 : v8 31 = (v 31) := hk31_v8
      have hq32_v8 : v8 32 = (v 32) := hk32_v8
      refine lv_goto (tgt := 35) hx hb dX10_misfit_31 (by decide) ?_
      exact ret r7 (v8, f9) _ _ _ _ _ _ rfl ⟨hM_v8, hA_f9, hIv8, hk0_v8, hk1_v8, hk7_v8, hk8_v8, hk9_v8, hk10_v8, hk31_v8, hk32_v8⟩ hP hD hS dX10_misfit_35 (Nat.le_refl _) (Nat.le_refl _)
    · skip
      subst g6
      refine lv_if_eq (tgt := 34) hx hb dX10_misfit_19 (by decide) (fun _ => ?_) (fun c0 => absurd (by decide) c0)
      refine lv_iconst (v := (-1)) hx hb dX10_misfit_34 (by decide) ?_
      exact ret (-1) (v, f) _ _ _ _ _ _ rfl ⟨hM_v, hA_f, hIv, rfl, rfl, rfl, rfl, rfl, rfl, rfl, rfl⟩ hP hD hS dX10_misfit_35 (Nat.le_refl _) (Nat.le_refl _)
  · skip
    subst g3
    refine lv_if_eq (tgt := 34) hx hb dX10_misfit_8 (by decide) (fun _ => ?_) (fun c0 => absurd (by decide) c0)
    refine lv_iconst (v := (-1)) hx hb dX10_misfit_34 (by decide) ?_
    exact ret (-1) (v, f) _ _ _ _ _ _ rfl ⟨hM_v, hA_f, hIv, rfl, rfl, rfl, rfl, rfl, rfl, rfl, rfl⟩ hP hD hS dX10_misfit_35 (Nat.le_refl _) (Nat.le_refl _)
