set_option maxHeartbeats 4000000 in
set_option maxRecDepth 100000 in
theorem sX_X4_worth_1 (NF : Nat) (l : Launch) (dC : Nat → ClassId) (dI : Nat → Nat → Nat) (cy : Nat → ClassId) (x0 : Nat) (x : Nat → Nat) (p1 : Int32) (p2 : Int32) (p3 : Int32) (p4 : Int32) (p5 : Int32) (p6 : Int32) (v : Nat → Int32) (f : Nat → Nat → Int32) (hIv : XI v)  : ctI l (dC, dI) cy yX4_worth cX4_worth 10 .int 2 82 0 0 ((Nat → Int32) × (Nat → Nat → Int32)) [.ref (x 15), .int p1, .int p2, .int p3, .int p4, .int p5, .int p6] (XW cy x0 x v f) (fun r u => gsX_X4_worth_1 NF p1 p2 p3 p4 p5 p6 v f = (r, u) ∧ KV [] u.1 v ∧ KF [13, 14] u.2 f ∧ XI u.1 ∧ u.1 0 = v 0 ∧ u.1 1 = v 1 ∧ u.1 7 = v 7 ∧ u.1 8 = v 8 ∧ u.1 9 = v 9 ∧ u.1 10 = v 10 ∧ u.1 31 = v 31 ∧ u.1 32 = v 32) (fun u => XW cy x0 x u.1 u.2) := by
  refine ctI_of (by decide) (Nat.le_of_ble_eq_true rfl) (fun p e s m below meth c A ls Q hx hb hml hts hown hE hP hD hA hl ret => ?_)
  have hM_v : KV [] v v := fun _ _ => rfl
  have hA_f : KF [13, 14] f f := fun _ _ => rfl
  have hown : s.vm.findClass RX4 = some m.cls := hown
  have hS : va_S A s.heap s.heap [] := va_S.rf
  have hl : lv_has ls 10 [(0, .ref (x 15)), (1, .int p1), (2, .int p2), (3, .int p3), (4, .int p4), (5, .int p5), (6, .int p6)] := hl
  refine lv_aload_n hx hb dX4_worth_0 rfl (lv_at hl 0 rfl) ?_
  refine va_get (D := (dC, dI)) (ci := 4) (v := .ref (x 19)) (C := RX4) (T := TX4) (N := 6) hx hb hts inB_4 hown hE.1 hP 16 rfl rfl 3 (by decide) (hts _ k_181) (fun _ h9 => h9) rfl dX4_worth_1 ?_
  refine lv_iconst (v := 0) hx hb dX4_worth_4 (by decide) ?_
  refine lv_iconst (v := 0) hx hb dX4_worth_5 (by decide) ?_
  refine lv_iload_n hx hb dX4_worth_6 rfl (lv_at hl 2 rfl) ?_
  refine lv_iload hx hb dX4_worth_7 (lv_at hl 4 rfl) ?_
  refine lv_isub hx hb dX4_worth_9 ?_
  refine lv_topi (fun t1 et1 => ?_)
  refine va_mmax hx hb (by rw [hml]; exact hl.1.symm) hown (hts _ k_839) (hts _ k_640) (hts _ k_119) (hts _ k_641) (Nat.le_of_ble_eq_true rfl) (Nat.le_of_ble_eq_true rfl) (Nat.le_of_ble_eq_true rfl) (Nat.le_of_ble_eq_true rfl) dX4_worth_10 ?_
  refine lv_topi (fun t2 et2 => ?_)
  have zt2 : t2.toInt = max (0) (t1.toInt) := by rw [et2]; exact mmax_i (by decide) rfl
  refine stI hx hb hE hP hD hS 20 rfl (vp_in_nI (n := 0) (by decide) (by decide)) rfl dX4_worth_13 (fun H locs hP hD hS => ?_)
  obtain ⟨f3, ef3, hP, hD⟩ : ∃ fz9, fz9 = upd2 f 14 (upd (f 14) (0 : Int32).toNatClampNeg t2) ∧ va_P (dC, dI) vwCl (XW cy x0 x v fz9) H ∧ va_D A (XW cy x0 x v fz9) := ⟨_, rfl, hP, hD⟩
  have hA_f3 : KF [13, 14] f3 f := by rw [ef3]; exact KF.up hA_f rfl
  refine lv_aload_n hx hb dX4_worth_14 rfl (lv_at hl 0 rfl) ?_
  refine va_get (D := (dC, dI)) (ci := 4) (v := .ref (x 19)) (C := RX4) (T := TX4) (N := 6) hx hb hts inB_4 hown hE.1 hP 16 rfl rfl 3 (by decide) (hts _ k_181) (fun _ h9 => h9) rfl dX4_worth_15 ?_
  refine lv_iconst (v := 1) hx hb dX4_worth_18 (by decide) ?_
  refine lv_iconst (v := 0) hx hb dX4_worth_19 (by decide) ?_
  refine lv_iload hx hb dX4_worth_20 (lv_at hl 4 rfl) ?_
  refine lv_iload_n hx hb dX4_worth_22 rfl (lv_at hl 2 rfl) ?_
  refine lv_isub hx hb dX4_worth_23 ?_
  refine lv_topi (fun t4 et4 => ?_)
  refine va_mmax hx hb (by rw [hml]; exact hl.1.symm) hown (hts _ k_839) (hts _ k_640) (hts _ k_119) (hts _ k_641) (Nat.le_of_ble_eq_true rfl) (Nat.le_of_ble_eq_true rfl) (Nat.le_of_ble_eq_true rfl) (Nat.le_of_ble_eq_true rfl) dX4_worth_24 ?_
  refine lv_topi (fun t5 et5 => ?_)
  have zt5 : t5.toInt = max (0) (t4.toInt) := by rw [et5]; exact mmax_i (by decide) rfl
  refine stI hx hb hE hP hD hS 20 rfl (vp_in_nI (n := 1) (by decide) (by decide)) rfl dX4_worth_27 (fun H locs hP hD hS => ?_)
  obtain ⟨f6, ef6, hP, hD⟩ : ∃ fz9, fz9 = upd2 f3 14 (upd (f3 14) (1 : Int32).toNatClampNeg t5) ∧ va_P (dC, dI) vwCl (XW cy x0 x v fz9) H ∧ va_D A (XW cy x0 x v fz9) := ⟨_, rfl, hP, hD⟩
  have hA_f6 : KF [13, 14] f6 f := by rw [ef6]; exact KF.up hA_f3 rfl
  refine lv_aload_n hx hb dX4_worth_28 rfl (lv_at hl 0 rfl) ?_
  refine va_get (D := (dC, dI)) (ci := 4) (v := .ref (x 19)) (C := RX4) (T := TX4) (N := 6) hx hb hts inB_4 hown hE.1 hP 16 rfl rfl 3 (by decide) (hts _ k_181) (fun _ h9 => h9) rfl dX4_worth_29 ?_
  refine lv_iconst (v := 2) hx hb dX4_worth_32 (by decide) ?_
  refine lv_iconst (v := 0) hx hb dX4_worth_33 (by decide) ?_
  refine lv_iload_n hx hb dX4_worth_34 rfl (lv_at hl 1 rfl) ?_
  refine lv_iload_n hx hb dX4_worth_35 rfl (lv_at hl 3 rfl) ?_
  refine lv_isub hx hb dX4_worth_36 ?_
  refine lv_topi (fun t7 et7 => ?_)
  refine va_mmax hx hb (by rw [hml]; exact hl.1.symm) hown (hts _ k_839) (hts _ k_640) (hts _ k_119) (hts _ k_641) (Nat.le_of_ble_eq_true rfl) (Nat.le_of_ble_eq_true rfl) (Nat.le_of_ble_eq_true rfl) (Nat.le_of_ble_eq_true rfl) dX4_worth_37 ?_
  refine lv_topi (fun t8 et8 => ?_)
  have zt8 : t8.toInt = max (0) (t7.toInt) := by rw [et8]; exact mmax_i (by decide) rfl
  refine stI hx hb hE hP hD hS 20 rfl (vp_in_nI (n := 2) (by decide) (by decide)) rfl dX4_worth_40 (fun H locs hP hD hS => ?_)
  obtain ⟨f9, ef9, hP, hD⟩ : ∃ fz9, fz9 = upd2 f6 14 (upd (f6 14) (2 : Int32).toNatClampNeg t8) ∧ va_P (dC, dI) vwCl (XW cy x0 x v fz9) H ∧ va_D A (XW cy x0 x v fz9) := ⟨_, rfl, hP, hD⟩
  have hA_f9 : KF [13, 14] f9 f := by rw [ef9]; exact KF.up hA_f6 rfl
  refine lv_aload_n hx hb dX4_worth_41 rfl (lv_at hl 0 rfl) ?_
  refine va_get (D := (dC, dI)) (ci := 4) (v := .ref (x 19)) (C := RX4) (T := TX4) (N := 6) hx hb hts inB_4 hown hE.1 hP 16 rfl rfl 3 (by decide) (hts _ k_181) (fun _ h9 => h9) rfl dX4_worth_42 ?_
  refine lv_iconst (v := 3) hx hb dX4_worth_45 (by decide) ?_
  refine lv_iconst (v := 0) hx hb dX4_worth_46 (by decide) ?_
  refine lv_iload_n hx hb dX4_worth_47 rfl (lv_at hl 3 rfl) ?_
  refine lv_iload_n hx hb dX4_worth_48 rfl (lv_at hl 1 rfl) ?_
  refine lv_isub hx hb dX4_worth_49 ?_
  refine lv_topi (fun t10 et10 => ?_)
  refine va_mmax hx hb (by rw [hml]; exact hl.1.symm) hown (hts _ k_839) (hts _ k_640) (hts _ k_119) (hts _ k_641) (Nat.le_of_ble_eq_true rfl) (Nat.le_of_ble_eq_true rfl) (Nat.le_of_ble_eq_true rfl) (Nat.le_of_ble_eq_true rfl) dX4_worth_50 ?_
  refine lv_topi (fun t11 et11 => ?_)
  have zt11 : t11.toInt = max (0) (t10.toInt) := by rw [et11]; exact mmax_i (by decide) rfl
  refine stI hx hb hE hP hD hS 20 rfl (vp_in_nI (n := 3) (by decide) (by decide)) rfl dX4_worth_53 (fun H locs hP hD hS => ?_)
  obtain ⟨f12, ef12, hP, hD⟩ : ∃ fz9, fz9 = upd2 f9 14 (upd (f9 14) (3 : Int32).toNatClampNeg t11) ∧ va_P (dC, dI) vwCl (XW cy x0 x v fz9) H ∧ va_D A (XW cy x0 x v fz9) := ⟨_, rfl, hP, hD⟩
  have hA_f12 : KF [13, 14] f12 f := by rw [ef12]; exact KF.up hA_f9 rfl
  refine lv_aload_n hx hb dX4_worth_54 rfl (lv_at hl 0 rfl) ?_
  refine va_get (D := (dC, dI)) (ci := 4) (v := .ref (x 19)) (C := RX4) (T := TX4) (N := 6) hx hb hts inB_4 hown hE.1 hP 16 rfl rfl 3 (by decide) (hts _ k_181) (fun _ h9 => h9) rfl dX4_worth_55 ?_
  refine lv_iconst (v := 4) hx hb dX4_worth_58 (by decide) ?_
  refine lv_iload hx hb dX4_worth_59 (lv_at hl 5 rfl) ?_
  refine stI hx hb hE hP hD hS 20 rfl (vp_in_nI (n := 4) (by decide) (by decide)) rfl dX4_worth_61 (fun H locs hP hD hS => ?_)
  obtain ⟨f13, ef13, hP, hD⟩ : ∃ fz9, fz9 = upd2 f12 14 (upd (f12 14) (4 : Int32).toNatClampNeg p5) ∧ va_P (dC, dI) vwCl (XW cy x0 x v fz9) H ∧ va_D A (XW cy x0 x v fz9) := ⟨_, rfl, hP, hD⟩
  have hA_f13 : KF [13, 14] f13 f := by rw [ef13]; exact KF.up hA_f12 rfl
  refine lv_aload_n hx hb dX4_worth_62 rfl (lv_at hl 0 rfl) ?_
  refine va_get (D := (dC, dI)) (ci := 4) (v := .ref (x 19)) (C := RX4) (T := TX4) (N := 6) hx hb hts inB_4 hown hE.1 hP 16 rfl rfl 3 (by decide) (hts _ k_181) (fun _ h9 => h9) rfl dX4_worth_63 ?_
  refine lv_iconst (v := 5) hx hb dX4_worth_66 (by decide) ?_
  refine lv_iload hx hb dX4_worth_67 (lv_at hl 6 rfl) ?_
  refine stI hx hb hE hP hD hS 20 rfl (vp_in_nI (n := 5) (by decide) (by decide)) rfl dX4_worth_69 (fun H locs hP hD hS => ?_)
  obtain ⟨f14, ef14, hP, hD⟩ : ∃ fz9, fz9 = upd2 f13 14 (upd (f13 14) (5 : Int32).toNatClampNeg p6) ∧ va_P (dC, dI) vwCl (XW cy x0 x v fz9) H ∧ va_D A (XW cy x0 x v fz9) := ⟨_, rfl, hP, hD⟩
  have hA_f14 : KF [13, 14] f14 f := by rw [ef14]; exact KF.up hA_f13 rfl
  refine lv_aload_n hx hb dX4_worth_70 rfl (lv_at hl 0 rfl) ?_
  refine va_get (D := (dC, dI)) (ci := 4) (v := .int (v 18)) (C := RX4) (T := TX4) (N := 6) hx hb hts inB_4 hown hE.1 hP 16 rfl rfl 4 (by decide) (hts _ k_182) (fun _ h9 => h9) rfl dX4_worth_71 ?_
  have b18_v : 0 ≤ (v 18).toInt ∧ (v 18).toInt ≤ 300 := XI.b hIv 18 (by decide)
  refine lv_if_ne (tgt := 118) hx hb dX4_worth_74 (by decide) (fun c15 => ?_) (fun c15 => ?_)
  · skip
    have zc15 : ¬ ((v 18).toInt = 0) := by rw [fa_eq, show (0 : Int32).toInt = 0 from by decide] at c15; exact c15
    refine lv_iconst (v := 0) hx hb dX4_worth_118 (by decide) ?_
    refine lv_istore (lv' := [(7, .int 0), (0, .ref (x 15)), (1, .int p1), (2, .int p2), (3, .int p3), (4, .int p4), (5, .int p5), (6, .int p6)]) hx hb dX4_worth_119 hl (by decide) rfl (fun ls hl => ?_)
    refine lv_iconst (v := 0) hx hb dX4_worth_121 (by decide) ?_
    refine lv_istore (lv' := [(8, .int 0), (7, .int 0), (0, .ref (x 15)), (1, .int p1), (2, .int p2), (3, .int p3), (4, .int p4), (5, .int p5), (6, .int p6)]) hx hb dX4_worth_122 hl (by decide) rfl (fun ls hl => ?_)
    have lp16 : ∀ (n16 : Nat) (l7_16 : Int32) (l8_16 : Int32) (v16 : Nat → Int32) (f16 : Nat → Nat → Int32), XI v16 → v16 0 = (v 0) → v16 1 = (v 1) → v16 7 = (v 7) → v16 8 = (v 8) → v16 9 = (v 9) → v16 10 = (v 10) → v16 31 = (v 31) → v16 32 = (v 32) → gsX_X4_worth_1_L16 NF n16 l7_16 l8_16 v16 f16 = (gsX_X4_worth_1 NF p1 p2 p3 p4 p5 p6 v f) → ((0 : Int) ≤ l7_16.toInt ∧ l7_16.toInt ≤ 30) → ((0 : Int) ≤ l8_16.toInt ∧ l8_16.toInt ≤ 2147483647) → KV [] v16 v → KF [13, 14] f16 f → (2147483647 - l8_16.toInt).toNat < n16 → ∀ (H : Heap) (locs : List Loc) (ls : Array Slot), va_P (dC, dI) vwCl (XW cy x0 x v16 f16) H → va_D A (XW cy x0 x v16 f16) → va_S A s.heap H locs → lv_has ls 10 [(8, .int l8_16), (7, .int l7_16), (0, .ref (x 15)), (1, .int p1), (2, .int p2), (3, .int p3), (4, .int p4), (5, .int p5), (6, .int p6)] → W p l e { frames := 2, cells := 0, slots := 0, locals := 82 } s m ([.ref (x 15), .int p1, .int p2, .int p3, .int p4, .int p5, .int p6] : List Value).toArray below meth c H locs 0 0 Q (F0 m 124 ls []) := by
      intro n16
      induction n16 with
      | zero => intro l7_16 l8_16 v16 f16 hIv16 hq0_v16 hq1_v16 hq7_v16 hq8_v16 hq9_v16 hq10_v16 hq31_v16 hq32_v16 hT16 hr7_16 hr8_16 hM_v16 hA_f16 hm; exact absurd hm (Nat.not_lt_zero _)
      | succ n16 ih16 =>
        intro l7_16 l8_16 v16 f16 hIv16 hq0_v16 hq1_v16 hq7_v16 hq8_v16 hq9_v16 hq10_v16 hq31_v16 hq32_v16 hT16 hr7_16 hr8_16 hM_v16 hA_f16 hm16 H locs ls hP hD hS hl
        refine lv_iload hx hb dX4_worth_124 (lv_at hl 0 rfl) ?_
        refine lv_aload_n hx hb dX4_worth_126 rfl (lv_at hl 2 rfl) ?_
        refine va_get (D := (dC, dI)) (ci := 4) (v := .int (v16 18)) (C := RX4) (T := TX4) (N := 6) hx hb hts inB_4 hown hE.1 hP 16 rfl rfl 4 (by decide) (hts _ k_182) (fun _ h9 => h9) rfl dX4_worth_127 ?_
        have b18_v16 : 0 ≤ (v16 18).toInt ∧ (v16 18).toInt ≤ 300 := XI.b hIv16 18 (by decide)
        refine lv_icmp_ge (tgt := 305) hx hb dX4_worth_130 (by decide) (fun c17 => ?_) (fun c17 => ?_)
        · skip
          have zc17 : (v16 18).toInt ≤ l8_16.toInt := by rw [fa_le] at c17; exact c17
          have rg18 := fb_rng l8_16
          have rg19 := fb_rng (v16 18)
          refine lv_iconst (v := 0) hx hb dX4_worth_305 (by decide) ?_
          refine lv_sipush (v := 999) hx hb dX4_worth_306 (by decide) ?_
          refine lv_aload_n hx hb dX4_worth_309 rfl (lv_at hl 2 rfl) ?_
          refine va_get (D := (dC, dI)) (ci := 4) (v := .ref (x 18)) (C := RX4) (T := TX4) (N := 6) hx hb hts inB_4 hown hE.1 hP 16 rfl rfl 2 (by decide) (hts _ k_180) (fun _ h9 => h9) rfl dX4_worth_310 ?_
          refine lv_iconst (v := 0) hx hb dX4_worth_313 (by decide) ?_
          refine ldI hx hb hE hP 19 rfl (vp_in_nI (n := 0) (by decide) (by decide)) rfl rfl dX4_worth_314 ?_
          refine lv_topi (fun t20 et20 => ?_)
          refine va_mmin hx hb (by rw [hml]; exact hl.1.symm) hown (hts _ k_840) (hts _ k_643) (hts _ k_119) (hts _ k_644) (Nat.le_of_ble_eq_true rfl) (Nat.le_of_ble_eq_true rfl) (Nat.le_of_ble_eq_true rfl) (Nat.le_of_ble_eq_true rfl) dX4_worth_315 ?_
          refine lv_topi (fun t21 et21 => ?_)
          have zt21 : t21.toInt = min (999) (t20.toInt) := by rw [et21]; exact mmin_i (by decide) rfl
          refine va_mmax hx hb (by rw [hml]; exact hl.1.symm) hown (hts _ k_839) (hts _ k_640) (hts _ k_119) (hts _ k_641) (Nat.le_of_ble_eq_true rfl) (Nat.le_of_ble_eq_true rfl) (Nat.le_of_ble_eq_true rfl) (Nat.le_of_ble_eq_true rfl) dX4_worth_318 ?_
          refine lv_topi (fun t22 et22 => ?_)
          have zt22 : t22.toInt = max (0) (t21.toInt) := by rw [et22]; exact mmax_i (by decide) rfl
          exact ret t22 (v16, f16) _ _ _ _ _ _ rfl ⟨(hT16.symm.trans (gsX_X4_worth_1_q0 c17 et20 et21 et22)), hM_v16, hA_f16, hIv16, (show v16 0 = v 0 from hq0_v16), (show v16 1 = v 1 from hq1_v16), (show v16 7 = v 7 from hq7_v16), (show v16 8 = v 8 from hq8_v16), (show v16 9 = v 9 from hq9_v16), (show v16 10 = v 10 from hq10_v16), (show v16 31 = v 31 from hq31_v16), (show v16 32 = v 32 from hq32_v16)⟩ hP hD hS dX4_worth_321 (Nat.le_refl _) (Nat.le_refl _)
        · skip
          have zc17 : ¬ ((v16 18).toInt ≤ l8_16.toInt) := by rw [fa_le] at c17; exact c17
          have rg23 := fb_rng l8_16
          have rg24 := fb_rng (v16 18)
          refine lv_iload hx hb dX4_worth_133 (lv_at hl 0 rfl) ?_
          refine lv_sipush (v := 300) hx hb dX4_worth_135 (by decide) ?_
          refine lv_icmp_ge (tgt := 305) hx hb dX4_worth_138 (by decide) (fun c25 => ?_) (fun c25 => ?_)
          · skip
            have zc25 : 300 ≤ l8_16.toInt := by rw [fa_le, show (300 : Int32).toInt = 300 from by decide] at c25; exact c25
            refine lv_iconst (v := 0) hx hb dX4_worth_305 (by decide) ?_
            refine lv_sipush (v := 999) hx hb dX4_worth_306 (by decide) ?_
            refine lv_aload_n hx hb dX4_worth_309 rfl (lv_at hl 2 rfl) ?_
            refine va_get (D := (dC, dI)) (ci := 4) (v := .ref (x 18)) (C := RX4) (T := TX4) (N := 6) hx hb hts inB_4 hown hE.1 hP 16 rfl rfl 2 (by decide) (hts _ k_180) (fun _ h9 => h9) rfl dX4_worth_310 ?_
            refine lv_iconst (v := 0) hx hb dX4_worth_313 (by decide) ?_
            refine ldI hx hb hE hP 19 rfl (vp_in_nI (n := 0) (by decide) (by decide)) rfl rfl dX4_worth_314 ?_
            refine lv_topi (fun t26 et26 => ?_)
            refine va_mmin hx hb (by rw [hml]; exact hl.1.symm) hown (hts _ k_840) (hts _ k_643) (hts _ k_119) (hts _ k_644) (Nat.le_of_ble_eq_true rfl) (Nat.le_of_ble_eq_true rfl) (Nat.le_of_ble_eq_true rfl) (Nat.le_of_ble_eq_true rfl) dX4_worth_315 ?_
            refine lv_topi (fun t27 et27 => ?_)
            have zt27 : t27.toInt = min (999) (t26.toInt) := by rw [et27]; exact mmin_i (by decide) rfl
            refine va_mmax hx hb (by rw [hml]; exact hl.1.symm) hown (hts _ k_839) (hts _ k_640) (hts _ k_119) (hts _ k_641) (Nat.le_of_ble_eq_true rfl) (Nat.le_of_ble_eq_true rfl) (Nat.le_of_ble_eq_true rfl) (Nat.le_of_ble_eq_true rfl) dX4_worth_318 ?_
            refine lv_topi (fun t28 et28 => ?_)
            have zt28 : t28.toInt = max (0) (t27.toInt) := by rw [et28]; exact mmax_i (by decide) rfl
            exact ret t28 (v16, f16) _ _ _ _ _ _ rfl ⟨(hT16.symm.trans (gsX_X4_worth_1_q1 c17 c25 et26 et27 et28)), hM_v16, hA_f16, hIv16, (show v16 0 = v 0 from hq0_v16), (show v16 1 = v 1 from hq1_v16), (show v16 7 = v 7 from hq7_v16), (show v16 8 = v 8 from hq8_v16), (show v16 9 = v 9 from hq9_v16), (show v16 10 = v 10 from hq10_v16), (show v16 31 = v 31 from hq31_v16), (show v16 32 = v 32 from hq32_v16)⟩ hP hD hS dX4_worth_321 (Nat.le_refl _) (Nat.le_refl _)
          · skip
            have zc25 : ¬ (300 ≤ l8_16.toInt) := by rw [fa_le, show (300 : Int32).toInt = 300 from by decide] at c25; exact c25
            refine lv_aload_n hx hb dX4_worth_141 rfl (lv_at hl 2 rfl) ?_
            refine va_get (D := (dC, dI)) (ci := 4) (v := .ref (x 16)) (C := RX4) (T := TX4) (N := 6) hx hb hts inB_4 hown hE.1 hP 16 rfl rfl 0 (by decide) (hts _ k_178) (fun _ h9 => h9) rfl dX4_worth_142 ?_
            refine lv_iload hx hb dX4_worth_145 (lv_at hl 0 rfl) ?_
            refine ldI hx hb hE hP 17 rfl (vp_in_iff.mpr ⟨by omega, by omega⟩) rfl rfl dX4_worth_147 ?_
            refine lv_topi (fun t29 et29 => ?_)
            refine lv_istore (lv' := [(9, .int t29), (8, .int l8_16), (7, .int l7_16), (0, .ref (x 15)), (1, .int p1), (2, .int p2), (3, .int p3), (4, .int p4), (5, .int p5), (6, .int p6)]) hx hb dX4_worth_148 hl (by decide) rfl (fun ls hl => ?_)
            refine lv_iload hx hb dX4_worth_150 (lv_at hl 0 rfl) ?_
            refine lv_iconst (v := 2) hx hb dX4_worth_152 (by decide) ?_
            refine lv_icmp_eq (tgt := 170) hx hb dX4_worth_153 (by decide) (fun c30 => ?_) (fun c30 => ?_)
            · skip
              have zc30 : t29.toInt = 2 := by rw [fa_eq, show (2 : Int32).toInt = 2 from by decide] at c30; exact c30
              refine lv_iload hx hb dX4_worth_170 (lv_at hl 2 rfl) ?_
              refine lv_bipush (v := 30) hx hb dX4_worth_172 (by decide) ?_
              refine lv_icmp_ge (tgt := 299) hx hb dX4_worth_174 (by decide) (fun c31 => ?_) (fun c31 => ?_)
              · skip
                have zc31 : 30 ≤ l7_16.toInt := by rw [fa_le, show (30 : Int32).toInt = 30 from by decide] at c31; exact c31
                obtain ⟨t32, et32⟩ : ∃ y : Int32, y = l8_16 + 1 := ⟨_, rfl⟩
                have zt32 : t32.toInt = l8_16.toInt + 1 := by rw [et32]; exact add_i rfl (by decide) (by omega) (by omega)
                refine lv_iinc (v := t32) (lv' := [(8, .int t32), (9, .int t29), (7, .int l7_16), (0, .ref (x 15)), (1, .int p1), (2, .int p2), (3, .int p3), (4, .int p4), (5, .int p5), (6, .int p6)]) hx hb dX4_worth_299 hl (k := 1) rfl (by rw [et32]; rfl) (by decide) rfl (fun ls hl => ?_)
                refine lv_goto (tgt := 124) hx hb dX4_worth_302 (by decide) ?_
                have rg33 := fb_rng l7_16
                have rg34 := fb_rng t32
                exact ih16 l7_16 t32 v16 f16 hIv16 hq0_v16 hq1_v16 hq7_v16 hq8_v16 hq9_v16 hq10_v16 hq31_v16 hq32_v16 ((gsX_X4_worth_1_q2 c17 c25 et29 c30 c31 et32).symm.trans hT16) ⟨show (0 : Int) ≤ l7_16.toInt by omega, show l7_16.toInt ≤ (30 : Int) by omega⟩ ⟨show (0 : Int) ≤ t32.toInt by omega, show t32.toInt ≤ (2147483647 : Int) by omega⟩ hM_v16 hA_f16 (by show (2147483647 - t32.toInt).toNat < n16; omega) _ _ _ hP hD hS (lv_sub hl [0, 2, 3, 4, 5, 6, 7, 8, 9] rfl)
              · skip
                have zc31 : ¬ (30 ≤ l7_16.toInt) := by rw [fa_le, show (30 : Int32).toInt = 30 from by decide] at c31; exact c31
                refine lv_aload_n hx hb dX4_worth_177 rfl (lv_at hl 3 rfl) ?_
                refine va_get (D := (dC, dI)) (ci := 4) (v := .ref (x 18)) (C := RX4) (T := TX4) (N := 6) hx hb hts inB_4 hown hE.1 hP 16 rfl rfl 2 (by decide) (hts _ k_180) (fun _ h9 => h9) rfl dX4_worth_178 ?_
                refine lv_iload hx hb dX4_worth_181 (lv_at hl 2 rfl) ?_
                refine lv_iload hx hb dX4_worth_183 (lv_at hl 0 rfl) ?_
                refine lv_iconst (v := 2) hx hb dX4_worth_185 (by decide) ?_
                refine lv_icmp_ne (tgt := 199) hx hb dX4_worth_186 (by decide) (fun c35 => ?_) (fun c35 => ?_)
                · skip
                  have zc35 : ¬ (t29.toInt = 2) := by rw [fa_eq, show (2 : Int32).toInt = 2 from by decide] at c35; exact c35
                  refine lv_aload_n hx hb dX4_worth_199 rfl (lv_at hl 3 rfl) ?_
                  refine va_get (D := (dC, dI)) (ci := 4) (v := .ref (x 19)) (C := RX4) (T := TX4) (N := 6) hx hb hts inB_4 hown hE.1 hP 16 rfl rfl 3 (by decide) (hts _ k_181) (fun _ h9 => h9) rfl dX4_worth_200 ?_
                  refine lv_iload hx hb dX4_worth_203 (lv_at hl 0 rfl) ?_
                  refine lv_bipush (v := 116) hx hb dX4_worth_205 (by decide) ?_
                  refine lv_isub hx hb dX4_worth_207 ?_
                  refine lv_topi (fun t36 et36 => ?_)
                  have rg37 := fb_rng t29
                  have zt36 : t36.toInt = t29.toInt - 116 := by rw [et36]; exact sub_i rfl (by decide) (by omega) (by omega)
                  refine ldI hx hb hE hP 20 rfl (vp_in_iff.mpr ⟨by omega, by omega⟩) rfl rfl dX4_worth_208 ?_
                  refine lv_topi (fun t38 et38 => ?_)
                  refine stI hx hb hE hP hD hS 19 rfl (vp_in_iff.mpr ⟨by omega, by omega⟩) rfl dX4_worth_209 (fun H locs hP hD hS => ?_)
                  obtain ⟨f39, ef39, hP, hD⟩ : ∃ fz9, fz9 = upd2 f16 13 (upd (f16 13) l7_16.toNatClampNeg t38) ∧ va_P (dC, dI) vwCl (XW cy x0 x v16 fz9) H ∧ va_D A (XW cy x0 x v16 fz9) := ⟨_, rfl, hP, hD⟩
                  have hA_f39 : KF [13, 14] f39 f := by rw [ef39]; exact KF.up hA_f16 rfl
                  obtain ⟨t40, et40⟩ : ∃ y : Int32, y = l7_16 + 1 := ⟨_, rfl⟩
                  have rg41 := fb_rng l7_16
                  have zt40 : t40.toInt = l7_16.toInt + 1 := by rw [et40]; exact add_i rfl (by decide) (by omega) (by omega)
                  refine lv_iinc (v := t40) (lv' := [(7, .int t40), (9, .int t29), (8, .int l8_16), (0, .ref (x 15)), (1, .int p1), (2, .int p2), (3, .int p3), (4, .int p4), (5, .int p5), (6, .int p6)]) hx hb dX4_worth_210 hl (k := 2) rfl (by rw [et40]; rfl) (by decide) rfl (fun ls hl => ?_)
                  refine lv_goto (tgt := 299) hx hb dX4_worth_213 (by decide) ?_
                  obtain ⟨t42, et42⟩ : ∃ y : Int32, y = l8_16 + 1 := ⟨_, rfl⟩
                  have zt42 : t42.toInt = l8_16.toInt + 1 := by rw [et42]; exact add_i rfl (by decide) (by omega) (by omega)
                  refine lv_iinc (v := t42) (lv' := [(8, .int t42), (7, .int t40), (9, .int t29), (0, .ref (x 15)), (1, .int p1), (2, .int p2), (3, .int p3), (4, .int p4), (5, .int p5), (6, .int p6)]) hx hb dX4_worth_299 hl (k := 2) rfl (by rw [et42]; rfl) (by decide) rfl (fun ls hl => ?_)
                  refine lv_goto (tgt := 124) hx hb dX4_worth_302 (by decide) ?_
                  have rg43 := fb_rng t40
                  have rg44 := fb_rng t42
                  exact ih16 t40 t42 v16 f39 hIv16 hq0_v16 hq1_v16 hq7_v16 hq8_v16 hq9_v16 hq10_v16 hq31_v16 hq32_v16 ((gsX_X4_worth_1_q3 c17 c25 et29 c30 c31 c35 et36 et38 ef39 et40 et42).symm.trans hT16) ⟨show (0 : Int) ≤ t40.toInt by omega, show t40.toInt ≤ (30 : Int) by omega⟩ ⟨show (0 : Int) ≤ t42.toInt by omega, show t42.toInt ≤ (2147483647 : Int) by omega⟩ hM_v16 hA_f39 (by show (2147483647 - t42.toInt).toNat < n16; omega) _ _ _ hP hD hS (lv_sub hl [0, 1, 3, 4, 5, 6, 7, 8, 9] rfl)
                · skip
                  have zc35 : t29.toInt = 2 := by rw [fa_eq, show (2 : Int32).toInt = 2 from by decide] at c35; exact c35
                  refine lv_aload_n hx hb dX4_worth_189 rfl (lv_at hl 3 rfl) ?_
                  refine va_get (D := (dC, dI)) (ci := 4) (v := .ref (x 17)) (C := RX4) (T := TX4) (N := 6) hx hb hts inB_4 hown hE.1 hP 16 rfl rfl 1 (by decide) (hts _ k_179) (fun _ h9 => h9) rfl dX4_worth_190 ?_
                  refine lv_iload hx hb dX4_worth_193 (lv_at hl 1 rfl) ?_
                  refine ldI hx hb hE hP 18 rfl (vp_in_iff.mpr ⟨by omega, by omega⟩) rfl rfl dX4_worth_195 ?_
                  refine lv_topi (fun t45 et45 => ?_)
                  refine lv_goto (tgt := 209) hx hb dX4_worth_196 (by decide) ?_
                  refine stI hx hb hE hP hD hS 19 rfl (vp_in_iff.mpr ⟨by omega, by omega⟩) rfl dX4_worth_209 (fun H locs hP hD hS => ?_)
                  obtain ⟨f46, ef46, hP, hD⟩ : ∃ fz9, fz9 = upd2 f16 13 (upd (f16 13) l7_16.toNatClampNeg t45) ∧ va_P (dC, dI) vwCl (XW cy x0 x v16 fz9) H ∧ va_D A (XW cy x0 x v16 fz9) := ⟨_, rfl, hP, hD⟩
                  have hA_f46 : KF [13, 14] f46 f := by rw [ef46]; exact KF.up hA_f16 rfl
                  obtain ⟨t47, et47⟩ : ∃ y : Int32, y = l7_16 + 1 := ⟨_, rfl⟩
                  have rg48 := fb_rng l7_16
                  have zt47 : t47.toInt = l7_16.toInt + 1 := by rw [et47]; exact add_i rfl (by decide) (by omega) (by omega)
                  refine lv_iinc (v := t47) (lv' := [(7, .int t47), (9, .int t29), (8, .int l8_16), (0, .ref (x 15)), (1, .int p1), (2, .int p2), (3, .int p3), (4, .int p4), (5, .int p5), (6, .int p6)]) hx hb dX4_worth_210 hl (k := 2) rfl (by rw [et47]; rfl) (by decide) rfl (fun ls hl => ?_)
                  refine lv_goto (tgt := 299) hx hb dX4_worth_213 (by decide) ?_
                  obtain ⟨t49, et49⟩ : ∃ y : Int32, y = l8_16 + 1 := ⟨_, rfl⟩
                  have zt49 : t49.toInt = l8_16.toInt + 1 := by rw [et49]; exact add_i rfl (by decide) (by omega) (by omega)
                  refine lv_iinc (v := t49) (lv' := [(8, .int t49), (7, .int t47), (9, .int t29), (0, .ref (x 15)), (1, .int p1), (2, .int p2), (3, .int p3), (4, .int p4), (5, .int p5), (6, .int p6)]) hx hb dX4_worth_299 hl (k := 2) rfl (by rw [et49]; rfl) (by decide) rfl (fun ls hl => ?_)
                  refine lv_goto (tgt := 124) hx hb dX4_worth_302 (by decide) ?_
                  have rg50 := fb_rng t47
                  have rg51 := fb_rng t49
                  exact ih16 t47 t49 v16 f46 hIv16 hq0_v16 hq1_v16 hq7_v16 hq8_v16 hq9_v16 hq10_v16 hq31_v16 hq32_v16 ((gsX_X4_worth_1_q4 c17 c25 et29 c30 c31 c35 et45 ef46 et47 et49).symm.trans hT16) ⟨show (0 : Int) ≤ t47.toInt by omega, show t47.toInt ≤ (30 : Int) by omega⟩ ⟨show (0 : Int) ≤ t49.toInt by omega, show t49.toInt ≤ (2147483647 : Int) by omega⟩ hM_v16 hA_f46 (by show (2147483647 - t49.toInt).toNat < n16; omega) _ _ _ hP hD hS (lv_sub hl [0, 1, 3, 4, 5, 6, 7, 8, 9] rfl)
            · skip
              have zc30 : ¬ (t29.toInt = 2) := by rw [fa_eq, show (2 : Int32).toInt = 2 from by decide] at c30; exact c30
              refine lv_iload hx hb dX4_worth_156 (lv_at hl 0 rfl) ?_
              refine lv_bipush (v := 116) hx hb dX4_worth_158 (by decide) ?_
              refine lv_icmp_lt (tgt := 216) hx hb dX4_worth_160 (by decide) (fun c52 => ?_) (fun c52 => ?_)
              · skip
                have zc52 : t29.toInt < 116 := by rw [fa_lt, show (116 : Int32).toInt = 116 from by decide] at c52; exact c52
                refine lv_iload hx hb dX4_worth_216 (lv_at hl 0 rfl) ?_
                refine lv_bipush (v := 115) hx hb dX4_worth_218 (by decide) ?_
                refine lv_icmp_ne (tgt := 258) hx hb dX4_worth_220 (by decide) (fun c53 => ?_) (fun c53 => ?_)
                · skip
                  have zc53 : ¬ (t29.toInt = 115) := by rw [fa_eq, show (115 : Int32).toInt = 115 from by decide] at c53; exact c53
                  refine lv_iload hx hb dX4_worth_258 (lv_at hl 2 rfl) ?_
                  refine lv_iconst (v := 2) hx hb dX4_worth_260 (by decide) ?_
                  refine lv_icmp_lt (tgt := 299) hx hb dX4_worth_261 (by decide) (fun c54 => ?_) (fun c54 => ?_)
                  · skip
                    have zc54 : l7_16.toInt < 2 := by rw [fa_lt, show (2 : Int32).toInt = 2 from by decide] at c54; exact c54
                    obtain ⟨t55, et55⟩ : ∃ y : Int32, y = l8_16 + 1 := ⟨_, rfl⟩
                    have zt55 : t55.toInt = l8_16.toInt + 1 := by rw [et55]; exact add_i rfl (by decide) (by omega) (by omega)
                    refine lv_iinc (v := t55) (lv' := [(8, .int t55), (9, .int t29), (7, .int l7_16), (0, .ref (x 15)), (1, .int p1), (2, .int p2), (3, .int p3), (4, .int p4), (5, .int p5), (6, .int p6)]) hx hb dX4_worth_299 hl (k := 1) rfl (by rw [et55]; rfl) (by decide) rfl (fun ls hl => ?_)
                    refine lv_goto (tgt := 124) hx hb dX4_worth_302 (by decide) ?_
                    have rg56 := fb_rng l7_16
                    have rg57 := fb_rng t55
                    exact ih16 l7_16 t55 v16 f16 hIv16 hq0_v16 hq1_v16 hq7_v16 hq8_v16 hq9_v16 hq10_v16 hq31_v16 hq32_v16 ((gsX_X4_worth_1_q5 c17 c25 et29 c30 c52 c53 c54 et55).symm.trans hT16) ⟨show (0 : Int) ≤ l7_16.toInt by omega, show l7_16.toInt ≤ (30 : Int) by omega⟩ ⟨show (0 : Int) ≤ t55.toInt by omega, show t55.toInt ≤ (2147483647 : Int) by omega⟩ hM_v16 hA_f16 (by show (2147483647 - t55.toInt).toNat < n16; omega) _ _ _ hP hD hS (lv_sub hl [0, 2, 3, 4, 5, 6, 7, 8, 9] rfl)
                  · skip
                    have zc54 : ¬ (l7_16.toInt < 2) := by rw [fa_lt, show (2 : Int32).toInt = 2 from by decide] at c54; exact c54
                    refine lv_aload_n hx hb dX4_worth_264 rfl (lv_at hl 3 rfl) ?_
                    refine va_get (D := (dC, dI)) (ci := 4) (v := .ref (x 18)) (C := RX4) (T := TX4) (N := 6) hx hb hts inB_4 hown hE.1 hP 16 rfl rfl 2 (by decide) (hts _ k_180) (fun _ h9 => h9) rfl dX4_worth_265 ?_
                    refine lv_iload hx hb dX4_worth_268 (lv_at hl 2 rfl) ?_
                    refine lv_iconst (v := 2) hx hb dX4_worth_270 (by decide) ?_
                    refine lv_isub hx hb dX4_worth_271 ?_
                    refine lv_topi (fun t58 et58 => ?_)
                    have rg59 := fb_rng l7_16
                    have zt58 : t58.toInt = l7_16.toInt - 2 := by rw [et58]; exact sub_i rfl (by decide) (by omega) (by omega)
                    refine lv_iload hx hb dX4_worth_272 (lv_at hl 0 rfl) ?_
                    refine lv_aload_n hx hb dX4_worth_274 rfl (lv_at hl 3 rfl) ?_
                    refine va_get (D := (dC, dI)) (ci := 4) (v := .ref (x 18)) (C := RX4) (T := TX4) (N := 6) hx hb hts inB_4 hown hE.1 hP 16 rfl rfl 2 (by decide) (hts _ k_180) (fun _ h9 => h9) rfl dX4_worth_275 ?_
                    refine lv_iload hx hb dX4_worth_278 (lv_at hl 2 rfl) ?_
                    refine lv_iconst (v := 2) hx hb dX4_worth_280 (by decide) ?_
                    refine lv_isub hx hb dX4_worth_281 ?_
                    refine tI (y := t58) et58.symm ?_
                    refine ldI hx hb hE hP 19 rfl (vp_in_iff.mpr ⟨by omega, by omega⟩) rfl rfl dX4_worth_282 ?_
                    refine lv_topi (fun t60 et60 => ?_)
                    refine lv_aload_n hx hb dX4_worth_283 rfl (lv_at hl 3 rfl) ?_
                    refine va_get (D := (dC, dI)) (ci := 4) (v := .ref (x 18)) (C := RX4) (T := TX4) (N := 6) hx hb hts inB_4 hown hE.1 hP 16 rfl rfl 2 (by decide) (hts _ k_180) (fun _ h9 => h9) rfl dX4_worth_284 ?_
                    refine lv_iload hx hb dX4_worth_287 (lv_at hl 2 rfl) ?_
                    refine lv_iconst (v := 1) hx hb dX4_worth_289 (by decide) ?_
                    refine lv_isub hx hb dX4_worth_290 ?_
                    refine lv_topi (fun t61 et61 => ?_)
                    have zt61 : t61.toInt = l7_16.toInt - 1 := by rw [et61]; exact sub_i rfl (by decide) (by omega) (by omega)
                    refine ldI hx hb hE hP 19 rfl (vp_in_iff.mpr ⟨by omega, by omega⟩) rfl rfl dX4_worth_291 ?_
                    refine lv_topi (fun t62 et62 => ?_)
                    refine cbSi (n := 3) (rest := [.int t58, .ref (x 18)]) hx hb hml hown hts hE hP hD hS hA (sX_X4_joined_1 NF l dC dI cy x0 x t29 t60 t62 v16 f16 hIv16 ) k_841 k_842 k_105 k_843 (by decide +kernel) ⟨Nat.le_of_ble_eq_true rfl, Nat.le_of_ble_eq_true rfl⟩ (rfl) hl.1 rfl (Nat.le_of_ble_eq_true rfl) dX4_worth_292 (fun r63 u H locs hw hP hD hS => ?_)
                    have hG64 := hw
                    refine stI hx hb hE hP hD hS 19 rfl (vp_in_iff.mpr ⟨by omega, by omega⟩) rfl dX4_worth_295 (fun H locs hP hD hS => ?_)
                    obtain ⟨f65, ef65, hP, hD⟩ : ∃ fz9, fz9 = upd2 f16 13 (upd (f16 13) t58.toNatClampNeg r63) ∧ va_P (dC, dI) vwCl (XW cy x0 x v16 fz9) H ∧ va_D A (XW cy x0 x v16 fz9) := ⟨_, rfl, hP, hD⟩
                    have hA_f65 : KF [13, 14] f65 f := by rw [ef65]; exact KF.up hA_f16 rfl
                    obtain ⟨t66, et66⟩ : ∃ y : Int32, y = l7_16 + (-1) := ⟨_, rfl⟩
                    have zt66 : t66.toInt = l7_16.toInt + (-1) := by rw [et66]; exact add_i rfl (by decide) (by omega) (by omega)
                    refine lv_iinc (v := t66) (lv' := [(7, .int t66), (9, .int t29), (8, .int l8_16), (0, .ref (x 15)), (1, .int p1), (2, .int p2), (3, .int p3), (4, .int p4), (5, .int p5), (6, .int p6)]) hx hb dX4_worth_296 hl (k := 2) rfl (by rw [et66]; rfl) (by decide) rfl (fun ls hl => ?_)
                    obtain ⟨t67, et67⟩ : ∃ y : Int32, y = l8_16 + 1 := ⟨_, rfl⟩
                    have zt67 : t67.toInt = l8_16.toInt + 1 := by rw [et67]; exact add_i rfl (by decide) (by omega) (by omega)
                    refine lv_iinc (v := t67) (lv' := [(8, .int t67), (7, .int t66), (9, .int t29), (0, .ref (x 15)), (1, .int p1), (2, .int p2), (3, .int p3), (4, .int p4), (5, .int p5), (6, .int p6)]) hx hb dX4_worth_299 hl (k := 2) rfl (by rw [et67]; rfl) (by decide) rfl (fun ls hl => ?_)
                    refine lv_goto (tgt := 124) hx hb dX4_worth_302 (by decide) ?_
                    have rg68 := fb_rng t66
                    have rg69 := fb_rng t67
                    exact ih16 t66 t67 v16 f65 hIv16 hq0_v16 hq1_v16 hq7_v16 hq8_v16 hq9_v16 hq10_v16 hq31_v16 hq32_v16 ((gsX_X4_worth_1_q6 c17 c25 et29 c30 c52 c53 c54 et58 et60 et61 et62 hG64.symm ef65 et66 et67).symm.trans hT16) ⟨show (0 : Int) ≤ t66.toInt by omega, show t66.toInt ≤ (30 : Int) by omega⟩ ⟨show (0 : Int) ≤ t67.toInt by omega, show t67.toInt ≤ (2147483647 : Int) by omega⟩ hM_v16 hA_f65 (by show (2147483647 - t67.toInt).toNat < n16; omega) _ _ _ hP hD hS (lv_sub hl [0, 1, 3, 4, 5, 6, 7, 8, 9] rfl)
                · skip
                  have zc53 : t29.toInt = 115 := by rw [fa_eq, show (115 : Int32).toInt = 115 from by decide] at c53; exact c53
                  refine lv_iload hx hb dX4_worth_223 (lv_at hl 2 rfl) ?_
                  refine lv_iconst (v := 1) hx hb dX4_worth_225 (by decide) ?_
                  refine lv_icmp_lt (tgt := 258) hx hb dX4_worth_226 (by decide) (fun c70 => ?_) (fun c70 => ?_)
                  · skip
                    have zc70 : l7_16.toInt < 1 := by rw [fa_lt, show (1 : Int32).toInt = 1 from by decide] at c70; exact c70
                    refine lv_iload hx hb dX4_worth_258 (lv_at hl 2 rfl) ?_
                    refine lv_iconst (v := 2) hx hb dX4_worth_260 (by decide) ?_
                    refine lv_icmp_lt (tgt := 299) hx hb dX4_worth_261 (by decide) (fun c71 => ?_) (fun c71 => ?_)
                    · skip
                      have zc71 : l7_16.toInt < 2 := by rw [fa_lt, show (2 : Int32).toInt = 2 from by decide] at c71; exact c71
                      obtain ⟨t72, et72⟩ : ∃ y : Int32, y = l8_16 + 1 := ⟨_, rfl⟩
                      have zt72 : t72.toInt = l8_16.toInt + 1 := by rw [et72]; exact add_i rfl (by decide) (by omega) (by omega)
                      refine lv_iinc (v := t72) (lv' := [(8, .int t72), (9, .int t29), (7, .int l7_16), (0, .ref (x 15)), (1, .int p1), (2, .int p2), (3, .int p3), (4, .int p4), (5, .int p5), (6, .int p6)]) hx hb dX4_worth_299 hl (k := 1) rfl (by rw [et72]; rfl) (by decide) rfl (fun ls hl => ?_)
                      refine lv_goto (tgt := 124) hx hb dX4_worth_302 (by decide) ?_
                      have rg73 := fb_rng l7_16
                      have rg74 := fb_rng t72
                      exact ih16 l7_16 t72 v16 f16 hIv16 hq0_v16 hq1_v16 hq7_v16 hq8_v16 hq9_v16 hq10_v16 hq31_v16 hq32_v16 ((gsX_X4_worth_1_q7 c17 c25 et29 c30 c52 c53 c70 c71 et72).symm.trans hT16) ⟨show (0 : Int) ≤ l7_16.toInt by omega, show l7_16.toInt ≤ (30 : Int) by omega⟩ ⟨show (0 : Int) ≤ t72.toInt by omega, show t72.toInt ≤ (2147483647 : Int) by omega⟩ hM_v16 hA_f16 (by show (2147483647 - t72.toInt).toNat < n16; omega) _ _ _ hP hD hS (lv_sub hl [0, 2, 3, 4, 5, 6, 7, 8, 9] rfl)
                    · skip
                      have zc71 : ¬ (l7_16.toInt < 2) := by rw [fa_lt, show (2 : Int32).toInt = 2 from by decide] at c71; exact c71
                      refine lv_aload_n hx hb dX4_worth_264 rfl (lv_at hl 3 rfl) ?_
                      refine va_get (D := (dC, dI)) (ci := 4) (v := .ref (x 18)) (C := RX4) (T := TX4) (N := 6) hx hb hts inB_4 hown hE.1 hP 16 rfl rfl 2 (by decide) (hts _ k_180) (fun _ h9 => h9) rfl dX4_worth_265 ?_
                      refine lv_iload hx hb dX4_worth_268 (lv_at hl 2 rfl) ?_
                      refine lv_iconst (v := 2) hx hb dX4_worth_270 (by decide) ?_
                      refine lv_isub hx hb dX4_worth_271 ?_
                      refine lv_topi (fun t75 et75 => ?_)
                      have rg76 := fb_rng l7_16
                      have zt75 : t75.toInt = l7_16.toInt - 2 := by rw [et75]; exact sub_i rfl (by decide) (by omega) (by omega)
                      refine lv_iload hx hb dX4_worth_272 (lv_at hl 0 rfl) ?_
                      refine lv_aload_n hx hb dX4_worth_274 rfl (lv_at hl 3 rfl) ?_
                      refine va_get (D := (dC, dI)) (ci := 4) (v := .ref (x 18)) (C := RX4) (T := TX4) (N := 6) hx hb hts inB_4 hown hE.1 hP 16 rfl rfl 2 (by decide) (hts _ k_180) (fun _ h9 => h9) rfl dX4_worth_275 ?_
                      refine lv_iload hx hb dX4_worth_278 (lv_at hl 2 rfl) ?_
                      refine lv_iconst (v := 2) hx hb dX4_worth_280 (by decide) ?_
                      refine lv_isub hx hb dX4_worth_281 ?_
                      refine tI (y := t75) et75.symm ?_
                      refine ldI hx hb hE hP 19 rfl (vp_in_iff.mpr ⟨by omega, by omega⟩) rfl rfl dX4_worth_282 ?_
                      refine lv_topi (fun t77 et77 => ?_)
                      refine lv_aload_n hx hb dX4_worth_283 rfl (lv_at hl 3 rfl) ?_
                      refine va_get (D := (dC, dI)) (ci := 4) (v := .ref (x 18)) (C := RX4) (T := TX4) (N := 6) hx hb hts inB_4 hown hE.1 hP 16 rfl rfl 2 (by decide) (hts _ k_180) (fun _ h9 => h9) rfl dX4_worth_284 ?_
                      refine lv_iload hx hb dX4_worth_287 (lv_at hl 2 rfl) ?_
                      refine lv_iconst (v := 1) hx hb dX4_worth_289 (by decide) ?_
                      refine lv_isub hx hb dX4_worth_290 ?_
                      refine lv_topi (fun t78 et78 => ?_)
                      have zt78 : t78.toInt = l7_16.toInt - 1 := by rw [et78]; exact sub_i rfl (by decide) (by omega) (by omega)
                      refine ldI hx hb hE hP 19 rfl (vp_in_iff.mpr ⟨by omega, by omega⟩) rfl rfl dX4_worth_291 ?_
                      refine lv_topi (fun t79 et79 => ?_)
                      refine cbSi (n := 3) (rest := [.int t75, .ref (x 18)]) hx hb hml hown hts hE hP hD hS hA (sX_X4_joined_1 NF l dC dI cy x0 x t29 t77 t79 v16 f16 hIv16 ) k_841 k_842 k_105 k_843 (by decide +kernel) ⟨Nat.le_of_ble_eq_true rfl, Nat.le_of_ble_eq_true rfl⟩ (rfl) hl.1 rfl (Nat.le_of_ble_eq_true rfl) dX4_worth_292 (fun r80 u H locs hw hP hD hS => ?_)
                      have hG81 := hw
                      refine stI hx hb hE hP hD hS 19 rfl (vp_in_iff.mpr ⟨by omega, by omega⟩) rfl dX4_worth_295 (fun H locs hP hD hS => ?_)
                      obtain ⟨f82, ef82, hP, hD⟩ : ∃ fz9, fz9 = upd2 f16 13 (upd (f16 13) t75.toNatClampNeg r80) ∧ va_P (dC, dI) vwCl (XW cy x0 x v16 fz9) H ∧ va_D A (XW cy x0 x v16 fz9) := ⟨_, rfl, hP, hD⟩
                      have hA_f82 : KF [13, 14] f82 f := by rw [ef82]; exact KF.up hA_f16 rfl
                      obtain ⟨t83, et83⟩ : ∃ y : Int32, y = l7_16 + (-1) := ⟨_, rfl⟩
                      have zt83 : t83.toInt = l7_16.toInt + (-1) := by rw [et83]; exact add_i rfl (by decide) (by omega) (by omega)
                      refine lv_iinc (v := t83) (lv' := [(7, .int t83), (9, .int t29), (8, .int l8_16), (0, .ref (x 15)), (1, .int p1), (2, .int p2), (3, .int p3), (4, .int p4), (5, .int p5), (6, .int p6)]) hx hb dX4_worth_296 hl (k := 2) rfl (by rw [et83]; rfl) (by decide) rfl (fun ls hl => ?_)
                      obtain ⟨t84, et84⟩ : ∃ y : Int32, y = l8_16 + 1 := ⟨_, rfl⟩
                      have zt84 : t84.toInt = l8_16.toInt + 1 := by rw [et84]; exact add_i rfl (by decide) (by omega) (by omega)
                      refine lv_iinc (v := t84) (lv' := [(8, .int t84), (7, .int t83), (9, .int t29), (0, .ref (x 15)), (1, .int p1), (2, .int p2), (3, .int p3), (4, .int p4), (5, .int p5), (6, .int p6)]) hx hb dX4_worth_299 hl (k := 2) rfl (by rw [et84]; rfl) (by decide) rfl (fun ls hl => ?_)
                      refine lv_goto (tgt := 124) hx hb dX4_worth_302 (by decide) ?_
                      have rg85 := fb_rng t83
                      have rg86 := fb_rng t84
                      exact ih16 t83 t84 v16 f82 hIv16 hq0_v16 hq1_v16 hq7_v16 hq8_v16 hq9_v16 hq10_v16 hq31_v16 hq32_v16 ((gsX_X4_worth_1_q8 c17 c25 et29 c30 c52 c53 c70 c71 et75 et77 et78 et79 hG81.symm ef82 et83 et84).symm.trans hT16) ⟨show (0 : Int) ≤ t83.toInt by omega, show t83.toInt ≤ (30 : Int) by omega⟩ ⟨show (0 : Int) ≤ t84.toInt by omega, show t84.toInt ≤ (2147483647 : Int) by omega⟩ hM_v16 hA_f82 (by show (2147483647 - t84.toInt).toNat < n16; omega) _ _ _ hP hD hS (lv_sub hl [0, 1, 3, 4, 5, 6, 7, 8, 9] rfl)
                  · skip
                    have zc70 : ¬ (l7_16.toInt < 1) := by rw [fa_lt, show (1 : Int32).toInt = 1 from by decide] at c70; exact c70
                    refine lv_aload_n hx hb dX4_worth_229 rfl (lv_at hl 3 rfl) ?_
                    refine va_get (D := (dC, dI)) (ci := 4) (v := .ref (x 18)) (C := RX4) (T := TX4) (N := 6) hx hb hts inB_4 hown hE.1 hP 16 rfl rfl 2 (by decide) (hts _ k_180) (fun _ h9 => h9) rfl dX4_worth_230 ?_
                    refine lv_iload hx hb dX4_worth_233 (lv_at hl 2 rfl) ?_
                    refine lv_iconst (v := 1) hx hb dX4_worth_235 (by decide) ?_
                    refine lv_isub hx hb dX4_worth_236 ?_
                    refine lv_topi (fun t87 et87 => ?_)
                    have rg88 := fb_rng l7_16
                    have zt87 : t87.toInt = l7_16.toInt - 1 := by rw [et87]; exact sub_i rfl (by decide) (by omega) (by omega)
                    refine lv_aload_n hx hb dX4_worth_237 rfl (lv_at hl 3 rfl) ?_
                    refine va_get (D := (dC, dI)) (ci := 4) (v := .ref (x 18)) (C := RX4) (T := TX4) (N := 6) hx hb hts inB_4 hown hE.1 hP 16 rfl rfl 2 (by decide) (hts _ k_180) (fun _ h9 => h9) rfl dX4_worth_238 ?_
                    refine lv_iload hx hb dX4_worth_241 (lv_at hl 2 rfl) ?_
                    refine lv_iconst (v := 1) hx hb dX4_worth_243 (by decide) ?_
                    refine lv_isub hx hb dX4_worth_244 ?_
                    refine tI (y := t87) et87.symm ?_
                    refine ldI hx hb hE hP 19 rfl (vp_in_iff.mpr ⟨by omega, by omega⟩) rfl rfl dX4_worth_245 ?_
                    refine lv_topi (fun t89 et89 => ?_)
                    refine lv_if_ne (tgt := 253) hx hb dX4_worth_246 (by decide) (fun c90 => ?_) (fun c90 => ?_)
                    · skip
                      have zc90 : ¬ (t89.toInt = 0) := by rw [fa_eq, show (0 : Int32).toInt = 0 from by decide] at c90; exact c90
                      refine lv_iconst (v := 0) hx hb dX4_worth_253 (by decide) ?_
                      refine stI hx hb hE hP hD hS 19 rfl (vp_in_iff.mpr ⟨by omega, by omega⟩) rfl dX4_worth_254 (fun H locs hP hD hS => ?_)
                      obtain ⟨f91, ef91, hP, hD⟩ : ∃ fz9, fz9 = upd2 f16 13 (upd (f16 13) t87.toNatClampNeg 0) ∧ va_P (dC, dI) vwCl (XW cy x0 x v16 fz9) H ∧ va_D A (XW cy x0 x v16 fz9) := ⟨_, rfl, hP, hD⟩
                      have hA_f91 : KF [13, 14] f91 f := by rw [ef91]; exact KF.up hA_f16 rfl
                      refine lv_goto (tgt := 299) hx hb dX4_worth_255 (by decide) ?_
                      obtain ⟨t92, et92⟩ : ∃ y : Int32, y = l8_16 + 1 := ⟨_, rfl⟩
                      have zt92 : t92.toInt = l8_16.toInt + 1 := by rw [et92]; exact add_i rfl (by decide) (by omega) (by omega)
                      refine lv_iinc (v := t92) (lv' := [(8, .int t92), (9, .int t29), (7, .int l7_16), (0, .ref (x 15)), (1, .int p1), (2, .int p2), (3, .int p3), (4, .int p4), (5, .int p5), (6, .int p6)]) hx hb dX4_worth_299 hl (k := 1) rfl (by rw [et92]; rfl) (by decide) rfl (fun ls hl => ?_)
                      refine lv_goto (tgt := 124) hx hb dX4_worth_302 (by decide) ?_
                      have rg93 := fb_rng t92
                      exact ih16 l7_16 t92 v16 f91 hIv16 hq0_v16 hq1_v16 hq7_v16 hq8_v16 hq9_v16 hq10_v16 hq31_v16 hq32_v16 ((gsX_X4_worth_1_q9 c17 c25 et29 c30 c52 c53 c70 et87 et89 c90 ef91 et92).symm.trans hT16) ⟨show (0 : Int) ≤ l7_16.toInt by omega, show l7_16.toInt ≤ (30 : Int) by omega⟩ ⟨show (0 : Int) ≤ t92.toInt by omega, show t92.toInt ≤ (2147483647 : Int) by omega⟩ hM_v16 hA_f91 (by show (2147483647 - t92.toInt).toNat < n16; omega) _ _ _ hP hD hS (lv_sub hl [0, 2, 3, 4, 5, 6, 7, 8, 9] rfl)
                    · skip
                      have zc90 : t89.toInt = 0 := by rw [fa_eq, show (0 : Int32).toInt = 0 from by decide] at c90; exact c90
                      refine lv_iconst (v := 1) hx hb dX4_worth_249 (by decide) ?_
                      refine lv_goto (tgt := 254) hx hb dX4_worth_250 (by decide) ?_
                      refine stI hx hb hE hP hD hS 19 rfl (vp_in_iff.mpr ⟨by omega, by omega⟩) rfl dX4_worth_254 (fun H locs hP hD hS => ?_)
                      obtain ⟨f94, ef94, hP, hD⟩ : ∃ fz9, fz9 = upd2 f16 13 (upd (f16 13) t87.toNatClampNeg 1) ∧ va_P (dC, dI) vwCl (XW cy x0 x v16 fz9) H ∧ va_D A (XW cy x0 x v16 fz9) := ⟨_, rfl, hP, hD⟩
                      have hA_f94 : KF [13, 14] f94 f := by rw [ef94]; exact KF.up hA_f16 rfl
                      refine lv_goto (tgt := 299) hx hb dX4_worth_255 (by decide) ?_
                      obtain ⟨t95, et95⟩ : ∃ y : Int32, y = l8_16 + 1 := ⟨_, rfl⟩
                      have zt95 : t95.toInt = l8_16.toInt + 1 := by rw [et95]; exact add_i rfl (by decide) (by omega) (by omega)
                      refine lv_iinc (v := t95) (lv' := [(8, .int t95), (9, .int t29), (7, .int l7_16), (0, .ref (x 15)), (1, .int p1), (2, .int p2), (3, .int p3), (4, .int p4), (5, .int p5), (6, .int p6)]) hx hb dX4_worth_299 hl (k := 1) rfl (by rw [et95]; rfl) (by decide) rfl (fun ls hl => ?_)
                      refine lv_goto (tgt := 124) hx hb dX4_worth_302 (by decide) ?_
                      have rg96 := fb_rng t95
                      exact ih16 l7_16 t95 v16 f94 hIv16 hq0_v16 hq1_v16 hq7_v16 hq8_v16 hq9_v16 hq10_v16 hq31_v16 hq32_v16 ((gsX_X4_worth_1_q10 c17 c25 et29 c30 c52 c53 c70 et87 et89 c90 ef94 et95).symm.trans hT16) ⟨show (0 : Int) ≤ l7_16.toInt by omega, show l7_16.toInt ≤ (30 : Int) by omega⟩ ⟨show (0 : Int) ≤ t95.toInt by omega, show t95.toInt ≤ (2147483647 : Int) by omega⟩ hM_v16 hA_f94 (by show (2147483647 - t95.toInt).toNat < n16; omega) _ _ _ hP hD hS (lv_sub hl [0, 2, 3, 4, 5, 6, 7, 8, 9] rfl)
              · skip
                have zc52 : ¬ (t29.toInt < 116) := by rw [fa_lt, show (116 : Int32).toInt = 116 from by decide] at c52; exact c52
                refine lv_iload hx hb dX4_worth_163 (lv_at hl 0 rfl) ?_
                refine lv_bipush (v := 122) hx hb dX4_worth_165 (by decide) ?_
                refine lv_icmp_ge (tgt := 216) hx hb dX4_worth_167 (by decide) (fun c97 => ?_) (fun c97 => ?_)
                · skip
                  have zc97 : 122 ≤ t29.toInt := by rw [fa_le, show (122 : Int32).toInt = 122 from by decide] at c97; exact c97
                  refine lv_iload hx hb dX4_worth_216 (lv_at hl 0 rfl) ?_
                  refine lv_bipush (v := 115) hx hb dX4_worth_218 (by decide) ?_
                  refine lv_icmp_ne (tgt := 258) hx hb dX4_worth_220 (by decide) (fun c98 => ?_) (fun c98 => ?_)
                  · skip
                    have zc98 : ¬ (t29.toInt = 115) := by rw [fa_eq, show (115 : Int32).toInt = 115 from by decide] at c98; exact c98
                    refine lv_iload hx hb dX4_worth_258 (lv_at hl 2 rfl) ?_
                    refine lv_iconst (v := 2) hx hb dX4_worth_260 (by decide) ?_
                    refine lv_icmp_lt (tgt := 299) hx hb dX4_worth_261 (by decide) (fun c99 => ?_) (fun c99 => ?_)
                    · skip
                      have zc99 : l7_16.toInt < 2 := by rw [fa_lt, show (2 : Int32).toInt = 2 from by decide] at c99; exact c99
                      obtain ⟨t100, et100⟩ : ∃ y : Int32, y = l8_16 + 1 := ⟨_, rfl⟩
                      have zt100 : t100.toInt = l8_16.toInt + 1 := by rw [et100]; exact add_i rfl (by decide) (by omega) (by omega)
                      refine lv_iinc (v := t100) (lv' := [(8, .int t100), (9, .int t29), (7, .int l7_16), (0, .ref (x 15)), (1, .int p1), (2, .int p2), (3, .int p3), (4, .int p4), (5, .int p5), (6, .int p6)]) hx hb dX4_worth_299 hl (k := 1) rfl (by rw [et100]; rfl) (by decide) rfl (fun ls hl => ?_)
                      refine lv_goto (tgt := 124) hx hb dX4_worth_302 (by decide) ?_
                      have rg101 := fb_rng l7_16
                      have rg102 := fb_rng t100
                      exact ih16 l7_16 t100 v16 f16 hIv16 hq0_v16 hq1_v16 hq7_v16 hq8_v16 hq9_v16 hq10_v16 hq31_v16 hq32_v16 ((gsX_X4_worth_1_q11 c17 c25 et29 c30 c52 c97 c98 c99 et100).symm.trans hT16) ⟨show (0 : Int) ≤ l7_16.toInt by omega, show l7_16.toInt ≤ (30 : Int) by omega⟩ ⟨show (0 : Int) ≤ t100.toInt by omega, show t100.toInt ≤ (2147483647 : Int) by omega⟩ hM_v16 hA_f16 (by show (2147483647 - t100.toInt).toNat < n16; omega) _ _ _ hP hD hS (lv_sub hl [0, 2, 3, 4, 5, 6, 7, 8, 9] rfl)
                    · skip
                      have zc99 : ¬ (l7_16.toInt < 2) := by rw [fa_lt, show (2 : Int32).toInt = 2 from by decide] at c99; exact c99
                      refine lv_aload_n hx hb dX4_worth_264 rfl (lv_at hl 3 rfl) ?_
                      refine va_get (D := (dC, dI)) (ci := 4) (v := .ref (x 18)) (C := RX4) (T := TX4) (N := 6) hx hb hts inB_4 hown hE.1 hP 16 rfl rfl 2 (by decide) (hts _ k_180) (fun _ h9 => h9) rfl dX4_worth_265 ?_
                      refine lv_iload hx hb dX4_worth_268 (lv_at hl 2 rfl) ?_
                      refine lv_iconst (v := 2) hx hb dX4_worth_270 (by decide) ?_
                      refine lv_isub hx hb dX4_worth_271 ?_
                      refine lv_topi (fun t103 et103 => ?_)
                      have rg104 := fb_rng l7_16
                      have zt103 : t103.toInt = l7_16.toInt - 2 := by rw [et103]; exact sub_i rfl (by decide) (by omega) (by omega)
                      refine lv_iload hx hb dX4_worth_272 (lv_at hl 0 rfl) ?_
                      refine lv_aload_n hx hb dX4_worth_274 rfl (lv_at hl 3 rfl) ?_
                      refine va_get (D := (dC, dI)) (ci := 4) (v := .ref (x 18)) (C := RX4) (T := TX4) (N := 6) hx hb hts inB_4 hown hE.1 hP 16 rfl rfl 2 (by decide) (hts _ k_180) (fun _ h9 => h9) rfl dX4_worth_275 ?_
                      refine lv_iload hx hb dX4_worth_278 (lv_at hl 2 rfl) ?_
                      refine lv_iconst (v := 2) hx hb dX4_worth_280 (by decide) ?_
                      refine lv_isub hx hb dX4_worth_281 ?_
                      refine tI (y := t103) et103.symm ?_
                      refine ldI hx hb hE hP 19 rfl (vp_in_iff.mpr ⟨by omega, by omega⟩) rfl rfl dX4_worth_282 ?_
                      refine lv_topi (fun t105 et105 => ?_)
                      refine lv_aload_n hx hb dX4_worth_283 rfl (lv_at hl 3 rfl) ?_
                      refine va_get (D := (dC, dI)) (ci := 4) (v := .ref (x 18)) (C := RX4) (T := TX4) (N := 6) hx hb hts inB_4 hown hE.1 hP 16 rfl rfl 2 (by decide) (hts _ k_180) (fun _ h9 => h9) rfl dX4_worth_284 ?_
                      refine lv_iload hx hb dX4_worth_287 (lv_at hl 2 rfl) ?_
                      refine lv_iconst (v := 1) hx hb dX4_worth_289 (by decide) ?_
                      refine lv_isub hx hb dX4_worth_290 ?_
                      refine lv_topi (fun t106 et106 => ?_)
                      have zt106 : t106.toInt = l7_16.toInt - 1 := by rw [et106]; exact sub_i rfl (by decide) (by omega) (by omega)
                      refine ldI hx hb hE hP 19 rfl (vp_in_iff.mpr ⟨by omega, by omega⟩) rfl rfl dX4_worth_291 ?_
                      refine lv_topi (fun t107 et107 => ?_)
                      refine cbSi (n := 3) (rest := [.int t103, .ref (x 18)]) hx hb hml hown hts hE hP hD hS hA (sX_X4_joined_1 NF l dC dI cy x0 x t29 t105 t107 v16 f16 hIv16 ) k_841 k_842 k_105 k_843 (by decide +kernel) ⟨Nat.le_of_ble_eq_true rfl, Nat.le_of_ble_eq_true rfl⟩ (rfl) hl.1 rfl (Nat.le_of_ble_eq_true rfl) dX4_worth_292 (fun r108 u H locs hw hP hD hS => ?_)
                      have hG109 := hw
                      refine stI hx hb hE hP hD hS 19 rfl (vp_in_iff.mpr ⟨by omega, by omega⟩) rfl dX4_worth_295 (fun H locs hP hD hS => ?_)
                      obtain ⟨f110, ef110, hP, hD⟩ : ∃ fz9, fz9 = upd2 f16 13 (upd (f16 13) t103.toNatClampNeg r108) ∧ va_P (dC, dI) vwCl (XW cy x0 x v16 fz9) H ∧ va_D A (XW cy x0 x v16 fz9) := ⟨_, rfl, hP, hD⟩
                      have hA_f110 : KF [13, 14] f110 f := by rw [ef110]; exact KF.up hA_f16 rfl
                      obtain ⟨t111, et111⟩ : ∃ y : Int32, y = l7_16 + (-1) := ⟨_, rfl⟩
                      have zt111 : t111.toInt = l7_16.toInt + (-1) := by rw [et111]; exact add_i rfl (by decide) (by omega) (by omega)
                      refine lv_iinc (v := t111) (lv' := [(7, .int t111), (9, .int t29), (8, .int l8_16), (0, .ref (x 15)), (1, .int p1), (2, .int p2), (3, .int p3), (4, .int p4), (5, .int p5), (6, .int p6)]) hx hb dX4_worth_296 hl (k := 2) rfl (by rw [et111]; rfl) (by decide) rfl (fun ls hl => ?_)
                      obtain ⟨t112, et112⟩ : ∃ y : Int32, y = l8_16 + 1 := ⟨_, rfl⟩
                      have zt112 : t112.toInt = l8_16.toInt + 1 := by rw [et112]; exact add_i rfl (by decide) (by omega) (by omega)
                      refine lv_iinc (v := t112) (lv' := [(8, .int t112), (7, .int t111), (9, .int t29), (0, .ref (x 15)), (1, .int p1), (2, .int p2), (3, .int p3), (4, .int p4), (5, .int p5), (6, .int p6)]) hx hb dX4_worth_299 hl (k := 2) rfl (by rw [et112]; rfl) (by decide) rfl (fun ls hl => ?_)
                      refine lv_goto (tgt := 124) hx hb dX4_worth_302 (by decide) ?_
                      have rg113 := fb_rng t111
                      have rg114 := fb_rng t112
                      exact ih16 t111 t112 v16 f110 hIv16 hq0_v16 hq1_v16 hq7_v16 hq8_v16 hq9_v16 hq10_v16 hq31_v16 hq32_v16 ((gsX_X4_worth_1_q12 c17 c25 et29 c30 c52 c97 c98 c99 et103 et105 et106 et107 hG109.symm ef110 et111 et112).symm.trans hT16) ⟨show (0 : Int) ≤ t111.toInt by omega, show t111.toInt ≤ (30 : Int) by omega⟩ ⟨show (0 : Int) ≤ t112.toInt by omega, show t112.toInt ≤ (2147483647 : Int) by omega⟩ hM_v16 hA_f110 (by show (2147483647 - t112.toInt).toNat < n16; omega) _ _ _ hP hD hS (lv_sub hl [0, 1, 3, 4, 5, 6, 7, 8, 9] rfl)
                  · skip
                    have zc98 : t29.toInt = 115 := by rw [fa_eq, show (115 : Int32).toInt = 115 from by decide] at c98; exact c98
                    refine lv_iload hx hb dX4_worth_223 (lv_at hl 2 rfl) ?_
                    refine lv_iconst (v := 1) hx hb dX4_worth_225 (by decide) ?_
                    refine lv_icmp_lt (tgt := 258) hx hb dX4_worth_226 (by decide) (fun c115 => ?_) (fun c115 => ?_)
                    · skip
                      have zc115 : l7_16.toInt < 1 := by rw [fa_lt, show (1 : Int32).toInt = 1 from by decide] at c115; exact c115
                      refine lv_iload hx hb dX4_worth_258 (lv_at hl 2 rfl) ?_
                      refine lv_iconst (v := 2) hx hb dX4_worth_260 (by decide) ?_
                      refine lv_icmp_lt (tgt := 299) hx hb dX4_worth_261 (by decide) (fun c116 => ?_) (fun c116 => ?_)
                      · skip
                        have zc116 : l7_16.toInt < 2 := by rw [fa_lt, show (2 : Int32).toInt = 2 from by decide] at c116; exact c116
                        obtain ⟨t117, et117⟩ : ∃ y : Int32, y = l8_16 + 1 := ⟨_, rfl⟩
                        have zt117 : t117.toInt = l8_16.toInt + 1 := by rw [et117]; exact add_i rfl (by decide) (by omega) (by omega)
                        refine lv_iinc (v := t117) (lv' := [(8, .int t117), (9, .int t29), (7, .int l7_16), (0, .ref (x 15)), (1, .int p1), (2, .int p2), (3, .int p3), (4, .int p4), (5, .int p5), (6, .int p6)]) hx hb dX4_worth_299 hl (k := 1) rfl (by rw [et117]; rfl) (by decide) rfl (fun ls hl => ?_)
                        refine lv_goto (tgt := 124) hx hb dX4_worth_302 (by decide) ?_
                        have rg118 := fb_rng l7_16
                        have rg119 := fb_rng t117
                        exact ih16 l7_16 t117 v16 f16 hIv16 hq0_v16 hq1_v16 hq7_v16 hq8_v16 hq9_v16 hq10_v16 hq31_v16 hq32_v16 ((gsX_X4_worth_1_q13 c17 c25 et29 c30 c52 c97 c98 c115 c116 et117).symm.trans hT16) ⟨show (0 : Int) ≤ l7_16.toInt by omega, show l7_16.toInt ≤ (30 : Int) by omega⟩ ⟨show (0 : Int) ≤ t117.toInt by omega, show t117.toInt ≤ (2147483647 : Int) by omega⟩ hM_v16 hA_f16 (by show (2147483647 - t117.toInt).toNat < n16; omega) _ _ _ hP hD hS (lv_sub hl [0, 2, 3, 4, 5, 6, 7, 8, 9] rfl)
                      · skip
                        have zc116 : ¬ (l7_16.toInt < 2) := by rw [fa_lt, show (2 : Int32).toInt = 2 from by decide] at c116; exact c116
                        refine lv_aload_n hx hb dX4_worth_264 rfl (lv_at hl 3 rfl) ?_
                        refine va_get (D := (dC, dI)) (ci := 4) (v := .ref (x 18)) (C := RX4) (T := TX4) (N := 6) hx hb hts inB_4 hown hE.1 hP 16 rfl rfl 2 (by decide) (hts _ k_180) (fun _ h9 => h9) rfl dX4_worth_265 ?_
                        refine lv_iload hx hb dX4_worth_268 (lv_at hl 2 rfl) ?_
                        refine lv_iconst (v := 2) hx hb dX4_worth_270 (by decide) ?_
                        refine lv_isub hx hb dX4_worth_271 ?_
                        refine lv_topi (fun t120 et120 => ?_)
                        have rg121 := fb_rng l7_16
                        have zt120 : t120.toInt = l7_16.toInt - 2 := by rw [et120]; exact sub_i rfl (by decide) (by omega) (by omega)
                        refine lv_iload hx hb dX4_worth_272 (lv_at hl 0 rfl) ?_
                        refine lv_aload_n hx hb dX4_worth_274 rfl (lv_at hl 3 rfl) ?_
                        refine va_get (D := (dC, dI)) (ci := 4) (v := .ref (x 18)) (C := RX4) (T := TX4) (N := 6) hx hb hts inB_4 hown hE.1 hP 16 rfl rfl 2 (by decide) (hts _ k_180) (fun _ h9 => h9) rfl dX4_worth_275 ?_
                        refine lv_iload hx hb dX4_worth_278 (lv_at hl 2 rfl) ?_
                        refine lv_iconst (v := 2) hx hb dX4_worth_280 (by decide) ?_
                        refine lv_isub hx hb dX4_worth_281 ?_
                        refine tI (y := t120) et120.symm ?_
                        refine ldI hx hb hE hP 19 rfl (vp_in_iff.mpr ⟨by omega, by omega⟩) rfl rfl dX4_worth_282 ?_
                        refine lv_topi (fun t122 et122 => ?_)
                        refine lv_aload_n hx hb dX4_worth_283 rfl (lv_at hl 3 rfl) ?_
                        refine va_get (D := (dC, dI)) (ci := 4) (v := .ref (x 18)) (C := RX4) (T := TX4) (N := 6) hx hb hts inB_4 hown hE.1 hP 16 rfl rfl 2 (by decide) (hts _ k_180) (fun _ h9 => h9) rfl dX4_worth_284 ?_
                        refine lv_iload hx hb dX4_worth_287 (lv_at hl 2 rfl) ?_
                        refine lv_iconst (v := 1) hx hb dX4_worth_289 (by decide) ?_
                        refine lv_isub hx hb dX4_worth_290 ?_
                        refine lv_topi (fun t123 et123 => ?_)
                        have zt123 : t123.toInt = l7_16.toInt - 1 := by rw [et123]; exact sub_i rfl (by decide) (by omega) (by omega)
                        refine ldI hx hb hE hP 19 rfl (vp_in_iff.mpr ⟨by omega, by omega⟩) rfl rfl dX4_worth_291 ?_
                        refine lv_topi (fun t124 et124 => ?_)
                        refine cbSi (n := 3) (rest := [.int t120, .ref (x 18)]) hx hb hml hown hts hE hP hD hS hA (sX_X4_joined_1 NF l dC dI cy x0 x t29 t122 t124 v16 f16 hIv16 ) k_841 k_842 k_105 k_843 (by decide +kernel) ⟨Nat.le_of_ble_eq_true rfl, Nat.le_of_ble_eq_true rfl⟩ (rfl) hl.1 rfl (Nat.le_of_ble_eq_true rfl) dX4_worth_292 (fun r125 u H locs hw hP hD hS => ?_)
                        have hG126 := hw
                        refine stI hx hb hE hP hD hS 19 rfl (vp_in_iff.mpr ⟨by omega, by omega⟩) rfl dX4_worth_295 (fun H locs hP hD hS => ?_)
                        obtain ⟨f127, ef127, hP, hD⟩ : ∃ fz9, fz9 = upd2 f16 13 (upd (f16 13) t120.toNatClampNeg r125) ∧ va_P (dC, dI) vwCl (XW cy x0 x v16 fz9) H ∧ va_D A (XW cy x0 x v16 fz9) := ⟨_, rfl, hP, hD⟩
                        have hA_f127 : KF [13, 14] f127 f := by rw [ef127]; exact KF.up hA_f16 rfl
                        obtain ⟨t128, et128⟩ : ∃ y : Int32, y = l7_16 + (-1) := ⟨_, rfl⟩
                        have zt128 : t128.toInt = l7_16.toInt + (-1) := by rw [et128]; exact add_i rfl (by decide) (by omega) (by omega)
                        refine lv_iinc (v := t128) (lv' := [(7, .int t128), (9, .int t29), (8, .int l8_16), (0, .ref (x 15)), (1, .int p1), (2, .int p2), (3, .int p3), (4, .int p4), (5, .int p5), (6, .int p6)]) hx hb dX4_worth_296 hl (k := 2) rfl (by rw [et128]; rfl) (by decide) rfl (fun ls hl => ?_)
                        obtain ⟨t129, et129⟩ : ∃ y : Int32, y = l8_16 + 1 := ⟨_, rfl⟩
                        have zt129 : t129.toInt = l8_16.toInt + 1 := by rw [et129]; exact add_i rfl (by decide) (by omega) (by omega)
                        refine lv_iinc (v := t129) (lv' := [(8, .int t129), (7, .int t128), (9, .int t29), (0, .ref (x 15)), (1, .int p1), (2, .int p2), (3, .int p3), (4, .int p4), (5, .int p5), (6, .int p6)]) hx hb dX4_worth_299 hl (k := 2) rfl (by rw [et129]; rfl) (by decide) rfl (fun ls hl => ?_)
                        refine lv_goto (tgt := 124) hx hb dX4_worth_302 (by decide) ?_
                        have rg130 := fb_rng t128
                        have rg131 := fb_rng t129
                        exact ih16 t128 t129 v16 f127 hIv16 hq0_v16 hq1_v16 hq7_v16 hq8_v16 hq9_v16 hq10_v16 hq31_v16 hq32_v16 ((gsX_X4_worth_1_q14 c17 c25 et29 c30 c52 c97 c98 c115 c116 et120 et122 et123 et124 hG126.symm ef127 et128 et129).symm.trans hT16) ⟨show (0 : Int) ≤ t128.toInt by omega, show t128.toInt ≤ (30 : Int) by omega⟩ ⟨show (0 : Int) ≤ t129.toInt by omega, show t129.toInt ≤ (2147483647 : Int) by omega⟩ hM_v16 hA_f127 (by show (2147483647 - t129.toInt).toNat < n16; omega) _ _ _ hP hD hS (lv_sub hl [0, 1, 3, 4, 5, 6, 7, 8, 9] rfl)
                    · skip
                      have zc115 : ¬ (l7_16.toInt < 1) := by rw [fa_lt, show (1 : Int32).toInt = 1 from by decide] at c115; exact c115
                      refine lv_aload_n hx hb dX4_worth_229 rfl (lv_at hl 3 rfl) ?_
                      refine va_get (D := (dC, dI)) (ci := 4) (v := .ref (x 18)) (C := RX4) (T := TX4) (N := 6) hx hb hts inB_4 hown hE.1 hP 16 rfl rfl 2 (by decide) (hts _ k_180) (fun _ h9 => h9) rfl dX4_worth_230 ?_
                      refine lv_iload hx hb dX4_worth_233 (lv_at hl 2 rfl) ?_
                      refine lv_iconst (v := 1) hx hb dX4_worth_235 (by decide) ?_
                      refine lv_isub hx hb dX4_worth_236 ?_
                      refine lv_topi (fun t132 et132 => ?_)
                      have rg133 := fb_rng l7_16
                      have zt132 : t132.toInt = l7_16.toInt - 1 := by rw [et132]; exact sub_i rfl (by decide) (by omega) (by omega)
                      refine lv_aload_n hx hb dX4_worth_237 rfl (lv_at hl 3 rfl) ?_
                      refine va_get (D := (dC, dI)) (ci := 4) (v := .ref (x 18)) (C := RX4) (T := TX4) (N := 6) hx hb hts inB_4 hown hE.1 hP 16 rfl rfl 2 (by decide) (hts _ k_180) (fun _ h9 => h9) rfl dX4_worth_238 ?_
                      refine lv_iload hx hb dX4_worth_241 (lv_at hl 2 rfl) ?_
                      refine lv_iconst (v := 1) hx hb dX4_worth_243 (by decide) ?_
                      refine lv_isub hx hb dX4_worth_244 ?_
                      refine tI (y := t132) et132.symm ?_
                      refine ldI hx hb hE hP 19 rfl (vp_in_iff.mpr ⟨by omega, by omega⟩) rfl rfl dX4_worth_245 ?_
                      refine lv_topi (fun t134 et134 => ?_)
                      refine lv_if_ne (tgt := 253) hx hb dX4_worth_246 (by decide) (fun c135 => ?_) (fun c135 => ?_)
                      · skip
                        have zc135 : ¬ (t134.toInt = 0) := by rw [fa_eq, show (0 : Int32).toInt = 0 from by decide] at c135; exact c135
                        refine lv_iconst (v := 0) hx hb dX4_worth_253 (by decide) ?_
                        refine stI hx hb hE hP hD hS 19 rfl (vp_in_iff.mpr ⟨by omega, by omega⟩) rfl dX4_worth_254 (fun H locs hP hD hS => ?_)
                        obtain ⟨f136, ef136, hP, hD⟩ : ∃ fz9, fz9 = upd2 f16 13 (upd (f16 13) t132.toNatClampNeg 0) ∧ va_P (dC, dI) vwCl (XW cy x0 x v16 fz9) H ∧ va_D A (XW cy x0 x v16 fz9) := ⟨_, rfl, hP, hD⟩
                        have hA_f136 : KF [13, 14] f136 f := by rw [ef136]; exact KF.up hA_f16 rfl
                        refine lv_goto (tgt := 299) hx hb dX4_worth_255 (by decide) ?_
                        obtain ⟨t137, et137⟩ : ∃ y : Int32, y = l8_16 + 1 := ⟨_, rfl⟩
                        have zt137 : t137.toInt = l8_16.toInt + 1 := by rw [et137]; exact add_i rfl (by decide) (by omega) (by omega)
                        refine lv_iinc (v := t137) (lv' := [(8, .int t137), (9, .int t29), (7, .int l7_16), (0, .ref (x 15)), (1, .int p1), (2, .int p2), (3, .int p3), (4, .int p4), (5, .int p5), (6, .int p6)]) hx hb dX4_worth_299 hl (k := 1) rfl (by rw [et137]; rfl) (by decide) rfl (fun ls hl => ?_)
                        refine lv_goto (tgt := 124) hx hb dX4_worth_302 (by decide) ?_
                        have rg138 := fb_rng t137
                        exact ih16 l7_16 t137 v16 f136 hIv16 hq0_v16 hq1_v16 hq7_v16 hq8_v16 hq9_v16 hq10_v16 hq31_v16 hq32_v16 ((gsX_X4_worth_1_q15 c17 c25 et29 c30 c52 c97 c98 c115 et132 et134 c135 ef136 et137).symm.trans hT16) ⟨show (0 : Int) ≤ l7_16.toInt by omega, show l7_16.toInt ≤ (30 : Int) by omega⟩ ⟨show (0 : Int) ≤ t137.toInt by omega, show t137.toInt ≤ (2147483647 : Int) by omega⟩ hM_v16 hA_f136 (by show (2147483647 - t137.toInt).toNat < n16; omega) _ _ _ hP hD hS (lv_sub hl [0, 2, 3, 4, 5, 6, 7, 8, 9] rfl)
                      · skip
                        have zc135 : t134.toInt = 0 := by rw [fa_eq, show (0 : Int32).toInt = 0 from by decide] at c135; exact c135
                        refine lv_iconst (v := 1) hx hb dX4_worth_249 (by decide) ?_
                        refine lv_goto (tgt := 254) hx hb dX4_worth_250 (by decide) ?_
                        refine stI hx hb hE hP hD hS 19 rfl (vp_in_iff.mpr ⟨by omega, by omega⟩) rfl dX4_worth_254 (fun H locs hP hD hS => ?_)
                        obtain ⟨f139, ef139, hP, hD⟩ : ∃ fz9, fz9 = upd2 f16 13 (upd (f16 13) t132.toNatClampNeg 1) ∧ va_P (dC, dI) vwCl (XW cy x0 x v16 fz9) H ∧ va_D A (XW cy x0 x v16 fz9) := ⟨_, rfl, hP, hD⟩
                        have hA_f139 : KF [13, 14] f139 f := by rw [ef139]; exact KF.up hA_f16 rfl
                        refine lv_goto (tgt := 299) hx hb dX4_worth_255 (by decide) ?_
                        obtain ⟨t140, et140⟩ : ∃ y : Int32, y = l8_16 + 1 := ⟨_, rfl⟩
                        have zt140 : t140.toInt = l8_16.toInt + 1 := by rw [et140]; exact add_i rfl (by decide) (by omega) (by omega)
                        refine lv_iinc (v := t140) (lv' := [(8, .int t140), (9, .int t29), (7, .int l7_16), (0, .ref (x 15)), (1, .int p1), (2, .int p2), (3, .int p3), (4, .int p4), (5, .int p5), (6, .int p6)]) hx hb dX4_worth_299 hl (k := 1) rfl (by rw [et140]; rfl) (by decide) rfl (fun ls hl => ?_)
                        refine lv_goto (tgt := 124) hx hb dX4_worth_302 (by decide) ?_
                        have rg141 := fb_rng t140
                        exact ih16 l7_16 t140 v16 f139 hIv16 hq0_v16 hq1_v16 hq7_v16 hq8_v16 hq9_v16 hq10_v16 hq31_v16 hq32_v16 ((gsX_X4_worth_1_q16 c17 c25 et29 c30 c52 c97 c98 c115 et132 et134 c135 ef139 et140).symm.trans hT16) ⟨show (0 : Int) ≤ l7_16.toInt by omega, show l7_16.toInt ≤ (30 : Int) by omega⟩ ⟨show (0 : Int) ≤ t140.toInt by omega, show t140.toInt ≤ (2147483647 : Int) by omega⟩ hM_v16 hA_f139 (by show (2147483647 - t140.toInt).toNat < n16; omega) _ _ _ hP hD hS (lv_sub hl [0, 2, 3, 4, 5, 6, 7, 8, 9] rfl)
                · skip
                  have zc97 : ¬ (122 ≤ t29.toInt) := by rw [fa_le, show (122 : Int32).toInt = 122 from by decide] at c97; exact c97
                  refine lv_iload hx hb dX4_worth_170 (lv_at hl 2 rfl) ?_
                  refine lv_bipush (v := 30) hx hb dX4_worth_172 (by decide) ?_
                  refine lv_icmp_ge (tgt := 299) hx hb dX4_worth_174 (by decide) (fun c142 => ?_) (fun c142 => ?_)
                  · skip
                    have zc142 : 30 ≤ l7_16.toInt := by rw [fa_le, show (30 : Int32).toInt = 30 from by decide] at c142; exact c142
                    obtain ⟨t143, et143⟩ : ∃ y : Int32, y = l8_16 + 1 := ⟨_, rfl⟩
                    have zt143 : t143.toInt = l8_16.toInt + 1 := by rw [et143]; exact add_i rfl (by decide) (by omega) (by omega)
                    refine lv_iinc (v := t143) (lv' := [(8, .int t143), (9, .int t29), (7, .int l7_16), (0, .ref (x 15)), (1, .int p1), (2, .int p2), (3, .int p3), (4, .int p4), (5, .int p5), (6, .int p6)]) hx hb dX4_worth_299 hl (k := 1) rfl (by rw [et143]; rfl) (by decide) rfl (fun ls hl => ?_)
                    refine lv_goto (tgt := 124) hx hb dX4_worth_302 (by decide) ?_
                    have rg144 := fb_rng l7_16
                    have rg145 := fb_rng t143
                    exact ih16 l7_16 t143 v16 f16 hIv16 hq0_v16 hq1_v16 hq7_v16 hq8_v16 hq9_v16 hq10_v16 hq31_v16 hq32_v16 ((gsX_X4_worth_1_q17 c17 c25 et29 c30 c52 c97 c142 et143).symm.trans hT16) ⟨show (0 : Int) ≤ l7_16.toInt by omega, show l7_16.toInt ≤ (30 : Int) by omega⟩ ⟨show (0 : Int) ≤ t143.toInt by omega, show t143.toInt ≤ (2147483647 : Int) by omega⟩ hM_v16 hA_f16 (by show (2147483647 - t143.toInt).toNat < n16; omega) _ _ _ hP hD hS (lv_sub hl [0, 2, 3, 4, 5, 6, 7, 8, 9] rfl)
                  · skip
                    have zc142 : ¬ (30 ≤ l7_16.toInt) := by rw [fa_le, show (30 : Int32).toInt = 30 from by decide] at c142; exact c142
                    refine lv_aload_n hx hb dX4_worth_177 rfl (lv_at hl 3 rfl) ?_
                    refine va_get (D := (dC, dI)) (ci := 4) (v := .ref (x 18)) (C := RX4) (T := TX4) (N := 6) hx hb hts inB_4 hown hE.1 hP 16 rfl rfl 2 (by decide) (hts _ k_180) (fun _ h9 => h9) rfl dX4_worth_178 ?_
                    refine lv_iload hx hb dX4_worth_181 (lv_at hl 2 rfl) ?_
                    refine lv_iload hx hb dX4_worth_183 (lv_at hl 0 rfl) ?_
                    refine lv_iconst (v := 2) hx hb dX4_worth_185 (by decide) ?_
                    refine lv_icmp_ne (tgt := 199) hx hb dX4_worth_186 (by decide) (fun c146 => ?_) (fun c146 => ?_)
                    · skip
                      have zc146 : ¬ (t29.toInt = 2) := by rw [fa_eq, show (2 : Int32).toInt = 2 from by decide] at c146; exact c146
                      refine lv_aload_n hx hb dX4_worth_199 rfl (lv_at hl 3 rfl) ?_
                      refine va_get (D := (dC, dI)) (ci := 4) (v := .ref (x 19)) (C := RX4) (T := TX4) (N := 6) hx hb hts inB_4 hown hE.1 hP 16 rfl rfl 3 (by decide) (hts _ k_181) (fun _ h9 => h9) rfl dX4_worth_200 ?_
                      refine lv_iload hx hb dX4_worth_203 (lv_at hl 0 rfl) ?_
                      refine lv_bipush (v := 116) hx hb dX4_worth_205 (by decide) ?_
                      refine lv_isub hx hb dX4_worth_207 ?_
                      refine lv_topi (fun t147 et147 => ?_)
                      have rg148 := fb_rng t29
                      have zt147 : t147.toInt = t29.toInt - 116 := by rw [et147]; exact sub_i rfl (by decide) (by omega) (by omega)
                      refine ldI hx hb hE hP 20 rfl (vp_in_iff.mpr ⟨by omega, by omega⟩) rfl rfl dX4_worth_208 ?_
                      refine lv_topi (fun t149 et149 => ?_)
                      refine stI hx hb hE hP hD hS 19 rfl (vp_in_iff.mpr ⟨by omega, by omega⟩) rfl dX4_worth_209 (fun H locs hP hD hS => ?_)
                      obtain ⟨f150, ef150, hP, hD⟩ : ∃ fz9, fz9 = upd2 f16 13 (upd (f16 13) l7_16.toNatClampNeg t149) ∧ va_P (dC, dI) vwCl (XW cy x0 x v16 fz9) H ∧ va_D A (XW cy x0 x v16 fz9) := ⟨_, rfl, hP, hD⟩
                      have hA_f150 : KF [13, 14] f150 f := by rw [ef150]; exact KF.up hA_f16 rfl
                      obtain ⟨t151, et151⟩ : ∃ y : Int32, y = l7_16 + 1 := ⟨_, rfl⟩
                      have rg152 := fb_rng l7_16
                      have zt151 : t151.toInt = l7_16.toInt + 1 := by rw [et151]; exact add_i rfl (by decide) (by omega) (by omega)
                      refine lv_iinc (v := t151) (lv' := [(7, .int t151), (9, .int t29), (8, .int l8_16), (0, .ref (x 15)), (1, .int p1), (2, .int p2), (3, .int p3), (4, .int p4), (5, .int p5), (6, .int p6)]) hx hb dX4_worth_210 hl (k := 2) rfl (by rw [et151]; rfl) (by decide) rfl (fun ls hl => ?_)
                      refine lv_goto (tgt := 299) hx hb dX4_worth_213 (by decide) ?_
                      obtain ⟨t153, et153⟩ : ∃ y : Int32, y = l8_16 + 1 := ⟨_, rfl⟩
                      have zt153 : t153.toInt = l8_16.toInt + 1 := by rw [et153]; exact add_i rfl (by decide) (by omega) (by omega)
                      refine lv_iinc (v := t153) (lv' := [(8, .int t153), (7, .int t151), (9, .int t29), (0, .ref (x 15)), (1, .int p1), (2, .int p2), (3, .int p3), (4, .int p4), (5, .int p5), (6, .int p6)]) hx hb dX4_worth_299 hl (k := 2) rfl (by rw [et153]; rfl) (by decide) rfl (fun ls hl => ?_)
                      refine lv_goto (tgt := 124) hx hb dX4_worth_302 (by decide) ?_
                      have rg154 := fb_rng t151
                      have rg155 := fb_rng t153
                      exact ih16 t151 t153 v16 f150 hIv16 hq0_v16 hq1_v16 hq7_v16 hq8_v16 hq9_v16 hq10_v16 hq31_v16 hq32_v16 ((gsX_X4_worth_1_q18 c17 c25 et29 c30 c52 c97 c142 c146 et147 et149 ef150 et151 et153).symm.trans hT16) ⟨show (0 : Int) ≤ t151.toInt by omega, show t151.toInt ≤ (30 : Int) by omega⟩ ⟨show (0 : Int) ≤ t153.toInt by omega, show t153.toInt ≤ (2147483647 : Int) by omega⟩ hM_v16 hA_f150 (by show (2147483647 - t153.toInt).toNat < n16; omega) _ _ _ hP hD hS (lv_sub hl [0, 1, 3, 4, 5, 6, 7, 8, 9] rfl)
                    · skip
                      have zc146 : t29.toInt = 2 := by rw [fa_eq, show (2 : Int32).toInt = 2 from by decide] at c146; exact c146
                      refine lv_aload_n hx hb dX4_worth_189 rfl (lv_at hl 3 rfl) ?_
                      refine va_get (D := (dC, dI)) (ci := 4) (v := .ref (x 17)) (C := RX4) (T := TX4) (N := 6) hx hb hts inB_4 hown hE.1 hP 16 rfl rfl 1 (by decide) (hts _ k_179) (fun _ h9 => h9) rfl dX4_worth_190 ?_
                      refine lv_iload hx hb dX4_worth_193 (lv_at hl 1 rfl) ?_
                      refine ldI hx hb hE hP 18 rfl (vp_in_iff.mpr ⟨by omega, by omega⟩) rfl rfl dX4_worth_195 ?_
                      refine lv_topi (fun t156 et156 => ?_)
                      refine lv_goto (tgt := 209) hx hb dX4_worth_196 (by decide) ?_
                      refine stI hx hb hE hP hD hS 19 rfl (vp_in_iff.mpr ⟨by omega, by omega⟩) rfl dX4_worth_209 (fun H locs hP hD hS => ?_)
                      obtain ⟨f157, ef157, hP, hD⟩ : ∃ fz9, fz9 = upd2 f16 13 (upd (f16 13) l7_16.toNatClampNeg t156) ∧ va_P (dC, dI) vwCl (XW cy x0 x v16 fz9) H ∧ va_D A (XW cy x0 x v16 fz9) := ⟨_, rfl, hP, hD⟩
                      have hA_f157 : KF [13, 14] f157 f := by rw [ef157]; exact KF.up hA_f16 rfl
                      obtain ⟨t158, et158⟩ : ∃ y : Int32, y = l7_16 + 1 := ⟨_, rfl⟩
                      have rg159 := fb_rng l7_16
                      have zt158 : t158.toInt = l7_16.toInt + 1 := by rw [et158]; exact add_i rfl (by decide) (by omega) (by omega)
                      refine lv_iinc (v := t158) (lv' := [(7, .int t158), (9, .int t29), (8, .int l8_16), (0, .ref (x 15)), (1, .int p1), (2, .int p2), (3, .int p3), (4, .int p4), (5, .int p5), (6, .int p6)]) hx hb dX4_worth_210 hl (k := 2) rfl (by rw [et158]; rfl) (by decide) rfl (fun ls hl => ?_)
                      refine lv_goto (tgt := 299) hx hb dX4_worth_213 (by decide) ?_
                      obtain ⟨t160, et160⟩ : ∃ y : Int32, y = l8_16 + 1 := ⟨_, rfl⟩
                      have zt160 : t160.toInt = l8_16.toInt + 1 := by rw [et160]; exact add_i rfl (by decide) (by omega) (by omega)
                      refine lv_iinc (v := t160) (lv' := [(8, .int t160), (7, .int t158), (9, .int t29), (0, .ref (x 15)), (1, .int p1), (2, .int p2), (3, .int p3), (4, .int p4), (5, .int p5), (6, .int p6)]) hx hb dX4_worth_299 hl (k := 2) rfl (by rw [et160]; rfl) (by decide) rfl (fun ls hl => ?_)
                      refine lv_goto (tgt := 124) hx hb dX4_worth_302 (by decide) ?_
                      have rg161 := fb_rng t158
                      have rg162 := fb_rng t160
                      exact ih16 t158 t160 v16 f157 hIv16 hq0_v16 hq1_v16 hq7_v16 hq8_v16 hq9_v16 hq10_v16 hq31_v16 hq32_v16 ((gsX_X4_worth_1_q19 c17 c25 et29 c30 c52 c97 c142 c146 et156 ef157 et158 et160).symm.trans hT16) ⟨show (0 : Int) ≤ t158.toInt by omega, show t158.toInt ≤ (30 : Int) by omega⟩ ⟨show (0 : Int) ≤ t160.toInt by omega, show t160.toInt ≤ (2147483647 : Int) by omega⟩ hM_v16 hA_f157 (by show (2147483647 - t160.toInt).toNat < n16; omega) _ _ _ hP hD hS (lv_sub hl [0, 1, 3, 4, 5, 6, 7, 8, 9] rfl)
    exact lp16 (4294967296 + NF) 0 0 v f14 hIv rfl rfl rfl rfl rfl rfl rfl rfl (gsX_X4_worth_1_q20 et1 et2 ef3 et4 et5 ef6 et7 et8 ef9 et10 et11 ef12 ef13 ef14 c15).symm ⟨by decide, by decide⟩ ⟨by decide, by decide⟩ hM_v hA_f14 (by have q8 : (0 : Int32).toInt = 0 := (by decide); have q7 : (0 : Int32).toInt = 0 := (by decide); show (2147483647 - (0 : Int32).toInt).toNat < 4294967296 + NF; omega) _ _ _ hP hD hS (lv_sub hl [0, 1, 2, 3, 4, 5, 6, 7, 8] rfl)
  · skip
    have zc15 : (v 18).toInt = 0 := by rw [fa_eq, show (0 : Int32).toInt = 0 from by decide] at c15; exact c15
    refine lv_sipush (v := 999) hx hb dX4_worth_77 (by decide) ?_
    refine lv_aload_n hx hb dX4_worth_80 rfl (lv_at hl 0 rfl) ?_
    refine va_get (D := (dC, dI)) (ci := 4) (v := .ref (x 19)) (C := RX4) (T := TX4) (N := 6) hx hb hts inB_4 hown hE.1 hP 16 rfl rfl 3 (by decide) (hts _ k_181) (fun _ h9 => h9) rfl dX4_worth_81 ?_
    refine lv_iconst (v := 0) hx hb dX4_worth_84 (by decide) ?_
    refine ldI hx hb hE hP 20 rfl (vp_in_nI (n := 0) (by decide) (by decide)) rfl rfl dX4_worth_85 ?_
    refine lv_topi (fun t163 et163 => ?_)
    refine lv_iconst (v := 3) hx hb dX4_worth_86 (by decide) ?_
    refine lv_imul hx hb dX4_worth_87 ?_
    refine lv_topi (fun t164 et164 => ?_)
    refine lv_aload_n hx hb dX4_worth_88 rfl (lv_at hl 0 rfl) ?_
    refine va_get (D := (dC, dI)) (ci := 4) (v := .ref (x 19)) (C := RX4) (T := TX4) (N := 6) hx hb hts inB_4 hown hE.1 hP 16 rfl rfl 3 (by decide) (hts _ k_181) (fun _ h9 => h9) rfl dX4_worth_89 ?_
    refine lv_iconst (v := 1) hx hb dX4_worth_92 (by decide) ?_
    refine ldI hx hb hE hP 20 rfl (vp_in_nI (n := 1) (by decide) (by decide)) rfl rfl dX4_worth_93 ?_
    refine lv_topi (fun t165 et165 => ?_)
    refine lv_iadd hx hb dX4_worth_94 ?_
    refine lv_topi (fun t166 et166 => ?_)
    refine lv_aload_n hx hb dX4_worth_95 rfl (lv_at hl 0 rfl) ?_
    refine va_get (D := (dC, dI)) (ci := 4) (v := .ref (x 19)) (C := RX4) (T := TX4) (N := 6) hx hb hts inB_4 hown hE.1 hP 16 rfl rfl 3 (by decide) (hts _ k_181) (fun _ h9 => h9) rfl dX4_worth_96 ?_
    refine lv_iconst (v := 2) hx hb dX4_worth_99 (by decide) ?_
    refine ldI hx hb hE hP 20 rfl (vp_in_nI (n := 2) (by decide) (by decide)) rfl rfl dX4_worth_100 ?_
    refine lv_topi (fun t167 et167 => ?_)
    refine lv_iconst (v := 2) hx hb dX4_worth_101 (by decide) ?_
    refine lv_imul hx hb dX4_worth_102 ?_
    refine lv_topi (fun t168 et168 => ?_)
    refine lv_iadd hx hb dX4_worth_103 ?_
    refine lv_topi (fun t169 et169 => ?_)
    refine lv_aload_n hx hb dX4_worth_104 rfl (lv_at hl 0 rfl) ?_
    refine va_get (D := (dC, dI)) (ci := 4) (v := .ref (x 19)) (C := RX4) (T := TX4) (N := 6) hx hb hts inB_4 hown hE.1 hP 16 rfl rfl 3 (by decide) (hts _ k_181) (fun _ h9 => h9) rfl dX4_worth_105 ?_
    refine lv_iconst (v := 3) hx hb dX4_worth_108 (by decide) ?_
    refine ldI hx hb hE hP 20 rfl (vp_in_nI (n := 3) (by decide) (by decide)) rfl rfl dX4_worth_109 ?_
    refine lv_topi (fun t170 et170 => ?_)
    refine lv_iadd hx hb dX4_worth_110 ?_
    refine lv_topi (fun t171 et171 => ?_)
    refine lv_iload hx hb dX4_worth_111 (lv_at hl 5 rfl) ?_
    refine lv_iadd hx hb dX4_worth_113 ?_
    refine lv_topi (fun t172 et172 => ?_)
    refine va_mmin hx hb (by rw [hml]; exact hl.1.symm) hown (hts _ k_840) (hts _ k_643) (hts _ k_119) (hts _ k_644) (Nat.le_of_ble_eq_true rfl) (Nat.le_of_ble_eq_true rfl) (Nat.le_of_ble_eq_true rfl) (Nat.le_of_ble_eq_true rfl) dX4_worth_114 ?_
    refine lv_topi (fun t173 et173 => ?_)
    have zt173 : t173.toInt = min (999) (t172.toInt) := by rw [et173]; exact mmin_i (by decide) rfl
    exact ret t173 (v, f14) _ _ _ _ _ _ rfl ⟨(gsX_X4_worth_1_q21 et1 et2 ef3 et4 et5 ef6 et7 et8 ef9 et10 et11 ef12 ef13 ef14 c15 et163 et164 et165 et166 et167 et168 et169 et170 et171 et172 et173), hM_v, hA_f14, hIv, rfl, rfl, rfl, rfl, rfl, rfl, rfl, rfl⟩ hP hD hS dX4_worth_117 (Nat.le_refl _) (Nat.le_refl _)
