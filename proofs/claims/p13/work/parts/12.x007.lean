set_option maxHeartbeats 4000000 in
set_option maxRecDepth 100000 in
theorem sX_X7_addMan_1 (NF : Nat) (l : Launch) (dC : Nat → ClassId) (dI : Nat → Nat → Nat) (cy : Nat → ClassId) (x0 : Nat) (x : Nat → Nat) (p1 : Int32) (p2 : Int32) (p3 : Int32) (v : Nat → Int32) (f : Nat → Nat → Int32) (hIv : XI v)  : ctV l (dC, dI) cy yX7_addMan cX7_addMan 4 1 60 0 0 ((Nat → Int32) × (Nat → Nat → Int32)) [.ref (x 3), .int p1, .int p2, .int p3] (XW cy x0 x v f) (fun u => gsX_X7_addMan_1 NF p1 p2 p3 v f = u ∧ KV [9] u.1 v ∧ KF [1] u.2 f ∧ XI u.1 ∧ u.1 0 = v 0 ∧ u.1 1 = v 1 ∧ u.1 7 = v 7 ∧ u.1 8 = v 8 ∧ u.1 10 = v 10 ∧ u.1 32 = v 32) (fun u => XW cy x0 x u.1 u.2) := by
  refine ctV_of (by decide) (Nat.le_of_ble_eq_true rfl) (fun p e s m below meth c A ls Q hx hb hml hts hown hnm hE hP hD hA hl ret => ?_)
  have hM_v : KV [9] v v := fun _ _ => rfl
  have hA_f : KF [1] f f := fun _ _ => rfl
  have hown : s.vm.findClass RX7 = some m.cls := hown
  have hS : va_S A s.heap s.heap [] := va_S.rf
  have hl : lv_has ls 4 [(0, .ref (x 3)), (1, .int p1), (2, .int p2), (3, .int p3)] := hl
  refine lv_aload_n hx hb dX7_addMan_0 rfl (lv_at hl 0 rfl) ?_
  refine va_get (D := (dC, dI)) (ci := 7) (v := .int (v 9)) (C := RX7) (T := TX7) (N := 10) hx hb hts inB_7 hown hE.1 hP 4 rfl rfl 3 (by decide) (hts _ k_212) (fun _ h9 => h9) rfl dX7_addMan_1 ?_
  have b9_v : 0 ≤ (v 9).toInt ∧ (v 9).toInt ≤ 6 := XI.b hIv 9 (by decide)
  refine lv_bipush (v := 6) hx hb dX7_addMan_4 (by decide) ?_
  refine lv_icmp_ge (tgt := 57) hx hb dX7_addMan_6 (by decide) (fun c1 => ?_) (fun c1 => ?_)
  · skip
    have zc1 : 6 ≤ (v 9).toInt := by rw [fa_le, show (6 : Int32).toInt = 6 from by decide] at c1; exact c1
    exact ret (v, f) _ _ _ _ _ _ ⟨(gsX_X7_addMan_1_q0 c1), hM_v, hA_f, hIv, rfl, rfl, rfl, rfl, rfl, rfl⟩ hP hD hS dX7_addMan_57 (Nat.le_refl _) (Nat.le_refl _)
  · skip
    have zc1 : ¬ (6 ≤ (v 9).toInt) := by rw [fa_le, show (6 : Int32).toInt = 6 from by decide] at c1; exact c1
    refine lv_aload_n hx hb dX7_addMan_9 rfl (lv_at hl 0 rfl) ?_
    refine va_get (D := (dC, dI)) (ci := 7) (v := .ref (x 4)) (C := RX7) (T := TX7) (N := 10) hx hb hts inB_7 hown hE.1 hP 4 rfl rfl 0 (by decide) (hts _ k_204) (fun _ h9 => h9) rfl dX7_addMan_10 ?_
    refine lv_iconst (v := 0) hx hb dX7_addMan_13 (by decide) ?_
    refine lv_aload_n hx hb dX7_addMan_14 rfl (lv_at hl 0 rfl) ?_
    refine va_get (D := (dC, dI)) (ci := 7) (v := .int (v 9)) (C := RX7) (T := TX7) (N := 10) hx hb hts inB_7 hown hE.1 hP 4 rfl rfl 3 (by decide) (hts _ k_212) (fun _ h9 => h9) rfl dX7_addMan_15 ?_
    refine lv_iadd hx hb dX7_addMan_18 ?_
    refine lv_topi (fun t2 et2 => ?_)
    have rg3 := fb_rng (v 9)
    have zt2 : t2.toInt = 0 + (v 9).toInt := by rw [et2]; exact add_i (by decide) rfl (by omega) (by omega)
    refine lv_iload_n hx hb dX7_addMan_19 rfl (lv_at hl 1 rfl) ?_
    refine stI hx hb hE hP hD hS 5 rfl (vp_in_iff.mpr ⟨by omega, by omega⟩) rfl dX7_addMan_20 (fun H locs hP hD hS => ?_)
    obtain ⟨f4, ef4, hP, hD⟩ : ∃ fz9, fz9 = upd2 f 1 (upd (f 1) t2.toNatClampNeg p1) ∧ va_P (dC, dI) vwCl (XW cy x0 x v fz9) H ∧ va_D A (XW cy x0 x v fz9) := ⟨_, rfl, hP, hD⟩
    have hA_f4 : KF [1] f4 f := by rw [ef4]; exact KF.up hA_f rfl
    refine lv_aload_n hx hb dX7_addMan_21 rfl (lv_at hl 0 rfl) ?_
    refine va_get (D := (dC, dI)) (ci := 7) (v := .ref (x 4)) (C := RX7) (T := TX7) (N := 10) hx hb hts inB_7 hown hE.1 hP 4 rfl rfl 0 (by decide) (hts _ k_204) (fun _ h9 => h9) rfl dX7_addMan_22 ?_
    refine lv_bipush (v := 6) hx hb dX7_addMan_25 (by decide) ?_
    refine lv_aload_n hx hb dX7_addMan_27 rfl (lv_at hl 0 rfl) ?_
    refine va_get (D := (dC, dI)) (ci := 7) (v := .int (v 9)) (C := RX7) (T := TX7) (N := 10) hx hb hts inB_7 hown hE.1 hP 4 rfl rfl 3 (by decide) (hts _ k_212) (fun _ h9 => h9) rfl dX7_addMan_28 ?_
    refine lv_iadd hx hb dX7_addMan_31 ?_
    refine lv_topi (fun t5 et5 => ?_)
    have zt5 : t5.toInt = 6 + (v 9).toInt := by rw [et5]; exact add_i (by decide) rfl (by omega) (by omega)
    refine lv_iload_n hx hb dX7_addMan_32 rfl (lv_at hl 2 rfl) ?_
    refine stI hx hb hE hP hD hS 5 rfl (vp_in_iff.mpr ⟨by omega, by omega⟩) rfl dX7_addMan_33 (fun H locs hP hD hS => ?_)
    obtain ⟨f6, ef6, hP, hD⟩ : ∃ fz9, fz9 = upd2 f4 1 (upd (f4 1) t5.toNatClampNeg p2) ∧ va_P (dC, dI) vwCl (XW cy x0 x v fz9) H ∧ va_D A (XW cy x0 x v fz9) := ⟨_, rfl, hP, hD⟩
    have hA_f6 : KF [1] f6 f := by rw [ef6]; exact KF.up hA_f4 rfl
    refine lv_aload_n hx hb dX7_addMan_34 rfl (lv_at hl 0 rfl) ?_
    refine va_get (D := (dC, dI)) (ci := 7) (v := .ref (x 4)) (C := RX7) (T := TX7) (N := 10) hx hb hts inB_7 hown hE.1 hP 4 rfl rfl 0 (by decide) (hts _ k_204) (fun _ h9 => h9) rfl dX7_addMan_35 ?_
    refine lv_bipush (v := 12) hx hb dX7_addMan_38 (by decide) ?_
    refine lv_aload_n hx hb dX7_addMan_40 rfl (lv_at hl 0 rfl) ?_
    refine va_get (D := (dC, dI)) (ci := 7) (v := .int (v 9)) (C := RX7) (T := TX7) (N := 10) hx hb hts inB_7 hown hE.1 hP 4 rfl rfl 3 (by decide) (hts _ k_212) (fun _ h9 => h9) rfl dX7_addMan_41 ?_
    refine lv_iadd hx hb dX7_addMan_44 ?_
    refine lv_topi (fun t7 et7 => ?_)
    have zt7 : t7.toInt = 12 + (v 9).toInt := by rw [et7]; exact add_i (by decide) rfl (by omega) (by omega)
    refine lv_iload_n hx hb dX7_addMan_45 rfl (lv_at hl 3 rfl) ?_
    refine stI hx hb hE hP hD hS 5 rfl (vp_in_iff.mpr ⟨by omega, by omega⟩) rfl dX7_addMan_46 (fun H locs hP hD hS => ?_)
    obtain ⟨f8, ef8, hP, hD⟩ : ∃ fz9, fz9 = upd2 f6 1 (upd (f6 1) t7.toNatClampNeg p3) ∧ va_P (dC, dI) vwCl (XW cy x0 x v fz9) H ∧ va_D A (XW cy x0 x v fz9) := ⟨_, rfl, hP, hD⟩
    have hA_f8 : KF [1] f8 f := by rw [ef8]; exact KF.up hA_f6 rfl
    refine lv_aload_n hx hb dX7_addMan_47 rfl (lv_at hl 0 rfl) ?_
    refine lv_dup hx hb dX7_addMan_48 rfl ?_
    refine va_get (D := (dC, dI)) (ci := 7) (v := .int (v 9)) (C := RX7) (T := TX7) (N := 10) hx hb hts inB_7 hown hE.1 hP 4 rfl rfl 3 (by decide) (hts _ k_212) (fun _ h9 => h9) rfl dX7_addMan_49 ?_
    refine lv_iconst (v := 1) hx hb dX7_addMan_52 (by decide) ?_
    refine lv_iadd hx hb dX7_addMan_53 ?_
    refine lv_topi (fun t9 et9 => ?_)
    have zt9 : t9.toInt = (v 9).toInt + 1 := by rw [et9]; exact add_i rfl (by decide) (by omega) (by omega)
    refine va_put (D := (dC, dI)) (ci := 7) (v := .int t9) (ty := tyX7 3) (C := RX7) (T := TX7) (N := 10) hx hb hts inB_7 tyX7 tyX7_ok nmX7 hown hE.1 hP hD hS 4 rfl rfl 3 (by decide) (hts _ k_212) (fun _ h9 => h9) rfl (tyX7_ok 3 (by decide)) rfl rfl (Nat.le_of_ble_eq_true rfl) dX7_addMan_54 (fun H locs hP hD hS => ?_)
    have hP : va_P (dC, dI) vwCl (XW cy x0 x (upd v 9 t9) f8) H := hP
    have hD : va_D A (XW cy x0 x (upd v 9 t9) f8) := hD
    exact ret ((upd v 9 t9), f8) _ _ _ _ _ _ ⟨(gsX_X7_addMan_1_q1 c1 et2 ef4 et5 ef6 et7 ef8 et9), (KV.up (j := 9) (x := t9) hM_v rfl), hA_f8, (XI.upd (j := 9) (x := t9) hIv (show (0 : Int) ≤ t9.toInt by omega) (show t9.toInt ≤ (6 : Int) by omega)), rfl, rfl, rfl, rfl, rfl, rfl⟩ hP hD hS dX7_addMan_57 (Nat.le_refl _) (Nat.le_refl _)
