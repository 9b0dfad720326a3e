set_option maxHeartbeats 4000000 in
set_option maxRecDepth 100000 in
theorem sX_X6_opened_1 (l : Launch) (dC : Nat → ClassId) (dI : Nat → Nat → Nat) (cy : Nat → ClassId) (x0 : Nat) (x : Nat → Nat) (p1 : Int32) (v : Nat → Int32) (f : Nat → Nat → Int32) (hIv : XI v)  : ctIS l (dC, dI) cy yX6_opened cX6_opened 3 .boolean 7 191 0 0 ((Nat → Int32) × (Nat → Nat → Int32)) [.ref (x 2), .int p1] (XW cy x0 x v f) (fun r u => XI u.1 ∧ u.1 0 = v 0 ∧ u.1 1 = v 1 ∧ u.1 9 = v 9 ∧ u.1 10 = v 10 ∧ u.1 31 = v 31 ∧ u.1 32 = v 32 ∧ ((r = 1) ∨ (r = 0))) (fun u => XW cy x0 x u.1 u.2) := by
  refine ctIS_of (by decide) (Nat.le_of_ble_eq_true rfl) (fun p e s m below meth c A ls Q hx hb hml hts hown hE hF hT hP hD hA hl ret => ?_)
  have hown : s.vm.findClass RX6 = some m.cls := hown
  have hS : va_S A s.heap s.heap [] := va_S.rf
  have hl : lv_has ls 3 [(0, .ref (x 2)), (1, .int p1)] := hl
  refine lv_iconst (v := 1) hx hb dX6_opened_0 (by decide) ?_
  refine lv_iload_n hx hb dX6_opened_1 rfl (lv_at hl 1 rfl) ?_
  refine lv_bipush (v := 103) hx hb dX6_opened_2 (by decide) ?_
  refine lv_isub hx hb dX6_opened_4 ?_
  refine lv_topi (fun t1 et1 => ?_)
  refine lv_ishl hx hb dX6_opened_5 ?_
  refine lv_topi (fun t2 et2 => ?_)
  refine lv_istore_n (lv' := [(2, .int t2), (0, .ref (x 2)), (1, .int p1)]) hx hb dX6_opened_6 rfl hl (by decide) rfl (fun ls hl => ?_)
  refine lv_aload_n hx hb dX6_opened_7 rfl (lv_at hl 1 rfl) ?_
  refine va_get (D := (dC, dI)) (ci := 6) (v := .int (v 6)) (C := RX6) (T := TX6) (N := 7) hx hb hts inB_6 hown hE.1 hP 3 rfl rfl 4 (by decide) (hts _ k_270) (fun _ h9 => h9) rfl dX6_opened_8 ?_
  refine lv_iload_n hx hb dX6_opened_11 rfl (lv_at hl 0 rfl) ?_
  refine lv_iand hx hb dX6_opened_12 ?_
  refine lv_topi (fun t3 et3 => ?_)
  refine lv_if_eq (tgt := 21) hx hb dX6_opened_13 (by decide) (fun c4 => ?_) (fun c4 => ?_)
  · skip
    have zc4 : t3.toInt = 0 := by rw [fa_eq, show (0 : Int32).toInt = 0 from by decide] at c4; exact c4
    refine lv_aload_n hx hb dX6_opened_21 rfl (lv_at hl 1 rfl) ?_
    refine lv_dup hx hb dX6_opened_22 rfl ?_
    refine va_get (D := (dC, dI)) (ci := 6) (v := .int (v 6)) (C := RX6) (T := TX6) (N := 7) hx hb hts inB_6 hown hE.1 hP 3 rfl rfl 4 (by decide) (hts _ k_270) (fun _ h9 => h9) rfl dX6_opened_23 ?_
    refine lv_iload_n hx hb dX6_opened_26 rfl (lv_at hl 0 rfl) ?_
    refine lv_ior hx hb dX6_opened_27 ?_
    refine lv_topi (fun t5 et5 => ?_)
    refine va_put (D := (dC, dI)) (ci := 6) (v := .int t5) (ty := tyX6 4) (C := RX6) (T := TX6) (N := 7) hx hb hts inB_6 tyX6 tyX6_ok nmX6 hown hE.1 hP hD hS 3 rfl rfl 4 (by decide) (hts _ k_270) (fun _ h9 => h9) rfl (tyX6_ok 4 (by decide)) rfl rfl (Nat.le_of_ble_eq_true rfl) dX6_opened_28 (fun H locs hP hD hS => ?_)
    have hP : va_P (dC, dI) vwCl (XW cy x0 x (upd v 6 t5) f) H := hP
    have hD : va_D A (XW cy x0 x (upd v 6 t5) f) := hD
    refine lv_aload_n hx hb dX6_opened_31 rfl (lv_at hl 1 rfl) ?_
    refine va_get (D := (dC, dI)) (ci := 6) (v := .ref (x 0)) (C := RX6) (T := TX6) (N := 7) hx hb hts inB_6 hown hE.1 hP 3 rfl rfl 0 (by decide) (hts _ k_265) (fun _ h9 => h9) rfl dX6_opened_32 ?_
    refine csVv (n := 0) (rest := []) hx hb hml hown hts hE hP hD hS hA hF hT (sX_X9_advance_1 l dC dI cy x0 x  (upd v 6 t5) f (XI.upd (j := 6) (x := t5) hIv (rlo _) (rhi _)) ) k_699 k_559 k_560 k_102 k_561 (by decide +kernel) ⟨Nat.le_of_ble_eq_true rfl, Nat.le_of_ble_eq_true rfl⟩ 1 9 rfl rfl (rfl) hl.1 rfl (Nat.le_of_ble_eq_true rfl) dX6_opened_35 (fun u H locs hw hP hD hS => ?_)
    obtain ⟨v6, f7⟩ := u
    obtain ⟨hIv6, hk0_v6, hk1_v6, hk9_v6, hk10_v6, hk31_v6, hk32_v6⟩ := hw
    have hP : va_P (dC, dI) vwCl (XW cy x0 x v6 f7) H := hP
    have hD : va_D A (XW cy x0 x v6 f7) := hD
    have hq0_v6 : v6 0 = (v 0) := hk0_v6
    have hq1_v6 : v6 1 = (v 1) := hk1_v6
    have hq9_v6 : v6 9 = (v 9) := hk9_v6
    have hq10_v6 : v6 10 = (v 10) := hk10_v6
    have hq31_v6 : v6 31 = (v 31) := hk31_v6
    have hq32_v6 : v6 32 = (v 32) := hk32_v6
    refine lv_iconst (v := 1) hx hb dX6_opened_38 (by decide) ?_
    exact ret 1 (v6, f7) _ _ _ _ _ _ rfl ⟨hIv6, hk0_v6, hk1_v6, hk9_v6, hk10_v6, hk31_v6, hk32_v6, (Or.inl rfl)⟩ hP hD hS dX6_opened_39 (Nat.le_refl _) (Nat.le_refl _)
  · skip
    have zc4 : ¬ (t3.toInt = 0) := by rw [fa_eq, show (0 : Int32).toInt = 0 from by decide] at c4; exact c4
    refine lv_aload_n hx hb dX6_opened_16 rfl (lv_at hl 1 rfl) ?_
    refine cbVi (n := 0) (rest := []) hx hb hml hown hts hE hP hD hS hA (sX_X6_refuse_1 l dC dI cy x0 x  v f hIv ) k_691 k_693 k_6 k_103 k_694 (by decide +kernel) ⟨Nat.le_of_ble_eq_true rfl, Nat.le_of_ble_eq_true rfl⟩ 3 6 rfl rfl (rfl) hl.1 rfl (Nat.le_of_ble_eq_true rfl) dX6_opened_17 (fun r8 u H locs hw hP hD hS => ?_)
    obtain ⟨v9, f10⟩ := u
    obtain ⟨hIv9, hk0_v9, hk1_v9, hk9_v9, hk10_v9, hk31_v9, hk32_v9, hw⟩ := hw
    have hP : va_P (dC, dI) vwCl (XW cy x0 x v9 f10) H := hP
    have hD : va_D A (XW cy x0 x v9 f10) := hD
    have hq0_v9 : v9 0 = (v 0) := hk0_v9
    have hq1_v9 : v9 1 = (v 1) := hk1_v9
    have hq9_v9 : v9 9 = (v 9) := hk9_v9
    have hq10_v9 : v9 10 = (v 10) := hk10_v9
    have hq31_v9 : v9 31 = (v 31) := hk31_v9
    have hq32_v9 : v9 32 = (v 32) := hk32_v9
    rcases hw with ⟨g11⟩ | ⟨g11⟩
    · skip
      subst g11
      exact ret 1 (v9, f10) _ _ _ _ _ _ rfl ⟨hIv9, hk0_v9, hk1_v9, hk9_v9, hk10_v9, hk31_v9, hk32_v9, (Or.inl rfl)⟩ hP hD hS dX6_opened_20 (Nat.le_refl _) (Nat.le_refl _)
    · skip
      subst g11
      exact ret 0 (v9, f10) _ _ _ _ _ _ rfl ⟨hIv9, hk0_v9, hk1_v9, hk9_v9, hk10_v9, hk31_v9, hk32_v9, (Or.inr rfl)⟩ hP hD hS dX6_opened_20 (Nat.le_refl _) (Nat.le_refl _)
set_option maxHeartbeats 4000000 in
set_option maxRecDepth 100000 in
theorem sX_X4_add_1 (l : Launch) (dC : Nat → ClassId) (dI : Nat → Nat → Nat) (cy : Nat → ClassId) (x0 : Nat) (x : Nat → Nat) (p1 : Int32) (p2 : Int32) (v : Nat → Int32) (f : Nat → Nat → Int32) (hIv : XI v)  : ctV l (dC, dI) cy yX4_add cX4_add 3 1 60 0 0 ((Nat → Int32) × (Nat → Nat → Int32)) [.ref (x 6), .int p1, .int p2] (XW cy x0 x v f) (fun u => XI u.1 ∧ u.1 0 = v 0 ∧ u.1 1 = v 1 ∧ u.1 9 = v 9 ∧ u.1 10 = v 10 ∧ u.1 31 = v 31 ∧ u.1 32 = v 32) (fun u => XW cy x0 x u.1 u.2) := by
  refine ctV_of (by decide) (Nat.le_of_ble_eq_true rfl) (fun p e s m below meth c A ls Q hx hb hml hts hown hnm hE hP hD hA hl ret => ?_)
  have hown : s.vm.findClass RX4 = some m.cls := hown
  have hS : va_S A s.heap s.heap [] := va_S.rf
  have hl : lv_has ls 3 [(0, .ref (x 6)), (1, .int p1), (2, .int p2)] := hl
  refine lv_aload_n hx hb dX4_add_0 rfl (lv_at hl 0 rfl) ?_
  refine va_get (D := (dC, dI)) (ci := 4) (v := .int (v 16)) (C := RX4) (T := TX4) (N := 6) hx hb hts inB_4 hown hE.1 hP 7 rfl rfl 4 (by decide) (hts _ k_182) (fun _ h9 => h9) rfl dX4_add_1 ?_
  have b16_v : 0 ≤ (v 16).toInt ∧ (v 16).toInt ≤ 300 := XI.b hIv 16 (by decide)
  refine lv_sipush (v := 300) hx hb dX4_add_4 (by decide) ?_
  refine lv_icmp_ge (tgt := 40) hx hb dX4_add_7 (by decide) (fun c1 => ?_) (fun c1 => ?_)
  · skip
    have zc1 : 300 ≤ (v 16).toInt := by rw [fa_le, show (300 : Int32).toInt = 300 from by decide] at c1; exact c1
    exact ret (v, f) _ _ _ _ _ _ ⟨hIv, rfl, rfl, rfl, rfl, rfl, rfl⟩ hP hD hS dX4_add_40 (Nat.le_refl _) (Nat.le_refl _)
  · skip
    have zc1 : ¬ (300 ≤ (v 16).toInt) := by rw [fa_le, show (300 : Int32).toInt = 300 from by decide] at c1; exact c1
    refine lv_aload_n hx hb dX4_add_10 rfl (lv_at hl 0 rfl) ?_
    refine va_get (D := (dC, dI)) (ci := 4) (v := .ref (x 7)) (C := RX4) (T := TX4) (N := 6) hx hb hts inB_4 hown hE.1 hP 7 rfl rfl 0 (by decide) (hts _ k_178) (fun _ h9 => h9) rfl dX4_add_11 ?_
    refine lv_aload_n hx hb dX4_add_14 rfl (lv_at hl 0 rfl) ?_
    refine va_get (D := (dC, dI)) (ci := 4) (v := .int (v 16)) (C := RX4) (T := TX4) (N := 6) hx hb hts inB_4 hown hE.1 hP 7 rfl rfl 4 (by decide) (hts _ k_182) (fun _ h9 => h9) rfl dX4_add_15 ?_
    refine lv_iload_n hx hb dX4_add_18 rfl (lv_at hl 1 rfl) ?_
    refine stI hx hb hE hP hD hS 8 rfl (vp_in_iff.mpr ⟨by omega, by omega⟩) rfl dX4_add_19 (fun H locs hP hD hS => ?_)
    obtain ⟨f2, hP, hD⟩ : ∃ fz9, va_P (dC, dI) vwCl (XW cy x0 x v fz9) H ∧ va_D A (XW cy x0 x v fz9) := ⟨upd2 f 3 (upd (f 3) (v 16).toNatClampNeg p1), hP, hD⟩
    refine lv_aload_n hx hb dX4_add_20 rfl (lv_at hl 0 rfl) ?_
    refine va_get (D := (dC, dI)) (ci := 4) (v := .ref (x 8)) (C := RX4) (T := TX4) (N := 6) hx hb hts inB_4 hown hE.1 hP 7 rfl rfl 1 (by decide) (hts _ k_179) (fun _ h9 => h9) rfl dX4_add_21 ?_
    refine lv_aload_n hx hb dX4_add_24 rfl (lv_at hl 0 rfl) ?_
    refine va_get (D := (dC, dI)) (ci := 4) (v := .int (v 16)) (C := RX4) (T := TX4) (N := 6) hx hb hts inB_4 hown hE.1 hP 7 rfl rfl 4 (by decide) (hts _ k_182) (fun _ h9 => h9) rfl dX4_add_25 ?_
    refine lv_iload_n hx hb dX4_add_28 rfl (lv_at hl 2 rfl) ?_
    refine stI hx hb hE hP hD hS 9 rfl (vp_in_iff.mpr ⟨by omega, by omega⟩) rfl dX4_add_29 (fun H locs hP hD hS => ?_)
    obtain ⟨f3, hP, hD⟩ : ∃ fz9, va_P (dC, dI) vwCl (XW cy x0 x v fz9) H ∧ va_D A (XW cy x0 x v fz9) := ⟨upd2 f2 4 (upd (f2 4) (v 16).toNatClampNeg p2), hP, hD⟩
    refine lv_aload_n hx hb dX4_add_30 rfl (lv_at hl 0 rfl) ?_
    refine lv_dup hx hb dX4_add_31 rfl ?_
    refine va_get (D := (dC, dI)) (ci := 4) (v := .int (v 16)) (C := RX4) (T := TX4) (N := 6) hx hb hts inB_4 hown hE.1 hP 7 rfl rfl 4 (by decide) (hts _ k_182) (fun _ h9 => h9) rfl dX4_add_32 ?_
    refine lv_iconst (v := 1) hx hb dX4_add_35 (by decide) ?_
    refine lv_iadd hx hb dX4_add_36 ?_
    refine lv_topi (fun t4 et4 => ?_)
    have rg5 := fb_rng (v 16)
    have zt4 : t4.toInt = (v 16).toInt + 1 := by rw [et4]; exact add_i rfl (by decide) (by omega) (by omega)
    refine va_put (D := (dC, dI)) (ci := 4) (v := .int t4) (ty := tyX4 4) (C := RX4) (T := TX4) (N := 6) hx hb hts inB_4 tyX4 tyX4_ok nmX4 hown hE.1 hP hD hS 7 rfl rfl 4 (by decide) (hts _ k_182) (fun _ h9 => h9) rfl (tyX4_ok 4 (by decide)) rfl rfl (Nat.le_of_ble_eq_true rfl) dX4_add_37 (fun H locs hP hD hS => ?_)
    have hP : va_P (dC, dI) vwCl (XW cy x0 x (upd v 16 t4) f3) H := hP
    have hD : va_D A (XW cy x0 x (upd v 16 t4) f3) := hD
    exact ret ((upd v 16 t4), f3) _ _ _ _ _ _ ⟨(XI.upd (j := 16) (x := t4) hIv (show (0 : Int) ≤ t4.toInt by omega) (show t4.toInt ≤ (300 : Int) by omega)), rfl, rfl, rfl, rfl, rfl, rfl⟩ hP hD hS dX4_add_40 (Nat.le_refl _) (Nat.le_refl _)
set_option maxHeartbeats 4000000 in
set_option maxRecDepth 100000 in
theorem sX_X6_unit_8 (l : Launch) (dC : Nat → ClassId) (dI : Nat → Nat → Nat) (cy : Nat → ClassId) (x0 : Nat) (x : Nat → Nat)  (v : Nat → Int32) (f : Nat → Nat → Int32) (hIv : XI v)  : ctIS l (dC, dI) cy yX6_unit cX6_unit 4 .boolean 7 191 0 0 ((Nat → Int32) × (Nat → Nat → Int32)) [.ref (x 2), .int 7] (XW cy x0 x v f) (fun r u => XI u.1 ∧ u.1 0 = v 0 ∧ u.1 1 = v 1 ∧ u.1 9 = v 9 ∧ u.1 10 = v 10 ∧ u.1 31 = v 31 ∧ u.1 32 = v 32 ∧ ((r = 1) ∨ (r = 0))) (fun u => XW cy x0 x u.1 u.2) := by
  refine ctIS_of (by decide) (Nat.le_of_ble_eq_true rfl) (fun p e s m below meth c A ls Q hx hb hml hts hown hE hF hT hP hD hA hl ret => ?_)
  have hown : s.vm.findClass RX6 = some m.cls := hown
  have hS : va_S A s.heap s.heap [] := va_S.rf
  have hl : lv_has ls 4 [(0, .ref (x 2)), (1, .int 7)] := hl
  refine lv_aload_n hx hb dX6_unit_0 rfl (lv_at hl 0 rfl) ?_
  refine va_get (D := (dC, dI)) (ci := 6) (v := .ref (x 0)) (C := RX6) (T := TX6) (N := 7) hx hb hts inB_6 hown hE.1 hP 3 rfl rfl 0 (by decide) (hts _ k_265) (fun _ h9 => h9) rfl dX6_unit_1 ?_
  refine va_getN (D := (dC, dI)) (ci := 9) (v := .int (v 2)) (C := RX9) (T := TX9) (N := 6) hx hb hts inB_9 hown hE.1 hP 1 rfl rfl 2 (by decide) (va_Nw.use rfl (hE.2 _ k_139)) (fun _ h9 => h9) rfl dX6_unit_4 ?_
  refine lv_istore_n (lv' := [(2, .int (v 2)), (0, .ref (x 2)), (1, .int 7)]) hx hb dX6_unit_7 rfl hl (by decide) rfl (fun ls hl => ?_)
  refine lv_iload_n hx hb dX6_unit_8 rfl (lv_at hl 0 rfl) ?_
  refine lv_iconst (v := 2) hx hb dX6_unit_9 (by decide) ?_
  refine lv_icmp_eq (tgt := 25) hx hb dX6_unit_10 (by decide) (fun c1 => ?_) (fun c1 => ?_)
  · skip
    have zc1 : (v 2).toInt = 2 := by rw [fa_eq, show (2 : Int32).toInt = 2 from by decide] at c1; exact c1
    refine lv_iconst (v := 1) hx hb dX6_unit_25 (by decide) ?_
    refine lv_goto (tgt := 30) hx hb dX6_unit_26 (by decide) ?_
    refine lv_istore_n (lv' := [(3, .int 1), (2, .int (v 2)), (0, .ref (x 2)), (1, .int 7)]) hx hb dX6_unit_30 rfl hl (by decide) rfl (fun ls hl => ?_)
    refine lv_iload_n hx hb dX6_unit_31 rfl (lv_at hl 0 rfl) ?_
    refine lv_if_ne (tgt := 41) hx hb dX6_unit_32 (by decide) (fun _ => ?_) (fun c0 => absurd c0 (by decide))
    refine lv_aload_n hx hb dX6_unit_41 rfl (lv_at hl 2 rfl) ?_
    refine va_get (D := (dC, dI)) (ci := 6) (v := .ref (x 3)) (C := RX6) (T := TX6) (N := 7) hx hb hts inB_6 hown hE.1 hP 3 rfl rfl 1 (by decide) (hts _ k_266) (fun _ h9 => h9) rfl dX6_unit_42 ?_
    refine va_getN (D := (dC, dI)) (ci := 7) (v := .ref (x 6)) (C := RX7) (T := TX7) (N := 10) hx hb hts inB_7 hown hE.1 hP 4 rfl rfl 2 (by decide) (va_Nw.use rfl (hE.2 _ k_210)) (fun _ h9 => h9) rfl dX6_unit_45 ?_
    refine va_getN (D := (dC, dI)) (ci := 4) (v := .int (v 17)) (C := RX4) (T := TX4) (N := 6) hx hb hts inB_4 hown hE.1 hP 7 rfl rfl 5 (by decide) (va_Nw.use rfl (hE.2 _ k_184)) (fun _ h9 => h9) rfl dX6_unit_48 ?_
    refine lv_bipush (v := 30) hx hb dX6_unit_51 (by decide) ?_
    refine lv_icmp_lt (tgt := 61) hx hb dX6_unit_53 (by decide) (fun c2 => ?_) (fun c2 => ?_)
    · skip
      have zc2 : (v 17).toInt < 30 := by rw [fa_lt, show (30 : Int32).toInt = 30 from by decide] at c2; exact c2
      refine lv_iload_n hx hb dX6_unit_61 rfl (lv_at hl 0 rfl) ?_
      refine lv_if_eq (tgt := 108) hx hb dX6_unit_62 (by decide) (fun c0 => absurd c0 (by decide)) (fun _ => ?_)
      refine lv_aload_n hx hb dX6_unit_65 rfl (lv_at hl 2 rfl) ?_
      refine va_get (D := (dC, dI)) (ci := 6) (v := .ref (x 3)) (C := RX6) (T := TX6) (N := 7) hx hb hts inB_6 hown hE.1 hP 3 rfl rfl 1 (by decide) (hts _ k_266) (fun _ h9 => h9) rfl dX6_unit_66 ?_
      refine va_getN (D := (dC, dI)) (ci := 7) (v := .ref (x 6)) (C := RX7) (T := TX7) (N := 10) hx hb hts inB_7 hown hE.1 hP 4 rfl rfl 2 (by decide) (va_Nw.use rfl (hE.2 _ k_210)) (fun _ h9 => h9) rfl dX6_unit_69 ?_
      refine lv_iload_n hx hb dX6_unit_72 rfl (lv_at hl 1 rfl) ?_
      refine lv_aload_n hx hb dX6_unit_73 rfl (lv_at hl 2 rfl) ?_
      refine va_get (D := (dC, dI)) (ci := 6) (v := .ref (x 0)) (C := RX6) (T := TX6) (N := 7) hx hb hts inB_6 hown hE.1 hP 3 rfl rfl 0 (by decide) (hts _ k_265) (fun _ h9 => h9) rfl dX6_unit_74 ?_
      refine va_getN (D := (dC, dI)) (ci := 9) (v := .int (v 5)) (C := RX9) (T := TX9) (N := 6) hx hb hts inB_9 hown hE.1 hP 1 rfl rfl 5 (by decide) (va_Nw.use rfl (hE.2 _ k_145)) (fun _ h9 => h9) rfl dX6_unit_77 ?_
      refine cbVv (n := 2) (rest := []) hx hb hml hown hts hE hP hD hS hA (sX_X4_add_1 l dC dI cy x0 x (v 2) (v 5) v f hIv ) k_748 k_749 k_750 k_105 k_751 (by decide +kernel) ⟨Nat.le_of_ble_eq_true rfl, Nat.le_of_ble_eq_true rfl⟩ 7 4 rfl rfl (rfl) hl.1 rfl (Nat.le_of_ble_eq_true rfl) dX6_unit_80 (fun u H locs hw hP hD hS => ?_)
      obtain ⟨v3, f4⟩ := u
      obtain ⟨hIv3, hk0_v3, hk1_v3, hk9_v3, hk10_v3, hk31_v3, hk32_v3⟩ := hw
      have hP : va_P (dC, dI) vwCl (XW cy x0 x v3 f4) H := hP
      have hD : va_D A (XW cy x0 x v3 f4) := hD
      have hq0_v3 : v3 0 = (v 0) := hk0_v3
      have hq1_v3 : v3 1 = (v 1) := hk1_v3
      have hq9_v3 : v3 9 = (v 9) := hk9_v3
      have hq10_v3 : v3 10 = (v 10) := hk10_v3
      have hq31_v3 : v3 31 = (v 31) := hk31_v3
      have hq32_v3 : v3 32 = (v 32) := hk32_v3
      refine lv_aload_n hx hb dX6_unit_83 rfl (lv_at hl 2 rfl) ?_
      refine va_get (D := (dC, dI)) (ci := 6) (v := .ref (x 3)) (C := RX6) (T := TX6) (N := 7) hx hb hts inB_6 hown hE.1 hP 3 rfl rfl 1 (by decide) (hts _ k_266) (fun _ h9 => h9) rfl dX6_unit_84 ?_
      refine va_getN (D := (dC, dI)) (ci := 7) (v := .ref (x 6)) (C := RX7) (T := TX7) (N := 10) hx hb hts inB_7 hown hE.1 hP 4 rfl rfl 2 (by decide) (va_Nw.use rfl (hE.2 _ k_210)) (fun _ h9 => h9) rfl dX6_unit_87 ?_
      refine lv_dup hx hb dX6_unit_90 rfl ?_
      refine va_getN (D := (dC, dI)) (ci := 4) (v := .int (v3 17)) (C := RX4) (T := TX4) (N := 6) hx hb hts inB_4 hown hE.1 hP 7 rfl rfl 5 (by decide) (va_Nw.use rfl (hE.2 _ k_184)) (fun _ h9 => h9) rfl dX6_unit_91 ?_
      refine lv_iconst (v := 1) hx hb dX6_unit_94 (by decide) ?_
      refine lv_iadd hx hb dX6_unit_95 ?_
      refine lv_topi (fun t5 et5 => ?_)
      refine va_putN (D := (dC, dI)) (ci := 4) (v := .int t5) (ty := tyX4 5) (C := RX4) (T := TX4) (N := 6) hx hb hts inB_4 tyX4 tyX4_ok nmX4 hown hE.1 hP hD hS 7 rfl rfl 5 (by decide) (va_Nw.use rfl (hE.2 _ k_184)) (fun _ h9 => h9) rfl (tyX4_ok 5 (by decide)) rfl rfl (Nat.le_of_ble_eq_true rfl) dX6_unit_96 (fun H locs hP hD hS => ?_)
      have hP : va_P (dC, dI) vwCl (XW cy x0 x (upd v3 17 t5) f4) H := hP
      have hD : va_D A (XW cy x0 x (upd v3 17 t5) f4) := hD
      refine lv_aload_n hx hb dX6_unit_99 rfl (lv_at hl 2 rfl) ?_
      refine va_get (D := (dC, dI)) (ci := 6) (v := .ref (x 0)) (C := RX6) (T := TX6) (N := 7) hx hb hts inB_6 hown hE.1 hP 3 rfl rfl 0 (by decide) (hts _ k_265) (fun _ h9 => h9) rfl dX6_unit_100 ?_
      refine csVv (n := 0) (rest := []) hx hb hml hown hts hE hP hD hS hA hF hT (sX_X9_advance_1 l dC dI cy x0 x  (upd v3 17 t5) f4 (XI.upd (j := 17) (x := t5) hIv3 (rlo _) (rhi _)) ) k_699 k_559 k_560 k_102 k_561 (by decide +kernel) ⟨Nat.le_of_ble_eq_true rfl, Nat.le_of_ble_eq_true rfl⟩ 1 9 rfl rfl (rfl) hl.1 rfl (Nat.le_of_ble_eq_true rfl) dX6_unit_103 (fun u H locs hw hP hD hS => ?_)
      obtain ⟨v6, f7⟩ := u
      obtain ⟨hIv6, hk0_v6, hk1_v6, hk9_v6, hk10_v6, hk31_v6, hk32_v6⟩ := hw
      have hP : va_P (dC, dI) vwCl (XW cy x0 x v6 f7) H := hP
      have hD : va_D A (XW cy x0 x v6 f7) := hD
      have hq0_v6 : v6 0 = (v 0) := hk0_v6.trans hq0_v3
      have hq1_v6 : v6 1 = (v 1) := hk1_v6.trans hq1_v3
      have hq9_v6 : v6 9 = (v 9) := hk9_v6.trans hq9_v3
      have hq10_v6 : v6 10 = (v 10) := hk10_v6.trans hq10_v3
      have hq31_v6 : v6 31 = (v 31) := hk31_v6.trans hq31_v3
      have hq32_v6 : v6 32 = (v 32) := hk32_v6.trans hq32_v3
      refine lv_iconst (v := 1) hx hb dX6_unit_106 (by decide) ?_
      exact ret 1 (v6, f7) _ _ _ _ _ _ rfl ⟨hIv6, (hk0_v6.trans hk0_v3), (hk1_v6.trans hk1_v3), (hk9_v6.trans hk9_v3), (hk10_v6.trans hk10_v3), (hk31_v6.trans hk31_v3), (hk32_v6.trans hk32_v3), (Or.inl rfl)⟩ hP hD hS dX6_unit_107 (Nat.le_refl _) (Nat.le_refl _)
    · skip
      have zc2 : ¬ ((v 17).toInt < 30) := by rw [fa_lt, show (30 : Int32).toInt = 30 from by decide] at c2; exact c2
      refine lv_aload_n hx hb dX6_unit_56 rfl (lv_at hl 2 rfl) ?_
      refine cbVi (n := 0) (rest := []) hx hb hml hown hts hE hP hD hS hA (sX_X6_refuse_1 l dC dI cy x0 x  v f hIv ) k_691 k_693 k_6 k_103 k_694 (by decide +kernel) ⟨Nat.le_of_ble_eq_true rfl, Nat.le_of_ble_eq_true rfl⟩ 3 6 rfl rfl (rfl) hl.1 rfl (Nat.le_of_ble_eq_true rfl) dX6_unit_57 (fun r8 u H locs hw hP hD hS => ?_)
      obtain ⟨v9, f10⟩ := u
      obtain ⟨hIv9, hk0_v9, hk1_v9, hk9_v9, hk10_v9, hk31_v9, hk32_v9, hw⟩ := hw
      have hP : va_P (dC, dI) vwCl (XW cy x0 x v9 f10) H := hP
      have hD : va_D A (XW cy x0 x v9 f10) := hD
      have hq0_v9 : v9 0 = (v 0) := hk0_v9
      have hq1_v9 : v9 1 = (v 1) := hk1_v9
      have hq9_v9 : v9 9 = (v 9) := hk9_v9
      have hq10_v9 : v9 10 = (v 10) := hk10_v9
      have hq31_v9 : v9 31 = (v 31) := hk31_v9
      have hq32_v9 : v9 32 = (v 32) := hk32_v9
      rcases hw with ⟨g11⟩ | ⟨g11⟩
      · skip
        subst g11
        exact ret 1 (v9, f10) _ _ _ _ _ _ rfl ⟨hIv9, hk0_v9, hk1_v9, hk9_v9, hk10_v9, hk31_v9, hk32_v9, (Or.inl rfl)⟩ hP hD hS dX6_unit_60 (Nat.le_refl _) (Nat.le_refl _)
      · skip
        subst g11
        exact ret 0 (v9, f10) _ _ _ _ _ _ rfl ⟨hIv9, hk0_v9, hk1_v9, hk9_v9, hk10_v9, hk31_v9, hk32_v9, (Or.inr rfl)⟩ hP hD hS dX6_unit_60 (Nat.le_refl _) (Nat.le_refl _)
  · skip
    have zc1 : ¬ ((v 2).toInt = 2) := by rw [fa_eq, show (2 : Int32).toInt = 2 from by decide] at c1; exact c1
    refine lv_iload_n hx hb dX6_unit_13 rfl (lv_at hl 0 rfl) ?_
    refine lv_bipush (v := 116) hx hb dX6_unit_14 (by decide) ?_
    refine lv_icmp_lt (tgt := 29) hx hb dX6_unit_16 (by decide) (fun c12 => ?_) (fun c12 => ?_)
    · skip
      have zc12 : (v 2).toInt < 116 := by rw [fa_lt, show (116 : Int32).toInt = 116 from by decide] at c12; exact c12
      refine lv_iconst (v := 0) hx hb dX6_unit_29 (by decide) ?_
      refine lv_istore_n (lv' := [(3, .int 0), (2, .int (v 2)), (0, .ref (x 2)), (1, .int 7)]) hx hb dX6_unit_30 rfl hl (by decide) rfl (fun ls hl => ?_)
      refine lv_iload_n hx hb dX6_unit_31 rfl (lv_at hl 0 rfl) ?_
      refine lv_if_ne (tgt := 41) hx hb dX6_unit_32 (by decide) (fun c0 => absurd (by decide) c0) (fun _ => ?_)
      refine lv_iload_n hx hb dX6_unit_35 rfl (lv_at hl 1 rfl) ?_
      refine lv_bipush (v := 40) hx hb dX6_unit_36 (by decide) ?_
      refine lv_icmp_ne (tgt := 56) hx hb dX6_unit_38 (by decide) (fun c13 => ?_) (fun c13 => ?_)
      · skip
        have zc13 : ¬ ((v 2).toInt = 40) := by rw [fa_eq, show (40 : Int32).toInt = 40 from by decide] at c13; exact c13
        refine lv_aload_n hx hb dX6_unit_56 rfl (lv_at hl 2 rfl) ?_
        refine cbVi (n := 0) (rest := []) hx hb hml hown hts hE hP hD hS hA (sX_X6_refuse_1 l dC dI cy x0 x  v f hIv ) k_691 k_693 k_6 k_103 k_694 (by decide +kernel) ⟨Nat.le_of_ble_eq_true rfl, Nat.le_of_ble_eq_true rfl⟩ 3 6 rfl rfl (rfl) hl.1 rfl (Nat.le_of_ble_eq_true rfl) dX6_unit_57 (fun r14 u H locs hw hP hD hS => ?_)
        obtain ⟨v15, f16⟩ := u
        obtain ⟨hIv15, hk0_v15, hk1_v15, hk9_v15, hk10_v15, hk31_v15, hk32_v15, hw⟩ := hw
        have hP : va_P (dC, dI) vwCl (XW cy x0 x v15 f16) H := hP
        have hD : va_D A (XW cy x0 x v15 f16) := hD
        have hq0_v15 : v15 0 = (v 0) := hk0_v15
        have hq1_v15 : v15 1 = (v 1) := hk1_v15
        have hq9_v15 : v15 9 = (v 9) := hk9_v15
        have hq10_v15 : v15 10 = (v 10) := hk10_v15
        have hq31_v15 : v15 31 = (v 31) := hk31_v15
        have hq32_v15 : v15 32 = (v 32) := hk32_v15
        rcases hw with ⟨g17⟩ | ⟨g17⟩
        · skip
          subst g17
          exact ret 1 (v15, f16) _ _ _ _ _ _ rfl ⟨hIv15, hk0_v15, hk1_v15, hk9_v15, hk10_v15, hk31_v15, hk32_v15, (Or.inl rfl)⟩ hP hD hS dX6_unit_60 (Nat.le_refl _) (Nat.le_refl _)
        · skip
          subst g17
          exact ret 0 (v15, f16) _ _ _ _ _ _ rfl ⟨hIv15, hk0_v15, hk1_v15, hk9_v15, hk10_v15, hk31_v15, hk32_v15, (Or.inr rfl)⟩ hP hD hS dX6_unit_60 (Nat.le_refl _) (Nat.le_refl _)
      · skip
        have zc13 : (v 2).toInt = 40 := by rw [fa_eq, show (40 : Int32).toInt = 40 from by decide] at c13; exact c13
        refine lv_aload_n hx hb dX6_unit_41 rfl (lv_at hl 2 rfl) ?_
        refine va_get (D := (dC, dI)) (ci := 6) (v := .ref (x 3)) (C := RX6) (T := TX6) (N := 7) hx hb hts inB_6 hown hE.1 hP 3 rfl rfl 1 (by decide) (hts _ k_266) (fun _ h9 => h9) rfl dX6_unit_42 ?_
        refine va_getN (D := (dC, dI)) (ci := 7) (v := .ref (x 6)) (C := RX7) (T := TX7) (N := 10) hx hb hts inB_7 hown hE.1 hP 4 rfl rfl 2 (by decide) (va_Nw.use rfl (hE.2 _ k_210)) (fun _ h9 => h9) rfl dX6_unit_45 ?_
        refine va_getN (D := (dC, dI)) (ci := 4) (v := .int (v 17)) (C := RX4) (T := TX4) (N := 6) hx hb hts inB_4 hown hE.1 hP 7 rfl rfl 5 (by decide) (va_Nw.use rfl (hE.2 _ k_184)) (fun _ h9 => h9) rfl dX6_unit_48 ?_
        refine lv_bipush (v := 30) hx hb dX6_unit_51 (by decide) ?_
        refine lv_icmp_lt (tgt := 61) hx hb dX6_unit_53 (by decide) (fun c18 => ?_) (fun c18 => ?_)
        · skip
          have zc18 : (v 17).toInt < 30 := by rw [fa_lt, show (30 : Int32).toInt = 30 from by decide] at c18; exact c18
          refine lv_iload_n hx hb dX6_unit_61 rfl (lv_at hl 0 rfl) ?_
          refine lv_if_eq (tgt := 108) hx hb dX6_unit_62 (by decide) (fun _ => ?_) (fun c0 => absurd (by decide) c0)
          refine lv_iload_n hx hb dX6_unit_108 rfl (lv_at hl 3 rfl) ?_
          refine lv_bipush (v := 7) hx hb dX6_unit_109 (by decide) ?_
          refine lv_icmp_lt (tgt := 119) hx hb dX6_unit_111 (by decide) (fun c0 => absurd c0 (by decide)) (fun _ => ?_)
          refine lv_aload_n hx hb dX6_unit_114 rfl (lv_at hl 2 rfl) ?_
          refine cbVi (n := 0) (rest := []) hx hb hml hown hts hE hP hD hS hA (sX_X6_refuse_1 l dC dI cy x0 x  v f hIv ) k_691 k_693 k_6 k_103 k_694 (by decide +kernel) ⟨Nat.le_of_ble_eq_true rfl, Nat.le_of_ble_eq_true rfl⟩ 3 6 rfl rfl (rfl) hl.1 rfl (Nat.le_of_ble_eq_true rfl) dX6_unit_115 (fun r19 u H locs hw hP hD hS => ?_)
          obtain ⟨v20, f21⟩ := u
          obtain ⟨hIv20, hk0_v20, hk1_v20, hk9_v20, hk10_v20, hk31_v20, hk32_v20, hw⟩ := hw
          have hP : va_P (dC, dI) vwCl (XW cy x0 x v20 f21) H := hP
          have hD : va_D A (XW cy x0 x v20 f21) := hD
          have hq0_v20 : v20 0 = (v 0) := hk0_v20
          have hq1_v20 : v20 1 = (v 1) := hk1_v20
          have hq9_v20 : v20 9 = (v 9) := hk9_v20
          have hq10_v20 : v20 10 = (v 10) := hk10_v20
          have hq31_v20 : v20 31 = (v 31) := hk31_v20
          have hq32_v20 : v20 32 = (v 32) := hk32_v20
          rcases hw with ⟨g22⟩ | ⟨g22⟩
          · skip
            subst g22
            exact ret 1 (v20, f21) _ _ _ _ _ _ rfl ⟨hIv20, hk0_v20, hk1_v20, hk9_v20, hk10_v20, hk31_v20, hk32_v20, (Or.inl rfl)⟩ hP hD hS dX6_unit_118 (Nat.le_refl _) (Nat.le_refl _)
          · skip
            subst g22
            exact ret 0 (v20, f21) _ _ _ _ _ _ rfl ⟨hIv20, hk0_v20, hk1_v20, hk9_v20, hk10_v20, hk31_v20, hk32_v20, (Or.inr rfl)⟩ hP hD hS dX6_unit_118 (Nat.le_refl _) (Nat.le_refl _)
        · skip
          have zc18 : ¬ ((v 17).toInt < 30) := by rw [fa_lt, show (30 : Int32).toInt = 30 from by decide] at c18; exact c18
          refine lv_aload_n hx hb dX6_unit_56 rfl (lv_at hl 2 rfl) ?_
          refine cbVi (n := 0) (rest := []) hx hb hml hown hts hE hP hD hS hA (sX_X6_refuse_1 l dC dI cy x0 x  v f hIv ) k_691 k_693 k_6 k_103 k_694 (by decide +kernel) ⟨Nat.le_of_ble_eq_true rfl, Nat.le_of_ble_eq_true rfl⟩ 3 6 rfl rfl (rfl) hl.1 rfl (Nat.le_of_ble_eq_true rfl) dX6_unit_57 (fun r23 u H locs hw hP hD hS => ?_)
          obtain ⟨v24, f25⟩ := u
          obtain ⟨hIv24, hk0_v24, hk1_v24, hk9_v24, hk10_v24, hk31_v24, hk32_v24, hw⟩ := hw
          have hP : va_P (dC, dI) vwCl (XW cy x0 x v24 f25) H := hP
          have hD : va_D A (XW cy x0 x v24 f25) := hD
          have hq0_v24 : v24 0 = (v 0) := hk0_v24
          have hq1_v24 : v24 1 = (v 1) := hk1_v24
          have hq9_v24 : v24 9 = (v 9) := hk9_v24
          have hq10_v24 : v24 10 = (v 10) := hk10_v24
          have hq31_v24 : v24 31 = (v 31) := hk31_v24
          have hq32_v24 : v24 32 = (v 32) := hk32_v24
          rcases hw with ⟨g26⟩ | ⟨g26⟩
          · skip
            subst g26
            exact ret 1 (v24, f25) _ _ _ _ _ _ rfl ⟨hIv24, hk0_v24, hk1_v24, hk9_v24, hk10_v24, hk31_v24, hk32_v24, (Or.inl rfl)⟩ hP hD hS dX6_unit_60 (Nat.le_refl _) (Nat.le_refl _)
          · skip
            subst g26
            exact ret 0 (v24, f25) _ _ _ _ _ _ rfl ⟨hIv24, hk0_v24, hk1_v24, hk9_v24, hk10_v24, hk31_v24, hk32_v24, (Or.inr rfl)⟩ hP hD hS dX6_unit_60 (Nat.le_refl _) (Nat.le_refl _)
    · skip
      have zc12 : ¬ ((v 2).toInt < 116) := by rw [fa_lt, show (116 : Int32).toInt = 116 from by decide] at c12; exact c12
      refine lv_iload_n hx hb dX6_unit_19 rfl (lv_at hl 0 rfl) ?_
      refine lv_bipush (v := 121) hx hb dX6_unit_20 (by decide) ?_
      refine lv_icmp_gt (tgt := 29) hx hb dX6_unit_22 (by decide) (fun c27 => ?_) (fun c27 => ?_)
      · skip
        have zc27 : 121 < (v 2).toInt := by rw [fa_lt, show (121 : Int32).toInt = 121 from by decide] at c27; exact c27
        refine lv_iconst (v := 0) hx hb dX6_unit_29 (by decide) ?_
        refine lv_istore_n (lv' := [(3, .int 0), (2, .int (v 2)), (0, .ref (x 2)), (1, .int 7)]) hx hb dX6_unit_30 rfl hl (by decide) rfl (fun ls hl => ?_)
        refine lv_iload_n hx hb dX6_unit_31 rfl (lv_at hl 0 rfl) ?_
        refine lv_if_ne (tgt := 41) hx hb dX6_unit_32 (by decide) (fun c0 => absurd (by decide) c0) (fun _ => ?_)
        refine lv_iload_n hx hb dX6_unit_35 rfl (lv_at hl 1 rfl) ?_
        refine lv_bipush (v := 40) hx hb dX6_unit_36 (by decide) ?_
        refine lv_icmp_ne (tgt := 56) hx hb dX6_unit_38 (by decide) (fun c28 => ?_) (fun c28 => ?_)
        · skip
          have zc28 : ¬ ((v 2).toInt = 40) := by rw [fa_eq, show (40 : Int32).toInt = 40 from by decide] at c28; exact c28
          refine lv_aload_n hx hb dX6_unit_56 rfl (lv_at hl 2 rfl) ?_
          refine cbVi (n := 0) (rest := []) hx hb hml hown hts hE hP hD hS hA (sX_X6_refuse_1 l dC dI cy x0 x  v f hIv ) k_691 k_693 k_6 k_103 k_694 (by decide +kernel) ⟨Nat.le_of_ble_eq_true rfl, Nat.le_of_ble_eq_true rfl⟩ 3 6 rfl rfl (rfl) hl.1 rfl (Nat.le_of_ble_eq_true rfl) dX6_unit_57 (fun r29 u H locs hw hP hD hS => ?_)
          obtain ⟨v30, f31⟩ := u
          obtain ⟨hIv30, hk0_v30, hk1_v30, hk9_v30, hk10_v30, hk31_v30, hk32_v30, hw⟩ := hw
          have hP : va_P (dC, dI) vwCl (XW cy x0 x v30 f31) H := hP
          have hD : va_D A (XW cy x0 x v30 f31) := hD
          have hq0_v30 : v30 0 = (v 0) := hk0_v30
          have hq1_v30 : v30 1 = (v 1) := hk1_v30
          have hq9_v30 : v30 9 = (v 9) := hk9_v30
          have hq10_v30 : v30 10 = (v 10) := hk10_v30
          have hq31_v30 : v30 31 = (v 31) := hk31_v30
          have hq32_v30 : v30 32 = (v 32) := hk32_v30
          rcases hw with ⟨g32⟩ | ⟨g32⟩
          · skip
            subst g32
            exact ret 1 (v30, f31) _ _ _ _ _ _ rfl ⟨hIv30, hk0_v30, hk1_v30, hk9_v30, hk10_v30, hk31_v30, hk32_v30, (Or.inl rfl)⟩ hP hD hS dX6_unit_60 (Nat.le_refl _) (Nat.le_refl _)
          · skip
            subst g32
            exact ret 0 (v30, f31) _ _ _ _ _ _ rfl ⟨hIv30, hk0_v30, hk1_v30, hk9_v30, hk10_v30, hk31_v30, hk32_v30, (Or.inr rfl)⟩ hP hD hS dX6_unit_60 (Nat.le_refl _) (Nat.le_refl _)
        · skip
          have zc28 : (v 2).toInt = 40 := by rw [fa_eq, show (40 : Int32).toInt = 40 from by decide] at c28; exact c28
          refine lv_aload_n hx hb dX6_unit_41 rfl (lv_at hl 2 rfl) ?_
          refine va_get (D := (dC, dI)) (ci := 6) (v := .ref (x 3)) (C := RX6) (T := TX6) (N := 7) hx hb hts inB_6 hown hE.1 hP 3 rfl rfl 1 (by decide) (hts _ k_266) (fun _ h9 => h9) rfl dX6_unit_42 ?_
          refine va_getN (D := (dC, dI)) (ci := 7) (v := .ref (x 6)) (C := RX7) (T := TX7) (N := 10) hx hb hts inB_7 hown hE.1 hP 4 rfl rfl 2 (by decide) (va_Nw.use rfl (hE.2 _ k_210)) (fun _ h9 => h9) rfl dX6_unit_45 ?_
          refine va_getN (D := (dC, dI)) (ci := 4) (v := .int (v 17)) (C := RX4) (T := TX4) (N := 6) hx hb hts inB_4 hown hE.1 hP 7 rfl rfl 5 (by decide) (va_Nw.use rfl (hE.2 _ k_184)) (fun _ h9 => h9) rfl dX6_unit_48 ?_
          refine lv_bipush (v := 30) hx hb dX6_unit_51 (by decide) ?_
          refine lv_icmp_lt (tgt := 61) hx hb dX6_unit_53 (by decide) (fun c33 => ?_) (fun c33 => ?_)
          · skip
            have zc33 : (v 17).toInt < 30 := by rw [fa_lt, show (30 : Int32).toInt = 30 from by decide] at c33; exact c33
            refine lv_iload_n hx hb dX6_unit_61 rfl (lv_at hl 0 rfl) ?_
            refine lv_if_eq (tgt := 108) hx hb dX6_unit_62 (by decide) (fun _ => ?_) (fun c0 => absurd (by decide) c0)
            refine lv_iload_n hx hb dX6_unit_108 rfl (lv_at hl 3 rfl) ?_
            refine lv_bipush (v := 7) hx hb dX6_unit_109 (by decide) ?_
            refine lv_icmp_lt (tgt := 119) hx hb dX6_unit_111 (by decide) (fun c0 => absurd c0 (by decide)) (fun _ => ?_)
            refine lv_aload_n hx hb dX6_unit_114 rfl (lv_at hl 2 rfl) ?_
            refine cbVi (n := 0) (rest := []) hx hb hml hown hts hE hP hD hS hA (sX_X6_refuse_1 l dC dI cy x0 x  v f hIv ) k_691 k_693 k_6 k_103 k_694 (by decide +kernel) ⟨Nat.le_of_ble_eq_true rfl, Nat.le_of_ble_eq_true rfl⟩ 3 6 rfl rfl (rfl) hl.1 rfl (Nat.le_of_ble_eq_true rfl) dX6_unit_115 (fun r34 u H locs hw hP hD hS => ?_)
            obtain ⟨v35, f36⟩ := u
            obtain ⟨hIv35, hk0_v35, hk1_v35, hk9_v35, hk10_v35, hk31_v35, hk32_v35, hw⟩ := hw
            have hP : va_P (dC, dI) vwCl (XW cy x0 x v35 f36) H := hP
            have hD : va_D A (XW cy x0 x v35 f36) := hD
            have hq0_v35 : v35 0 = (v 0) := hk0_v35
            have hq1_v35 : v35 1 = (v 1) := hk1_v35
            have hq9_v35 : v35 9 = (v 9) := hk9_v35
            have hq10_v35 : v35 10 = (v 10) := hk10_v35
            have hq31_v35 : v35 31 = (v 31) := hk31_v35
            have hq32_v35 : v35 32 = (v 32) := hk32_v35
            rcases hw with ⟨g37⟩ | ⟨g37⟩
            · skip
              subst g37
              exact ret 1 (v35, f36) _ _ _ _ _ _ rfl ⟨hIv35, hk0_v35, hk1_v35, hk9_v35, hk10_v35, hk31_v35, hk32_v35, (Or.inl rfl)⟩ hP hD hS dX6_unit_118 (Nat.le_refl _) (Nat.le_refl _)
            · skip
              subst g37
              exact ret 0 (v35, f36) _ _ _ _ _ _ rfl ⟨hIv35, hk0_v35, hk1_v35, hk9_v35, hk10_v35, hk31_v35, hk32_v35, (Or.inr rfl)⟩ hP hD hS dX6_unit_118 (Nat.le_refl _) (Nat.le_refl _)
          · skip
            have zc33 : ¬ ((v 17).toInt < 30) := by rw [fa_lt, show (30 : Int32).toInt = 30 from by decide] at c33; exact c33
            refine lv_aload_n hx hb dX6_unit_56 rfl (lv_at hl 2 rfl) ?_
            refine cbVi (n := 0) (rest := []) hx hb hml hown hts hE hP hD hS hA (sX_X6_refuse_1 l dC dI cy x0 x  v f hIv ) k_691 k_693 k_6 k_103 k_694 (by decide +kernel) ⟨Nat.le_of_ble_eq_true rfl, Nat.le_of_ble_eq_true rfl⟩ 3 6 rfl rfl (rfl) hl.1 rfl (Nat.le_of_ble_eq_true rfl) dX6_unit_57 (fun r38 u H locs hw hP hD hS => ?_)
            obtain ⟨v39, f40⟩ := u
            obtain ⟨hIv39, hk0_v39, hk1_v39, hk9_v39, hk10_v39, hk31_v39, hk32_v39, hw⟩ := hw
            have hP : va_P (dC, dI) vwCl (XW cy x0 x v39 f40) H := hP
            have hD : va_D A (XW cy x0 x v39 f40) := hD
            have hq0_v39 : v39 0 = (v 0) := hk0_v39
            have hq1_v39 : v39 1 = (v 1) := hk1_v39
            have hq9_v39 : v39 9 = (v 9) := hk9_v39
            have hq10_v39 : v39 10 = (v 10) := hk10_v39
            have hq31_v39 : v39 31 = (v 31) := hk31_v39
            have hq32_v39 : v39 32 = (v 32) := hk32_v39
            rcases hw with ⟨g41⟩ | ⟨g41⟩
            · skip
              subst g41
              exact ret 1 (v39, f40) _ _ _ _ _ _ rfl ⟨hIv39, hk0_v39, hk1_v39, hk9_v39, hk10_v39, hk31_v39, hk32_v39, (Or.inl rfl)⟩ hP hD hS dX6_unit_60 (Nat.le_refl _) (Nat.le_refl _)
            · skip
              subst g41
              exact ret 0 (v39, f40) _ _ _ _ _ _ rfl ⟨hIv39, hk0_v39, hk1_v39, hk9_v39, hk10_v39, hk31_v39, hk32_v39, (Or.inr rfl)⟩ hP hD hS dX6_unit_60 (Nat.le_refl _) (Nat.le_refl _)
      · skip
        have zc27 : ¬ (121 < (v 2).toInt) := by rw [fa_lt, show (121 : Int32).toInt = 121 from by decide] at c27; exact c27
        refine lv_iconst (v := 1) hx hb dX6_unit_25 (by decide) ?_
        refine lv_goto (tgt := 30) hx hb dX6_unit_26 (by decide) ?_
        refine lv_istore_n (lv' := [(3, .int 1), (2, .int (v 2)), (0, .ref (x 2)), (1, .int 7)]) hx hb dX6_unit_30 rfl hl (by decide) rfl (fun ls hl => ?_)
        refine lv_iload_n hx hb dX6_unit_31 rfl (lv_at hl 0 rfl) ?_
        refine lv_if_ne (tgt := 41) hx hb dX6_unit_32 (by decide) (fun _ => ?_) (fun c0 => absurd c0 (by decide))
        refine lv_aload_n hx hb dX6_unit_41 rfl (lv_at hl 2 rfl) ?_
        refine va_get (D := (dC, dI)) (ci := 6) (v := .ref (x 3)) (C := RX6) (T := TX6) (N := 7) hx hb hts inB_6 hown hE.1 hP 3 rfl rfl 1 (by decide) (hts _ k_266) (fun _ h9 => h9) rfl dX6_unit_42 ?_
        refine va_getN (D := (dC, dI)) (ci := 7) (v := .ref (x 6)) (C := RX7) (T := TX7) (N := 10) hx hb hts inB_7 hown hE.1 hP 4 rfl rfl 2 (by decide) (va_Nw.use rfl (hE.2 _ k_210)) (fun _ h9 => h9) rfl dX6_unit_45 ?_
        refine va_getN (D := (dC, dI)) (ci := 4) (v := .int (v 17)) (C := RX4) (T := TX4) (N := 6) hx hb hts inB_4 hown hE.1 hP 7 rfl rfl 5 (by decide) (va_Nw.use rfl (hE.2 _ k_184)) (fun _ h9 => h9) rfl dX6_unit_48 ?_
        refine lv_bipush (v := 30) hx hb dX6_unit_51 (by decide) ?_
        refine lv_icmp_lt (tgt := 61) hx hb dX6_unit_53 (by decide) (fun c42 => ?_) (fun c42 => ?_)
        · skip
          have zc42 : (v 17).toInt < 30 := by rw [fa_lt, show (30 : Int32).toInt = 30 from by decide] at c42; exact c42
          refine lv_iload_n hx hb dX6_unit_61 rfl (lv_at hl 0 rfl) ?_
          refine lv_if_eq (tgt := 108) hx hb dX6_unit_62 (by decide) (fun c0 => absurd c0 (by decide)) (fun _ => ?_)
          refine lv_aload_n hx hb dX6_unit_65 rfl (lv_at hl 2 rfl) ?_
          refine va_get (D := (dC, dI)) (ci := 6) (v := .ref (x 3)) (C := RX6) (T := TX6) (N := 7) hx hb hts inB_6 hown hE.1 hP 3 rfl rfl 1 (by decide) (hts _ k_266) (fun _ h9 => h9) rfl dX6_unit_66 ?_
          refine va_getN (D := (dC, dI)) (ci := 7) (v := .ref (x 6)) (C := RX7) (T := TX7) (N := 10) hx hb hts inB_7 hown hE.1 hP 4 rfl rfl 2 (by decide) (va_Nw.use rfl (hE.2 _ k_210)) (fun _ h9 => h9) rfl dX6_unit_69 ?_
          refine lv_iload_n hx hb dX6_unit_72 rfl (lv_at hl 1 rfl) ?_
          refine lv_aload_n hx hb dX6_unit_73 rfl (lv_at hl 2 rfl) ?_
          refine va_get (D := (dC, dI)) (ci := 6) (v := .ref (x 0)) (C := RX6) (T := TX6) (N := 7) hx hb hts inB_6 hown hE.1 hP 3 rfl rfl 0 (by decide) (hts _ k_265) (fun _ h9 => h9) rfl dX6_unit_74 ?_
          refine va_getN (D := (dC, dI)) (ci := 9) (v := .int (v 5)) (C := RX9) (T := TX9) (N := 6) hx hb hts inB_9 hown hE.1 hP 1 rfl rfl 5 (by decide) (va_Nw.use rfl (hE.2 _ k_145)) (fun _ h9 => h9) rfl dX6_unit_77 ?_
          refine cbVv (n := 2) (rest := []) hx hb hml hown hts hE hP hD hS hA (sX_X4_add_1 l dC dI cy x0 x (v 2) (v 5) v f hIv ) k_748 k_749 k_750 k_105 k_751 (by decide +kernel) ⟨Nat.le_of_ble_eq_true rfl, Nat.le_of_ble_eq_true rfl⟩ 7 4 rfl rfl (rfl) hl.1 rfl (Nat.le_of_ble_eq_true rfl) dX6_unit_80 (fun u H locs hw hP hD hS => ?_)
          obtain ⟨v43, f44⟩ := u
          obtain ⟨hIv43, hk0_v43, hk1_v43, hk9_v43, hk10_v43, hk31_v43, hk32_v43⟩ := hw
          have hP : va_P (dC, dI) vwCl (XW cy x0 x v43 f44) H := hP
          have hD : va_D A (XW cy x0 x v43 f44) := hD
          have hq0_v43 : v43 0 = (v 0) := hk0_v43
          have hq1_v43 : v43 1 = (v 1) := hk1_v43
          have hq9_v43 : v43 9 = (v 9) := hk9_v43
          have hq10_v43 : v43 10 = (v 10) := hk10_v43
          have hq31_v43 : v43 31 = (v 31) := hk31_v43
          have hq32_v43 : v43 32 = (v 32) := hk32_v43
          refine lv_aload_n hx hb dX6_unit_83 rfl (lv_at hl 2 rfl) ?_
          refine va_get (D := (dC, dI)) (ci := 6) (v := .ref (x 3)) (C := RX6) (T := TX6) (N := 7) hx hb hts inB_6 hown hE.1 hP 3 rfl rfl 1 (by decide) (hts _ k_266) (fun _ h9 => h9) rfl dX6_unit_84 ?_
          refine va_getN (D := (dC, dI)) (ci := 7) (v := .ref (x 6)) (C := RX7) (T := TX7) (N := 10) hx hb hts inB_7 hown hE.1 hP 4 rfl rfl 2 (by decide) (va_Nw.use rfl (hE.2 _ k_210)) (fun _ h9 => h9) rfl dX6_unit_87 ?_
          refine lv_dup hx hb dX6_unit_90 rfl ?_
          refine va_getN (D := (dC, dI)) (ci := 4) (v := .int (v43 17)) (C := RX4) (T := TX4) (N := 6) hx hb hts inB_4 hown hE.1 hP 7 rfl rfl 5 (by decide) (va_Nw.use rfl (hE.2 _ k_184)) (fun _ h9 => h9) rfl dX6_unit_91 ?_
          refine lv_iconst (v := 1) hx hb dX6_unit_94 (by decide) ?_
          refine lv_iadd hx hb dX6_unit_95 ?_
          refine lv_topi (fun t45 et45 => ?_)
          refine va_putN (D := (dC, dI)) (ci := 4) (v := .int t45) (ty := tyX4 5) (C := RX4) (T := TX4) (N := 6) hx hb hts inB_4 tyX4 tyX4_ok nmX4 hown hE.1 hP hD hS 7 rfl rfl 5 (by decide) (va_Nw.use rfl (hE.2 _ k_184)) (fun _ h9 => h9) rfl (tyX4_ok 5 (by decide)) rfl rfl (Nat.le_of_ble_eq_true rfl) dX6_unit_96 (fun H locs hP hD hS => ?_)
          have hP : va_P (dC, dI) vwCl (XW cy x0 x (upd v43 17 t45) f44) H := hP
          have hD : va_D A (XW cy x0 x (upd v43 17 t45) f44) := hD
          refine lv_aload_n hx hb dX6_unit_99 rfl (lv_at hl 2 rfl) ?_
          refine va_get (D := (dC, dI)) (ci := 6) (v := .ref (x 0)) (C := RX6) (T := TX6) (N := 7) hx hb hts inB_6 hown hE.1 hP 3 rfl rfl 0 (by decide) (hts _ k_265) (fun _ h9 => h9) rfl dX6_unit_100 ?_
          refine csVv (n := 0) (rest := []) hx hb hml hown hts hE hP hD hS hA hF hT (sX_X9_advance_1 l dC dI cy x0 x  (upd v43 17 t45) f44 (XI.upd (j := 17) (x := t45) hIv43 (rlo _) (rhi _)) ) k_699 k_559 k_560 k_102 k_561 (by decide +kernel) ⟨Nat.le_of_ble_eq_true rfl, Nat.le_of_ble_eq_true rfl⟩ 1 9 rfl rfl (rfl) hl.1 rfl (Nat.le_of_ble_eq_true rfl) dX6_unit_103 (fun u H locs hw hP hD hS => ?_)
          obtain ⟨v46, f47⟩ := u
          obtain ⟨hIv46, hk0_v46, hk1_v46, hk9_v46, hk10_v46, hk31_v46, hk32_v46⟩ := hw
          have hP : va_P (dC, dI) vwCl (XW cy x0 x v46 f47) H := hP
          have hD : va_D A (XW cy x0 x v46 f47) := hD
          have hq0_v46 : v46 0 = (v 0) := hk0_v46.trans hq0_v43
          have hq1_v46 : v46 1 = (v 1) := hk1_v46.trans hq1_v43
          have hq9_v46 : v46 9 = (v 9) := hk9_v46.trans hq9_v43
          have hq10_v46 : v46 10 = (v 10) := hk10_v46.trans hq10_v43
          have hq31_v46 : v46 31 = (v 31) := hk31_v46.trans hq31_v43
          have hq32_v46 : v46 32 = (v 32) := hk32_v46.trans hq32_v43
          refine lv_iconst (v := 1) hx hb dX6_unit_106 (by decide) ?_
          exact ret 1 (v46, f47) _ _ _ _ _ _ rfl ⟨hIv46, (hk0_v46.trans hk0_v43), (hk1_v46.trans hk1_v43), (hk9_v46.trans hk9_v43), (hk10_v46.trans hk10_v43), (hk31_v46.trans hk31_v43), (hk32_v46.trans hk32_v43), (Or.inl rfl)⟩ hP hD hS dX6_unit_107 (Nat.le_refl _) (Nat.le_refl _)
        · skip
          have zc42 : ¬ ((v 17).toInt < 30) := by rw [fa_lt, show (30 : Int32).toInt = 30 from by decide] at c42; exact c42
          refine lv_aload_n hx hb dX6_unit_56 rfl (lv_at hl 2 rfl) ?_
          refine cbVi (n := 0) (rest := []) hx hb hml hown hts hE hP hD hS hA (sX_X6_refuse_1 l dC dI cy x0 x  v f hIv ) k_691 k_693 k_6 k_103 k_694 (by decide +kernel) ⟨Nat.le_of_ble_eq_true rfl, Nat.le_of_ble_eq_true rfl⟩ 3 6 rfl rfl (rfl) hl.1 rfl (Nat.le_of_ble_eq_true rfl) dX6_unit_57 (fun r48 u H locs hw hP hD hS => ?_)
          obtain ⟨v49, f50⟩ := u
          obtain ⟨hIv49, hk0_v49, hk1_v49, hk9_v49, hk10_v49, hk31_v49, hk32_v49, hw⟩ := hw
          have hP : va_P (dC, dI) vwCl (XW cy x0 x v49 f50) H := hP
          have hD : va_D A (XW cy x0 x v49 f50) := hD
          have hq0_v49 : v49 0 = (v 0) := hk0_v49
          have hq1_v49 : v49 1 = (v 1) := hk1_v49
          have hq9_v49 : v49 9 = (v 9) := hk9_v49
          have hq10_v49 : v49 10 = (v 10) := hk10_v49
          have hq31_v49 : v49 31 = (v 31) := hk31_v49
          have hq32_v49 : v49 32 = (v 32) := hk32_v49
          rcases hw with ⟨g51⟩ | ⟨g51⟩
          · skip
            subst g51
            exact ret 1 (v49, f50) _ _ _ _ _ _ rfl ⟨hIv49, hk0_v49, hk1_v49, hk9_v49, hk10_v49, hk31_v49, hk32_v49, (Or.inl rfl)⟩ hP hD hS dX6_unit_60 (Nat.le_refl _) (Nat.le_refl _)
          · skip
            subst g51
            exact ret 0 (v49, f50) _ _ _ _ _ _ rfl ⟨hIv49, hk0_v49, hk1_v49, hk9_v49, hk10_v49, hk31_v49, hk32_v49, (Or.inr rfl)⟩ hP hD hS dX6_unit_60 (Nat.le_refl _) (Nat.le_refl _)
set_option maxHeartbeats 4000000 in
set_option maxRecDepth 100000 in
theorem sX_X6_expression_48 (l : Launch) (dC : Nat → ClassId) (dI : Nat → Nat → Nat) (cy : Nat → ClassId) (x0 : Nat) (x : Nat → Nat)  (v : Nat → Int32) (f : Nat → Nat → Int32) (hIv : XI v)  : ctIS l (dC, dI) cy yX6_expression cX6_expression 6 .boolean 8 214 0 0 ((Nat → Int32) × (Nat → Nat → Int32)) [.ref (x 2), .int 5, .int 7] (XW cy x0 x v f) (fun r u => XI u.1 ∧ u.1 0 = v 0 ∧ u.1 1 = v 1 ∧ u.1 9 = v 9 ∧ u.1 10 = v 10 ∧ u.1 31 = v 31 ∧ u.1 32 = v 32 ∧ ((r = 1) ∨ (r = 0))) (fun u => XW cy x0 x u.1 u.2) := by
  refine ctIS_of (by decide) (Nat.le_of_ble_eq_true rfl) (fun p e s m below meth c A ls Q hx hb hml hts hown hE hF hT hP hD hA hl ret => ?_)
  have hown : s.vm.findClass RX6 = some m.cls := hown
  have hS : va_S A s.heap s.heap [] := va_S.rf
  have hl : lv_has ls 6 [(0, .ref (x 2)), (1, .int 5), (2, .int 7)] := hl
  refine lv_iload_n hx hb dX6_expression_0 rfl (lv_at hl 1 rfl) ?_
  refine lv_iconst (v := 5) hx hb dX6_expression_1 (by decide) ?_
  refine lv_icmp_lt (tgt := 11) hx hb dX6_expression_2 (by decide) (fun c0 => absurd c0 (by decide)) (fun _ => ?_)
  refine lv_aload_n hx hb dX6_expression_5 rfl (lv_at hl 0 rfl) ?_
  refine lv_iload_n hx hb dX6_expression_6 rfl (lv_at hl 2 rfl) ?_
  refine csVi (n := 1) (rest := []) hx hb hml hown hts hE hP hD hS hA hF hT (sX_X6_unit_8 l dC dI cy x0 x  v f hIv ) k_744 k_746 k_16 k_103 k_747 (by decide +kernel) ⟨Nat.le_of_ble_eq_true rfl, Nat.le_of_ble_eq_true rfl⟩ 3 6 rfl rfl (rfl) hl.1 rfl (Nat.le_of_ble_eq_true rfl) dX6_expression_7 (fun r1 u H locs hw hP hD hS => ?_)
  obtain ⟨v2, f3⟩ := u
  obtain ⟨hIv2, hk0_v2, hk1_v2, hk9_v2, hk10_v2, hk31_v2, hk32_v2, hw⟩ := hw
  have hP : va_P (dC, dI) vwCl (XW cy x0 x v2 f3) H := hP
  have hD : va_D A (XW cy x0 x v2 f3) := hD
  have hq0_v2 : v2 0 = (v 0) := hk0_v2
  have hq1_v2 : v2 1 = (v 1) := hk1_v2
  have hq9_v2 : v2 9 = (v 9) := hk9_v2
  have hq10_v2 : v2 10 = (v 10) := hk10_v2
  have hq31_v2 : v2 31 = (v 31) := hk31_v2
  have hq32_v2 : v2 32 = (v 32) := hk32_v2
  rcases hw with ⟨g4⟩ | ⟨g4⟩
  · skip
    subst g4
    exact ret 1 (v2, f3) _ _ _ _ _ _ rfl ⟨hIv2, hk0_v2, hk1_v2, hk9_v2, hk10_v2, hk31_v2, hk32_v2, (Or.inl rfl)⟩ hP hD hS dX6_expression_10 (Nat.le_refl _) (Nat.le_refl _)
  · skip
    subst g4
    exact ret 0 (v2, f3) _ _ _ _ _ _ rfl ⟨hIv2, hk0_v2, hk1_v2, hk9_v2, hk10_v2, hk31_v2, hk32_v2, (Or.inr rfl)⟩ hP hD hS dX6_expression_10 (Nat.le_refl _) (Nat.le_refl _)
set_option maxHeartbeats 4000000 in
set_option maxRecDepth 100000 in
theorem sX_X6_joins_1 (l : Launch) (dC : Nat → ClassId) (dI : Nat → Nat → Nat) (cy : Nat → ClassId) (x0 : Nat) (x : Nat → Nat) (p0 : Int32) (p1 : Int32) (v : Nat → Int32) (f : Nat → Nat → Int32) (hIv : XI v)  : ctI l (dC, dI) cy yX6_joins cX6_joins 2 .boolean 1 60 0 0 Unit [.int p0, .int p1] (XW cy x0 x v f) (fun r u => ((r = 1) ∨ (r = 0))) (fun u => XW cy x0 x v f) := by
  refine ctI_of (by decide) (Nat.le_of_ble_eq_true rfl) (fun p e s m below meth c A ls Q hx hb hml hts hown hE hP hD hA hl ret => ?_)
  have hown : s.vm.findClass RX6 = some m.cls := hown
  have hS : va_S A s.heap s.heap [] := va_S.rf
  have hl : lv_has ls 2 [(0, .int p0), (1, .int p1)] := hl
  refine lv_iload_n hx hb dX6_joins_0 rfl (lv_at hl 0 rfl) ?_
  by_cases c1 : p0 = 0
  · skip
    refine lv_tableIn (off := 35) (tgt := 36) hx hb dX6_joins_1 (by rw [c1]; decide) (by rw [c1]; decide) (by rw [c1]; decide) (by decide) ?_
    have zc1 : p0.toInt = 0 := by rw [fa_eq, show (0 : Int32).toInt = 0 from by decide] at c1; exact c1
    refine lv_iload_n hx hb dX6_joins_36 rfl (lv_at hl 1 rfl) ?_
    refine lv_bipush (v := 113) hx hb dX6_joins_37 (by decide) ?_
    refine lv_icmp_ne (tgt := 46) hx hb dX6_joins_39 (by decide) (fun c2 => ?_) (fun c2 => ?_)
    · skip
      have zc2 : ¬ (p1.toInt = 113) := by rw [fa_eq, show (113 : Int32).toInt = 113 from by decide] at c2; exact c2
      refine lv_iconst (v := 0) hx hb dX6_joins_46 (by decide) ?_
      exact ret 0 () _ _ _ _ _ _ rfl (Or.inr rfl) hP hD hS dX6_joins_47 (Nat.le_refl _) (Nat.le_refl _)
    · skip
      have zc2 : p1.toInt = 113 := by rw [fa_eq, show (113 : Int32).toInt = 113 from by decide] at c2; exact c2
      refine lv_iconst (v := 1) hx hb dX6_joins_42 (by decide) ?_
      refine lv_goto (tgt := 47) hx hb dX6_joins_43 (by decide) ?_
      exact ret 1 () _ _ _ _ _ _ rfl (Or.inl rfl) hP hD hS dX6_joins_47 (Nat.le_refl _) (Nat.le_refl _)
  · skip
    have zc1 : ¬ (p0.toInt = 0) := by rw [fa_eq, show (0 : Int32).toInt = 0 from by decide] at c1; exact c1
    by_cases c3 : p0 = 1
    · skip
      refine lv_tableIn (off := 47) (tgt := 48) hx hb dX6_joins_1 (by rw [c3]; decide) (by rw [c3]; decide) (by rw [c3]; decide) (by decide) ?_
      have zc3 : p0.toInt = 1 := by rw [fa_eq, show (1 : Int32).toInt = 1 from by decide] at c3; exact c3
      refine lv_iload_n hx hb dX6_joins_48 rfl (lv_at hl 1 rfl) ?_
      refine lv_bipush (v := 114) hx hb dX6_joins_49 (by decide) ?_
      refine lv_icmp_ne (tgt := 58) hx hb dX6_joins_51 (by decide) (fun c4 => ?_) (fun c4 => ?_)
      · skip
        have zc4 : ¬ (p1.toInt = 114) := by rw [fa_eq, show (114 : Int32).toInt = 114 from by decide] at c4; exact c4
        refine lv_iconst (v := 0) hx hb dX6_joins_58 (by decide) ?_
        exact ret 0 () _ _ _ _ _ _ rfl (Or.inr rfl) hP hD hS dX6_joins_59 (Nat.le_refl _) (Nat.le_refl _)
      · skip
        have zc4 : p1.toInt = 114 := by rw [fa_eq, show (114 : Int32).toInt = 114 from by decide] at c4; exact c4
        refine lv_iconst (v := 1) hx hb dX6_joins_54 (by decide) ?_
        refine lv_goto (tgt := 59) hx hb dX6_joins_55 (by decide) ?_
        exact ret 1 () _ _ _ _ _ _ rfl (Or.inl rfl) hP hD hS dX6_joins_59 (Nat.le_refl _) (Nat.le_refl _)
    · skip
      have zc3 : ¬ (p0.toInt = 1) := by rw [fa_eq, show (1 : Int32).toInt = 1 from by decide] at c3; exact c3
      by_cases c5 : p0 = 2
      · skip
        refine lv_tableIn (off := 59) (tgt := 60) hx hb dX6_joins_1 (by rw [c5]; decide) (by rw [c5]; decide) (by rw [c5]; decide) (by decide) ?_
        have zc5 : p0.toInt = 2 := by rw [fa_eq, show (2 : Int32).toInt = 2 from by decide] at c5; exact c5
        refine lv_iload_n hx hb dX6_joins_60 rfl (lv_at hl 1 rfl) ?_
        refine lv_bipush (v := 60) hx hb dX6_joins_61 (by decide) ?_
        refine lv_icmp_eq (tgt := 78) hx hb dX6_joins_63 (by decide) (fun c6 => ?_) (fun c6 => ?_)
        · skip
          have zc6 : p1.toInt = 60 := by rw [fa_eq, show (60 : Int32).toInt = 60 from by decide] at c6; exact c6
          refine lv_iconst (v := 1) hx hb dX6_joins_78 (by decide) ?_
          refine lv_goto (tgt := 83) hx hb dX6_joins_79 (by decide) ?_
          exact ret 1 () _ _ _ _ _ _ rfl (Or.inl rfl) hP hD hS dX6_joins_83 (Nat.le_refl _) (Nat.le_refl _)
        · skip
          have zc6 : ¬ (p1.toInt = 60) := by rw [fa_eq, show (60 : Int32).toInt = 60 from by decide] at c6; exact c6
          refine lv_iload_n hx hb dX6_joins_66 rfl (lv_at hl 1 rfl) ?_
          refine lv_bipush (v := 62) hx hb dX6_joins_67 (by decide) ?_
          refine lv_icmp_eq (tgt := 78) hx hb dX6_joins_69 (by decide) (fun c7 => ?_) (fun c7 => ?_)
          · skip
            have zc7 : p1.toInt = 62 := by rw [fa_eq, show (62 : Int32).toInt = 62 from by decide] at c7; exact c7
            refine lv_iconst (v := 1) hx hb dX6_joins_78 (by decide) ?_
            refine lv_goto (tgt := 83) hx hb dX6_joins_79 (by decide) ?_
            exact ret 1 () _ _ _ _ _ _ rfl (Or.inl rfl) hP hD hS dX6_joins_83 (Nat.le_refl _) (Nat.le_refl _)
          · skip
            have zc7 : ¬ (p1.toInt = 62) := by rw [fa_eq, show (62 : Int32).toInt = 62 from by decide] at c7; exact c7
            refine lv_iload_n hx hb dX6_joins_72 rfl (lv_at hl 1 rfl) ?_
            refine lv_bipush (v := 61) hx hb dX6_joins_73 (by decide) ?_
            refine lv_icmp_ne (tgt := 82) hx hb dX6_joins_75 (by decide) (fun c8 => ?_) (fun c8 => ?_)
            · skip
              have zc8 : ¬ (p1.toInt = 61) := by rw [fa_eq, show (61 : Int32).toInt = 61 from by decide] at c8; exact c8
              refine lv_iconst (v := 0) hx hb dX6_joins_82 (by decide) ?_
              exact ret 0 () _ _ _ _ _ _ rfl (Or.inr rfl) hP hD hS dX6_joins_83 (Nat.le_refl _) (Nat.le_refl _)
            · skip
              have zc8 : p1.toInt = 61 := by rw [fa_eq, show (61 : Int32).toInt = 61 from by decide] at c8; exact c8
              refine lv_iconst (v := 1) hx hb dX6_joins_78 (by decide) ?_
              refine lv_goto (tgt := 83) hx hb dX6_joins_79 (by decide) ?_
              exact ret 1 () _ _ _ _ _ _ rfl (Or.inl rfl) hP hD hS dX6_joins_83 (Nat.le_refl _) (Nat.le_refl _)
      · skip
        have zc5 : ¬ (p0.toInt = 2) := by rw [fa_eq, show (2 : Int32).toInt = 2 from by decide] at c5; exact c5
        by_cases c9 : p0 = 3
        · skip
          refine lv_tableIn (off := 83) (tgt := 84) hx hb dX6_joins_1 (by rw [c9]; decide) (by rw [c9]; decide) (by rw [c9]; decide) (by decide) ?_
          have zc9 : p0.toInt = 3 := by rw [fa_eq, show (3 : Int32).toInt = 3 from by decide] at c9; exact c9
          refine lv_iload_n hx hb dX6_joins_84 rfl (lv_at hl 1 rfl) ?_
          refine lv_bipush (v := 43) hx hb dX6_joins_85 (by decide) ?_
          refine lv_icmp_eq (tgt := 96) hx hb dX6_joins_87 (by decide) (fun c10 => ?_) (fun c10 => ?_)
          · skip
            have zc10 : p1.toInt = 43 := by rw [fa_eq, show (43 : Int32).toInt = 43 from by decide] at c10; exact c10
            refine lv_iconst (v := 1) hx hb dX6_joins_96 (by decide) ?_
            refine lv_goto (tgt := 101) hx hb dX6_joins_97 (by decide) ?_
            exact ret 1 () _ _ _ _ _ _ rfl (Or.inl rfl) hP hD hS dX6_joins_101 (Nat.le_refl _) (Nat.le_refl _)
          · skip
            have zc10 : ¬ (p1.toInt = 43) := by rw [fa_eq, show (43 : Int32).toInt = 43 from by decide] at c10; exact c10
            refine lv_iload_n hx hb dX6_joins_90 rfl (lv_at hl 1 rfl) ?_
            refine lv_bipush (v := 45) hx hb dX6_joins_91 (by decide) ?_
            refine lv_icmp_ne (tgt := 100) hx hb dX6_joins_93 (by decide) (fun c11 => ?_) (fun c11 => ?_)
            · skip
              have zc11 : ¬ (p1.toInt = 45) := by rw [fa_eq, show (45 : Int32).toInt = 45 from by decide] at c11; exact c11
              refine lv_iconst (v := 0) hx hb dX6_joins_100 (by decide) ?_
              exact ret 0 () _ _ _ _ _ _ rfl (Or.inr rfl) hP hD hS dX6_joins_101 (Nat.le_refl _) (Nat.le_refl _)
            · skip
              have zc11 : p1.toInt = 45 := by rw [fa_eq, show (45 : Int32).toInt = 45 from by decide] at c11; exact c11
              refine lv_iconst (v := 1) hx hb dX6_joins_96 (by decide) ?_
              refine lv_goto (tgt := 101) hx hb dX6_joins_97 (by decide) ?_
              exact ret 1 () _ _ _ _ _ _ rfl (Or.inl rfl) hP hD hS dX6_joins_101 (Nat.le_refl _) (Nat.le_refl _)
        · skip
          have zc9 : ¬ (p0.toInt = 3) := by rw [fa_eq, show (3 : Int32).toInt = 3 from by decide] at c9; exact c9
          by_cases c12 : p0 = 4
          · skip
            refine lv_tableIn (off := 101) (tgt := 102) hx hb dX6_joins_1 (by rw [c12]; decide) (by rw [c12]; decide) (by rw [c12]; decide) (by decide) ?_
            have zc12 : p0.toInt = 4 := by rw [fa_eq, show (4 : Int32).toInt = 4 from by decide] at c12; exact c12
            refine lv_iload_n hx hb dX6_joins_102 rfl (lv_at hl 1 rfl) ?_
            refine lv_bipush (v := 42) hx hb dX6_joins_103 (by decide) ?_
            refine lv_icmp_eq (tgt := 120) hx hb dX6_joins_105 (by decide) (fun c13 => ?_) (fun c13 => ?_)
            · skip
              have zc13 : p1.toInt = 42 := by rw [fa_eq, show (42 : Int32).toInt = 42 from by decide] at c13; exact c13
              refine lv_iconst (v := 1) hx hb dX6_joins_120 (by decide) ?_
              refine lv_goto (tgt := 125) hx hb dX6_joins_121 (by decide) ?_
              exact ret 1 () _ _ _ _ _ _ rfl (Or.inl rfl) hP hD hS dX6_joins_125 (Nat.le_refl _) (Nat.le_refl _)
            · skip
              have zc13 : ¬ (p1.toInt = 42) := by rw [fa_eq, show (42 : Int32).toInt = 42 from by decide] at c13; exact c13
              refine lv_iload_n hx hb dX6_joins_108 rfl (lv_at hl 1 rfl) ?_
              refine lv_bipush (v := 47) hx hb dX6_joins_109 (by decide) ?_
              refine lv_icmp_eq (tgt := 120) hx hb dX6_joins_111 (by decide) (fun c14 => ?_) (fun c14 => ?_)
              · skip
                have zc14 : p1.toInt = 47 := by rw [fa_eq, show (47 : Int32).toInt = 47 from by decide] at c14; exact c14
                refine lv_iconst (v := 1) hx hb dX6_joins_120 (by decide) ?_
                refine lv_goto (tgt := 125) hx hb dX6_joins_121 (by decide) ?_
                exact ret 1 () _ _ _ _ _ _ rfl (Or.inl rfl) hP hD hS dX6_joins_125 (Nat.le_refl _) (Nat.le_refl _)
              · skip
                have zc14 : ¬ (p1.toInt = 47) := by rw [fa_eq, show (47 : Int32).toInt = 47 from by decide] at c14; exact c14
                refine lv_iload_n hx hb dX6_joins_114 rfl (lv_at hl 1 rfl) ?_
                refine lv_bipush (v := 37) hx hb dX6_joins_115 (by decide) ?_
                refine lv_icmp_ne (tgt := 124) hx hb dX6_joins_117 (by decide) (fun c15 => ?_) (fun c15 => ?_)
                · skip
                  have zc15 : ¬ (p1.toInt = 37) := by rw [fa_eq, show (37 : Int32).toInt = 37 from by decide] at c15; exact c15
                  refine lv_iconst (v := 0) hx hb dX6_joins_124 (by decide) ?_
                  exact ret 0 () _ _ _ _ _ _ rfl (Or.inr rfl) hP hD hS dX6_joins_125 (Nat.le_refl _) (Nat.le_refl _)
                · skip
                  have zc15 : p1.toInt = 37 := by rw [fa_eq, show (37 : Int32).toInt = 37 from by decide] at c15; exact c15
                  refine lv_iconst (v := 1) hx hb dX6_joins_120 (by decide) ?_
                  refine lv_goto (tgt := 125) hx hb dX6_joins_121 (by decide) ?_
                  exact ret 1 () _ _ _ _ _ _ rfl (Or.inl rfl) hP hD hS dX6_joins_125 (Nat.le_refl _) (Nat.le_refl _)
          · skip
            have zc12 : ¬ (p0.toInt = 4) := by rw [fa_eq, show (4 : Int32).toInt = 4 from by decide] at c12; exact c12
            refine lv_tableOut (tgt := 126) hx hb dX6_joins_1 (by omega) (by decide) ?_
            refine lv_iconst (v := 0) hx hb dX6_joins_126 (by decide) ?_
            exact ret 0 () _ _ _ _ _ _ rfl (Or.inr rfl) hP hD hS dX6_joins_127 (Nat.le_refl _) (Nat.le_refl _)
set_option maxHeartbeats 4000000 in
set_option maxRecDepth 100000 in
theorem sX_X6_expression_47 (l : Launch) (dC : Nat → ClassId) (dI : Nat → Nat → Nat) (cy : Nat → ClassId) (x0 : Nat) (x : Nat → Nat)  (v : Nat → Int32) (f : Nat → Nat → Int32) (hIv : XI v)  : ctIS l (dC, dI) cy yX6_expression cX6_expression 6 .boolean 9 239 0 0 ((Nat → Int32) × (Nat → Nat → Int32)) [.ref (x 2), .int 4, .int 7] (XW cy x0 x v f) (fun r u => XI u.1 ∧ u.1 0 = v 0 ∧ u.1 1 = v 1 ∧ u.1 9 = v 9 ∧ u.1 10 = v 10 ∧ u.1 31 = v 31 ∧ u.1 32 = v 32 ∧ ((r = 1) ∨ (r = 0))) (fun u => XW cy x0 x u.1 u.2) := by
  refine ctIS_of (by decide) (Nat.le_of_ble_eq_true rfl) (fun p e s m below meth c A ls Q hx hb hml hts hown hE hF hT hP hD hA hl ret => ?_)
  have hown : s.vm.findClass RX6 = some m.cls := hown
  have hS : va_S A s.heap s.heap [] := va_S.rf
  have hl : lv_has ls 6 [(0, .ref (x 2)), (1, .int 4), (2, .int 7)] := hl
  refine lv_iload_n hx hb dX6_expression_0 rfl (lv_at hl 1 rfl) ?_
  refine lv_iconst (v := 5) hx hb dX6_expression_1 (by decide) ?_
  refine lv_icmp_lt (tgt := 11) hx hb dX6_expression_2 (by decide) (fun _ => ?_) (fun c0 => absurd (by decide) c0)
  refine lv_iload_n hx hb dX6_expression_11 rfl (lv_at hl 1 rfl) ?_
  refine lv_iconst (v := 2) hx hb dX6_expression_12 (by decide) ?_
  refine lv_icmp_ne (tgt := 34) hx hb dX6_expression_13 (by decide) (fun _ => ?_) (fun c0 => absurd c0 (by decide))
  refine lv_aload_n hx hb dX6_expression_34 rfl (lv_at hl 0 rfl) ?_
  refine lv_iload_n hx hb dX6_expression_35 rfl (lv_at hl 1 rfl) ?_
  refine lv_iconst (v := 1) hx hb dX6_expression_36 (by decide) ?_
  refine lv_iadd hx hb dX6_expression_37 ?_
  refine tI (y := 5) (by decide) ?_
  refine lv_iload_n hx hb dX6_expression_38 rfl (lv_at hl 2 rfl) ?_
  refine csVi (n := 2) (rest := []) hx hb hml hown hts hE hP hD hS hA hF hT (sX_X6_expression_48 l dC dI cy x0 x  v f hIv ) k_740 k_742 k_15 k_103 k_743 (by decide +kernel) ⟨Nat.le_of_ble_eq_true rfl, Nat.le_of_ble_eq_true rfl⟩ 3 6 rfl rfl (rfl) hl.1 rfl (Nat.le_of_ble_eq_true rfl) dX6_expression_39 (fun r1 u H locs hw hP hD hS => ?_)
  obtain ⟨v2, f3⟩ := u
  obtain ⟨hIv2, hk0_v2, hk1_v2, hk9_v2, hk10_v2, hk31_v2, hk32_v2, hw⟩ := hw
  have hP : va_P (dC, dI) vwCl (XW cy x0 x v2 f3) H := hP
  have hD : va_D A (XW cy x0 x v2 f3) := hD
  have hq0_v2 : v2 0 = (v 0) := hk0_v2
  have hq1_v2 : v2 1 = (v 1) := hk1_v2
  have hq9_v2 : v2 9 = (v 9) := hk9_v2
  have hq10_v2 : v2 10 = (v 10) := hk10_v2
  have hq31_v2 : v2 31 = (v 31) := hk31_v2
  have hq32_v2 : v2 32 = (v 32) := hk32_v2
  rcases hw with ⟨g4⟩ | ⟨g4⟩
  · skip
    subst g4
    refine lv_if_ne (tgt := 47) hx hb dX6_expression_42 (by decide) (fun _ => ?_) (fun c0 => absurd c0 (by decide))
    refine lv_iload_n hx hb dX6_expression_47 rfl (lv_at hl 1 rfl) ?_
    refine lv_iconst (v := 2) hx hb dX6_expression_48 (by decide) ?_
    refine lv_icmp_ne (tgt := 56) hx hb dX6_expression_49 (by decide) (fun _ => ?_) (fun c0 => absurd c0 (by decide))
    refine lv_sipush (v := 1600) hx hb dX6_expression_56 (by decide) ?_
    refine lv_istore_n (lv' := [(3, .int 1600), (0, .ref (x 2)), (1, .int 4), (2, .int 7)]) hx hb dX6_expression_59 rfl hl (by decide) rfl (fun ls hl => ?_)
    refine lv_iconst (v := 0) hx hb dX6_expression_60 (by decide) ?_
    refine lv_istore (lv' := [(4, .int 0), (3, .int 1600), (0, .ref (x 2)), (1, .int 4), (2, .int 7)]) hx hb dX6_expression_61 hl (by decide) rfl (fun ls hl => ?_)
    have lp5 : ∀ (n5 : Nat) (l4_5 : Int32) (v5 : Nat → Int32) (f5 : Nat → Nat → Int32), XI v5 → v5 0 = (v 0) → v5 1 = (v 1) → v5 9 = (v 9) → v5 10 = (v 10) → v5 31 = (v 31) → v5 32 = (v 32) → ((0 : Int) ≤ l4_5.toInt ∧ l4_5.toInt ≤ 2147483647) → (2147483647 - l4_5.toInt).toNat < n5 → ∀ (H : Heap) (locs : List Loc) (ls : Array Slot), va_P (dC, dI) vwCl (XW cy x0 x v5 f5) H → va_D A (XW cy x0 x v5 f5) → va_S A s.heap H locs → lv_has ls 6 [(4, .int l4_5), (3, .int 1600), (0, .ref (x 2)), (1, .int 4), (2, .int 7)] → W p l e { frames := 9, cells := 0, slots := 0, locals := 239 } s m ([.ref (x 2), .int 4, .int 7] : List Value).toArray below meth c H locs 0 0 Q (F0 m 63 ls []) := by
      intro n5
      induction n5 with
      | zero => intro l4_5 v5 f5 hIv5 hq0_v5 hq1_v5 hq9_v5 hq10_v5 hq31_v5 hq32_v5 hr4_5 hm; exact absurd hm (Nat.not_lt_zero _)
      | succ n5 ih5 =>
        intro l4_5 v5 f5 hIv5 hq0_v5 hq1_v5 hq9_v5 hq10_v5 hq31_v5 hq32_v5 hr4_5 hm5 H locs ls hP hD hS hl
        refine lv_iload hx hb dX6_expression_63 (lv_at hl 0 rfl) ?_
        refine lv_iload_n hx hb dX6_expression_65 rfl (lv_at hl 1 rfl) ?_
        refine lv_icmp_ge (tgt := 131) hx hb dX6_expression_66 (by decide) (fun c6 => ?_) (fun c6 => ?_)
        · skip
          have zc6 : 1600 ≤ l4_5.toInt := by rw [fa_le, show (1600 : Int32).toInt = 1600 from by decide] at c6; exact c6
          refine lv_iconst (v := 1) hx hb dX6_expression_131 (by decide) ?_
          exact ret 1 (v5, f5) _ _ _ _ _ _ rfl ⟨hIv5, hq0_v5, hq1_v5, hq9_v5, hq10_v5, hq31_v5, hq32_v5, (Or.inl rfl)⟩ hP hD hS dX6_expression_132 (Nat.le_refl _) (Nat.le_refl _)
        · skip
          have zc6 : ¬ (1600 ≤ l4_5.toInt) := by rw [fa_le, show (1600 : Int32).toInt = 1600 from by decide] at c6; exact c6
          refine lv_iload_n hx hb dX6_expression_69 rfl (lv_at hl 3 rfl) ?_
          refine lv_aload_n hx hb dX6_expression_70 rfl (lv_at hl 2 rfl) ?_
          refine va_get (D := (dC, dI)) (ci := 6) (v := .ref (x 0)) (C := RX6) (T := TX6) (N := 7) hx hb hts inB_6 hown hE.1 hP 3 rfl rfl 0 (by decide) (hts _ k_265) (fun _ h9 => h9) rfl dX6_expression_71 ?_
          refine va_getN (D := (dC, dI)) (ci := 9) (v := .int (v5 2)) (C := RX9) (T := TX9) (N := 6) hx hb hts inB_9 hown hE.1 hP 1 rfl rfl 2 (by decide) (va_Nw.use rfl (hE.2 _ k_139)) (fun _ h9 => h9) rfl dX6_expression_74 ?_
          refine cbSi (n := 2) (rest := []) hx hb hml hown hts hE hP hD hS hA (sX_X6_joins_1 l dC dI cy x0 x 4 (v5 2) v5 f5 hIv5 ) k_756 k_757 k_103 k_758 (by decide +kernel) ⟨Nat.le_of_ble_eq_true rfl, Nat.le_of_ble_eq_true rfl⟩ (rfl) hl.1 rfl (Nat.le_of_ble_eq_true rfl) dX6_expression_77 (fun r7 u H locs hw hP hD hS => ?_)
          rcases hw with ⟨g8⟩ | ⟨g8⟩
          · skip
            subst g8
            refine lv_if_eq (tgt := 131) hx hb dX6_expression_80 (by decide) (fun c0 => absurd c0 (by decide)) (fun _ => ?_)
            refine lv_aload_n hx hb dX6_expression_83 rfl (lv_at hl 2 rfl) ?_
            refine va_get (D := (dC, dI)) (ci := 6) (v := .ref (x 0)) (C := RX6) (T := TX6) (N := 7) hx hb hts inB_6 hown hE.1 hP 3 rfl rfl 0 (by decide) (hts _ k_265) (fun _ h9 => h9) rfl dX6_expression_84 ?_
            refine va_getN (D := (dC, dI)) (ci := 9) (v := .int (v5 2)) (C := RX9) (T := TX9) (N := 6) hx hb hts inB_9 hown hE.1 hP 1 rfl rfl 2 (by decide) (va_Nw.use rfl (hE.2 _ k_139)) (fun _ h9 => h9) rfl dX6_expression_87 ?_
            refine lv_istore (lv' := [(5, .int (v5 2)), (4, .int l4_5), (3, .int 1600), (0, .ref (x 2)), (1, .int 4), (2, .int 7)]) hx hb dX6_expression_90 hl (by decide) rfl (fun ls hl => ?_)
            refine lv_aload_n hx hb dX6_expression_92 rfl (lv_at hl 3 rfl) ?_
            refine va_get (D := (dC, dI)) (ci := 6) (v := .ref (x 0)) (C := RX6) (T := TX6) (N := 7) hx hb hts inB_6 hown hE.1 hP 3 rfl rfl 0 (by decide) (hts _ k_265) (fun _ h9 => h9) rfl dX6_expression_93 ?_
            refine csVv (n := 0) (rest := []) hx hb hml hown hts hE hP hD hS hA hF hT (sX_X9_advance_1 l dC dI cy x0 x  v5 f5 hIv5 ) k_699 k_559 k_560 k_102 k_561 (by decide +kernel) ⟨Nat.le_of_ble_eq_true rfl, Nat.le_of_ble_eq_true rfl⟩ 1 9 rfl rfl (rfl) hl.1 rfl (Nat.le_of_ble_eq_true rfl) dX6_expression_96 (fun u H locs hw hP hD hS => ?_)
            obtain ⟨v9, f10⟩ := u
            obtain ⟨hIv9, hk0_v9, hk1_v9, hk9_v9, hk10_v9, hk31_v9, hk32_v9⟩ := hw
            have hP : va_P (dC, dI) vwCl (XW cy x0 x v9 f10) H := hP
            have hD : va_D A (XW cy x0 x v9 f10) := hD
            have hq0_v9 : v9 0 = (v 0) := hk0_v9.trans hq0_v5
            have hq1_v9 : v9 1 = (v 1) := hk1_v9.trans hq1_v5
            have hq9_v9 : v9 9 = (v 9) := hk9_v9.trans hq9_v5
            have hq10_v9 : v9 10 = (v 10) := hk10_v9.trans hq10_v5
            have hq31_v9 : v9 31 = (v 31) := hk31_v9.trans hq31_v5
            have hq32_v9 : v9 32 = (v 32) := hk32_v9.trans hq32_v5
            refine lv_aload_n hx hb dX6_expression_99 rfl (lv_at hl 3 rfl) ?_
            refine lv_iload_n hx hb dX6_expression_100 rfl (lv_at hl 4 rfl) ?_
            refine lv_iconst (v := 1) hx hb dX6_expression_101 (by decide) ?_
            refine lv_iadd hx hb dX6_expression_102 ?_
            refine tI (y := 5) (by decide) ?_
            refine lv_iload_n hx hb dX6_expression_103 rfl (lv_at hl 5 rfl) ?_
            refine csVi (n := 2) (rest := []) hx hb hml hown hts hE hP hD hS hA hF hT (sX_X6_expression_48 l dC dI cy x0 x  v9 f10 hIv9 ) k_740 k_742 k_15 k_103 k_743 (by decide +kernel) ⟨Nat.le_of_ble_eq_true rfl, Nat.le_of_ble_eq_true rfl⟩ 3 6 rfl rfl (rfl) hl.1 rfl (Nat.le_of_ble_eq_true rfl) dX6_expression_104 (fun r11 u H locs hw hP hD hS => ?_)
            obtain ⟨v12, f13⟩ := u
            obtain ⟨hIv12, hk0_v12, hk1_v12, hk9_v12, hk10_v12, hk31_v12, hk32_v12, hw⟩ := hw
            have hP : va_P (dC, dI) vwCl (XW cy x0 x v12 f13) H := hP
            have hD : va_D A (XW cy x0 x v12 f13) := hD
            have hq0_v12 : v12 0 = (v 0) := hk0_v12.trans hq0_v9
            have hq1_v12 : v12 1 = (v 1) := hk1_v12.trans hq1_v9
            have hq9_v12 : v12 9 = (v 9) := hk9_v12.trans hq9_v9
            have hq10_v12 : v12 10 = (v 10) := hk10_v12.trans hq10_v9
            have hq31_v12 : v12 31 = (v 31) := hk31_v12.trans hq31_v9
            have hq32_v12 : v12 32 = (v 32) := hk32_v12.trans hq32_v9
            rcases hw with ⟨g14⟩ | ⟨g14⟩
            · skip
              subst g14
              refine lv_if_ne (tgt := 112) hx hb dX6_expression_107 (by decide) (fun _ => ?_) (fun c0 => absurd c0 (by decide))
              refine lv_aload_n hx hb dX6_expression_112 rfl (lv_at hl 3 rfl) ?_
              refine va_get (D := (dC, dI)) (ci := 6) (v := .ref (x 3)) (C := RX6) (T := TX6) (N := 7) hx hb hts inB_6 hown hE.1 hP 3 rfl rfl 1 (by decide) (hts _ k_266) (fun _ h9 => h9) rfl dX6_expression_113 ?_
              refine va_getN (D := (dC, dI)) (ci := 7) (v := .ref (x 6)) (C := RX7) (T := TX7) (N := 10) hx hb hts inB_7 hown hE.1 hP 4 rfl rfl 2 (by decide) (va_Nw.use rfl (hE.2 _ k_210)) (fun _ h9 => h9) rfl dX6_expression_116 ?_
              refine lv_iload hx hb dX6_expression_119 (lv_at hl 0 rfl) ?_
              refine lv_iconst (v := 0) hx hb dX6_expression_121 (by decide) ?_
              refine cbVv (n := 2) (rest := []) hx hb hml hown hts hE hP hD hS hA (sX_X4_add_1 l dC dI cy x0 x (v5 2) 0 v12 f13 hIv12 ) k_748 k_749 k_750 k_105 k_751 (by decide +kernel) ⟨Nat.le_of_ble_eq_true rfl, Nat.le_of_ble_eq_true rfl⟩ 7 4 rfl rfl (rfl) hl.1 rfl (Nat.le_of_ble_eq_true rfl) dX6_expression_122 (fun u H locs hw hP hD hS => ?_)
              obtain ⟨v15, f16⟩ := u
              obtain ⟨hIv15, hk0_v15, hk1_v15, hk9_v15, hk10_v15, hk31_v15, hk32_v15⟩ := hw
              have hP : va_P (dC, dI) vwCl (XW cy x0 x v15 f16) H := hP
              have hD : va_D A (XW cy x0 x v15 f16) := hD
              have hq0_v15 : v15 0 = (v 0) := hk0_v15.trans hq0_v12
              have hq1_v15 : v15 1 = (v 1) := hk1_v15.trans hq1_v12
              have hq9_v15 : v15 9 = (v 9) := hk9_v15.trans hq9_v12
              have hq10_v15 : v15 10 = (v 10) := hk10_v15.trans hq10_v12
              have hq31_v15 : v15 31 = (v 31) := hk31_v15.trans hq31_v12
              have hq32_v15 : v15 32 = (v 32) := hk32_v15.trans hq32_v12
              obtain ⟨t17, et17⟩ : ∃ y : Int32, y = l4_5 + 1 := ⟨_, rfl⟩
              have rg18 := fb_rng l4_5
              have zt17 : t17.toInt = l4_5.toInt + 1 := by rw [et17]; exact add_i rfl (by decide) (by omega) (by omega)
              refine lv_iinc (v := t17) (lv' := [(4, .int t17), (5, .int (v5 2)), (3, .int 1600), (0, .ref (x 2)), (1, .int 4), (2, .int 7)]) hx hb dX6_expression_125 hl (k := 1) rfl (by rw [et17]; rfl) (by decide) rfl (fun ls hl => ?_)
              refine lv_goto (tgt := 63) hx hb dX6_expression_128 (by decide) ?_
              have rg19 := fb_rng t17
              exact ih5 t17 v15 f16 hIv15 hq0_v15 hq1_v15 hq9_v15 hq10_v15 hq31_v15 hq32_v15 ⟨show (0 : Int) ≤ t17.toInt by omega, show t17.toInt ≤ (2147483647 : Int) by omega⟩ (by show (2147483647 - t17.toInt).toNat < n5; omega) _ _ _ hP hD hS (lv_sub hl [0, 2, 3, 4, 5] rfl)
            · skip
              subst g14
              refine lv_if_ne (tgt := 112) hx hb dX6_expression_107 (by decide) (fun c0 => absurd (by decide) c0) (fun _ => ?_)
              refine lv_iconst (v := 0) hx hb dX6_expression_110 (by decide) ?_
              exact ret 0 (v12, f13) _ _ _ _ _ _ rfl ⟨hIv12, (hk0_v12.trans (hk0_v9.trans hq0_v5)), (hk1_v12.trans (hk1_v9.trans hq1_v5)), (hk9_v12.trans (hk9_v9.trans hq9_v5)), (hk10_v12.trans (hk10_v9.trans hq10_v5)), (hk31_v12.trans (hk31_v9.trans hq31_v5)), (hk32_v12.trans (hk32_v9.trans hq32_v5)), (Or.inr rfl)⟩ hP hD hS dX6_expression_111 (Nat.le_refl _) (Nat.le_refl _)
          · skip
            subst g8
            refine lv_if_eq (tgt := 131) hx hb dX6_expression_80 (by decide) (fun _ => ?_) (fun c0 => absurd (by decide) c0)
            refine lv_iconst (v := 1) hx hb dX6_expression_131 (by decide) ?_
            exact ret 1 (v5, f5) _ _ _ _ _ _ rfl ⟨hIv5, hq0_v5, hq1_v5, hq9_v5, hq10_v5, hq31_v5, hq32_v5, (Or.inl rfl)⟩ hP hD hS dX6_expression_132 (Nat.le_refl _) (Nat.le_refl _)
    exact lp5 _ 0 v2 f3 hIv2 hq0_v2 hq1_v2 hq9_v2 hq10_v2 hq31_v2 hq32_v2 ⟨by decide, by decide⟩ (Nat.lt_succ_self _) _ _ _ hP hD hS (lv_sub hl [0, 1, 2, 3, 4] rfl)
  · skip
    subst g4
    refine lv_if_ne (tgt := 47) hx hb dX6_expression_42 (by decide) (fun c0 => absurd (by decide) c0) (fun _ => ?_)
    refine lv_iconst (v := 0) hx hb dX6_expression_45 (by decide) ?_
    exact ret 0 (v2, f3) _ _ _ _ _ _ rfl ⟨hIv2, hk0_v2, hk1_v2, hk9_v2, hk10_v2, hk31_v2, hk32_v2, (Or.inr rfl)⟩ hP hD hS dX6_expression_46 (Nat.le_refl _) (Nat.le_refl _)
set_option maxHeartbeats 4000000 in
set_option maxRecDepth 100000 in
theorem sX_X6_expression_46 (l : Launch) (dC : Nat → ClassId) (dI : Nat → Nat → Nat) (cy : Nat → ClassId) (x0 : Nat) (x : Nat → Nat)  (v : Nat → Int32) (f : Nat → Nat → Int32) (hIv : XI v)  : ctIS l (dC, dI) cy yX6_expression cX6_expression 6 .boolean 10 264 0 0 ((Nat → Int32) × (Nat → Nat → Int32)) [.ref (x 2), .int 3, .int 7] (XW cy x0 x v f) (fun r u => XI u.1 ∧ u.1 0 = v 0 ∧ u.1 1 = v 1 ∧ u.1 9 = v 9 ∧ u.1 10 = v 10 ∧ u.1 31 = v 31 ∧ u.1 32 = v 32 ∧ ((r = 1) ∨ (r = 0))) (fun u => XW cy x0 x u.1 u.2) := by
  refine ctIS_of (by decide) (Nat.le_of_ble_eq_true rfl) (fun p e s m below meth c A ls Q hx hb hml hts hown hE hF hT hP hD hA hl ret => ?_)
  have hown : s.vm.findClass RX6 = some m.cls := hown
  have hS : va_S A s.heap s.heap [] := va_S.rf
  have hl : lv_has ls 6 [(0, .ref (x 2)), (1, .int 3), (2, .int 7)] := hl
  refine lv_iload_n hx hb dX6_expression_0 rfl (lv_at hl 1 rfl) ?_
  refine lv_iconst (v := 5) hx hb dX6_expression_1 (by decide) ?_
  refine lv_icmp_lt (tgt := 11) hx hb dX6_expression_2 (by decide) (fun _ => ?_) (fun c0 => absurd (by decide) c0)
  refine lv_iload_n hx hb dX6_expression_11 rfl (lv_at hl 1 rfl) ?_
  refine lv_iconst (v := 2) hx hb dX6_expression_12 (by decide) ?_
  refine lv_icmp_ne (tgt := 34) hx hb dX6_expression_13 (by decide) (fun _ => ?_) (fun c0 => absurd c0 (by decide))
  refine lv_aload_n hx hb dX6_expression_34 rfl (lv_at hl 0 rfl) ?_
  refine lv_iload_n hx hb dX6_expression_35 rfl (lv_at hl 1 rfl) ?_
  refine lv_iconst (v := 1) hx hb dX6_expression_36 (by decide) ?_
  refine lv_iadd hx hb dX6_expression_37 ?_
  refine tI (y := 4) (by decide) ?_
  refine lv_iload_n hx hb dX6_expression_38 rfl (lv_at hl 2 rfl) ?_
  refine csVi (n := 2) (rest := []) hx hb hml hown hts hE hP hD hS hA hF hT (sX_X6_expression_47 l dC dI cy x0 x  v f hIv ) k_740 k_742 k_15 k_103 k_743 (by decide +kernel) ⟨Nat.le_of_ble_eq_true rfl, Nat.le_of_ble_eq_true rfl⟩ 3 6 rfl rfl (rfl) hl.1 rfl (Nat.le_of_ble_eq_true rfl) dX6_expression_39 (fun r1 u H locs hw hP hD hS => ?_)
  obtain ⟨v2, f3⟩ := u
  obtain ⟨hIv2, hk0_v2, hk1_v2, hk9_v2, hk10_v2, hk31_v2, hk32_v2, hw⟩ := hw
  have hP : va_P (dC, dI) vwCl (XW cy x0 x v2 f3) H := hP
  have hD : va_D A (XW cy x0 x v2 f3) := hD
  have hq0_v2 : v2 0 = (v 0) := hk0_v2
  have hq1_v2 : v2 1 = (v 1) := hk1_v2
  have hq9_v2 : v2 9 = (v 9) := hk9_v2
  have hq10_v2 : v2 10 = (v 10) := hk10_v2
  have hq31_v2 : v2 31 = (v 31) := hk31_v2
  have hq32_v2 : v2 32 = (v 32) := hk32_v2
  rcases hw with ⟨g4⟩ | ⟨g4⟩
  · skip
    subst g4
    refine lv_if_ne (tgt := 47) hx hb dX6_expression_42 (by decide) (fun _ => ?_) (fun c0 => absurd c0 (by decide))
    refine lv_iload_n hx hb dX6_expression_47 rfl (lv_at hl 1 rfl) ?_
    refine lv_iconst (v := 2) hx hb dX6_expression_48 (by decide) ?_
    refine lv_icmp_ne (tgt := 56) hx hb dX6_expression_49 (by decide) (fun _ => ?_) (fun c0 => absurd c0 (by decide))
    refine lv_sipush (v := 1600) hx hb dX6_expression_56 (by decide) ?_
    refine lv_istore_n (lv' := [(3, .int 1600), (0, .ref (x 2)), (1, .int 3), (2, .int 7)]) hx hb dX6_expression_59 rfl hl (by decide) rfl (fun ls hl => ?_)
    refine lv_iconst (v := 0) hx hb dX6_expression_60 (by decide) ?_
    refine lv_istore (lv' := [(4, .int 0), (3, .int 1600), (0, .ref (x 2)), (1, .int 3), (2, .int 7)]) hx hb dX6_expression_61 hl (by decide) rfl (fun ls hl => ?_)
    have lp5 : ∀ (n5 : Nat) (l4_5 : Int32) (v5 : Nat → Int32) (f5 : Nat → Nat → Int32), XI v5 → v5 0 = (v 0) → v5 1 = (v 1) → v5 9 = (v 9) → v5 10 = (v 10) → v5 31 = (v 31) → v5 32 = (v 32) → ((0 : Int) ≤ l4_5.toInt ∧ l4_5.toInt ≤ 2147483647) → (2147483647 - l4_5.toInt).toNat < n5 → ∀ (H : Heap) (locs : List Loc) (ls : Array Slot), va_P (dC, dI) vwCl (XW cy x0 x v5 f5) H → va_D A (XW cy x0 x v5 f5) → va_S A s.heap H locs → lv_has ls 6 [(4, .int l4_5), (3, .int 1600), (0, .ref (x 2)), (1, .int 3), (2, .int 7)] → W p l e { frames := 10, cells := 0, slots := 0, locals := 264 } s m ([.ref (x 2), .int 3, .int 7] : List Value).toArray below meth c H locs 0 0 Q (F0 m 63 ls []) := by
      intro n5
      induction n5 with
      | zero => intro l4_5 v5 f5 hIv5 hq0_v5 hq1_v5 hq9_v5 hq10_v5 hq31_v5 hq32_v5 hr4_5 hm; exact absurd hm (Nat.not_lt_zero _)
      | succ n5 ih5 =>
        intro l4_5 v5 f5 hIv5 hq0_v5 hq1_v5 hq9_v5 hq10_v5 hq31_v5 hq32_v5 hr4_5 hm5 H locs ls hP hD hS hl
        refine lv_iload hx hb dX6_expression_63 (lv_at hl 0 rfl) ?_
        refine lv_iload_n hx hb dX6_expression_65 rfl (lv_at hl 1 rfl) ?_
        refine lv_icmp_ge (tgt := 131) hx hb dX6_expression_66 (by decide) (fun c6 => ?_) (fun c6 => ?_)
        · skip
          have zc6 : 1600 ≤ l4_5.toInt := by rw [fa_le, show (1600 : Int32).toInt = 1600 from by decide] at c6; exact c6
          refine lv_iconst (v := 1) hx hb dX6_expression_131 (by decide) ?_
          exact ret 1 (v5, f5) _ _ _ _ _ _ rfl ⟨hIv5, hq0_v5, hq1_v5, hq9_v5, hq10_v5, hq31_v5, hq32_v5, (Or.inl rfl)⟩ hP hD hS dX6_expression_132 (Nat.le_refl _) (Nat.le_refl _)
        · skip
          have zc6 : ¬ (1600 ≤ l4_5.toInt) := by rw [fa_le, show (1600 : Int32).toInt = 1600 from by decide] at c6; exact c6
          refine lv_iload_n hx hb dX6_expression_69 rfl (lv_at hl 3 rfl) ?_
          refine lv_aload_n hx hb dX6_expression_70 rfl (lv_at hl 2 rfl) ?_
          refine va_get (D := (dC, dI)) (ci := 6) (v := .ref (x 0)) (C := RX6) (T := TX6) (N := 7) hx hb hts inB_6 hown hE.1 hP 3 rfl rfl 0 (by decide) (hts _ k_265) (fun _ h9 => h9) rfl dX6_expression_71 ?_
          refine va_getN (D := (dC, dI)) (ci := 9) (v := .int (v5 2)) (C := RX9) (T := TX9) (N := 6) hx hb hts inB_9 hown hE.1 hP 1 rfl rfl 2 (by decide) (va_Nw.use rfl (hE.2 _ k_139)) (fun _ h9 => h9) rfl dX6_expression_74 ?_
          refine cbSi (n := 2) (rest := []) hx hb hml hown hts hE hP hD hS hA (sX_X6_joins_1 l dC dI cy x0 x 3 (v5 2) v5 f5 hIv5 ) k_756 k_757 k_103 k_758 (by decide +kernel) ⟨Nat.le_of_ble_eq_true rfl, Nat.le_of_ble_eq_true rfl⟩ (rfl) hl.1 rfl (Nat.le_of_ble_eq_true rfl) dX6_expression_77 (fun r7 u H locs hw hP hD hS => ?_)
          rcases hw with ⟨g8⟩ | ⟨g8⟩
          · skip
            subst g8
            refine lv_if_eq (tgt := 131) hx hb dX6_expression_80 (by decide) (fun c0 => absurd c0 (by decide)) (fun _ => ?_)
            refine lv_aload_n hx hb dX6_expression_83 rfl (lv_at hl 2 rfl) ?_
            refine va_get (D := (dC, dI)) (ci := 6) (v := .ref (x 0)) (C := RX6) (T := TX6) (N := 7) hx hb hts inB_6 hown hE.1 hP 3 rfl rfl 0 (by decide) (hts _ k_265) (fun _ h9 => h9) rfl dX6_expression_84 ?_
            refine va_getN (D := (dC, dI)) (ci := 9) (v := .int (v5 2)) (C := RX9) (T := TX9) (N := 6) hx hb hts inB_9 hown hE.1 hP 1 rfl rfl 2 (by decide) (va_Nw.use rfl (hE.2 _ k_139)) (fun _ h9 => h9) rfl dX6_expression_87 ?_
            refine lv_istore (lv' := [(5, .int (v5 2)), (4, .int l4_5), (3, .int 1600), (0, .ref (x 2)), (1, .int 3), (2, .int 7)]) hx hb dX6_expression_90 hl (by decide) rfl (fun ls hl => ?_)
            refine lv_aload_n hx hb dX6_expression_92 rfl (lv_at hl 3 rfl) ?_
            refine va_get (D := (dC, dI)) (ci := 6) (v := .ref (x 0)) (C := RX6) (T := TX6) (N := 7) hx hb hts inB_6 hown hE.1 hP 3 rfl rfl 0 (by decide) (hts _ k_265) (fun _ h9 => h9) rfl dX6_expression_93 ?_
            refine csVv (n := 0) (rest := []) hx hb hml hown hts hE hP hD hS hA hF hT (sX_X9_advance_1 l dC dI cy x0 x  v5 f5 hIv5 ) k_699 k_559 k_560 k_102 k_561 (by decide +kernel) ⟨Nat.le_of_ble_eq_true rfl, Nat.le_of_ble_eq_true rfl⟩ 1 9 rfl rfl (rfl) hl.1 rfl (Nat.le_of_ble_eq_true rfl) dX6_expression_96 (fun u H locs hw hP hD hS => ?_)
            obtain ⟨v9, f10⟩ := u
            obtain ⟨hIv9, hk0_v9, hk1_v9, hk9_v9, hk10_v9, hk31_v9, hk32_v9⟩ := hw
            have hP : va_P (dC, dI) vwCl (XW cy x0 x v9 f10) H := hP
            have hD : va_D A (XW cy x0 x v9 f10) := hD
            have hq0_v9 : v9 0 = (v 0) := hk0_v9.trans hq0_v5
            have hq1_v9 : v9 1 = (v 1) := hk1_v9.trans hq1_v5
            have hq9_v9 : v9 9 = (v 9) := hk9_v9.trans hq9_v5
            have hq10_v9 : v9 10 = (v 10) := hk10_v9.trans hq10_v5
            have hq31_v9 : v9 31 = (v 31) := hk31_v9.trans hq31_v5
            have hq32_v9 : v9 32 = (v 32) := hk32_v9.trans hq32_v5
            refine lv_aload_n hx hb dX6_expression_99 rfl (lv_at hl 3 rfl) ?_
            refine lv_iload_n hx hb dX6_expression_100 rfl (lv_at hl 4 rfl) ?_
            refine lv_iconst (v := 1) hx hb dX6_expression_101 (by decide) ?_
            refine lv_iadd hx hb dX6_expression_102 ?_
            refine tI (y := 4) (by decide) ?_
            refine lv_iload_n hx hb dX6_expression_103 rfl (lv_at hl 5 rfl) ?_
            refine csVi (n := 2) (rest := []) hx hb hml hown hts hE hP hD hS hA hF hT (sX_X6_expression_47 l dC dI cy x0 x  v9 f10 hIv9 ) k_740 k_742 k_15 k_103 k_743 (by decide +kernel) ⟨Nat.le_of_ble_eq_true rfl, Nat.le_of_ble_eq_true rfl⟩ 3 6 rfl rfl (rfl) hl.1 rfl (Nat.le_of_ble_eq_true rfl) dX6_expression_104 (fun r11 u H locs hw hP hD hS => ?_)
            obtain ⟨v12, f13⟩ := u
            obtain ⟨hIv12, hk0_v12, hk1_v12, hk9_v12, hk10_v12, hk31_v12, hk32_v12, hw⟩ := hw
            have hP : va_P (dC, dI) vwCl (XW cy x0 x v12 f13) H := hP
            have hD : va_D A (XW cy x0 x v12 f13) := hD
            have hq0_v12 : v12 0 = (v 0) := hk0_v12.trans hq0_v9
            have hq1_v12 : v12 1 = (v 1) := hk1_v12.trans hq1_v9
            have hq9_v12 : v12 9 = (v 9) := hk9_v12.trans hq9_v9
            have hq10_v12 : v12 10 = (v 10) := hk10_v12.trans hq10_v9
            have hq31_v12 : v12 31 = (v 31) := hk31_v12.trans hq31_v9
            have hq32_v12 : v12 32 = (v 32) := hk32_v12.trans hq32_v9
            rcases hw with ⟨g14⟩ | ⟨g14⟩
            · skip
              subst g14
              refine lv_if_ne (tgt := 112) hx hb dX6_expression_107 (by decide) (fun _ => ?_) (fun c0 => absurd c0 (by decide))
              refine lv_aload_n hx hb dX6_expression_112 rfl (lv_at hl 3 rfl) ?_
              refine va_get (D := (dC, dI)) (ci := 6) (v := .ref (x 3)) (C := RX6) (T := TX6) (N := 7) hx hb hts inB_6 hown hE.1 hP 3 rfl rfl 1 (by decide) (hts _ k_266) (fun _ h9 => h9) rfl dX6_expression_113 ?_
              refine va_getN (D := (dC, dI)) (ci := 7) (v := .ref (x 6)) (C := RX7) (T := TX7) (N := 10) hx hb hts inB_7 hown hE.1 hP 4 rfl rfl 2 (by decide) (va_Nw.use rfl (hE.2 _ k_210)) (fun _ h9 => h9) rfl dX6_expression_116 ?_
              refine lv_iload hx hb dX6_expression_119 (lv_at hl 0 rfl) ?_
              refine lv_iconst (v := 0) hx hb dX6_expression_121 (by decide) ?_
              refine cbVv (n := 2) (rest := []) hx hb hml hown hts hE hP hD hS hA (sX_X4_add_1 l dC dI cy x0 x (v5 2) 0 v12 f13 hIv12 ) k_748 k_749 k_750 k_105 k_751 (by decide +kernel) ⟨Nat.le_of_ble_eq_true rfl, Nat.le_of_ble_eq_true rfl⟩ 7 4 rfl rfl (rfl) hl.1 rfl (Nat.le_of_ble_eq_true rfl) dX6_expression_122 (fun u H locs hw hP hD hS => ?_)
              obtain ⟨v15, f16⟩ := u
              obtain ⟨hIv15, hk0_v15, hk1_v15, hk9_v15, hk10_v15, hk31_v15, hk32_v15⟩ := hw
              have hP : va_P (dC, dI) vwCl (XW cy x0 x v15 f16) H := hP
              have hD : va_D A (XW cy x0 x v15 f16) := hD
              have hq0_v15 : v15 0 = (v 0) := hk0_v15.trans hq0_v12
              have hq1_v15 : v15 1 = (v 1) := hk1_v15.trans hq1_v12
              have hq9_v15 : v15 9 = (v 9) := hk9_v15.trans hq9_v12
              have hq10_v15 : v15 10 = (v 10) := hk10_v15.trans hq10_v12
              have hq31_v15 : v15 31 = (v 31) := hk31_v15.trans hq31_v12
              have hq32_v15 : v15 32 = (v 32) := hk32_v15.trans hq32_v12
              obtain ⟨t17, et17⟩ : ∃ y : Int32, y = l4_5 + 1 := ⟨_, rfl⟩
              have rg18 := fb_rng l4_5
              have zt17 : t17.toInt = l4_5.toInt + 1 := by rw [et17]; exact add_i rfl (by decide) (by omega) (by omega)
              refine lv_iinc (v := t17) (lv' := [(4, .int t17), (5, .int (v5 2)), (3, .int 1600), (0, .ref (x 2)), (1, .int 3), (2, .int 7)]) hx hb dX6_expression_125 hl (k := 1) rfl (by rw [et17]; rfl) (by decide) rfl (fun ls hl => ?_)
              refine lv_goto (tgt := 63) hx hb dX6_expression_128 (by decide) ?_
              have rg19 := fb_rng t17
              exact ih5 t17 v15 f16 hIv15 hq0_v15 hq1_v15 hq9_v15 hq10_v15 hq31_v15 hq32_v15 ⟨show (0 : Int) ≤ t17.toInt by omega, show t17.toInt ≤ (2147483647 : Int) by omega⟩ (by show (2147483647 - t17.toInt).toNat < n5; omega) _ _ _ hP hD hS (lv_sub hl [0, 2, 3, 4, 5] rfl)
            · skip
              subst g14
              refine lv_if_ne (tgt := 112) hx hb dX6_expression_107 (by decide) (fun c0 => absurd (by decide) c0) (fun _ => ?_)
              refine lv_iconst (v := 0) hx hb dX6_expression_110 (by decide) ?_
              exact ret 0 (v12, f13) _ _ _ _ _ _ rfl ⟨hIv12, (hk0_v12.trans (hk0_v9.trans hq0_v5)), (hk1_v12.trans (hk1_v9.trans hq1_v5)), (hk9_v12.trans (hk9_v9.trans hq9_v5)), (hk10_v12.trans (hk10_v9.trans hq10_v5)), (hk31_v12.trans (hk31_v9.trans hq31_v5)), (hk32_v12.trans (hk32_v9.trans hq32_v5)), (Or.inr rfl)⟩ hP hD hS dX6_expression_111 (Nat.le_refl _) (Nat.le_refl _)
          · skip
            subst g8
            refine lv_if_eq (tgt := 131) hx hb dX6_expression_80 (by decide) (fun _ => ?_) (fun c0 => absurd (by decide) c0)
            refine lv_iconst (v := 1) hx hb dX6_expression_131 (by decide) ?_
            exact ret 1 (v5, f5) _ _ _ _ _ _ rfl ⟨hIv5, hq0_v5, hq1_v5, hq9_v5, hq10_v5, hq31_v5, hq32_v5, (Or.inl rfl)⟩ hP hD hS dX6_expression_132 (Nat.le_refl _) (Nat.le_refl _)
    exact lp5 _ 0 v2 f3 hIv2 hq0_v2 hq1_v2 hq9_v2 hq10_v2 hq31_v2 hq32_v2 ⟨by decide, by decide⟩ (Nat.lt_succ_self _) _ _ _ hP hD hS (lv_sub hl [0, 1, 2, 3, 4] rfl)
  · skip
    subst g4
    refine lv_if_ne (tgt := 47) hx hb dX6_expression_42 (by decide) (fun c0 => absurd (by decide) c0) (fun _ => ?_)
    refine lv_iconst (v := 0) hx hb dX6_expression_45 (by decide) ?_
    exact ret 0 (v2, f3) _ _ _ _ _ _ rfl ⟨hIv2, hk0_v2, hk1_v2, hk9_v2, hk10_v2, hk31_v2, hk32_v2, (Or.inr rfl)⟩ hP hD hS dX6_expression_46 (Nat.le_refl _) (Nat.le_refl _)
set_option maxHeartbeats 4000000 in
set_option maxRecDepth 100000 in
theorem sX_X6_negation_1 (l : Launch) (dC : Nat → ClassId) (dI : Nat → Nat → Nat) (cy : Nat → ClassId) (x0 : Nat) (x : Nat → Nat)  (v : Nat → Int32) (f : Nat → Nat → Int32) (hIv : XI v)  : ctIS l (dC, dI) cy yX6_negation cX6_negation 2 .boolean 3 101 0 0 ((Nat → Int32) × (Nat → Nat → Int32)) [.ref (x 2), .int 7] (XW cy x0 x v f) (fun r u => XI u.1 ∧ u.1 0 = v 0 ∧ u.1 1 = v 1 ∧ u.1 9 = v 9 ∧ u.1 10 = v 10 ∧ u.1 31 = v 31 ∧ u.1 32 = v 32 ∧ ((r = 1) ∨ (r = 0))) (fun u => XW cy x0 x u.1 u.2) := by
  refine ctIS_of (by decide) (Nat.le_of_ble_eq_true rfl) (fun p e s m below meth c A ls Q hx hb hml hts hown hE hF hT hP hD hA hl ret => ?_)
  have hown : s.vm.findClass RX6 = some m.cls := hown
  have hS : va_S A s.heap s.heap [] := va_S.rf
  have hl : lv_has ls 2 [(0, .ref (x 2)), (1, .int 7)] := hl
  refine lv_iload_n hx hb dX6_negation_0 rfl (lv_at hl 1 rfl) ?_
  refine lv_bipush (v := 7) hx hb dX6_negation_1 (by decide) ?_
  refine lv_icmp_lt (tgt := 11) hx hb dX6_negation_3 (by decide) (fun c0 => absurd c0 (by decide)) (fun _ => ?_)
  refine lv_aload_n hx hb dX6_negation_6 rfl (lv_at hl 0 rfl) ?_
  refine cbVi (n := 0) (rest := []) hx hb hml hown hts hE hP hD hS hA (sX_X6_refuse_1 l dC dI cy x0 x  v f hIv ) k_691 k_693 k_6 k_103 k_694 (by decide +kernel) ⟨Nat.le_of_ble_eq_true rfl, Nat.le_of_ble_eq_true rfl⟩ 3 6 rfl rfl (rfl) hl.1 rfl (Nat.le_of_ble_eq_true rfl) dX6_negation_7 (fun r1 u H locs hw hP hD hS => ?_)
  obtain ⟨v2, f3⟩ := u
  obtain ⟨hIv2, hk0_v2, hk1_v2, hk9_v2, hk10_v2, hk31_v2, hk32_v2, hw⟩ := hw
  have hP : va_P (dC, dI) vwCl (XW cy x0 x v2 f3) H := hP
  have hD : va_D A (XW cy x0 x v2 f3) := hD
  have hq0_v2 : v2 0 = (v 0) := hk0_v2
  have hq1_v2 : v2 1 = (v 1) := hk1_v2
  have hq9_v2 : v2 9 = (v 9) := hk9_v2
  have hq10_v2 : v2 10 = (v 10) := hk10_v2
  have hq31_v2 : v2 31 = (v 31) := hk31_v2
  have hq32_v2 : v2 32 = (v 32) := hk32_v2
  rcases hw with ⟨g4⟩ | ⟨g4⟩
  · skip
    subst g4
    exact ret 1 (v2, f3) _ _ _ _ _ _ rfl ⟨hIv2, hk0_v2, hk1_v2, hk9_v2, hk10_v2, hk31_v2, hk32_v2, (Or.inl rfl)⟩ hP hD hS dX6_negation_10 (Nat.le_refl _) (Nat.le_refl _)
  · skip
    subst g4
    exact ret 0 (v2, f3) _ _ _ _ _ _ rfl ⟨hIv2, hk0_v2, hk1_v2, hk9_v2, hk10_v2, hk31_v2, hk32_v2, (Or.inr rfl)⟩ hP hD hS dX6_negation_10 (Nat.le_refl _) (Nat.le_refl _)
set_option maxHeartbeats 4000000 in
set_option maxRecDepth 100000 in
theorem sX_X6_expression_45 (l : Launch) (dC : Nat → ClassId) (dI : Nat → Nat → Nat) (cy : Nat → ClassId) (x0 : Nat) (x : Nat → Nat)  (v : Nat → Int32) (f : Nat → Nat → Int32) (hIv : XI v)  : ctIS l (dC, dI) cy yX6_expression cX6_expression 6 .boolean 11 289 0 0 ((Nat → Int32) × (Nat → Nat → Int32)) [.ref (x 2), .int 2, .int 7] (XW cy x0 x v f) (fun r u => XI u.1 ∧ u.1 0 = v 0 ∧ u.1 1 = v 1 ∧ u.1 9 = v 9 ∧ u.1 10 = v 10 ∧ u.1 31 = v 31 ∧ u.1 32 = v 32 ∧ ((r = 1) ∨ (r = 0))) (fun u => XW cy x0 x u.1 u.2) := by
  refine ctIS_of (by decide) (Nat.le_of_ble_eq_true rfl) (fun p e s m below meth c A ls Q hx hb hml hts hown hE hF hT hP hD hA hl ret => ?_)
  have hown : s.vm.findClass RX6 = some m.cls := hown
  have hS : va_S A s.heap s.heap [] := va_S.rf
  have hl : lv_has ls 6 [(0, .ref (x 2)), (1, .int 2), (2, .int 7)] := hl
  refine lv_iload_n hx hb dX6_expression_0 rfl (lv_at hl 1 rfl) ?_
  refine lv_iconst (v := 5) hx hb dX6_expression_1 (by decide) ?_
  refine lv_icmp_lt (tgt := 11) hx hb dX6_expression_2 (by decide) (fun _ => ?_) (fun c0 => absurd (by decide) c0)
  refine lv_iload_n hx hb dX6_expression_11 rfl (lv_at hl 1 rfl) ?_
  refine lv_iconst (v := 2) hx hb dX6_expression_12 (by decide) ?_
  refine lv_icmp_ne (tgt := 34) hx hb dX6_expression_13 (by decide) (fun c0 => absurd (by decide) c0) (fun _ => ?_)
  refine lv_aload_n hx hb dX6_expression_16 rfl (lv_at hl 0 rfl) ?_
  refine va_get (D := (dC, dI)) (ci := 6) (v := .ref (x 0)) (C := RX6) (T := TX6) (N := 7) hx hb hts inB_6 hown hE.1 hP 3 rfl rfl 0 (by decide) (hts _ k_265) (fun _ h9 => h9) rfl dX6_expression_17 ?_
  refine va_getN (D := (dC, dI)) (ci := 9) (v := .int (v 2)) (C := RX9) (T := TX9) (N := 6) hx hb hts inB_9 hown hE.1 hP 1 rfl rfl 2 (by decide) (va_Nw.use rfl (hE.2 _ k_139)) (fun _ h9 => h9) rfl dX6_expression_20 ?_
  refine lv_bipush (v := 115) hx hb dX6_expression_23 (by decide) ?_
  refine lv_icmp_ne (tgt := 34) hx hb dX6_expression_25 (by decide) (fun c1 => ?_) (fun c1 => ?_)
  · skip
    have zc1 : ¬ ((v 2).toInt = 115) := by rw [fa_eq, show (115 : Int32).toInt = 115 from by decide] at c1; exact c1
    refine lv_aload_n hx hb dX6_expression_34 rfl (lv_at hl 0 rfl) ?_
    refine lv_iload_n hx hb dX6_expression_35 rfl (lv_at hl 1 rfl) ?_
    refine lv_iconst (v := 1) hx hb dX6_expression_36 (by decide) ?_
    refine lv_iadd hx hb dX6_expression_37 ?_
    refine tI (y := 3) (by decide) ?_
    refine lv_iload_n hx hb dX6_expression_38 rfl (lv_at hl 2 rfl) ?_
    refine csVi (n := 2) (rest := []) hx hb hml hown hts hE hP hD hS hA hF hT (sX_X6_expression_46 l dC dI cy x0 x  v f hIv ) k_740 k_742 k_15 k_103 k_743 (by decide +kernel) ⟨Nat.le_of_ble_eq_true rfl, Nat.le_of_ble_eq_true rfl⟩ 3 6 rfl rfl (rfl) hl.1 rfl (Nat.le_of_ble_eq_true rfl) dX6_expression_39 (fun r2 u H locs hw hP hD hS => ?_)
    obtain ⟨v3, f4⟩ := u
    obtain ⟨hIv3, hk0_v3, hk1_v3, hk9_v3, hk10_v3, hk31_v3, hk32_v3, hw⟩ := hw
    have hP : va_P (dC, dI) vwCl (XW cy x0 x v3 f4) H := hP
    have hD : va_D A (XW cy x0 x v3 f4) := hD
    have hq0_v3 : v3 0 = (v 0) := hk0_v3
    have hq1_v3 : v3 1 = (v 1) := hk1_v3
    have hq9_v3 : v3 9 = (v 9) := hk9_v3
    have hq10_v3 : v3 10 = (v 10) := hk10_v3
    have hq31_v3 : v3 31 = (v 31) := hk31_v3
    have hq32_v3 : v3 32 = (v 32) := hk32_v3
    rcases hw with ⟨g5⟩ | ⟨g5⟩
    · skip
      subst g5
      refine lv_if_ne (tgt := 47) hx hb dX6_expression_42 (by decide) (fun _ => ?_) (fun c0 => absurd c0 (by decide))
      refine lv_iload_n hx hb dX6_expression_47 rfl (lv_at hl 1 rfl) ?_
      refine lv_iconst (v := 2) hx hb dX6_expression_48 (by decide) ?_
      refine lv_icmp_ne (tgt := 56) hx hb dX6_expression_49 (by decide) (fun c0 => absurd (by decide) c0) (fun _ => ?_)
      refine lv_iconst (v := 1) hx hb dX6_expression_52 (by decide) ?_
      refine lv_goto (tgt := 59) hx hb dX6_expression_53 (by decide) ?_
      refine lv_istore_n (lv' := [(3, .int 1), (0, .ref (x 2)), (1, .int 2), (2, .int 7)]) hx hb dX6_expression_59 rfl hl (by decide) rfl (fun ls hl => ?_)
      refine lv_iconst (v := 0) hx hb dX6_expression_60 (by decide) ?_
      refine lv_istore (lv' := [(4, .int 0), (3, .int 1), (0, .ref (x 2)), (1, .int 2), (2, .int 7)]) hx hb dX6_expression_61 hl (by decide) rfl (fun ls hl => ?_)
      have lp6 : ∀ (n6 : Nat) (l4_6 : Int32) (v6 : Nat → Int32) (f6 : Nat → Nat → Int32), XI v6 → v6 0 = (v 0) → v6 1 = (v 1) → v6 9 = (v 9) → v6 10 = (v 10) → v6 31 = (v 31) → v6 32 = (v 32) → ((0 : Int) ≤ l4_6.toInt ∧ l4_6.toInt ≤ 2147483647) → (2147483647 - l4_6.toInt).toNat < n6 → ∀ (H : Heap) (locs : List Loc) (ls : Array Slot), va_P (dC, dI) vwCl (XW cy x0 x v6 f6) H → va_D A (XW cy x0 x v6 f6) → va_S A s.heap H locs → lv_has ls 6 [(4, .int l4_6), (3, .int 1), (0, .ref (x 2)), (1, .int 2), (2, .int 7)] → W p l e { frames := 11, cells := 0, slots := 0, locals := 289 } s m ([.ref (x 2), .int 2, .int 7] : List Value).toArray below meth c H locs 0 0 Q (F0 m 63 ls []) := by
        intro n6
        induction n6 with
        | zero => intro l4_6 v6 f6 hIv6 hq0_v6 hq1_v6 hq9_v6 hq10_v6 hq31_v6 hq32_v6 hr4_6 hm; exact absurd hm (Nat.not_lt_zero _)
        | succ n6 ih6 =>
          intro l4_6 v6 f6 hIv6 hq0_v6 hq1_v6 hq9_v6 hq10_v6 hq31_v6 hq32_v6 hr4_6 hm6 H locs ls hP hD hS hl
          refine lv_iload hx hb dX6_expression_63 (lv_at hl 0 rfl) ?_
          refine lv_iload_n hx hb dX6_expression_65 rfl (lv_at hl 1 rfl) ?_
          refine lv_icmp_ge (tgt := 131) hx hb dX6_expression_66 (by decide) (fun c7 => ?_) (fun c7 => ?_)
          · skip
            have zc7 : 1 ≤ l4_6.toInt := by rw [fa_le, show (1 : Int32).toInt = 1 from by decide] at c7; exact c7
            refine lv_iconst (v := 1) hx hb dX6_expression_131 (by decide) ?_
            exact ret 1 (v6, f6) _ _ _ _ _ _ rfl ⟨hIv6, hq0_v6, hq1_v6, hq9_v6, hq10_v6, hq31_v6, hq32_v6, (Or.inl rfl)⟩ hP hD hS dX6_expression_132 (Nat.le_refl _) (Nat.le_refl _)
          · skip
            have zc7 : ¬ (1 ≤ l4_6.toInt) := by rw [fa_le, show (1 : Int32).toInt = 1 from by decide] at c7; exact c7
            refine lv_iload_n hx hb dX6_expression_69 rfl (lv_at hl 3 rfl) ?_
            refine lv_aload_n hx hb dX6_expression_70 rfl (lv_at hl 2 rfl) ?_
            refine va_get (D := (dC, dI)) (ci := 6) (v := .ref (x 0)) (C := RX6) (T := TX6) (N := 7) hx hb hts inB_6 hown hE.1 hP 3 rfl rfl 0 (by decide) (hts _ k_265) (fun _ h9 => h9) rfl dX6_expression_71 ?_
            refine va_getN (D := (dC, dI)) (ci := 9) (v := .int (v6 2)) (C := RX9) (T := TX9) (N := 6) hx hb hts inB_9 hown hE.1 hP 1 rfl rfl 2 (by decide) (va_Nw.use rfl (hE.2 _ k_139)) (fun _ h9 => h9) rfl dX6_expression_74 ?_
            refine cbSi (n := 2) (rest := []) hx hb hml hown hts hE hP hD hS hA (sX_X6_joins_1 l dC dI cy x0 x 2 (v6 2) v6 f6 hIv6 ) k_756 k_757 k_103 k_758 (by decide +kernel) ⟨Nat.le_of_ble_eq_true rfl, Nat.le_of_ble_eq_true rfl⟩ (rfl) hl.1 rfl (Nat.le_of_ble_eq_true rfl) dX6_expression_77 (fun r8 u H locs hw hP hD hS => ?_)
            rcases hw with ⟨g9⟩ | ⟨g9⟩
            · skip
              subst g9
              refine lv_if_eq (tgt := 131) hx hb dX6_expression_80 (by decide) (fun c0 => absurd c0 (by decide)) (fun _ => ?_)
              refine lv_aload_n hx hb dX6_expression_83 rfl (lv_at hl 2 rfl) ?_
              refine va_get (D := (dC, dI)) (ci := 6) (v := .ref (x 0)) (C := RX6) (T := TX6) (N := 7) hx hb hts inB_6 hown hE.1 hP 3 rfl rfl 0 (by decide) (hts _ k_265) (fun _ h9 => h9) rfl dX6_expression_84 ?_
              refine va_getN (D := (dC, dI)) (ci := 9) (v := .int (v6 2)) (C := RX9) (T := TX9) (N := 6) hx hb hts inB_9 hown hE.1 hP 1 rfl rfl 2 (by decide) (va_Nw.use rfl (hE.2 _ k_139)) (fun _ h9 => h9) rfl dX6_expression_87 ?_
              refine lv_istore (lv' := [(5, .int (v6 2)), (4, .int l4_6), (3, .int 1), (0, .ref (x 2)), (1, .int 2), (2, .int 7)]) hx hb dX6_expression_90 hl (by decide) rfl (fun ls hl => ?_)
              refine lv_aload_n hx hb dX6_expression_92 rfl (lv_at hl 3 rfl) ?_
              refine va_get (D := (dC, dI)) (ci := 6) (v := .ref (x 0)) (C := RX6) (T := TX6) (N := 7) hx hb hts inB_6 hown hE.1 hP 3 rfl rfl 0 (by decide) (hts _ k_265) (fun _ h9 => h9) rfl dX6_expression_93 ?_
              refine csVv (n := 0) (rest := []) hx hb hml hown hts hE hP hD hS hA hF hT (sX_X9_advance_1 l dC dI cy x0 x  v6 f6 hIv6 ) k_699 k_559 k_560 k_102 k_561 (by decide +kernel) ⟨Nat.le_of_ble_eq_true rfl, Nat.le_of_ble_eq_true rfl⟩ 1 9 rfl rfl (rfl) hl.1 rfl (Nat.le_of_ble_eq_true rfl) dX6_expression_96 (fun u H locs hw hP hD hS => ?_)
              obtain ⟨v10, f11⟩ := u
              obtain ⟨hIv10, hk0_v10, hk1_v10, hk9_v10, hk10_v10, hk31_v10, hk32_v10⟩ := hw
              have hP : va_P (dC, dI) vwCl (XW cy x0 x v10 f11) H := hP
              have hD : va_D A (XW cy x0 x v10 f11) := hD
              have hq0_v10 : v10 0 = (v 0) := hk0_v10.trans hq0_v6
              have hq1_v10 : v10 1 = (v 1) := hk1_v10.trans hq1_v6
              have hq9_v10 : v10 9 = (v 9) := hk9_v10.trans hq9_v6
              have hq10_v10 : v10 10 = (v 10) := hk10_v10.trans hq10_v6
              have hq31_v10 : v10 31 = (v 31) := hk31_v10.trans hq31_v6
              have hq32_v10 : v10 32 = (v 32) := hk32_v10.trans hq32_v6
              refine lv_aload_n hx hb dX6_expression_99 rfl (lv_at hl 3 rfl) ?_
              refine lv_iload_n hx hb dX6_expression_100 rfl (lv_at hl 4 rfl) ?_
              refine lv_iconst (v := 1) hx hb dX6_expression_101 (by decide) ?_
              refine lv_iadd hx hb dX6_expression_102 ?_
              refine tI (y := 3) (by decide) ?_
              refine lv_iload_n hx hb dX6_expression_103 rfl (lv_at hl 5 rfl) ?_
              refine csVi (n := 2) (rest := []) hx hb hml hown hts hE hP hD hS hA hF hT (sX_X6_expression_46 l dC dI cy x0 x  v10 f11 hIv10 ) k_740 k_742 k_15 k_103 k_743 (by decide +kernel) ⟨Nat.le_of_ble_eq_true rfl, Nat.le_of_ble_eq_true rfl⟩ 3 6 rfl rfl (rfl) hl.1 rfl (Nat.le_of_ble_eq_true rfl) dX6_expression_104 (fun r12 u H locs hw hP hD hS => ?_)
              obtain ⟨v13, f14⟩ := u
              obtain ⟨hIv13, hk0_v13, hk1_v13, hk9_v13, hk10_v13, hk31_v13, hk32_v13, hw⟩ := hw
              have hP : va_P (dC, dI) vwCl (XW cy x0 x v13 f14) H := hP
              have hD : va_D A (XW cy x0 x v13 f14) := hD
              have hq0_v13 : v13 0 = (v 0) := hk0_v13.trans hq0_v10
              have hq1_v13 : v13 1 = (v 1) := hk1_v13.trans hq1_v10
              have hq9_v13 : v13 9 = (v 9) := hk9_v13.trans hq9_v10
              have hq10_v13 : v13 10 = (v 10) := hk10_v13.trans hq10_v10
              have hq31_v13 : v13 31 = (v 31) := hk31_v13.trans hq31_v10
              have hq32_v13 : v13 32 = (v 32) := hk32_v13.trans hq32_v10
              rcases hw with ⟨g15⟩ | ⟨g15⟩
              · skip
                subst g15
                refine lv_if_ne (tgt := 112) hx hb dX6_expression_107 (by decide) (fun _ => ?_) (fun c0 => absurd c0 (by decide))
                refine lv_aload_n hx hb dX6_expression_112 rfl (lv_at hl 3 rfl) ?_
                refine va_get (D := (dC, dI)) (ci := 6) (v := .ref (x 3)) (C := RX6) (T := TX6) (N := 7) hx hb hts inB_6 hown hE.1 hP 3 rfl rfl 1 (by decide) (hts _ k_266) (fun _ h9 => h9) rfl dX6_expression_113 ?_
                refine va_getN (D := (dC, dI)) (ci := 7) (v := .ref (x 6)) (C := RX7) (T := TX7) (N := 10) hx hb hts inB_7 hown hE.1 hP 4 rfl rfl 2 (by decide) (va_Nw.use rfl (hE.2 _ k_210)) (fun _ h9 => h9) rfl dX6_expression_116 ?_
                refine lv_iload hx hb dX6_expression_119 (lv_at hl 0 rfl) ?_
                refine lv_iconst (v := 0) hx hb dX6_expression_121 (by decide) ?_
                refine cbVv (n := 2) (rest := []) hx hb hml hown hts hE hP hD hS hA (sX_X4_add_1 l dC dI cy x0 x (v6 2) 0 v13 f14 hIv13 ) k_748 k_749 k_750 k_105 k_751 (by decide +kernel) ⟨Nat.le_of_ble_eq_true rfl, Nat.le_of_ble_eq_true rfl⟩ 7 4 rfl rfl (rfl) hl.1 rfl (Nat.le_of_ble_eq_true rfl) dX6_expression_122 (fun u H locs hw hP hD hS => ?_)
                obtain ⟨v16, f17⟩ := u
                obtain ⟨hIv16, hk0_v16, hk1_v16, hk9_v16, hk10_v16, hk31_v16, hk32_v16⟩ := hw
                have hP : va_P (dC, dI) vwCl (XW cy x0 x v16 f17) H := hP
                have hD : va_D A (XW cy x0 x v16 f17) := hD
                have hq0_v16 : v16 0 = (v 0) := hk0_v16.trans hq0_v13
                have hq1_v16 : v16 1 = (v 1) := hk1_v16.trans hq1_v13
                have hq9_v16 : v16 9 = (v 9) := hk9_v16.trans hq9_v13
                have hq10_v16 : v16 10 = (v 10) := hk10_v16.trans hq10_v13
                have hq31_v16 : v16 31 = (v 31) := hk31_v16.trans hq31_v13
                have hq32_v16 : v16 32 = (v 32) := hk32_v16.trans hq32_v13
                obtain ⟨t18, et18⟩ : ∃ y : Int32, y = l4_6 + 1 := ⟨_, rfl⟩
                have rg19 := fb_rng l4_6
                have zt18 : t18.toInt = l4_6.toInt + 1 := by rw [et18]; exact add_i rfl (by decide) (by omega) (by omega)
                refine lv_iinc (v := t18) (lv' := [(4, .int t18), (5, .int (v6 2)), (3, .int 1), (0, .ref (x 2)), (1, .int 2), (2, .int 7)]) hx hb dX6_expression_125 hl (k := 1) rfl (by rw [et18]; rfl) (by decide) rfl (fun ls hl => ?_)
                refine lv_goto (tgt := 63) hx hb dX6_expression_128 (by decide) ?_
                have rg20 := fb_rng t18
                exact ih6 t18 v16 f17 hIv16 hq0_v16 hq1_v16 hq9_v16 hq10_v16 hq31_v16 hq32_v16 ⟨show (0 : Int) ≤ t18.toInt by omega, show t18.toInt ≤ (2147483647 : Int) by omega⟩ (by show (2147483647 - t18.toInt).toNat < n6; omega) _ _ _ hP hD hS (lv_sub hl [0, 2, 3, 4, 5] rfl)
              · skip
                subst g15
                refine lv_if_ne (tgt := 112) hx hb dX6_expression_107 (by decide) (fun c0 => absurd (by decide) c0) (fun _ => ?_)
                refine lv_iconst (v := 0) hx hb dX6_expression_110 (by decide) ?_
                exact ret 0 (v13, f14) _ _ _ _ _ _ rfl ⟨hIv13, (hk0_v13.trans (hk0_v10.trans hq0_v6)), (hk1_v13.trans (hk1_v10.trans hq1_v6)), (hk9_v13.trans (hk9_v10.trans hq9_v6)), (hk10_v13.trans (hk10_v10.trans hq10_v6)), (hk31_v13.trans (hk31_v10.trans hq31_v6)), (hk32_v13.trans (hk32_v10.trans hq32_v6)), (Or.inr rfl)⟩ hP hD hS dX6_expression_111 (Nat.le_refl _) (Nat.le_refl _)
            · skip
              subst g9
              refine lv_if_eq (tgt := 131) hx hb dX6_expression_80 (by decide) (fun _ => ?_) (fun c0 => absurd (by decide) c0)
              refine lv_iconst (v := 1) hx hb dX6_expression_131 (by decide) ?_
              exact ret 1 (v6, f6) _ _ _ _ _ _ rfl ⟨hIv6, hq0_v6, hq1_v6, hq9_v6, hq10_v6, hq31_v6, hq32_v6, (Or.inl rfl)⟩ hP hD hS dX6_expression_132 (Nat.le_refl _) (Nat.le_refl _)
      exact lp6 _ 0 v3 f4 hIv3 hq0_v3 hq1_v3 hq9_v3 hq10_v3 hq31_v3 hq32_v3 ⟨by decide, by decide⟩ (Nat.lt_succ_self _) _ _ _ hP hD hS (lv_sub hl [0, 1, 2, 3, 4] rfl)
    · skip
      subst g5
      refine lv_if_ne (tgt := 47) hx hb dX6_expression_42 (by decide) (fun c0 => absurd (by decide) c0) (fun _ => ?_)
      refine lv_iconst (v := 0) hx hb dX6_expression_45 (by decide) ?_
      exact ret 0 (v3, f4) _ _ _ _ _ _ rfl ⟨hIv3, hk0_v3, hk1_v3, hk9_v3, hk10_v3, hk31_v3, hk32_v3, (Or.inr rfl)⟩ hP hD hS dX6_expression_46 (Nat.le_refl _) (Nat.le_refl _)
  · skip
    have zc1 : (v 2).toInt = 115 := by rw [fa_eq, show (115 : Int32).toInt = 115 from by decide] at c1; exact c1
    refine lv_aload_n hx hb dX6_expression_28 rfl (lv_at hl 0 rfl) ?_
    refine lv_iload_n hx hb dX6_expression_29 rfl (lv_at hl 2 rfl) ?_
    refine csVi (n := 1) (rest := []) hx hb hml hown hts hE hP hD hS hA hF hT (sX_X6_negation_1 l dC dI cy x0 x  v f hIv ) k_752 k_754 k_17 k_103 k_755 (by decide +kernel) ⟨Nat.le_of_ble_eq_true rfl, Nat.le_of_ble_eq_true rfl⟩ 3 6 rfl rfl (rfl) hl.1 rfl (Nat.le_of_ble_eq_true rfl) dX6_expression_30 (fun r21 u H locs hw hP hD hS => ?_)
    obtain ⟨v22, f23⟩ := u
    obtain ⟨hIv22, hk0_v22, hk1_v22, hk9_v22, hk10_v22, hk31_v22, hk32_v22, hw⟩ := hw
    have hP : va_P (dC, dI) vwCl (XW cy x0 x v22 f23) H := hP
    have hD : va_D A (XW cy x0 x v22 f23) := hD
    have hq0_v22 : v22 0 = (v 0) := hk0_v22
    have hq1_v22 : v22 1 = (v 1) := hk1_v22
    have hq9_v22 : v22 9 = (v 9) := hk9_v22
    have hq10_v22 : v22 10 = (v 10) := hk10_v22
    have hq31_v22 : v22 31 = (v 31) := hk31_v22
    have hq32_v22 : v22 32 = (v 32) := hk32_v22
    rcases hw with ⟨g24⟩ | ⟨g24⟩
    · skip
      subst g24
      exact ret 1 (v22, f23) _ _ _ _ _ _ rfl ⟨hIv22, hk0_v22, hk1_v22, hk9_v22, hk10_v22, hk31_v22, hk32_v22, (Or.inl rfl)⟩ hP hD hS dX6_expression_33 (Nat.le_refl _) (Nat.le_refl _)
    · skip
      subst g24
      exact ret 0 (v22, f23) _ _ _ _ _ _ rfl ⟨hIv22, hk0_v22, hk1_v22, hk9_v22, hk10_v22, hk31_v22, hk32_v22, (Or.inr rfl)⟩ hP hD hS dX6_expression_33 (Nat.le_refl _) (Nat.le_refl _)
set_option maxHeartbeats 4000000 in
set_option maxRecDepth 100000 in
theorem sX_X6_expression_44 (l : Launch) (dC : Nat → ClassId) (dI : Nat → Nat → Nat) (cy : Nat → ClassId) (x0 : Nat) (x : Nat → Nat)  (v : Nat → Int32) (f : Nat → Nat → Int32) (hIv : XI v)  : ctIS l (dC, dI) cy yX6_expression cX6_expression 6 .boolean 12 314 0 0 ((Nat → Int32) × (Nat → Nat → Int32)) [.ref (x 2), .int 1, .int 7] (XW cy x0 x v f) (fun r u => XI u.1 ∧ u.1 0 = v 0 ∧ u.1 1 = v 1 ∧ u.1 9 = v 9 ∧ u.1 10 = v 10 ∧ u.1 31 = v 31 ∧ u.1 32 = v 32 ∧ ((r = 1) ∨ (r = 0))) (fun u => XW cy x0 x u.1 u.2) := by
  refine ctIS_of (by decide) (Nat.le_of_ble_eq_true rfl) (fun p e s m below meth c A ls Q hx hb hml hts hown hE hF hT hP hD hA hl ret => ?_)
  have hown : s.vm.findClass RX6 = some m.cls := hown
  have hS : va_S A s.heap s.heap [] := va_S.rf
  have hl : lv_has ls 6 [(0, .ref (x 2)), (1, .int 1), (2, .int 7)] := hl
  refine lv_iload_n hx hb dX6_expression_0 rfl (lv_at hl 1 rfl) ?_
  refine lv_iconst (v := 5) hx hb dX6_expression_1 (by decide) ?_
  refine lv_icmp_lt (tgt := 11) hx hb dX6_expression_2 (by decide) (fun _ => ?_) (fun c0 => absurd (by decide) c0)
  refine lv_iload_n hx hb dX6_expression_11 rfl (lv_at hl 1 rfl) ?_
  refine lv_iconst (v := 2) hx hb dX6_expression_12 (by decide) ?_
  refine lv_icmp_ne (tgt := 34) hx hb dX6_expression_13 (by decide) (fun _ => ?_) (fun c0 => absurd c0 (by decide))
  refine lv_aload_n hx hb dX6_expression_34 rfl (lv_at hl 0 rfl) ?_
  refine lv_iload_n hx hb dX6_expression_35 rfl (lv_at hl 1 rfl) ?_
  refine lv_iconst (v := 1) hx hb dX6_expression_36 (by decide) ?_
  refine lv_iadd hx hb dX6_expression_37 ?_
  refine tI (y := 2) (by decide) ?_
  refine lv_iload_n hx hb dX6_expression_38 rfl (lv_at hl 2 rfl) ?_
  refine csVi (n := 2) (rest := []) hx hb hml hown hts hE hP hD hS hA hF hT (sX_X6_expression_45 l dC dI cy x0 x  v f hIv ) k_740 k_742 k_15 k_103 k_743 (by decide +kernel) ⟨Nat.le_of_ble_eq_true rfl, Nat.le_of_ble_eq_true rfl⟩ 3 6 rfl rfl (rfl) hl.1 rfl (Nat.le_of_ble_eq_true rfl) dX6_expression_39 (fun r1 u H locs hw hP hD hS => ?_)
  obtain ⟨v2, f3⟩ := u
  obtain ⟨hIv2, hk0_v2, hk1_v2, hk9_v2, hk10_v2, hk31_v2, hk32_v2, hw⟩ := hw
  have hP : va_P (dC, dI) vwCl (XW cy x0 x v2 f3) H := hP
  have hD : va_D A (XW cy x0 x v2 f3) := hD
  have hq0_v2 : v2 0 = (v 0) := hk0_v2
  have hq1_v2 : v2 1 = (v 1) := hk1_v2
  have hq9_v2 : v2 9 = (v 9) := hk9_v2
  have hq10_v2 : v2 10 = (v 10) := hk10_v2
  have hq31_v2 : v2 31 = (v 31) := hk31_v2
  have hq32_v2 : v2 32 = (v 32) := hk32_v2
  rcases hw with ⟨g4⟩ | ⟨g4⟩
  · skip
    subst g4
    refine lv_if_ne (tgt := 47) hx hb dX6_expression_42 (by decide) (fun _ => ?_) (fun c0 => absurd c0 (by decide))
    refine lv_iload_n hx hb dX6_expression_47 rfl (lv_at hl 1 rfl) ?_
    refine lv_iconst (v := 2) hx hb dX6_expression_48 (by decide) ?_
    refine lv_icmp_ne (tgt := 56) hx hb dX6_expression_49 (by decide) (fun _ => ?_) (fun c0 => absurd c0 (by decide))
    refine lv_sipush (v := 1600) hx hb dX6_expression_56 (by decide) ?_
    refine lv_istore_n (lv' := [(3, .int 1600), (0, .ref (x 2)), (1, .int 1), (2, .int 7)]) hx hb dX6_expression_59 rfl hl (by decide) rfl (fun ls hl => ?_)
    refine lv_iconst (v := 0) hx hb dX6_expression_60 (by decide) ?_
    refine lv_istore (lv' := [(4, .int 0), (3, .int 1600), (0, .ref (x 2)), (1, .int 1), (2, .int 7)]) hx hb dX6_expression_61 hl (by decide) rfl (fun ls hl => ?_)
    have lp5 : ∀ (n5 : Nat) (l4_5 : Int32) (v5 : Nat → Int32) (f5 : Nat → Nat → Int32), XI v5 → v5 0 = (v 0) → v5 1 = (v 1) → v5 9 = (v 9) → v5 10 = (v 10) → v5 31 = (v 31) → v5 32 = (v 32) → ((0 : Int) ≤ l4_5.toInt ∧ l4_5.toInt ≤ 2147483647) → (2147483647 - l4_5.toInt).toNat < n5 → ∀ (H : Heap) (locs : List Loc) (ls : Array Slot), va_P (dC, dI) vwCl (XW cy x0 x v5 f5) H → va_D A (XW cy x0 x v5 f5) → va_S A s.heap H locs → lv_has ls 6 [(4, .int l4_5), (3, .int 1600), (0, .ref (x 2)), (1, .int 1), (2, .int 7)] → W p l e { frames := 12, cells := 0, slots := 0, locals := 314 } s m ([.ref (x 2), .int 1, .int 7] : List Value).toArray below meth c H locs 0 0 Q (F0 m 63 ls []) := by
      intro n5
      induction n5 with
      | zero => intro l4_5 v5 f5 hIv5 hq0_v5 hq1_v5 hq9_v5 hq10_v5 hq31_v5 hq32_v5 hr4_5 hm; exact absurd hm (Nat.not_lt_zero _)
      | succ n5 ih5 =>
        intro l4_5 v5 f5 hIv5 hq0_v5 hq1_v5 hq9_v5 hq10_v5 hq31_v5 hq32_v5 hr4_5 hm5 H locs ls hP hD hS hl
        refine lv_iload hx hb dX6_expression_63 (lv_at hl 0 rfl) ?_
        refine lv_iload_n hx hb dX6_expression_65 rfl (lv_at hl 1 rfl) ?_
        refine lv_icmp_ge (tgt := 131) hx hb dX6_expression_66 (by decide) (fun c6 => ?_) (fun c6 => ?_)
        · skip
          have zc6 : 1600 ≤ l4_5.toInt := by rw [fa_le, show (1600 : Int32).toInt = 1600 from by decide] at c6; exact c6
          refine lv_iconst (v := 1) hx hb dX6_expression_131 (by decide) ?_
          exact ret 1 (v5, f5) _ _ _ _ _ _ rfl ⟨hIv5, hq0_v5, hq1_v5, hq9_v5, hq10_v5, hq31_v5, hq32_v5, (Or.inl rfl)⟩ hP hD hS dX6_expression_132 (Nat.le_refl _) (Nat.le_refl _)
        · skip
          have zc6 : ¬ (1600 ≤ l4_5.toInt) := by rw [fa_le, show (1600 : Int32).toInt = 1600 from by decide] at c6; exact c6
          refine lv_iload_n hx hb dX6_expression_69 rfl (lv_at hl 3 rfl) ?_
          refine lv_aload_n hx hb dX6_expression_70 rfl (lv_at hl 2 rfl) ?_
          refine va_get (D := (dC, dI)) (ci := 6) (v := .ref (x 0)) (C := RX6) (T := TX6) (N := 7) hx hb hts inB_6 hown hE.1 hP 3 rfl rfl 0 (by decide) (hts _ k_265) (fun _ h9 => h9) rfl dX6_expression_71 ?_
          refine va_getN (D := (dC, dI)) (ci := 9) (v := .int (v5 2)) (C := RX9) (T := TX9) (N := 6) hx hb hts inB_9 hown hE.1 hP 1 rfl rfl 2 (by decide) (va_Nw.use rfl (hE.2 _ k_139)) (fun _ h9 => h9) rfl dX6_expression_74 ?_
          refine cbSi (n := 2) (rest := []) hx hb hml hown hts hE hP hD hS hA (sX_X6_joins_1 l dC dI cy x0 x 1 (v5 2) v5 f5 hIv5 ) k_756 k_757 k_103 k_758 (by decide +kernel) ⟨Nat.le_of_ble_eq_true rfl, Nat.le_of_ble_eq_true rfl⟩ (rfl) hl.1 rfl (Nat.le_of_ble_eq_true rfl) dX6_expression_77 (fun r7 u H locs hw hP hD hS => ?_)
          rcases hw with ⟨g8⟩ | ⟨g8⟩
          · skip
            subst g8
            refine lv_if_eq (tgt := 131) hx hb dX6_expression_80 (by decide) (fun c0 => absurd c0 (by decide)) (fun _ => ?_)
            refine lv_aload_n hx hb dX6_expression_83 rfl (lv_at hl 2 rfl) ?_
            refine va_get (D := (dC, dI)) (ci := 6) (v := .ref (x 0)) (C := RX6) (T := TX6) (N := 7) hx hb hts inB_6 hown hE.1 hP 3 rfl rfl 0 (by decide) (hts _ k_265) (fun _ h9 => h9) rfl dX6_expression_84 ?_
            refine va_getN (D := (dC, dI)) (ci := 9) (v := .int (v5 2)) (C := RX9) (T := TX9) (N := 6) hx hb hts inB_9 hown hE.1 hP 1 rfl rfl 2 (by decide) (va_Nw.use rfl (hE.2 _ k_139)) (fun _ h9 => h9) rfl dX6_expression_87 ?_
            refine lv_istore (lv' := [(5, .int (v5 2)), (4, .int l4_5), (3, .int 1600), (0, .ref (x 2)), (1, .int 1), (2, .int 7)]) hx hb dX6_expression_90 hl (by decide) rfl (fun ls hl => ?_)
            refine lv_aload_n hx hb dX6_expression_92 rfl (lv_at hl 3 rfl) ?_
            refine va_get (D := (dC, dI)) (ci := 6) (v := .ref (x 0)) (C := RX6) (T := TX6) (N := 7) hx hb hts inB_6 hown hE.1 hP 3 rfl rfl 0 (by decide) (hts _ k_265) (fun _ h9 => h9) rfl dX6_expression_93 ?_
            refine csVv (n := 0) (rest := []) hx hb hml hown hts hE hP hD hS hA hF hT (sX_X9_advance_1 l dC dI cy x0 x  v5 f5 hIv5 ) k_699 k_559 k_560 k_102 k_561 (by decide +kernel) ⟨Nat.le_of_ble_eq_true rfl, Nat.le_of_ble_eq_true rfl⟩ 1 9 rfl rfl (rfl) hl.1 rfl (Nat.le_of_ble_eq_true rfl) dX6_expression_96 (fun u H locs hw hP hD hS => ?_)
            obtain ⟨v9, f10⟩ := u
            obtain ⟨hIv9, hk0_v9, hk1_v9, hk9_v9, hk10_v9, hk31_v9, hk32_v9⟩ := hw
            have hP : va_P (dC, dI) vwCl (XW cy x0 x v9 f10) H := hP
            have hD : va_D A (XW cy x0 x v9 f10) := hD
            have hq0_v9 : v9 0 = (v 0) := hk0_v9.trans hq0_v5
            have hq1_v9 : v9 1 = (v 1) := hk1_v9.trans hq1_v5
            have hq9_v9 : v9 9 = (v 9) := hk9_v9.trans hq9_v5
            have hq10_v9 : v9 10 = (v 10) := hk10_v9.trans hq10_v5
            have hq31_v9 : v9 31 = (v 31) := hk31_v9.trans hq31_v5
            have hq32_v9 : v9 32 = (v 32) := hk32_v9.trans hq32_v5
            refine lv_aload_n hx hb dX6_expression_99 rfl (lv_at hl 3 rfl) ?_
            refine lv_iload_n hx hb dX6_expression_100 rfl (lv_at hl 4 rfl) ?_
            refine lv_iconst (v := 1) hx hb dX6_expression_101 (by decide) ?_
            refine lv_iadd hx hb dX6_expression_102 ?_
            refine tI (y := 2) (by decide) ?_
            refine lv_iload_n hx hb dX6_expression_103 rfl (lv_at hl 5 rfl) ?_
            refine csVi (n := 2) (rest := []) hx hb hml hown hts hE hP hD hS hA hF hT (sX_X6_expression_45 l dC dI cy x0 x  v9 f10 hIv9 ) k_740 k_742 k_15 k_103 k_743 (by decide +kernel) ⟨Nat.le_of_ble_eq_true rfl, Nat.le_of_ble_eq_true rfl⟩ 3 6 rfl rfl (rfl) hl.1 rfl (Nat.le_of_ble_eq_true rfl) dX6_expression_104 (fun r11 u H locs hw hP hD hS => ?_)
            obtain ⟨v12, f13⟩ := u
            obtain ⟨hIv12, hk0_v12, hk1_v12, hk9_v12, hk10_v12, hk31_v12, hk32_v12, hw⟩ := hw
            have hP : va_P (dC, dI) vwCl (XW cy x0 x v12 f13) H := hP
            have hD : va_D A (XW cy x0 x v12 f13) := hD
            have hq0_v12 : v12 0 = (v 0) := hk0_v12.trans hq0_v9
            have hq1_v12 : v12 1 = (v 1) := hk1_v12.trans hq1_v9
            have hq9_v12 : v12 9 = (v 9) := hk9_v12.trans hq9_v9
            have hq10_v12 : v12 10 = (v 10) := hk10_v12.trans hq10_v9
            have hq31_v12 : v12 31 = (v 31) := hk31_v12.trans hq31_v9
            have hq32_v12 : v12 32 = (v 32) := hk32_v12.trans hq32_v9
            rcases hw with ⟨g14⟩ | ⟨g14⟩
            · skip
              subst g14
              refine lv_if_ne (tgt := 112) hx hb dX6_expression_107 (by decide) (fun _ => ?_) (fun c0 => absurd c0 (by decide))
              refine lv_aload_n hx hb dX6_expression_112 rfl (lv_at hl 3 rfl) ?_
              refine va_get (D := (dC, dI)) (ci := 6) (v := .ref (x 3)) (C := RX6) (T := TX6) (N := 7) hx hb hts inB_6 hown hE.1 hP 3 rfl rfl 1 (by decide) (hts _ k_266) (fun _ h9 => h9) rfl dX6_expression_113 ?_
              refine va_getN (D := (dC, dI)) (ci := 7) (v := .ref (x 6)) (C := RX7) (T := TX7) (N := 10) hx hb hts inB_7 hown hE.1 hP 4 rfl rfl 2 (by decide) (va_Nw.use rfl (hE.2 _ k_210)) (fun _ h9 => h9) rfl dX6_expression_116 ?_
              refine lv_iload hx hb dX6_expression_119 (lv_at hl 0 rfl) ?_
              refine lv_iconst (v := 0) hx hb dX6_expression_121 (by decide) ?_
              refine cbVv (n := 2) (rest := []) hx hb hml hown hts hE hP hD hS hA (sX_X4_add_1 l dC dI cy x0 x (v5 2) 0 v12 f13 hIv12 ) k_748 k_749 k_750 k_105 k_751 (by decide +kernel) ⟨Nat.le_of_ble_eq_true rfl, Nat.le_of_ble_eq_true rfl⟩ 7 4 rfl rfl (rfl) hl.1 rfl (Nat.le_of_ble_eq_true rfl) dX6_expression_122 (fun u H locs hw hP hD hS => ?_)
              obtain ⟨v15, f16⟩ := u
              obtain ⟨hIv15, hk0_v15, hk1_v15, hk9_v15, hk10_v15, hk31_v15, hk32_v15⟩ := hw
              have hP : va_P (dC, dI) vwCl (XW cy x0 x v15 f16) H := hP
              have hD : va_D A (XW cy x0 x v15 f16) := hD
              have hq0_v15 : v15 0 = (v 0) := hk0_v15.trans hq0_v12
              have hq1_v15 : v15 1 = (v 1) := hk1_v15.trans hq1_v12
              have hq9_v15 : v15 9 = (v 9) := hk9_v15.trans hq9_v12
              have hq10_v15 : v15 10 = (v 10) := hk10_v15.trans hq10_v12
              have hq31_v15 : v15 31 = (v 31) := hk31_v15.trans hq31_v12
              have hq32_v15 : v15 32 = (v 32) := hk32_v15.trans hq32_v12
              obtain ⟨t17, et17⟩ : ∃ y : Int32, y = l4_5 + 1 := ⟨_, rfl⟩
              have rg18 := fb_rng l4_5
              have zt17 : t17.toInt = l4_5.toInt + 1 := by rw [et17]; exact add_i rfl (by decide) (by omega) (by omega)
              refine lv_iinc (v := t17) (lv' := [(4, .int t17), (5, .int (v5 2)), (3, .int 1600), (0, .ref (x 2)), (1, .int 1), (2, .int 7)]) hx hb dX6_expression_125 hl (k := 1) rfl (by rw [et17]; rfl) (by decide) rfl (fun ls hl => ?_)
              refine lv_goto (tgt := 63) hx hb dX6_expression_128 (by decide) ?_
              have rg19 := fb_rng t17
              exact ih5 t17 v15 f16 hIv15 hq0_v15 hq1_v15 hq9_v15 hq10_v15 hq31_v15 hq32_v15 ⟨show (0 : Int) ≤ t17.toInt by omega, show t17.toInt ≤ (2147483647 : Int) by omega⟩ (by show (2147483647 - t17.toInt).toNat < n5; omega) _ _ _ hP hD hS (lv_sub hl [0, 2, 3, 4, 5] rfl)
            · skip
              subst g14
              refine lv_if_ne (tgt := 112) hx hb dX6_expression_107 (by decide) (fun c0 => absurd (by decide) c0) (fun _ => ?_)
              refine lv_iconst (v := 0) hx hb dX6_expression_110 (by decide) ?_
              exact ret 0 (v12, f13) _ _ _ _ _ _ rfl ⟨hIv12, (hk0_v12.trans (hk0_v9.trans hq0_v5)), (hk1_v12.trans (hk1_v9.trans hq1_v5)), (hk9_v12.trans (hk9_v9.trans hq9_v5)), (hk10_v12.trans (hk10_v9.trans hq10_v5)), (hk31_v12.trans (hk31_v9.trans hq31_v5)), (hk32_v12.trans (hk32_v9.trans hq32_v5)), (Or.inr rfl)⟩ hP hD hS dX6_expression_111 (Nat.le_refl _) (Nat.le_refl _)
          · skip
            subst g8
            refine lv_if_eq (tgt := 131) hx hb dX6_expression_80 (by decide) (fun _ => ?_) (fun c0 => absurd (by decide) c0)
            refine lv_iconst (v := 1) hx hb dX6_expression_131 (by decide) ?_
            exact ret 1 (v5, f5) _ _ _ _ _ _ rfl ⟨hIv5, hq0_v5, hq1_v5, hq9_v5, hq10_v5, hq31_v5, hq32_v5, (Or.inl rfl)⟩ hP hD hS dX6_expression_132 (Nat.le_refl _) (Nat.le_refl _)
    exact lp5 _ 0 v2 f3 hIv2 hq0_v2 hq1_v2 hq9_v2 hq10_v2 hq31_v2 hq32_v2 ⟨by decide, by decide⟩ (Nat.lt_succ_self _) _ _ _ hP hD hS (lv_sub hl [0, 1, 2, 3, 4] rfl)
  · skip
    subst g4
    refine lv_if_ne (tgt := 47) hx hb dX6_expression_42 (by decide) (fun c0 => absurd (by decide) c0) (fun _ => ?_)
    refine lv_iconst (v := 0) hx hb dX6_expression_45 (by decide) ?_
    exact ret 0 (v2, f3) _ _ _ _ _ _ rfl ⟨hIv2, hk0_v2, hk1_v2, hk9_v2, hk10_v2, hk31_v2, hk32_v2, (Or.inr rfl)⟩ hP hD hS dX6_expression_46 (Nat.le_refl _) (Nat.le_refl _)
set_option maxHeartbeats 4000000 in
set_option maxRecDepth 100000 in
theorem sX_X6_expression_43 (l : Launch) (dC : Nat → ClassId) (dI : Nat → Nat → Nat) (cy : Nat → ClassId) (x0 : Nat) (x : Nat → Nat)  (v : Nat → Int32) (f : Nat → Nat → Int32) (hIv : XI v)  : ctIS l (dC, dI) cy yX6_expression cX6_expression 6 .boolean 13 339 0 0 ((Nat → Int32) × (Nat → Nat → Int32)) [.ref (x 2), .int 0, .int 7] (XW cy x0 x v f) (fun r u => XI u.1 ∧ u.1 0 = v 0 ∧ u.1 1 = v 1 ∧ u.1 9 = v 9 ∧ u.1 10 = v 10 ∧ u.1 31 = v 31 ∧ u.1 32 = v 32 ∧ ((r = 1) ∨ (r = 0))) (fun u => XW cy x0 x u.1 u.2) := by
  refine ctIS_of (by decide) (Nat.le_of_ble_eq_true rfl) (fun p e s m below meth c A ls Q hx hb hml hts hown hE hF hT hP hD hA hl ret => ?_)
  have hown : s.vm.findClass RX6 = some m.cls := hown
  have hS : va_S A s.heap s.heap [] := va_S.rf
  have hl : lv_has ls 6 [(0, .ref (x 2)), (1, .int 0), (2, .int 7)] := hl
  refine lv_iload_n hx hb dX6_expression_0 rfl (lv_at hl 1 rfl) ?_
  refine lv_iconst (v := 5) hx hb dX6_expression_1 (by decide) ?_
  refine lv_icmp_lt (tgt := 11) hx hb dX6_expression_2 (by decide) (fun _ => ?_) (fun c0 => absurd (by decide) c0)
  refine lv_iload_n hx hb dX6_expression_11 rfl (lv_at hl 1 rfl) ?_
  refine lv_iconst (v := 2) hx hb dX6_expression_12 (by decide) ?_
  refine lv_icmp_ne (tgt := 34) hx hb dX6_expression_13 (by decide) (fun _ => ?_) (fun c0 => absurd c0 (by decide))
  refine lv_aload_n hx hb dX6_expression_34 rfl (lv_at hl 0 rfl) ?_
  refine lv_iload_n hx hb dX6_expression_35 rfl (lv_at hl 1 rfl) ?_
  refine lv_iconst (v := 1) hx hb dX6_expression_36 (by decide) ?_
  refine lv_iadd hx hb dX6_expression_37 ?_
  refine tI (y := 1) (by decide) ?_
  refine lv_iload_n hx hb dX6_expression_38 rfl (lv_at hl 2 rfl) ?_
  refine csVi (n := 2) (rest := []) hx hb hml hown hts hE hP hD hS hA hF hT (sX_X6_expression_44 l dC dI cy x0 x  v f hIv ) k_740 k_742 k_15 k_103 k_743 (by decide +kernel) ⟨Nat.le_of_ble_eq_true rfl, Nat.le_of_ble_eq_true rfl⟩ 3 6 rfl rfl (rfl) hl.1 rfl (Nat.le_of_ble_eq_true rfl) dX6_expression_39 (fun r1 u H locs hw hP hD hS => ?_)
  obtain ⟨v2, f3⟩ := u
  obtain ⟨hIv2, hk0_v2, hk1_v2, hk9_v2, hk10_v2, hk31_v2, hk32_v2, hw⟩ := hw
  have hP : va_P (dC, dI) vwCl (XW cy x0 x v2 f3) H := hP
  have hD : va_D A (XW cy x0 x v2 f3) := hD
  have hq0_v2 : v2 0 = (v 0) := hk0_v2
  have hq1_v2 : v2 1 = (v 1) := hk1_v2
  have hq9_v2 : v2 9 = (v 9) := hk9_v2
  have hq10_v2 : v2 10 = (v 10) := hk10_v2
  have hq31_v2 : v2 31 = (v 31) := hk31_v2
  have hq32_v2 : v2 32 = (v 32) := hk32_v2
  rcases hw with ⟨g4⟩ | ⟨g4⟩
  · skip
    subst g4
    refine lv_if_ne (tgt := 47) hx hb dX6_expression_42 (by decide) (fun _ => ?_) (fun c0 => absurd c0 (by decide))
    refine lv_iload_n hx hb dX6_expression_47 rfl (lv_at hl 1 rfl) ?_
    refine lv_iconst (v := 2) hx hb dX6_expression_48 (by decide) ?_
    refine lv_icmp_ne (tgt := 56) hx hb dX6_expression_49 (by decide) (fun _ => ?_) (fun c0 => absurd c0 (by decide))
    refine lv_sipush (v := 1600) hx hb dX6_expression_56 (by decide) ?_
    refine lv_istore_n (lv' := [(3, .int 1600), (0, .ref (x 2)), (1, .int 0), (2, .int 7)]) hx hb dX6_expression_59 rfl hl (by decide) rfl (fun ls hl => ?_)
    refine lv_iconst (v := 0) hx hb dX6_expression_60 (by decide) ?_
    refine lv_istore (lv' := [(4, .int 0), (3, .int 1600), (0, .ref (x 2)), (1, .int 0), (2, .int 7)]) hx hb dX6_expression_61 hl (by decide) rfl (fun ls hl => ?_)
    have lp5 : ∀ (n5 : Nat) (l4_5 : Int32) (v5 : Nat → Int32) (f5 : Nat → Nat → Int32), XI v5 → v5 0 = (v 0) → v5 1 = (v 1) → v5 9 = (v 9) → v5 10 = (v 10) → v5 31 = (v 31) → v5 32 = (v 32) → ((0 : Int) ≤ l4_5.toInt ∧ l4_5.toInt ≤ 2147483647) → (2147483647 - l4_5.toInt).toNat < n5 → ∀ (H : Heap) (locs : List Loc) (ls : Array Slot), va_P (dC, dI) vwCl (XW cy x0 x v5 f5) H → va_D A (XW cy x0 x v5 f5) → va_S A s.heap H locs → lv_has ls 6 [(4, .int l4_5), (3, .int 1600), (0, .ref (x 2)), (1, .int 0), (2, .int 7)] → W p l e { frames := 13, cells := 0, slots := 0, locals := 339 } s m ([.ref (x 2), .int 0, .int 7] : List Value).toArray below meth c H locs 0 0 Q (F0 m 63 ls []) := by
      intro n5
      induction n5 with
      | zero => intro l4_5 v5 f5 hIv5 hq0_v5 hq1_v5 hq9_v5 hq10_v5 hq31_v5 hq32_v5 hr4_5 hm; exact absurd hm (Nat.not_lt_zero _)
      | succ n5 ih5 =>
        intro l4_5 v5 f5 hIv5 hq0_v5 hq1_v5 hq9_v5 hq10_v5 hq31_v5 hq32_v5 hr4_5 hm5 H locs ls hP hD hS hl
        refine lv_iload hx hb dX6_expression_63 (lv_at hl 0 rfl) ?_
        refine lv_iload_n hx hb dX6_expression_65 rfl (lv_at hl 1 rfl) ?_
        refine lv_icmp_ge (tgt := 131) hx hb dX6_expression_66 (by decide) (fun c6 => ?_) (fun c6 => ?_)
        · skip
          have zc6 : 1600 ≤ l4_5.toInt := by rw [fa_le, show (1600 : Int32).toInt = 1600 from by decide] at c6; exact c6
          refine lv_iconst (v := 1) hx hb dX6_expression_131 (by decide) ?_
          exact ret 1 (v5, f5) _ _ _ _ _ _ rfl ⟨hIv5, hq0_v5, hq1_v5, hq9_v5, hq10_v5, hq31_v5, hq32_v5, (Or.inl rfl)⟩ hP hD hS dX6_expression_132 (Nat.le_refl _) (Nat.le_refl _)
        · skip
          have zc6 : ¬ (1600 ≤ l4_5.toInt) := by rw [fa_le, show (1600 : Int32).toInt = 1600 from by decide] at c6; exact c6
          refine lv_iload_n hx hb dX6_expression_69 rfl (lv_at hl 3 rfl) ?_
          refine lv_aload_n hx hb dX6_expression_70 rfl (lv_at hl 2 rfl) ?_
          refine va_get (D := (dC, dI)) (ci := 6) (v := .ref (x 0)) (C := RX6) (T := TX6) (N := 7) hx hb hts inB_6 hown hE.1 hP 3 rfl rfl 0 (by decide) (hts _ k_265) (fun _ h9 => h9) rfl dX6_expression_71 ?_
          refine va_getN (D := (dC, dI)) (ci := 9) (v := .int (v5 2)) (C := RX9) (T := TX9) (N := 6) hx hb hts inB_9 hown hE.1 hP 1 rfl rfl 2 (by decide) (va_Nw.use rfl (hE.2 _ k_139)) (fun _ h9 => h9) rfl dX6_expression_74 ?_
          refine cbSi (n := 2) (rest := []) hx hb hml hown hts hE hP hD hS hA (sX_X6_joins_1 l dC dI cy x0 x 0 (v5 2) v5 f5 hIv5 ) k_756 k_757 k_103 k_758 (by decide +kernel) ⟨Nat.le_of_ble_eq_true rfl, Nat.le_of_ble_eq_true rfl⟩ (rfl) hl.1 rfl (Nat.le_of_ble_eq_true rfl) dX6_expression_77 (fun r7 u H locs hw hP hD hS => ?_)
          rcases hw with ⟨g8⟩ | ⟨g8⟩
          · skip
            subst g8
            refine lv_if_eq (tgt := 131) hx hb dX6_expression_80 (by decide) (fun c0 => absurd c0 (by decide)) (fun _ => ?_)
            refine lv_aload_n hx hb dX6_expression_83 rfl (lv_at hl 2 rfl) ?_
            refine va_get (D := (dC, dI)) (ci := 6) (v := .ref (x 0)) (C := RX6) (T := TX6) (N := 7) hx hb hts inB_6 hown hE.1 hP 3 rfl rfl 0 (by decide) (hts _ k_265) (fun _ h9 => h9) rfl dX6_expression_84 ?_
            refine va_getN (D := (dC, dI)) (ci := 9) (v := .int (v5 2)) (C := RX9) (T := TX9) (N := 6) hx hb hts inB_9 hown hE.1 hP 1 rfl rfl 2 (by decide) (va_Nw.use rfl (hE.2 _ k_139)) (fun _ h9 => h9) rfl dX6_expression_87 ?_
            refine lv_istore (lv' := [(5, .int (v5 2)), (4, .int l4_5), (3, .int 1600), (0, .ref (x 2)), (1, .int 0), (2, .int 7)]) hx hb dX6_expression_90 hl (by decide) rfl (fun ls hl => ?_)
            refine lv_aload_n hx hb dX6_expression_92 rfl (lv_at hl 3 rfl) ?_
            refine va_get (D := (dC, dI)) (ci := 6) (v := .ref (x 0)) (C := RX6) (T := TX6) (N := 7) hx hb hts inB_6 hown hE.1 hP 3 rfl rfl 0 (by decide) (hts _ k_265) (fun _ h9 => h9) rfl dX6_expression_93 ?_
            refine csVv (n := 0) (rest := []) hx hb hml hown hts hE hP hD hS hA hF hT (sX_X9_advance_1 l dC dI cy x0 x  v5 f5 hIv5 ) k_699 k_559 k_560 k_102 k_561 (by decide +kernel) ⟨Nat.le_of_ble_eq_true rfl, Nat.le_of_ble_eq_true rfl⟩ 1 9 rfl rfl (rfl) hl.1 rfl (Nat.le_of_ble_eq_true rfl) dX6_expression_96 (fun u H locs hw hP hD hS => ?_)
            obtain ⟨v9, f10⟩ := u
            obtain ⟨hIv9, hk0_v9, hk1_v9, hk9_v9, hk10_v9, hk31_v9, hk32_v9⟩ := hw
            have hP : va_P (dC, dI) vwCl (XW cy x0 x v9 f10) H := hP
            have hD : va_D A (XW cy x0 x v9 f10) := hD
            have hq0_v9 : v9 0 = (v 0) := hk0_v9.trans hq0_v5
            have hq1_v9 : v9 1 = (v 1) := hk1_v9.trans hq1_v5
            have hq9_v9 : v9 9 = (v 9) := hk9_v9.trans hq9_v5
            have hq10_v9 : v9 10 = (v 10) := hk10_v9.trans hq10_v5
            have hq31_v9 : v9 31 = (v 31) := hk31_v9.trans hq31_v5
            have hq32_v9 : v9 32 = (v 32) := hk32_v9.trans hq32_v5
            refine lv_aload_n hx hb dX6_expression_99 rfl (lv_at hl 3 rfl) ?_
            refine lv_iload_n hx hb dX6_expression_100 rfl (lv_at hl 4 rfl) ?_
            refine lv_iconst (v := 1) hx hb dX6_expression_101 (by decide) ?_
            refine lv_iadd hx hb dX6_expression_102 ?_
            refine tI (y := 1) (by decide) ?_
            refine lv_iload_n hx hb dX6_expression_103 rfl (lv_at hl 5 rfl) ?_
            refine csVi (n := 2) (rest := []) hx hb hml hown hts hE hP hD hS hA hF hT (sX_X6_expression_44 l dC dI cy x0 x  v9 f10 hIv9 ) k_740 k_742 k_15 k_103 k_743 (by decide +kernel) ⟨Nat.le_of_ble_eq_true rfl, Nat.le_of_ble_eq_true rfl⟩ 3 6 rfl rfl (rfl) hl.1 rfl (Nat.le_of_ble_eq_true rfl) dX6_expression_104 (fun r11 u H locs hw hP hD hS => ?_)
            obtain ⟨v12, f13⟩ := u
            obtain ⟨hIv12, hk0_v12, hk1_v12, hk9_v12, hk10_v12, hk31_v12, hk32_v12, hw⟩ := hw
            have hP : va_P (dC, dI) vwCl (XW cy x0 x v12 f13) H := hP
            have hD : va_D A (XW cy x0 x v12 f13) := hD
            have hq0_v12 : v12 0 = (v 0) := hk0_v12.trans hq0_v9
            have hq1_v12 : v12 1 = (v 1) := hk1_v12.trans hq1_v9
            have hq9_v12 : v12 9 = (v 9) := hk9_v12.trans hq9_v9
            have hq10_v12 : v12 10 = (v 10) := hk10_v12.trans hq10_v9
            have hq31_v12 : v12 31 = (v 31) := hk31_v12.trans hq31_v9
            have hq32_v12 : v12 32 = (v 32) := hk32_v12.trans hq32_v9
            rcases hw with ⟨g14⟩ | ⟨g14⟩
            · skip
              subst g14
              refine lv_if_ne (tgt := 112) hx hb dX6_expression_107 (by decide) (fun _ => ?_) (fun c0 => absurd c0 (by decide))
              refine lv_aload_n hx hb dX6_expression_112 rfl (lv_at hl 3 rfl) ?_
              refine va_get (D := (dC, dI)) (ci := 6) (v := .ref (x 3)) (C := RX6) (T := TX6) (N := 7) hx hb hts inB_6 hown hE.1 hP 3 rfl rfl 1 (by decide) (hts _ k_266) (fun _ h9 => h9) rfl dX6_expression_113 ?_
              refine va_getN (D := (dC, dI)) (ci := 7) (v := .ref (x 6)) (C := RX7) (T := TX7) (N := 10) hx hb hts inB_7 hown hE.1 hP 4 rfl rfl 2 (by decide) (va_Nw.use rfl (hE.2 _ k_210)) (fun _ h9 => h9) rfl dX6_expression_116 ?_
              refine lv_iload hx hb dX6_expression_119 (lv_at hl 0 rfl) ?_
              refine lv_iconst (v := 0) hx hb dX6_expression_121 (by decide) ?_
              refine cbVv (n := 2) (rest := []) hx hb hml hown hts hE hP hD hS hA (sX_X4_add_1 l dC dI cy x0 x (v5 2) 0 v12 f13 hIv12 ) k_748 k_749 k_750 k_105 k_751 (by decide +kernel) ⟨Nat.le_of_ble_eq_true rfl, Nat.le_of_ble_eq_true rfl⟩ 7 4 rfl rfl (rfl) hl.1 rfl (Nat.le_of_ble_eq_true rfl) dX6_expression_122 (fun u H locs hw hP hD hS => ?_)
              obtain ⟨v15, f16⟩ := u
              obtain ⟨hIv15, hk0_v15, hk1_v15, hk9_v15, hk10_v15, hk31_v15, hk32_v15⟩ := hw
              have hP : va_P (dC, dI) vwCl (XW cy x0 x v15 f16) H := hP
              have hD : va_D A (XW cy x0 x v15 f16) := hD
              have hq0_v15 : v15 0 = (v 0) := hk0_v15.trans hq0_v12
              have hq1_v15 : v15 1 = (v 1) := hk1_v15.trans hq1_v12
              have hq9_v15 : v15 9 = (v 9) := hk9_v15.trans hq9_v12
              have hq10_v15 : v15 10 = (v 10) := hk10_v15.trans hq10_v12
              have hq31_v15 : v15 31 = (v 31) := hk31_v15.trans hq31_v12
              have hq32_v15 : v15 32 = (v 32) := hk32_v15.trans hq32_v12
              obtain ⟨t17, et17⟩ : ∃ y : Int32, y = l4_5 + 1 := ⟨_, rfl⟩
              have rg18 := fb_rng l4_5
              have zt17 : t17.toInt = l4_5.toInt + 1 := by rw [et17]; exact add_i rfl (by decide) (by omega) (by omega)
              refine lv_iinc (v := t17) (lv' := [(4, .int t17), (5, .int (v5 2)), (3, .int 1600), (0, .ref (x 2)), (1, .int 0), (2, .int 7)]) hx hb dX6_expression_125 hl (k := 1) rfl (by rw [et17]; rfl) (by decide) rfl (fun ls hl => ?_)
              refine lv_goto (tgt := 63) hx hb dX6_expression_128 (by decide) ?_
              have rg19 := fb_rng t17
              exact ih5 t17 v15 f16 hIv15 hq0_v15 hq1_v15 hq9_v15 hq10_v15 hq31_v15 hq32_v15 ⟨show (0 : Int) ≤ t17.toInt by omega, show t17.toInt ≤ (2147483647 : Int) by omega⟩ (by show (2147483647 - t17.toInt).toNat < n5; omega) _ _ _ hP hD hS (lv_sub hl [0, 2, 3, 4, 5] rfl)
            · skip
              subst g14
              refine lv_if_ne (tgt := 112) hx hb dX6_expression_107 (by decide) (fun c0 => absurd (by decide) c0) (fun _ => ?_)
              refine lv_iconst (v := 0) hx hb dX6_expression_110 (by decide) ?_
              exact ret 0 (v12, f13) _ _ _ _ _ _ rfl ⟨hIv12, (hk0_v12.trans (hk0_v9.trans hq0_v5)), (hk1_v12.trans (hk1_v9.trans hq1_v5)), (hk9_v12.trans (hk9_v9.trans hq9_v5)), (hk10_v12.trans (hk10_v9.trans hq10_v5)), (hk31_v12.trans (hk31_v9.trans hq31_v5)), (hk32_v12.trans (hk32_v9.trans hq32_v5)), (Or.inr rfl)⟩ hP hD hS dX6_expression_111 (Nat.le_refl _) (Nat.le_refl _)
          · skip
            subst g8
            refine lv_if_eq (tgt := 131) hx hb dX6_expression_80 (by decide) (fun _ => ?_) (fun c0 => absurd (by decide) c0)
            refine lv_iconst (v := 1) hx hb dX6_expression_131 (by decide) ?_
            exact ret 1 (v5, f5) _ _ _ _ _ _ rfl ⟨hIv5, hq0_v5, hq1_v5, hq9_v5, hq10_v5, hq31_v5, hq32_v5, (Or.inl rfl)⟩ hP hD hS dX6_expression_132 (Nat.le_refl _) (Nat.le_refl _)
    exact lp5 _ 0 v2 f3 hIv2 hq0_v2 hq1_v2 hq9_v2 hq10_v2 hq31_v2 hq32_v2 ⟨by decide, by decide⟩ (Nat.lt_succ_self _) _ _ _ hP hD hS (lv_sub hl [0, 1, 2, 3, 4] rfl)
  · skip
    subst g4
    refine lv_if_ne (tgt := 47) hx hb dX6_expression_42 (by decide) (fun c0 => absurd (by decide) c0) (fun _ => ?_)
    refine lv_iconst (v := 0) hx hb dX6_expression_45 (by decide) ?_
    exact ret 0 (v2, f3) _ _ _ _ _ _ rfl ⟨hIv2, hk0_v2, hk1_v2, hk9_v2, hk10_v2, hk31_v2, hk32_v2, (Or.inr rfl)⟩ hP hD hS dX6_expression_46 (Nat.le_refl _) (Nat.le_refl _)
