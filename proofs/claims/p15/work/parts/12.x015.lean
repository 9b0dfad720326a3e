set_option maxHeartbeats 4000000 in
set_option maxRecDepth 100000 in
theorem sX_X10_back_1 (NF : Nat) (l : Launch) (dC : Nat → ClassId) (dI : Nat → Nat → Nat) (cy : Nat → ClassId) (x0 : Nat) (x : Nat → Nat) (p1 : Int32) (v : Nat → Int32) (f : Nat → Nat → Int32) (hIv : XI v)  : ctI l (dC, dI) cy yX10_back cX10_back 2 .int 4 163 0 0 ((Nat → Int32) × (Nat → Nat → Int32)) [.ref x0, .int p1] (XW cy x0 x v f) (fun r u => gsX_X10_back_1 NF p1 v f = (r, u) ∧ KV [21, 22, 23] u.1 v ∧ KF [15, 17] u.2 f ∧ XI u.1 ∧ u.1 0 = v 0 ∧ u.1 1 = v 1 ∧ u.1 7 = v 7 ∧ u.1 8 = v 8 ∧ u.1 9 = v 9 ∧ u.1 10 = v 10 ∧ u.1 31 = v 31 ∧ u.1 32 = v 32) (fun u => XW cy x0 x u.1 u.2) := by
  refine ctI_of (by decide) (Nat.le_of_ble_eq_true rfl) (fun p e s m below meth c A ls Q hx hb hml hts hown hE hP hD hA hl ret => ?_)
  have hM_v : KV [21, 22, 23] v v := fun _ _ => rfl
  have hA_f : KF [15, 17] f f := fun _ _ => rfl
  have hown : s.vm.findClass RX10 = some m.cls := hown
  have hS : va_S A s.heap s.heap [] := va_S.rf
  have hl : lv_has ls 2 [(0, .ref x0), (1, .int p1)] := hl
  refine lv_aload_n hx hb dX10_back_0 rfl (lv_at hl 0 rfl) ?_
  refine va_get (D := (dC, dI)) (ci := 10) (v := .ref (x 20)) (C := RX10) (T := TX10) (N := 10) hx hb hts inB_10 hown hE.1 hP 0 rfl rfl 4 (by decide) (hts _ k_495) (fun _ h9 => h9) rfl dX10_back_1 ?_
  refine lv_iload_n hx hb dX10_back_4 rfl (lv_at hl 1 rfl) ?_
  refine cbVi (n := 1) (rest := []) hx hb hml hown hts hE hP hD hS hA (sX_X5_takeBox_1 NF l dC dI cy x0 x p1 v f hIv ) k_1302 k_1303 k_1304 k_107 k_1305 (by decide +kernel) ⟨Nat.le_of_ble_eq_true rfl, Nat.le_of_ble_eq_true rfl⟩ 21 5 rfl rfl (rfl) hl.1 rfl (Nat.le_of_ble_eq_true rfl) dX10_back_5 (fun r1 u H locs hw hP hD hS => ?_)
  obtain ⟨hG2, hw⟩ := hw
  obtain ⟨v3, f4⟩ := u
  obtain ⟨kV_v3, kF_f4, hIv3, hk0_v3, hk1_v3, hk7_v3, hk8_v3, hk9_v3, hk10_v3, hk31_v3, hk32_v3, hw⟩ := hw
  have hM_v3 : KV [21, 22, 23] v3 v := KV.tr kV_v3 hM_v rfl
  have hA_f4 : KF [15, 17] f4 f := KF.tr kF_f4 hA_f rfl
  have hP : va_P (dC, dI) vwCl (XW cy x0 x v3 f4) H := hP
  have hD : va_D A (XW cy x0 x v3 f4) := hD
  have hq0_v3 : v3 0 = (v 0) := hk0_v3
  have hq1_v3 : v3 1 = (v 1) := hk1_v3
  have hq7_v3 : v3 7 = (v 7) := hk7_v3
  have hq8_v3 : v3 8 = (v 8) := hk8_v3
  have hq9_v3 : v3 9 = (v 9) := hk9_v3
  have hq10_v3 : v3 10 = (v 10) := hk10_v3
  have hq31_v3 : v3 31 = (v 31) := hk31_v3
  have hq32_v3 : v3 32 = (v 32) := hk32_v3
  rcases hw with ⟨g5⟩ | ⟨g5⟩
  · skip
    subst g5
    refine lv_if_eq (tgt := 21) hx hb dX10_back_8 (by decide) (fun c0 => absurd c0 (by decide)) (fun _ => ?_)
    refine lv_aload_n hx hb dX10_back_11 rfl (lv_at hl 0 rfl) ?_
    refine va_get (D := (dC, dI)) (ci := 10) (v := .ref (x 21)) (C := RX10) (T := TX10) (N := 10) hx hb hts inB_10 hown hE.1 hP 0 rfl rfl 3 (by decide) (hts _ k_494) (fun _ h9 => h9) rfl dX10_back_12 ?_
    refine cbVi (n := 0) (rest := []) hx hb hml hown hts hE hP hD hS hA (sX_X1_today_1 NF l dC dI cy x0 x  v3 f4 hIv3 ) k_864 k_832 k_833 k_106 k_834 (by decide +kernel) ⟨Nat.le_of_ble_eq_true rfl, Nat.le_of_ble_eq_true rfl⟩ 22 1 rfl rfl (rfl) hl.1 rfl (Nat.le_of_ble_eq_true rfl) dX10_back_15 (fun r6 u H locs hw hP hD hS => ?_)
    have hG7 := hw
    refine lv_goto (tgt := 22) hx hb dX10_back_18 (by decide) ?_
    exact ret r6 (v3, f4) _ _ _ _ _ _ rfl ⟨(gsX_X10_back_1_q0 hG2 hG7.symm), hM_v3, hA_f4, hIv3, hk0_v3, hk1_v3, hk7_v3, hk8_v3, hk9_v3, hk10_v3, hk31_v3, hk32_v3⟩ hP hD hS dX10_back_22 (Nat.le_refl _) (Nat.le_refl _)
  · skip
    subst g5
    refine lv_if_eq (tgt := 21) hx hb dX10_back_8 (by decide) (fun _ => ?_) (fun c0 => absurd (by decide) c0)
    refine lv_iconst (v := (-1)) hx hb dX10_back_21 (by decide) ?_
    exact ret (-1) (v3, f4) _ _ _ _ _ _ rfl ⟨(gsX_X10_back_1_q1 hG2), hM_v3, hA_f4, hIv3, hk0_v3, hk1_v3, hk7_v3, hk8_v3, hk9_v3, hk10_v3, hk31_v3, hk32_v3⟩ hP hD hS dX10_back_22 (Nat.le_refl _) (Nat.le_refl _)
set_option maxHeartbeats 4000000 in
set_option maxRecDepth 100000 in
theorem sX_X1_fittingCoats_1 (l : Launch) (dC : Nat → ClassId) (dI : Nat → Nat → Nat) (cy : Nat → ClassId) (x0 : Nat) (x : Nat → Nat) (p1 : Int32) (v : Nat → Int32) (f : Nat → Nat → Int32) (hIv : XI v)  : ctI l (dC, dI) cy yX1_fittingCoats cX1_fittingCoats 4 .int 5 155 0 0 ((Nat → Int32) × (Nat → Nat → Int32)) [.ref (x 21), .int p1] (XW cy x0 x v f) (fun r u => KV [] u.1 v ∧ KF [13, 14] u.2 f ∧ XI u.1 ∧ u.1 0 = v 0 ∧ u.1 1 = v 1 ∧ u.1 7 = v 7 ∧ u.1 8 = v 8 ∧ u.1 9 = v 9 ∧ u.1 10 = v 10 ∧ u.1 31 = v 31 ∧ u.1 32 = v 32) (fun u => XW cy x0 x u.1 u.2) := by
  refine ctI_of (by decide) (Nat.le_of_ble_eq_true rfl) (fun p e s m below meth c A ls Q hx hb hml hts hown hE hP hD hA hl ret => ?_)
  have hM_v : KV [] v v := fun _ _ => rfl
  have hA_f : KF [13, 14] f f := fun _ _ => rfl
  have hown : s.vm.findClass RX1 = some m.cls := hown
  have hS : va_S A s.heap s.heap [] := va_S.rf
  have hl : lv_has ls 4 [(0, .ref (x 21)), (1, .int p1)] := hl
  refine lv_iconst (v := 0) hx hb dX1_fittingCoats_0 (by decide) ?_
  refine lv_istore_n (lv' := [(2, .int 0), (0, .ref (x 21)), (1, .int p1)]) hx hb dX1_fittingCoats_1 rfl hl (by decide) rfl (fun ls hl => ?_)
  refine lv_iconst (v := 0) hx hb dX1_fittingCoats_2 (by decide) ?_
  refine lv_istore_n (lv' := [(3, .int 0), (2, .int 0), (0, .ref (x 21)), (1, .int p1)]) hx hb dX1_fittingCoats_3 rfl hl (by decide) rfl (fun ls hl => ?_)
  have lp1 : ∀ (n1 : Nat) (l2_1 : Int32) (l3_1 : Int32) (v1 : Nat → Int32) (f1 : Nat → Nat → Int32), XI v1 → v1 0 = (v 0) → v1 1 = (v 1) → v1 7 = (v 7) → v1 8 = (v 8) → v1 9 = (v 9) → v1 10 = (v 10) → v1 31 = (v 31) → v1 32 = (v 32) → ((0 : Int) ≤ l3_1.toInt ∧ l3_1.toInt ≤ 2147483647) → KV [] v1 v → KF [13, 14] f1 f → (2147483647 - l3_1.toInt).toNat < n1 → ∀ (H : Heap) (locs : List Loc) (ls : Array Slot), va_P (dC, dI) vwCl (XW cy x0 x v1 f1) H → va_D A (XW cy x0 x v1 f1) → va_S A s.heap H locs → lv_has ls 4 [(3, .int l3_1), (2, .int l2_1), (0, .ref (x 21)), (1, .int p1)] → W p l e { frames := 5, cells := 0, slots := 0, locals := 155 } s m ([.ref (x 21), .int p1] : List Value).toArray below meth c H locs 0 0 Q (F0 m 4 ls []) := by
    intro n1
    induction n1 with
    | zero => intro l2_1 l3_1 v1 f1 hIv1 hq0_v1 hq1_v1 hq7_v1 hq8_v1 hq9_v1 hq10_v1 hq31_v1 hq32_v1 hr3_1 hM_v1 hA_f1 hm; exact absurd hm (Nat.not_lt_zero _)
    | succ n1 ih1 =>
      intro l2_1 l3_1 v1 f1 hIv1 hq0_v1 hq1_v1 hq7_v1 hq8_v1 hq9_v1 hq10_v1 hq31_v1 hq32_v1 hr3_1 hM_v1 hA_f1 hm1 H locs ls hP hD hS hl
      refine lv_iload_n hx hb dX1_fittingCoats_4 rfl (lv_at hl 0 rfl) ?_
      refine lv_aload_n hx hb dX1_fittingCoats_5 rfl (lv_at hl 2 rfl) ?_
      refine va_get (D := (dC, dI)) (ci := 1) (v := .ref (x 26)) (C := RX1) (T := TX1) (N := 2) hx hb hts inB_1 hown hE.1 hP 22 rfl rfl 0 (by decide) (hts _ k_318) (fun _ h9 => h9) rfl dX1_fittingCoats_6 ?_
      refine va_getN (D := (dC, dI)) (ci := 7) (v := .int (v1 32)) (C := RX7) (T := TX7) (N := 10) hx hb hts inB_7 hown hE.1 hP 27 rfl rfl 4 (by decide) (va_Nw.use rfl (hE.2 _ k_226)) (fun _ h9 => h9) rfl dX1_fittingCoats_9 ?_
      refine tI (y := (v 32)) hq32_v1 ?_
      have b32_v : 0 ≤ (v 32).toInt ∧ (v 32).toInt ≤ 6 := XI.b hIv 32 (by decide)
      refine lv_icmp_ge (tgt := 36) hx hb dX1_fittingCoats_12 (by decide) (fun c2 => ?_) (fun c2 => ?_)
      · skip
        have zc2 : (v 32).toInt ≤ l3_1.toInt := by rw [fa_le] at c2; exact c2
        have rg3 := fb_rng l3_1
        have rg4 := fb_rng (v 32)
        refine lv_iload_n hx hb dX1_fittingCoats_36 rfl (lv_at hl 1 rfl) ?_
        exact ret l2_1 (v1, f1) _ _ _ _ _ _ rfl ⟨hM_v1, hA_f1, hIv1, (show v1 0 = v 0 from hq0_v1), (show v1 1 = v 1 from hq1_v1), (show v1 7 = v 7 from hq7_v1), (show v1 8 = v 8 from hq8_v1), (show v1 9 = v 9 from hq9_v1), (show v1 10 = v 10 from hq10_v1), (show v1 31 = v 31 from hq31_v1), (show v1 32 = v 32 from hq32_v1)⟩ hP hD hS dX1_fittingCoats_37 (Nat.le_refl _) (Nat.le_refl _)
      · skip
        have zc2 : ¬ ((v 32).toInt ≤ l3_1.toInt) := by rw [fa_le] at c2; exact c2
        have rg5 := fb_rng l3_1
        have rg6 := fb_rng (v 32)
        refine lv_aload_n hx hb dX1_fittingCoats_15 rfl (lv_at hl 2 rfl) ?_
        refine lv_iload_n hx hb dX1_fittingCoats_16 rfl (lv_at hl 3 rfl) ?_
        refine lv_iload_n hx hb dX1_fittingCoats_17 rfl (lv_at hl 0 rfl) ?_
        refine cbVi (n := 2) (rest := []) hx hb hml hown hts hE hP hD hS hA (sX_X1_fits_1 0 l dC dI cy x0 x p1 l3_1 v1 f1 hIv1 ) k_817 k_818 k_819 k_106 k_820 (by decide +kernel) ⟨Nat.le_of_ble_eq_true rfl, Nat.le_of_ble_eq_true rfl⟩ 22 1 rfl rfl (rfl) hl.1 rfl (Nat.le_of_ble_eq_true rfl) dX1_fittingCoats_18 (fun r7 u H locs hw hP hD hS => ?_)
        obtain ⟨hG8, hw⟩ := hw
        obtain ⟨v9, f10⟩ := u
        obtain ⟨kV_v9, kF_f10, hIv9, hk0_v9, hk1_v9, hk7_v9, hk8_v9, hk9_v9, hk10_v9, hk31_v9, hk32_v9, hw⟩ := hw
        have hM_v9 : KV [] v9 v := KV.tr kV_v9 hM_v1 rfl
        have hA_f10 : KF [13, 14] f10 f := KF.tr kF_f10 hA_f1 rfl
        have hP : va_P (dC, dI) vwCl (XW cy x0 x v9 f10) H := hP
        have hD : va_D A (XW cy x0 x v9 f10) := hD
        have hq0_v9 : v9 0 = (v 0) := hk0_v9.trans hq0_v1
        have hq1_v9 : v9 1 = (v 1) := hk1_v9.trans hq1_v1
        have hq7_v9 : v9 7 = (v 7) := hk7_v9.trans hq7_v1
        have hq8_v9 : v9 8 = (v 8) := hk8_v9.trans hq8_v1
        have hq9_v9 : v9 9 = (v 9) := hk9_v9.trans hq9_v1
        have hq10_v9 : v9 10 = (v 10) := hk10_v9.trans hq10_v1
        have hq31_v9 : v9 31 = (v 31) := hk31_v9.trans hq31_v1
        have hq32_v9 : v9 32 = (v 32) := hk32_v9.trans hq32_v1
        rcases hw with ⟨g11⟩ | ⟨g11⟩
        · skip
          subst g11
          refine lv_if_eq (tgt := 30) hx hb dX1_fittingCoats_21 (by decide) (fun c0 => absurd c0 (by decide)) (fun _ => ?_)
          refine lv_iload_n hx hb dX1_fittingCoats_24 rfl (lv_at hl 1 rfl) ?_
          refine lv_iconst (v := 1) hx hb dX1_fittingCoats_25 (by decide) ?_
          refine lv_iload_n hx hb dX1_fittingCoats_26 rfl (lv_at hl 0 rfl) ?_
          refine lv_ishl hx hb dX1_fittingCoats_27 ?_
          refine lv_topi (fun t12 et12 => ?_)
          have zt12 : 1 ≤ t12.toInt ∧ t12.toInt ≤ 32 := by rw [et12]; exact shl1_rng (by omega) (by omega)
          refine lv_ior hx hb dX1_fittingCoats_28 ?_
          refine lv_topi (fun t13 et13 => ?_)
          refine lv_istore_n (lv' := [(2, .int t13), (3, .int l3_1), (0, .ref (x 21)), (1, .int p1)]) hx hb dX1_fittingCoats_29 rfl hl (by decide) rfl (fun ls hl => ?_)
          obtain ⟨t14, et14⟩ : ∃ y : Int32, y = l3_1 + 1 := ⟨_, rfl⟩
          have zt14 : t14.toInt = l3_1.toInt + 1 := by rw [et14]; exact add_i rfl (by decide) (by omega) (by omega)
          refine lv_iinc (v := t14) (lv' := [(3, .int t14), (2, .int t13), (0, .ref (x 21)), (1, .int p1)]) hx hb dX1_fittingCoats_30 hl (k := 1) rfl (by rw [et14]; rfl) (by decide) rfl (fun ls hl => ?_)
          refine lv_goto (tgt := 4) hx hb dX1_fittingCoats_33 (by decide) ?_
          have rg15 := fb_rng t14
          exact ih1 t13 t14 v9 f10 hIv9 hq0_v9 hq1_v9 hq7_v9 hq8_v9 hq9_v9 hq10_v9 hq31_v9 hq32_v9 ⟨show (0 : Int) ≤ t14.toInt by omega, show t14.toInt ≤ (2147483647 : Int) by omega⟩ hM_v9 hA_f10 (by show (2147483647 - t14.toInt).toNat < n1; omega) _ _ _ hP hD hS (lv_sub hl [0, 1, 2, 3] rfl)
        · skip
          subst g11
          refine lv_if_eq (tgt := 30) hx hb dX1_fittingCoats_21 (by decide) (fun _ => ?_) (fun c0 => absurd (by decide) c0)
          obtain ⟨t16, et16⟩ : ∃ y : Int32, y = l3_1 + 1 := ⟨_, rfl⟩
          have zt16 : t16.toInt = l3_1.toInt + 1 := by rw [et16]; exact add_i rfl (by decide) (by omega) (by omega)
          refine lv_iinc (v := t16) (lv' := [(3, .int t16), (2, .int l2_1), (0, .ref (x 21)), (1, .int p1)]) hx hb dX1_fittingCoats_30 hl (k := 0) rfl (by rw [et16]; rfl) (by decide) rfl (fun ls hl => ?_)
          refine lv_goto (tgt := 4) hx hb dX1_fittingCoats_33 (by decide) ?_
          have rg17 := fb_rng t16
          exact ih1 l2_1 t16 v9 f10 hIv9 hq0_v9 hq1_v9 hq7_v9 hq8_v9 hq9_v9 hq10_v9 hq31_v9 hq32_v9 ⟨show (0 : Int) ≤ t16.toInt by omega, show t16.toInt ≤ (2147483647 : Int) by omega⟩ hM_v9 hA_f10 (by show (2147483647 - t16.toInt).toNat < n1; omega) _ _ _ hP hD hS (lv_sub hl [0, 1, 2, 3] rfl)
  exact lp1 _ 0 0 v f hIv rfl rfl rfl rfl rfl rfl rfl rfl ⟨by decide, by decide⟩ hM_v hA_f (Nat.lt_succ_self _) _ _ _ hP hD hS (lv_sub hl [0, 1, 2, 3] rfl)
set_option maxHeartbeats 4000000 in
set_option maxRecDepth 100000 in
theorem sX_X10_man_1 (l : Launch) (dC : Nat → ClassId) (dI : Nat → Nat → Nat) (cy : Nat → ClassId) (x0 : Nat) (x : Nat → Nat) (p1 : Int32) (p2 : Int32) (v : Nat → Int32) (f : Nat → Nat → Int32) (hIv : XI v)  : ctI l (dC, dI) cy yX10_man cX10_man 3 .int 6 178 0 0 ((Nat → Int32) × (Nat → Nat → Int32)) [.ref x0, .int p1, .int p2] (XW cy x0 x v f) (fun r u => KV [] u.1 v ∧ KF [13, 14] u.2 f ∧ XI u.1 ∧ u.1 0 = v 0 ∧ u.1 1 = v 1 ∧ u.1 7 = v 7 ∧ u.1 8 = v 8 ∧ u.1 9 = v 9 ∧ u.1 10 = v 10 ∧ u.1 31 = v 31 ∧ u.1 32 = v 32) (fun u => XW cy x0 x u.1 u.2) := by
  refine ctI_of (by decide) (Nat.le_of_ble_eq_true rfl) (fun p e s m below meth c A ls Q hx hb hml hts hown hE hP hD hA hl ret => ?_)
  have hM_v : KV [] v v := fun _ _ => rfl
  have hA_f : KF [13, 14] f f := fun _ _ => rfl
  have hown : s.vm.findClass RX10 = some m.cls := hown
  have hS : va_S A s.heap s.heap [] := va_S.rf
  have hl : lv_has ls 3 [(0, .ref x0), (1, .int p1), (2, .int p2)] := hl
  refine lv_aload_n hx hb dX10_man_0 rfl (lv_at hl 0 rfl) ?_
  refine va_get (D := (dC, dI)) (ci := 10) (v := .ref (x 26)) (C := RX10) (T := TX10) (N := 10) hx hb hts inB_10 hown hE.1 hP 0 rfl rfl 2 (by decide) (hts _ k_493) (fun _ h9 => h9) rfl dX10_man_1 ?_
  refine lv_iload_n hx hb dX10_man_4 rfl (lv_at hl 1 rfl) ?_
  refine cbVi (n := 1) (rest := []) hx hb hml hown hts hE hP hD hS hA (sX_X7_hasMan_1 0 l dC dI cy x0 x p1 v f hIv ) k_802 k_307 k_308 k_104 k_309 (by decide +kernel) ⟨Nat.le_of_ble_eq_true rfl, Nat.le_of_ble_eq_true rfl⟩ 27 7 rfl rfl (rfl) hl.1 rfl (Nat.le_of_ble_eq_true rfl) dX10_man_5 (fun r1 u H locs hw hP hD hS => ?_)
  obtain ⟨hG2, hw⟩ := hw
  rcases hw with ⟨g3, g3_0, g3_1, g3_2⟩ | ⟨g3⟩
  · skip
    subst g3
    refine lv_if_ne (tgt := 14) hx hb dX10_man_8 (by decide) (fun _ => ?_) (fun c0 => absurd c0 (by decide))
    refine lv_iload_n hx hb dX10_man_14 rfl (lv_at hl 2 rfl) ?_
    by_cases c4 : p2 = 0
    · skip
      refine lv_tableIn (off := 33) (tgt := 48) hx hb dX10_man_15 (by rw [c4]; decide) (by rw [c4]; decide) (by rw [c4]; decide) (by decide) ?_
      have zc4 : p2.toInt = 0 := by rw [fa_eq, show (0 : Int32).toInt = 0 from by decide] at c4; exact c4
      refine lv_aload_n hx hb dX10_man_48 rfl (lv_at hl 0 rfl) ?_
      refine va_get (D := (dC, dI)) (ci := 10) (v := .ref (x 26)) (C := RX10) (T := TX10) (N := 10) hx hb hts inB_10 hown hE.1 hP 0 rfl rfl 2 (by decide) (hts _ k_493) (fun _ h9 => h9) rfl dX10_man_49 ?_
      refine lv_iconst (v := 0) hx hb dX10_man_52 (by decide) ?_
      refine lv_iload_n hx hb dX10_man_53 rfl (lv_at hl 1 rfl) ?_
      refine cbVi (n := 2) (rest := []) hx hb hml hown hts hE hP hD hS hA (sX_X7_manPart_1 0 l dC dI cy x0 x 0 p1 v f hIv ) k_803 k_303 k_304 k_104 k_305 (by decide +kernel) ⟨Nat.le_of_ble_eq_true rfl, Nat.le_of_ble_eq_true rfl⟩ 27 7 rfl rfl (rfl) hl.1 rfl (Nat.le_of_ble_eq_true rfl) dX10_man_54 (fun r5 u H locs hw hP hD hS => ?_)
      have hG6 := hw
      exact ret r5 (v, f) _ _ _ _ _ _ rfl ⟨hM_v, hA_f, hIv, rfl, rfl, rfl, rfl, rfl, rfl, rfl, rfl⟩ hP hD hS dX10_man_57 (Nat.le_refl _) (Nat.le_refl _)
    · skip
      have zc4 : ¬ (p2.toInt = 0) := by rw [fa_eq, show (0 : Int32).toInt = 0 from by decide] at c4; exact c4
      by_cases c7 : p2 = 1
      · skip
        refine lv_tableIn (off := 43) (tgt := 58) hx hb dX10_man_15 (by rw [c7]; decide) (by rw [c7]; decide) (by rw [c7]; decide) (by decide) ?_
        have zc7 : p2.toInt = 1 := by rw [fa_eq, show (1 : Int32).toInt = 1 from by decide] at c7; exact c7
        refine lv_aload_n hx hb dX10_man_58 rfl (lv_at hl 0 rfl) ?_
        refine va_get (D := (dC, dI)) (ci := 10) (v := .ref (x 21)) (C := RX10) (T := TX10) (N := 10) hx hb hts inB_10 hown hE.1 hP 0 rfl rfl 3 (by decide) (hts _ k_494) (fun _ h9 => h9) rfl dX10_man_59 ?_
        refine lv_iload_n hx hb dX10_man_62 rfl (lv_at hl 1 rfl) ?_
        refine cbVi (n := 1) (rest := []) hx hb hml hown hts hE hP hD hS hA (sX_X1_manWide_1 0 l dC dI cy x0 x p1 v f hIv ) k_804 k_805 k_806 k_106 k_807 (by decide +kernel) ⟨Nat.le_of_ble_eq_true rfl, Nat.le_of_ble_eq_true rfl⟩ 22 1 rfl rfl (rfl) hl.1 rfl (Nat.le_of_ble_eq_true rfl) dX10_man_63 (fun r8 u H locs hw hP hD hS => ?_)
        have hG9 := hw
        exact ret r8 (v, f) _ _ _ _ _ _ rfl ⟨hM_v, hA_f, hIv, rfl, rfl, rfl, rfl, rfl, rfl, rfl, rfl⟩ hP hD hS dX10_man_66 (Nat.le_refl _) (Nat.le_refl _)
      · skip
        have zc7 : ¬ (p2.toInt = 1) := by rw [fa_eq, show (1 : Int32).toInt = 1 from by decide] at c7; exact c7
        by_cases c10 : p2 = 2
        · skip
          refine lv_tableIn (off := 52) (tgt := 67) hx hb dX10_man_15 (by rw [c10]; decide) (by rw [c10]; decide) (by rw [c10]; decide) (by decide) ?_
          have zc10 : p2.toInt = 2 := by rw [fa_eq, show (2 : Int32).toInt = 2 from by decide] at c10; exact c10
          refine lv_aload_n hx hb dX10_man_67 rfl (lv_at hl 0 rfl) ?_
          refine va_get (D := (dC, dI)) (ci := 10) (v := .ref (x 26)) (C := RX10) (T := TX10) (N := 10) hx hb hts inB_10 hown hE.1 hP 0 rfl rfl 2 (by decide) (hts _ k_493) (fun _ h9 => h9) rfl dX10_man_68 ?_
          refine lv_iconst (v := 2) hx hb dX10_man_71 (by decide) ?_
          refine lv_iload_n hx hb dX10_man_72 rfl (lv_at hl 1 rfl) ?_
          refine cbVi (n := 2) (rest := []) hx hb hml hown hts hE hP hD hS hA (sX_X7_manPart_1 0 l dC dI cy x0 x 2 p1 v f hIv ) k_803 k_303 k_304 k_104 k_305 (by decide +kernel) ⟨Nat.le_of_ble_eq_true rfl, Nat.le_of_ble_eq_true rfl⟩ 27 7 rfl rfl (rfl) hl.1 rfl (Nat.le_of_ble_eq_true rfl) dX10_man_73 (fun r11 u H locs hw hP hD hS => ?_)
          have hG12 := hw
          exact ret r11 (v, f) _ _ _ _ _ _ rfl ⟨hM_v, hA_f, hIv, rfl, rfl, rfl, rfl, rfl, rfl, rfl, rfl⟩ hP hD hS dX10_man_76 (Nat.le_refl _) (Nat.le_refl _)
        · skip
          have zc10 : ¬ (p2.toInt = 2) := by rw [fa_eq, show (2 : Int32).toInt = 2 from by decide] at c10; exact c10
          by_cases c13 : p2 = 3
          · skip
            refine lv_tableIn (off := 62) (tgt := 77) hx hb dX10_man_15 (by rw [c13]; decide) (by rw [c13]; decide) (by rw [c13]; decide) (by decide) ?_
            have zc13 : p2.toInt = 3 := by rw [fa_eq, show (3 : Int32).toInt = 3 from by decide] at c13; exact c13
            refine lv_aload_n hx hb dX10_man_77 rfl (lv_at hl 0 rfl) ?_
            refine va_get (D := (dC, dI)) (ci := 10) (v := .ref (x 21)) (C := RX10) (T := TX10) (N := 10) hx hb hts inB_10 hown hE.1 hP 0 rfl rfl 3 (by decide) (hts _ k_494) (fun _ h9 => h9) rfl dX10_man_78 ?_
            refine lv_iload_n hx hb dX10_man_81 rfl (lv_at hl 1 rfl) ?_
            refine cbVi (n := 1) (rest := []) hx hb hml hown hts hE hP hD hS hA (sX_X1_wears_1 0 l dC dI cy x0 x p1 v f hIv ) k_809 k_810 k_811 k_106 k_812 (by decide +kernel) ⟨Nat.le_of_ble_eq_true rfl, Nat.le_of_ble_eq_true rfl⟩ 22 1 rfl rfl (rfl) hl.1 rfl (Nat.le_of_ble_eq_true rfl) dX10_man_82 (fun r14 u H locs hw hP hD hS => ?_)
            have hG15 := hw
            exact ret r14 (v, f) _ _ _ _ _ _ rfl ⟨hM_v, hA_f, hIv, rfl, rfl, rfl, rfl, rfl, rfl, rfl, rfl⟩ hP hD hS dX10_man_85 (Nat.le_refl _) (Nat.le_refl _)
          · skip
            have zc13 : ¬ (p2.toInt = 3) := by rw [fa_eq, show (3 : Int32).toInt = 3 from by decide] at c13; exact c13
            by_cases c16 : p2 = 4
            · skip
              refine lv_tableIn (off := 71) (tgt := 86) hx hb dX10_man_15 (by rw [c16]; decide) (by rw [c16]; decide) (by rw [c16]; decide) (by decide) ?_
              have zc16 : p2.toInt = 4 := by rw [fa_eq, show (4 : Int32).toInt = 4 from by decide] at c16; exact c16
              refine lv_aload_n hx hb dX10_man_86 rfl (lv_at hl 0 rfl) ?_
              refine va_get (D := (dC, dI)) (ci := 10) (v := .ref (x 21)) (C := RX10) (T := TX10) (N := 10) hx hb hts inB_10 hown hE.1 hP 0 rfl rfl 3 (by decide) (hts _ k_494) (fun _ h9 => h9) rfl dX10_man_87 ?_
              refine lv_iload_n hx hb dX10_man_90 rfl (lv_at hl 1 rfl) ?_
              refine cbVi (n := 1) (rest := []) hx hb hml hown hts hE hP hD hS hA (sX_X1_fittingCoats_1 l dC dI cy x0 x p1 v f hIv ) k_813 k_814 k_815 k_106 k_816 (by decide +kernel) ⟨Nat.le_of_ble_eq_true rfl, Nat.le_of_ble_eq_true rfl⟩ 22 1 rfl rfl (rfl) hl.1 rfl (Nat.le_of_ble_eq_true rfl) dX10_man_91 (fun r17 u H locs hw hP hD hS => ?_)
              obtain ⟨v18, f19⟩ := u
              obtain ⟨kV_v18, kF_f19, hIv18, hk0_v18, hk1_v18, hk7_v18, hk8_v18, hk9_v18, hk10_v18, hk31_v18, hk32_v18⟩ := hw
              have hM_v18 : KV [] v18 v := KV.tr kV_v18 hM_v rfl
              have hA_f19 : KF [13, 14] f19 f := KF.tr kF_f19 hA_f rfl
              have hP : va_P (dC, dI) vwCl (XW cy x0 x v18 f19) H := hP
              have hD : va_D A (XW cy x0 x v18 f19) := hD
              have hq0_v18 : v18 0 = (v 0) := hk0_v18
              have hq1_v18 : v18 1 = (v 1) := hk1_v18
              have hq7_v18 : v18 7 = (v 7) := hk7_v18
              have hq8_v18 : v18 8 = (v 8) := hk8_v18
              have hq9_v18 : v18 9 = (v 9) := hk9_v18
              have hq10_v18 : v18 10 = (v 10) := hk10_v18
              have hq31_v18 : v18 31 = (v 31) := hk31_v18
              have hq32_v18 : v18 32 = (v 32) := hk32_v18
              exact ret r17 (v18, f19) _ _ _ _ _ _ rfl ⟨hM_v18, hA_f19, hIv18, hk0_v18, hk1_v18, hk7_v18, hk8_v18, hk9_v18, hk10_v18, hk31_v18, hk32_v18⟩ hP hD hS dX10_man_94 (Nat.le_refl _) (Nat.le_refl _)
            · skip
              have zc16 : ¬ (p2.toInt = 4) := by rw [fa_eq, show (4 : Int32).toInt = 4 from by decide] at c16; exact c16
              refine lv_tableOut (tgt := 95) hx hb dX10_man_15 (by omega) (by decide) ?_
              refine lv_bipush (v := (-2)) hx hb dX10_man_95 (by decide) ?_
              exact ret (-2) (v, f) _ _ _ _ _ _ rfl ⟨hM_v, hA_f, hIv, rfl, rfl, rfl, rfl, rfl, rfl, rfl, rfl⟩ hP hD hS dX10_man_97 (Nat.le_refl _) (Nat.le_refl _)
  · skip
    subst g3
    refine lv_if_ne (tgt := 14) hx hb dX10_man_8 (by decide) (fun c0 => absurd (by decide) c0) (fun _ => ?_)
    refine lv_bipush (v := (-2)) hx hb dX10_man_11 (by decide) ?_
    exact ret (-2) (v, f) _ _ _ _ _ _ rfl ⟨hM_v, hA_f, hIv, rfl, rfl, rfl, rfl, rfl, rfl, rfl, rfl⟩ hP hD hS dX10_man_13 (Nat.le_refl _) (Nat.le_refl _)
set_option maxHeartbeats 4000000 in
set_option maxRecDepth 100000 in
theorem sX_X10_coat_1 (l : Launch) (dC : Nat → ClassId) (dI : Nat → Nat → Nat) (cy : Nat → ClassId) (x0 : Nat) (x : Nat → Nat) (p1 : Int32) (p2 : Int32) (v : Nat → Int32) (f : Nat → Nat → Int32) (hIv : XI v)  : ctI l (dC, dI) cy yX10_coat cX10_coat 3 .int 4 124 0 0 Unit [.ref x0, .int p1, .int p2] (XW cy x0 x v f) (fun r u => True) (fun u => XW cy x0 x v f) := by
  refine ctI_of (by decide) (Nat.le_of_ble_eq_true rfl) (fun p e s m below meth c A ls Q hx hb hml hts hown hE hP hD hA hl ret => ?_)
  have hown : s.vm.findClass RX10 = some m.cls := hown
  have hS : va_S A s.heap s.heap [] := va_S.rf
  have hl : lv_has ls 3 [(0, .ref x0), (1, .int p1), (2, .int p2)] := hl
  refine lv_aload_n hx hb dX10_coat_0 rfl (lv_at hl 0 rfl) ?_
  refine va_get (D := (dC, dI)) (ci := 10) (v := .ref (x 26)) (C := RX10) (T := TX10) (N := 10) hx hb hts inB_10 hown hE.1 hP 0 rfl rfl 2 (by decide) (hts _ k_493) (fun _ h9 => h9) rfl dX10_coat_1 ?_
  refine lv_iload_n hx hb dX10_coat_4 rfl (lv_at hl 1 rfl) ?_
  refine cbVi (n := 1) (rest := []) hx hb hml hown hts hE hP hD hS hA (sX_X7_hasCoat_1 0 l dC dI cy x0 x p1 v f hIv ) k_848 k_315 k_316 k_104 k_317 (by decide +kernel) ⟨Nat.le_of_ble_eq_true rfl, Nat.le_of_ble_eq_true rfl⟩ 27 7 rfl rfl (rfl) hl.1 rfl (Nat.le_of_ble_eq_true rfl) dX10_coat_5 (fun r1 u H locs hw hP hD hS => ?_)
  obtain ⟨hG2, hw⟩ := hw
  rcases hw with ⟨g3, g3_0, g3_1, g3_2⟩ | ⟨g3⟩
  · skip
    subst g3
    refine lv_if_eq (tgt := 20) hx hb dX10_coat_8 (by decide) (fun c0 => absurd c0 (by decide)) (fun _ => ?_)
    refine lv_iload_n hx hb dX10_coat_11 rfl (lv_at hl 2 rfl) ?_
    refine lv_if_lt (tgt := 20) hx hb dX10_coat_12 (by decide) (fun c4 => ?_) (fun c4 => ?_)
    · skip
      have zc4 : p2.toInt < 0 := by rw [fa_lt, show (0 : Int32).toInt = 0 from by decide] at c4; exact c4
      refine lv_bipush (v := (-2)) hx hb dX10_coat_20 (by decide) ?_
      exact ret (-2) () _ _ _ _ _ _ rfl trivial hP hD hS dX10_coat_22 (Nat.le_refl _) (Nat.le_refl _)
    · skip
      have zc4 : ¬ (p2.toInt < 0) := by rw [fa_lt, show (0 : Int32).toInt = 0 from by decide] at c4; exact c4
      refine lv_iload_n hx hb dX10_coat_15 rfl (lv_at hl 2 rfl) ?_
      refine lv_iconst (v := 5) hx hb dX10_coat_16 (by decide) ?_
      refine lv_icmp_le (tgt := 23) hx hb dX10_coat_17 (by decide) (fun c5 => ?_) (fun c5 => ?_)
      · skip
        have zc5 : p2.toInt ≤ 5 := by rw [fa_le, show (5 : Int32).toInt = 5 from by decide] at c5; exact c5
        refine lv_iload_n hx hb dX10_coat_23 rfl (lv_at hl 2 rfl) ?_
        refine lv_iconst (v := 5) hx hb dX10_coat_24 (by decide) ?_
        refine lv_icmp_ne (tgt := 39) hx hb dX10_coat_25 (by decide) (fun c6 => ?_) (fun c6 => ?_)
        · skip
          have zc6 : ¬ (p2.toInt = 5) := by rw [fa_eq, show (5 : Int32).toInt = 5 from by decide] at c6; exact c6
          refine lv_aload_n hx hb dX10_coat_39 rfl (lv_at hl 0 rfl) ?_
          refine va_get (D := (dC, dI)) (ci := 10) (v := .ref (x 21)) (C := RX10) (T := TX10) (N := 10) hx hb hts inB_10 hown hE.1 hP 0 rfl rfl 3 (by decide) (hts _ k_494) (fun _ h9 => h9) rfl dX10_coat_40 ?_
          refine lv_iload_n hx hb dX10_coat_43 rfl (lv_at hl 2 rfl) ?_
          refine lv_iload_n hx hb dX10_coat_44 rfl (lv_at hl 1 rfl) ?_
          refine cbVi (n := 2) (rest := []) hx hb hml hown hts hE hP hD hS hA (sX_X1_part_1 0 l dC dI cy x0 x p2 p1 v f hIv ) k_854 k_828 k_829 k_106 k_830 (by decide +kernel) ⟨Nat.le_of_ble_eq_true rfl, Nat.le_of_ble_eq_true rfl⟩ 22 1 rfl rfl (rfl) hl.1 rfl (Nat.le_of_ble_eq_true rfl) dX10_coat_45 (fun r7 u H locs hw hP hD hS => ?_)
          have hG8 := hw
          exact ret r7 () _ _ _ _ _ _ rfl trivial hP hD hS dX10_coat_48 (Nat.le_refl _) (Nat.le_refl _)
        · skip
          have zc6 : p2.toInt = 5 := by rw [fa_eq, show (5 : Int32).toInt = 5 from by decide] at c6; exact c6
          refine lv_aload_n hx hb dX10_coat_28 rfl (lv_at hl 0 rfl) ?_
          refine va_get (D := (dC, dI)) (ci := 10) (v := .ref (x 21)) (C := RX10) (T := TX10) (N := 10) hx hb hts inB_10 hown hE.1 hP 0 rfl rfl 3 (by decide) (hts _ k_494) (fun _ h9 => h9) rfl dX10_coat_29 ?_
          refine lv_iload_n hx hb dX10_coat_32 rfl (lv_at hl 1 rfl) ?_
          refine cbVi (n := 1) (rest := []) hx hb hml hown hts hE hP hD hS hA (sX_X1_wearer_1 0 l dC dI cy x0 x p1 v f hIv ) k_849 k_850 k_851 k_106 k_852 (by decide +kernel) ⟨Nat.le_of_ble_eq_true rfl, Nat.le_of_ble_eq_true rfl⟩ 22 1 rfl rfl (rfl) hl.1 rfl (Nat.le_of_ble_eq_true rfl) dX10_coat_33 (fun r9 u H locs hw hP hD hS => ?_)
          have hG10 := hw
          refine lv_goto (tgt := 48) hx hb dX10_coat_36 (by decide) ?_
          exact ret r9 () _ _ _ _ _ _ rfl trivial hP hD hS dX10_coat_48 (Nat.le_refl _) (Nat.le_refl _)
      · skip
        have zc5 : ¬ (p2.toInt ≤ 5) := by rw [fa_le, show (5 : Int32).toInt = 5 from by decide] at c5; exact c5
        refine lv_bipush (v := (-2)) hx hb dX10_coat_20 (by decide) ?_
        exact ret (-2) () _ _ _ _ _ _ rfl trivial hP hD hS dX10_coat_22 (Nat.le_refl _) (Nat.le_refl _)
  · skip
    subst g3
    refine lv_if_eq (tgt := 20) hx hb dX10_coat_8 (by decide) (fun _ => ?_) (fun c0 => absurd (by decide) c0)
    refine lv_bipush (v := (-2)) hx hb dX10_coat_20 (by decide) ?_
    exact ret (-2) () _ _ _ _ _ _ rfl trivial hP hD hS dX10_coat_22 (Nat.le_refl _) (Nat.le_refl _)
set_option maxHeartbeats 4000000 in
set_option maxRecDepth 100000 in
theorem sX_X1_copy_1 (l : Launch) (dC : Nat → ClassId) (dI : Nat → Nat → Nat) (cy : Nat → ClassId) (x0 : Nat) (x : Nat → Nat)  (v : Nat → Int32) (f : Nat → Nat → Int32) (hIv : XI v)  : ctV l (dC, dI) cy yX1_copy cX1_copy 2 1 100 0 0 ((Nat → Int32) × (Nat → Nat → Int32)) [.ref (x 27), .ref (x 21)] (XW cy x0 x v f) (fun u => KV [] u.1 v ∧ KF [18] u.2 f ∧ XI u.1 ∧ u.1 0 = v 0 ∧ u.1 1 = v 1 ∧ u.1 7 = v 7 ∧ u.1 8 = v 8 ∧ u.1 9 = v 9 ∧ u.1 10 = v 10 ∧ u.1 31 = v 31 ∧ u.1 32 = v 32) (fun u => XW cy x0 x u.1 u.2) := by
  refine ctV_of (by decide) (Nat.le_of_ble_eq_true rfl) (fun p e s m below meth c A ls Q hx hb hml hts hown hnm hE hP hD hA hl ret => ?_)
  have hM_v : KV [] v v := fun _ _ => rfl
  have hA_f : KF [18] f f := fun _ _ => rfl
  have hown : s.vm.findClass RX1 = some m.cls := hown
  have hS : va_S A s.heap s.heap [] := va_S.rf
  have hl : lv_has ls 2 [(0, .ref (x 27)), (1, .ref (x 21))] := hl
  refine lv_aload_n hx hb dX1_copy_0 rfl (lv_at hl 1 rfl) ?_
  refine va_get (D := (dC, dI)) (ci := 1) (v := .ref (x 22)) (C := RX1) (T := TX1) (N := 2) hx hb hts inB_1 hown hE.1 hP 22 rfl rfl 1 (by decide) (hts _ k_319) (fun _ h9 => h9) rfl dX1_copy_1 ?_
  refine lv_iconst (v := 0) hx hb dX1_copy_4 (by decide) ?_
  refine lv_aload_n hx hb dX1_copy_5 rfl (lv_at hl 0 rfl) ?_
  refine va_get (D := (dC, dI)) (ci := 1) (v := .ref (x 28)) (C := RX1) (T := TX1) (N := 2) hx hb hts inB_1 hown hE.1 hP 28 rfl rfl 1 (by decide) (hts _ k_319) (fun _ h9 => h9) rfl dX1_copy_6 ?_
  refine lv_iconst (v := 0) hx hb dX1_copy_9 (by decide) ?_
  refine lv_bipush (v := 44) hx hb dX1_copy_10 (by decide) ?_
  refine cpG (zs := 0) (zd := 0) (zn := 44) hx hb (by rw [hml]; exact hl.1.symm) hown (hts _ k_335) (hts _ k_337) (hts _ k_336) (hts _ k_108) hE hP hD hS 23 29 rfl rfl (by decide) (by decide) (by decide) (by omega) (by omega) (by omega) (by omega) (by omega) (Nat.le_of_ble_eq_true rfl) (Nat.le_of_ble_eq_true rfl) dX1_copy_12 (fun g9 H locs hP hD hS => ?_)
  obtain ⟨f1, ef1, hP, hD⟩ : ∃ fz9, fz9 = upd2 f 18 g9 ∧ va_P (dC, dI) vwCl (XW cy x0 x v fz9) H ∧ va_D A (XW cy x0 x v fz9) := ⟨_, rfl, hP, hD⟩
  have hA_f1 : KF [18] f1 f := by rw [ef1]; exact KF.up hA_f rfl
  exact ret (v, f1) _ _ _ _ _ _ ⟨hM_v, hA_f1, hIv, rfl, rfl, rfl, rfl, rfl, rfl, rfl, rfl⟩ hP hD hS dX1_copy_15 (Nat.le_refl _) (Nat.le_refl _)
def gsX_X1_wears_2 (NF : Nat) (p1 : Int32) (v : Nat → Int32) (f : Nat → Nat → Int32) : Int32 :=
  if gsX_X7_hasMan_1 NF p1 v f = 1 then
    let t4 : Int32 := 6 + p1
    let t6 : Int32 := f 18 (t4).toNatClampNeg
    t6
  else
    (-1)
theorem gsX_X1_wears_2_q0 {NF : Nat} {p1 : Int32} {v : Nat → Int32} {f : Nat → Nat → Int32} {t4 : Int32} {t6 : Int32} (h0 : gsX_X7_hasMan_1 NF p1 v f = 1) (h1 : t4 = 6 + p1) (h2 : t6 = f 18 (t4).toNatClampNeg) : gsX_X1_wears_2 NF p1 v f = t6 := by
  subst h1 h2
  simp only [gsX_X1_wears_2, h0, ite11, ite01, if_true, if_false]
theorem gsX_X1_wears_2_q1 {NF : Nat} {p1 : Int32} {v : Nat → Int32} {f : Nat → Nat → Int32} (h0 : gsX_X7_hasMan_1 NF p1 v f = 0) : gsX_X1_wears_2 NF p1 v f = (-1) := by
  simp only [gsX_X1_wears_2, h0, ite11, ite01, if_true, if_false]
set_option maxHeartbeats 4000000 in
set_option maxRecDepth 100000 in
theorem sX_X1_wears_2 (NF : Nat) (l : Launch) (dC : Nat → ClassId) (dI : Nat → Nat → Nat) (cy : Nat → ClassId) (x0 : Nat) (x : Nat → Nat) (p1 : Int32) (v : Nat → Int32) (f : Nat → Nat → Int32) (hIv : XI v)  : ctI l (dC, dI) cy yX1_wears cX1_wears 2 .int 2 81 0 0 Unit [.ref (x 27), .int p1] (XW cy x0 x v f) (fun r u => gsX_X1_wears_2 NF p1 v f = r) (fun u => XW cy x0 x v f) := by
  refine ctI_of (by decide) (Nat.le_of_ble_eq_true rfl) (fun p e s m below meth c A ls Q hx hb hml hts hown hE hP hD hA hl ret => ?_)
  have hown : s.vm.findClass RX1 = some m.cls := hown
  have hS : va_S A s.heap s.heap [] := va_S.rf
  have hl : lv_has ls 2 [(0, .ref (x 27)), (1, .int p1)] := hl
  refine lv_aload_n hx hb dX1_wears_0 rfl (lv_at hl 0 rfl) ?_
  refine va_get (D := (dC, dI)) (ci := 1) (v := .ref (x 26)) (C := RX1) (T := TX1) (N := 2) hx hb hts inB_1 hown hE.1 hP 28 rfl rfl 0 (by decide) (hts _ k_318) (fun _ h9 => h9) rfl dX1_wears_1 ?_
  refine lv_iload_n hx hb dX1_wears_4 rfl (lv_at hl 1 rfl) ?_
  refine cbVi (n := 1) (rest := []) hx hb hml hown hts hE hP hD hS hA (sX_X7_hasMan_1 NF l dC dI cy x0 x p1 v f hIv ) k_808 k_307 k_308 k_104 k_309 (by decide +kernel) ⟨Nat.le_of_ble_eq_true rfl, Nat.le_of_ble_eq_true rfl⟩ 27 7 rfl rfl (rfl) hl.1 rfl (Nat.le_of_ble_eq_true rfl) dX1_wears_5 (fun r1 u H locs hw hP hD hS => ?_)
  obtain ⟨hG2, hw⟩ := hw
  rcases hw with ⟨g3, g3_0, g3_1, g3_2⟩ | ⟨g3⟩
  · skip
    subst g3
    refine lv_if_eq (tgt := 23) hx hb dX1_wears_8 (by decide) (fun c0 => absurd c0 (by decide)) (fun _ => ?_)
    refine lv_aload_n hx hb dX1_wears_11 rfl (lv_at hl 0 rfl) ?_
    refine va_get (D := (dC, dI)) (ci := 1) (v := .ref (x 28)) (C := RX1) (T := TX1) (N := 2) hx hb hts inB_1 hown hE.1 hP 28 rfl rfl 1 (by decide) (hts _ k_319) (fun _ h9 => h9) rfl dX1_wears_12 ?_
    refine lv_bipush (v := 6) hx hb dX1_wears_15 (by decide) ?_
    refine lv_iload_n hx hb dX1_wears_17 rfl (lv_at hl 1 rfl) ?_
    refine lv_iadd hx hb dX1_wears_18 ?_
    refine lv_topi (fun t4 et4 => ?_)
    have rg5 := fb_rng p1
    have zt4 : t4.toInt = 6 + p1.toInt := by rw [et4]; exact add_i (by decide) rfl (by omega) (by omega)
    refine ldI hx hb hE hP 29 rfl (vp_in_iff.mpr ⟨by omega, by omega⟩) rfl rfl dX1_wears_19 ?_
    refine lv_topi (fun t6 et6 => ?_)
    refine lv_goto (tgt := 24) hx hb dX1_wears_20 (by decide) ?_
    exact ret t6 () _ _ _ _ _ _ rfl (gsX_X1_wears_2_q0 hG2 et4 et6) hP hD hS dX1_wears_24 (Nat.le_refl _) (Nat.le_refl _)
  · skip
    subst g3
    refine lv_if_eq (tgt := 23) hx hb dX1_wears_8 (by decide) (fun _ => ?_) (fun c0 => absurd (by decide) c0)
    refine lv_iconst (v := (-1)) hx hb dX1_wears_23 (by decide) ?_
    exact ret (-1) () _ _ _ _ _ _ rfl (gsX_X1_wears_2_q1 hG2) hP hD hS dX1_wears_24 (Nat.le_refl _) (Nat.le_refl _)
def gsX_X1_manWide_2 (NF : Nat) (p1 : Int32) (v : Nat → Int32) (f : Nat → Nat → Int32) : Int32 :=
  if gsX_X7_hasMan_1 NF p1 v f = 1 then
    let t4 : Int32 := f 18 (p1).toNatClampNeg
    t4
  else
    0
theorem gsX_X1_manWide_2_q0 {NF : Nat} {p1 : Int32} {v : Nat → Int32} {f : Nat → Nat → Int32} {t4 : Int32} (h0 : gsX_X7_hasMan_1 NF p1 v f = 1) (h1 : t4 = f 18 (p1).toNatClampNeg) : gsX_X1_manWide_2 NF p1 v f = t4 := by
  subst h1
  simp only [gsX_X1_manWide_2, h0, ite11, ite01, if_true, if_false]
theorem gsX_X1_manWide_2_q1 {NF : Nat} {p1 : Int32} {v : Nat → Int32} {f : Nat → Nat → Int32} (h0 : gsX_X7_hasMan_1 NF p1 v f = 0) : gsX_X1_manWide_2 NF p1 v f = 0 := by
  simp only [gsX_X1_manWide_2, h0, ite11, ite01, if_true, if_false]
set_option maxHeartbeats 4000000 in
set_option maxRecDepth 100000 in
theorem sX_X1_manWide_2 (NF : Nat) (l : Launch) (dC : Nat → ClassId) (dI : Nat → Nat → Nat) (cy : Nat → ClassId) (x0 : Nat) (x : Nat → Nat) (p1 : Int32) (v : Nat → Int32) (f : Nat → Nat → Int32) (hIv : XI v)  : ctI l (dC, dI) cy yX1_manWide cX1_manWide 2 .int 2 81 0 0 Unit [.ref (x 27), .int p1] (XW cy x0 x v f) (fun r u => gsX_X1_manWide_2 NF p1 v f = r) (fun u => XW cy x0 x v f) := by
  refine ctI_of (by decide) (Nat.le_of_ble_eq_true rfl) (fun p e s m below meth c A ls Q hx hb hml hts hown hE hP hD hA hl ret => ?_)
  have hown : s.vm.findClass RX1 = some m.cls := hown
  have hS : va_S A s.heap s.heap [] := va_S.rf
  have hl : lv_has ls 2 [(0, .ref (x 27)), (1, .int p1)] := hl
  refine lv_aload_n hx hb dX1_manWide_0 rfl (lv_at hl 0 rfl) ?_
  refine va_get (D := (dC, dI)) (ci := 1) (v := .ref (x 26)) (C := RX1) (T := TX1) (N := 2) hx hb hts inB_1 hown hE.1 hP 28 rfl rfl 0 (by decide) (hts _ k_318) (fun _ h9 => h9) rfl dX1_manWide_1 ?_
  refine lv_iload_n hx hb dX1_manWide_4 rfl (lv_at hl 1 rfl) ?_
  refine cbVi (n := 1) (rest := []) hx hb hml hown hts hE hP hD hS hA (sX_X7_hasMan_1 NF l dC dI cy x0 x p1 v f hIv ) k_808 k_307 k_308 k_104 k_309 (by decide +kernel) ⟨Nat.le_of_ble_eq_true rfl, Nat.le_of_ble_eq_true rfl⟩ 27 7 rfl rfl (rfl) hl.1 rfl (Nat.le_of_ble_eq_true rfl) dX1_manWide_5 (fun r1 u H locs hw hP hD hS => ?_)
  obtain ⟨hG2, hw⟩ := hw
  rcases hw with ⟨g3, g3_0, g3_1, g3_2⟩ | ⟨g3⟩
  · skip
    subst g3
    refine lv_if_eq (tgt := 20) hx hb dX1_manWide_8 (by decide) (fun c0 => absurd c0 (by decide)) (fun _ => ?_)
    refine lv_aload_n hx hb dX1_manWide_11 rfl (lv_at hl 0 rfl) ?_
    refine va_get (D := (dC, dI)) (ci := 1) (v := .ref (x 28)) (C := RX1) (T := TX1) (N := 2) hx hb hts inB_1 hown hE.1 hP 28 rfl rfl 1 (by decide) (hts _ k_319) (fun _ h9 => h9) rfl dX1_manWide_12 ?_
    refine lv_iload_n hx hb dX1_manWide_15 rfl (lv_at hl 1 rfl) ?_
    refine ldI hx hb hE hP 29 rfl (vp_in_iff.mpr ⟨by omega, by omega⟩) rfl rfl dX1_manWide_16 ?_
    refine lv_topi (fun t4 et4 => ?_)
    refine lv_goto (tgt := 21) hx hb dX1_manWide_17 (by decide) ?_
    exact ret t4 () _ _ _ _ _ _ rfl (gsX_X1_manWide_2_q0 hG2 et4) hP hD hS dX1_manWide_21 (Nat.le_refl _) (Nat.le_refl _)
  · skip
    subst g3
    refine lv_if_eq (tgt := 20) hx hb dX1_manWide_8 (by decide) (fun _ => ?_) (fun c0 => absurd (by decide) c0)
    refine lv_iconst (v := 0) hx hb dX1_manWide_20 (by decide) ?_
    exact ret 0 () _ _ _ _ _ _ rfl (gsX_X1_manWide_2_q1 hG2) hP hD hS dX1_manWide_21 (Nat.le_refl _) (Nat.le_refl _)
def gsX_X1_part_2 (NF : Nat) (p1 : Int32) (p2 : Int32) (v : Nat → Int32) (f : Nat → Nat → Int32) : Int32 :=
  if gsX_X7_hasCoat_1 NF p2 v f = 1 then
    if p1 < 0 then
      0
    else
      if 5 ≤ p1 then
        0
      else
        let t6 : Int32 := p1 * 6
        let t8 : Int32 := 12 + t6
        let t10 : Int32 := t8 + p2
        let t13 : Int32 := f 18 (t10).toNatClampNeg
        t13
  else
    0
theorem gsX_X1_part_2_q0 {NF : Nat} {p1 : Int32} {p2 : Int32} {v : Nat → Int32} {f : Nat → Nat → Int32} (h0 : gsX_X7_hasCoat_1 NF p2 v f = 1) (h1 : (p1 < 0)) : gsX_X1_part_2 NF p1 p2 v f = 0 := by
  simp only [gsX_X1_part_2, h0, if_pos h1, ite11, ite01, if_true, if_false]
theorem gsX_X1_part_2_q1 {NF : Nat} {p1 : Int32} {p2 : Int32} {v : Nat → Int32} {f : Nat → Nat → Int32} (h0 : gsX_X7_hasCoat_1 NF p2 v f = 1) (h1 : ¬ (p1 < 0)) (h2 : (5 ≤ p1)) : gsX_X1_part_2 NF p1 p2 v f = 0 := by
  simp only [gsX_X1_part_2, h0, if_neg h1, if_pos h2, ite11, ite01, if_true, if_false]
theorem gsX_X1_part_2_q2 {NF : Nat} {p1 : Int32} {p2 : Int32} {v : Nat → Int32} {f : Nat → Nat → Int32} {t6 : Int32} {t8 : Int32} {t10 : Int32} {t13 : Int32} (h0 : gsX_X7_hasCoat_1 NF p2 v f = 1) (h1 : ¬ (p1 < 0)) (h2 : ¬ (5 ≤ p1)) (h3 : t6 = p1 * 6) (h4 : t8 = 12 + t6) (h5 : t10 = t8 + p2) (h6 : t13 = f 18 (t10).toNatClampNeg) : gsX_X1_part_2 NF p1 p2 v f = t13 := by
  subst h3 h4 h5 h6
  simp only [gsX_X1_part_2, h0, if_neg h1, if_neg h2, ite11, ite01, if_true, if_false]
theorem gsX_X1_part_2_q3 {NF : Nat} {p1 : Int32} {p2 : Int32} {v : Nat → Int32} {f : Nat → Nat → Int32} (h0 : gsX_X7_hasCoat_1 NF p2 v f = 0) : gsX_X1_part_2 NF p1 p2 v f = 0 := by
  simp only [gsX_X1_part_2, h0, ite11, ite01, if_true, if_false]
set_option maxHeartbeats 4000000 in
set_option maxRecDepth 100000 in
theorem sX_X1_part_2 (NF : Nat) (l : Launch) (dC : Nat → ClassId) (dI : Nat → Nat → Nat) (cy : Nat → ClassId) (x0 : Nat) (x : Nat → Nat) (p1 : Int32) (p2 : Int32) (v : Nat → Int32) (f : Nat → Nat → Int32) (hIv : XI v)  : ctI l (dC, dI) cy yX1_part cX1_part 4 .int 2 81 0 0 Unit [.ref (x 27), .int p1, .int p2] (XW cy x0 x v f) (fun r u => gsX_X1_part_2 NF p1 p2 v f = r) (fun u => XW cy x0 x v f) := by
  refine ctI_of (by decide) (Nat.le_of_ble_eq_true rfl) (fun p e s m below meth c A ls Q hx hb hml hts hown hE hP hD hA hl ret => ?_)
  have hown : s.vm.findClass RX1 = some m.cls := hown
  have hS : va_S A s.heap s.heap [] := va_S.rf
  have hl : lv_has ls 4 [(0, .ref (x 27)), (1, .int p1), (2, .int p2)] := hl
  refine lv_aload_n hx hb dX1_part_0 rfl (lv_at hl 0 rfl) ?_
  refine va_get (D := (dC, dI)) (ci := 1) (v := .ref (x 26)) (C := RX1) (T := TX1) (N := 2) hx hb hts inB_1 hown hE.1 hP 28 rfl rfl 0 (by decide) (hts _ k_318) (fun _ h9 => h9) rfl dX1_part_1 ?_
  refine lv_iload_n hx hb dX1_part_4 rfl (lv_at hl 2 rfl) ?_
  refine cbVi (n := 1) (rest := []) hx hb hml hown hts hE hP hD hS hA (sX_X7_hasCoat_1 NF l dC dI cy x0 x p2 v f hIv ) k_821 k_315 k_316 k_104 k_317 (by decide +kernel) ⟨Nat.le_of_ble_eq_true rfl, Nat.le_of_ble_eq_true rfl⟩ 27 7 rfl rfl (rfl) hl.1 rfl (Nat.le_of_ble_eq_true rfl) dX1_part_5 (fun r1 u H locs hw hP hD hS => ?_)
  obtain ⟨hG2, hw⟩ := hw
  rcases hw with ⟨g3, g3_0, g3_1, g3_2⟩ | ⟨g3⟩
  · skip
    subst g3
    refine lv_if_eq (tgt := 24) hx hb dX1_part_8 (by decide) (fun c0 => absurd c0 (by decide)) (fun _ => ?_)
    refine lv_iload_n hx hb dX1_part_11 rfl (lv_at hl 1 rfl) ?_
    refine lv_if_lt (tgt := 24) hx hb dX1_part_12 (by decide) (fun c4 => ?_) (fun c4 => ?_)
    · skip
      have zc4 : p1.toInt < 0 := by rw [fa_lt, show (0 : Int32).toInt = 0 from by decide] at c4; exact c4
      refine lv_iconst (v := 0) hx hb dX1_part_24 (by decide) ?_
      refine lv_istore_n (lv' := [(3, .int 0), (0, .ref (x 27)), (1, .int p1), (2, .int p2)]) hx hb dX1_part_25 rfl hl (by decide) rfl (fun ls hl => ?_)
      refine lv_iload_n hx hb dX1_part_26 rfl (lv_at hl 0 rfl) ?_
      refine lv_if_eq (tgt := 47) hx hb dX1_part_27 (by decide) (fun _ => ?_) (fun c0 => absurd (by decide) c0)
      refine lv_iconst (v := 0) hx hb dX1_part_47 (by decide) ?_
      exact ret 0 () _ _ _ _ _ _ rfl (gsX_X1_part_2_q0 hG2 c4) hP hD hS dX1_part_48 (Nat.le_refl _) (Nat.le_refl _)
    · skip
      have zc4 : ¬ (p1.toInt < 0) := by rw [fa_lt, show (0 : Int32).toInt = 0 from by decide] at c4; exact c4
      refine lv_iload_n hx hb dX1_part_15 rfl (lv_at hl 1 rfl) ?_
      refine lv_iconst (v := 5) hx hb dX1_part_16 (by decide) ?_
      refine lv_icmp_ge (tgt := 24) hx hb dX1_part_17 (by decide) (fun c5 => ?_) (fun c5 => ?_)
      · skip
        have zc5 : 5 ≤ p1.toInt := by rw [fa_le, show (5 : Int32).toInt = 5 from by decide] at c5; exact c5
        refine lv_iconst (v := 0) hx hb dX1_part_24 (by decide) ?_
        refine lv_istore_n (lv' := [(3, .int 0), (0, .ref (x 27)), (1, .int p1), (2, .int p2)]) hx hb dX1_part_25 rfl hl (by decide) rfl (fun ls hl => ?_)
        refine lv_iload_n hx hb dX1_part_26 rfl (lv_at hl 0 rfl) ?_
        refine lv_if_eq (tgt := 47) hx hb dX1_part_27 (by decide) (fun _ => ?_) (fun c0 => absurd (by decide) c0)
        refine lv_iconst (v := 0) hx hb dX1_part_47 (by decide) ?_
        exact ret 0 () _ _ _ _ _ _ rfl (gsX_X1_part_2_q1 hG2 c4 c5) hP hD hS dX1_part_48 (Nat.le_refl _) (Nat.le_refl _)
      · skip
        have zc5 : ¬ (5 ≤ p1.toInt) := by rw [fa_le, show (5 : Int32).toInt = 5 from by decide] at c5; exact c5
        refine lv_iconst (v := 1) hx hb dX1_part_20 (by decide) ?_
        refine lv_goto (tgt := 25) hx hb dX1_part_21 (by decide) ?_
        refine lv_istore_n (lv' := [(3, .int 1), (0, .ref (x 27)), (1, .int p1), (2, .int p2)]) hx hb dX1_part_25 rfl hl (by decide) rfl (fun ls hl => ?_)
        refine lv_iload_n hx hb dX1_part_26 rfl (lv_at hl 0 rfl) ?_
        refine lv_if_eq (tgt := 47) hx hb dX1_part_27 (by decide) (fun c0 => absurd c0 (by decide)) (fun _ => ?_)
        refine lv_aload_n hx hb dX1_part_30 rfl (lv_at hl 1 rfl) ?_
        refine va_get (D := (dC, dI)) (ci := 1) (v := .ref (x 28)) (C := RX1) (T := TX1) (N := 2) hx hb hts inB_1 hown hE.1 hP 28 rfl rfl 1 (by decide) (hts _ k_319) (fun _ h9 => h9) rfl dX1_part_31 ?_
        refine lv_bipush (v := 12) hx hb dX1_part_34 (by decide) ?_
        refine lv_iload_n hx hb dX1_part_36 rfl (lv_at hl 2 rfl) ?_
        refine lv_bipush (v := 6) hx hb dX1_part_37 (by decide) ?_
        refine lv_imul hx hb dX1_part_39 ?_
        refine lv_topi (fun t6 et6 => ?_)
        have rg7 := fb_rng p1
        have zt6 : t6.toInt = p1.toInt * 6 := by rw [et6]; exact mul_i rfl (by decide) (by omega) (by omega)
        refine lv_iadd hx hb dX1_part_40 ?_
        refine lv_topi (fun t8 et8 => ?_)
        have rg9 := fb_rng t6
        have zt8 : t8.toInt = 12 + t6.toInt := by rw [et8]; exact add_i (by decide) rfl (by omega) (by omega)
        refine lv_iload_n hx hb dX1_part_41 rfl (lv_at hl 3 rfl) ?_
        refine lv_iadd hx hb dX1_part_42 ?_
        refine lv_topi (fun t10 et10 => ?_)
        have rg11 := fb_rng t8
        have rg12 := fb_rng p2
        have zt10 : t10.toInt = t8.toInt + p2.toInt := by rw [et10]; exact add_i rfl rfl (by omega) (by omega)
        refine ldI hx hb hE hP 29 rfl (vp_in_iff.mpr ⟨by omega, by omega⟩) rfl rfl dX1_part_43 ?_
        refine lv_topi (fun t13 et13 => ?_)
        refine lv_goto (tgt := 48) hx hb dX1_part_44 (by decide) ?_
        exact ret t13 () _ _ _ _ _ _ rfl (gsX_X1_part_2_q2 hG2 c4 c5 et6 et8 et10 et13) hP hD hS dX1_part_48 (Nat.le_refl _) (Nat.le_refl _)
  · skip
    subst g3
    refine lv_if_eq (tgt := 24) hx hb dX1_part_8 (by decide) (fun _ => ?_) (fun c0 => absurd (by decide) c0)
    refine lv_iconst (v := 0) hx hb dX1_part_24 (by decide) ?_
    refine lv_istore_n (lv' := [(3, .int 0), (0, .ref (x 27)), (1, .int p1), (2, .int p2)]) hx hb dX1_part_25 rfl hl (by decide) rfl (fun ls hl => ?_)
    refine lv_iload_n hx hb dX1_part_26 rfl (lv_at hl 0 rfl) ?_
    refine lv_if_eq (tgt := 47) hx hb dX1_part_27 (by decide) (fun _ => ?_) (fun c0 => absurd (by decide) c0)
    refine lv_iconst (v := 0) hx hb dX1_part_47 (by decide) ?_
    exact ret 0 () _ _ _ _ _ _ rfl (gsX_X1_part_2_q3 hG2) hP hD hS dX1_part_48 (Nat.le_refl _) (Nat.le_refl _)
def gsX_X1_today_2 (NF : Nat) (v : Nat → Int32) (f : Nat → Nat → Int32) : Int32 :=
  let t1 : Int32 := f 18 (42 : Int32).toNatClampNeg
  t1
theorem gsX_X1_today_2_q0 {NF : Nat} {v : Nat → Int32} {f : Nat → Nat → Int32} {t1 : Int32} (h0 : t1 = f 18 (42 : Int32).toNatClampNeg) : gsX_X1_today_2 NF v f = t1 := by
  subst h0
  simp only [gsX_X1_today_2]
set_option maxHeartbeats 4000000 in
set_option maxRecDepth 100000 in
theorem sX_X1_today_2 (NF : Nat) (l : Launch) (dC : Nat → ClassId) (dI : Nat → Nat → Nat) (cy : Nat → ClassId) (x0 : Nat) (x : Nat → Nat)  (v : Nat → Int32) (f : Nat → Nat → Int32) (hIv : XI v)  : ctI l (dC, dI) cy yX1_today cX1_today 1 .int 1 60 0 0 Unit [.ref (x 27)] (XW cy x0 x v f) (fun r u => gsX_X1_today_2 NF v f = r) (fun u => XW cy x0 x v f) := by
  refine ctI_of (by decide) (Nat.le_of_ble_eq_true rfl) (fun p e s m below meth c A ls Q hx hb hml hts hown hE hP hD hA hl ret => ?_)
  have hown : s.vm.findClass RX1 = some m.cls := hown
  have hS : va_S A s.heap s.heap [] := va_S.rf
  have hl : lv_has ls 1 [(0, .ref (x 27))] := hl
  refine lv_aload_n hx hb dX1_today_0 rfl (lv_at hl 0 rfl) ?_
  refine va_get (D := (dC, dI)) (ci := 1) (v := .ref (x 28)) (C := RX1) (T := TX1) (N := 2) hx hb hts inB_1 hown hE.1 hP 28 rfl rfl 1 (by decide) (hts _ k_319) (fun _ h9 => h9) rfl dX1_today_1 ?_
  refine lv_bipush (v := 42) hx hb dX1_today_4 (by decide) ?_
  refine ldI hx hb hE hP 29 rfl (vp_in_nI (n := 42) (by decide) (by decide)) rfl rfl dX1_today_6 ?_
  refine lv_topi (fun t1 et1 => ?_)
  exact ret t1 () _ _ _ _ _ _ rfl (gsX_X1_today_2_q0 et1) hP hD hS dX1_today_7 (Nat.le_refl _) (Nat.le_refl _)
def gsX_X1_illness_2 (NF : Nat) (p1 : Int32) (p2 : Int32) (v : Nat → Int32) (f : Nat → Nat → Int32) : Int32 × (Nat → Int32) × (Nat → Nat → Int32) :=
  let r1 : Int32 := gsX_X7_manPart_1 NF 0 p1 v f
  let r3 : Int32 := gsX_X1_manWide_2 NF p1 v f
  let r5 : Int32 := gsX_X1_part_2 NF 0 p2 v f
  let r7 : Int32 := gsX_X1_part_2 NF 1 p2 v f
  let r9 : Int32 := gsX_X1_part_2 NF 3 p2 v f
  let r11 : Int32 := gsX_X1_today_2 NF v f
  match gsX_X4_worth_1 NF r1 r3 r5 r7 r9 r11 v f with
  | (r13, v15, f16) =>
    (r13, v15, f16)
theorem gsX_X1_illness_2_q0 {NF : Nat} {p1 : Int32} {p2 : Int32} {v : Nat → Int32} {f : Nat → Nat → Int32} {r1 : Int32} {r3 : Int32} {r5 : Int32} {r7 : Int32} {r9 : Int32} {r11 : Int32} {r13 : Int32} {v15 : Nat → Int32} {f16 : Nat → Nat → Int32} (h0 : r1 = gsX_X7_manPart_1 NF 0 p1 v f) (h1 : r3 = gsX_X1_manWide_2 NF p1 v f) (h2 : r5 = gsX_X1_part_2 NF 0 p2 v f) (h3 : r7 = gsX_X1_part_2 NF 1 p2 v f) (h4 : r9 = gsX_X1_part_2 NF 3 p2 v f) (h5 : r11 = gsX_X1_today_2 NF v f) (h6 : gsX_X4_worth_1 NF r1 r3 r5 r7 r9 r11 v f = (r13, v15, f16)) : gsX_X1_illness_2 NF p1 p2 v f = (r13, v15, f16) := by
  subst h0 h1 h2 h3 h4 h5
  simp only [gsX_X1_illness_2, h6]
set_option maxHeartbeats 4000000 in
set_option maxRecDepth 100000 in
theorem sX_X1_illness_2 (NF : Nat) (l : Launch) (dC : Nat → ClassId) (dI : Nat → Nat → Nat) (cy : Nat → ClassId) (x0 : Nat) (x : Nat → Nat) (p1 : Int32) (p2 : Int32) (v : Nat → Int32) (f : Nat → Nat → Int32) (hIv : XI v)  : ctI l (dC, dI) cy yX1_illness cX1_illness 3 .int 3 111 0 0 ((Nat → Int32) × (Nat → Nat → Int32)) [.ref (x 27), .int p1, .int p2] (XW cy x0 x v f) (fun r u => gsX_X1_illness_2 NF p1 p2 v f = (r, u) ∧ KV [] u.1 v ∧ KF [13, 14] u.2 f ∧ XI u.1 ∧ u.1 0 = v 0 ∧ u.1 1 = v 1 ∧ u.1 7 = v 7 ∧ u.1 8 = v 8 ∧ u.1 9 = v 9 ∧ u.1 10 = v 10 ∧ u.1 31 = v 31 ∧ u.1 32 = v 32) (fun u => XW cy x0 x u.1 u.2) := by
  refine ctI_of (by decide) (Nat.le_of_ble_eq_true rfl) (fun p e s m below meth c A ls Q hx hb hml hts hown hE hP hD hA hl ret => ?_)
  have hM_v : KV [] v v := fun _ _ => rfl
  have hA_f : KF [13, 14] f f := fun _ _ => rfl
  have hown : s.vm.findClass RX1 = some m.cls := hown
  have hS : va_S A s.heap s.heap [] := va_S.rf
  have hl : lv_has ls 3 [(0, .ref (x 27)), (1, .int p1), (2, .int p2)] := hl
  refine lv_aload_n hx hb dX1_illness_0 rfl (lv_at hl 0 rfl) ?_
  refine va_get (D := (dC, dI)) (ci := 1) (v := .ref (x 26)) (C := RX1) (T := TX1) (N := 2) hx hb hts inB_1 hown hE.1 hP 28 rfl rfl 0 (by decide) (hts _ k_318) (fun _ h9 => h9) rfl dX1_illness_1 ?_
  refine va_getN (D := (dC, dI)) (ci := 7) (v := .ref (x 15)) (C := RX7) (T := TX7) (N := 10) hx hb hts inB_7 hown hE.1 hP 27 rfl rfl 2 (by decide) (va_Nw.use rfl (hE.2 _ k_209)) (fun _ h9 => h9) rfl dX1_illness_4 ?_
  refine lv_aload_n hx hb dX1_illness_7 rfl (lv_at hl 0 rfl) ?_
  refine va_get (D := (dC, dI)) (ci := 1) (v := .ref (x 26)) (C := RX1) (T := TX1) (N := 2) hx hb hts inB_1 hown hE.1 hP 28 rfl rfl 0 (by decide) (hts _ k_318) (fun _ h9 => h9) rfl dX1_illness_8 ?_
  refine lv_iconst (v := 0) hx hb dX1_illness_11 (by decide) ?_
  refine lv_iload_n hx hb dX1_illness_12 rfl (lv_at hl 1 rfl) ?_
  refine cbVi (n := 2) (rest := [.ref (x 15)]) hx hb hml hown hts hE hP hD hS hA (sX_X7_manPart_1 NF l dC dI cy x0 x 0 p1 v f hIv ) k_302 k_303 k_304 k_104 k_305 (by decide +kernel) ⟨Nat.le_of_ble_eq_true rfl, Nat.le_of_ble_eq_true rfl⟩ 27 7 rfl rfl (rfl) hl.1 rfl (Nat.le_of_ble_eq_true rfl) dX1_illness_13 (fun r1 u H locs hw hP hD hS => ?_)
  have hG2 := hw
  refine lv_aload_n hx hb dX1_illness_16 rfl (lv_at hl 0 rfl) ?_
  refine lv_iload_n hx hb dX1_illness_17 rfl (lv_at hl 1 rfl) ?_
  refine cbVi (n := 1) (rest := [.int r1, .ref (x 15)]) hx hb hml hown hts hE hP hD hS hA (sX_X1_manWide_2 NF l dC dI cy x0 x p1 v f hIv ) k_826 k_805 k_806 k_106 k_807 (by decide +kernel) ⟨Nat.le_of_ble_eq_true rfl, Nat.le_of_ble_eq_true rfl⟩ 28 1 rfl rfl (rfl) hl.1 rfl (Nat.le_of_ble_eq_true rfl) dX1_illness_18 (fun r3 u H locs hw hP hD hS => ?_)
  have hG4 := hw
  refine lv_aload_n hx hb dX1_illness_21 rfl (lv_at hl 0 rfl) ?_
  refine lv_iconst (v := 0) hx hb dX1_illness_22 (by decide) ?_
  refine lv_iload_n hx hb dX1_illness_23 rfl (lv_at hl 2 rfl) ?_
  refine cbVi (n := 2) (rest := [.int r3, .int r1, .ref (x 15)]) hx hb hml hown hts hE hP hD hS hA (sX_X1_part_2 NF l dC dI cy x0 x 0 p2 v f hIv ) k_827 k_828 k_829 k_106 k_830 (by decide +kernel) ⟨Nat.le_of_ble_eq_true rfl, Nat.le_of_ble_eq_true rfl⟩ 28 1 rfl rfl (rfl) hl.1 rfl (Nat.le_of_ble_eq_true rfl) dX1_illness_24 (fun r5 u H locs hw hP hD hS => ?_)
  have hG6 := hw
  refine lv_aload_n hx hb dX1_illness_27 rfl (lv_at hl 0 rfl) ?_
  refine lv_iconst (v := 1) hx hb dX1_illness_28 (by decide) ?_
  refine lv_iload_n hx hb dX1_illness_29 rfl (lv_at hl 2 rfl) ?_
  refine cbVi (n := 2) (rest := [.int r5, .int r3, .int r1, .ref (x 15)]) hx hb hml hown hts hE hP hD hS hA (sX_X1_part_2 NF l dC dI cy x0 x 1 p2 v f hIv ) k_827 k_828 k_829 k_106 k_830 (by decide +kernel) ⟨Nat.le_of_ble_eq_true rfl, Nat.le_of_ble_eq_true rfl⟩ 28 1 rfl rfl (rfl) hl.1 rfl (Nat.le_of_ble_eq_true rfl) dX1_illness_30 (fun r7 u H locs hw hP hD hS => ?_)
  have hG8 := hw
  refine lv_aload_n hx hb dX1_illness_33 rfl (lv_at hl 0 rfl) ?_
  refine lv_iconst (v := 3) hx hb dX1_illness_34 (by decide) ?_
  refine lv_iload_n hx hb dX1_illness_35 rfl (lv_at hl 2 rfl) ?_
  refine cbVi (n := 2) (rest := [.int r7, .int r5, .int r3, .int r1, .ref (x 15)]) hx hb hml hown hts hE hP hD hS hA (sX_X1_part_2 NF l dC dI cy x0 x 3 p2 v f hIv ) k_827 k_828 k_829 k_106 k_830 (by decide +kernel) ⟨Nat.le_of_ble_eq_true rfl, Nat.le_of_ble_eq_true rfl⟩ 28 1 rfl rfl (rfl) hl.1 rfl (Nat.le_of_ble_eq_true rfl) dX1_illness_36 (fun r9 u H locs hw hP hD hS => ?_)
  have hG10 := hw
  refine lv_aload_n hx hb dX1_illness_39 rfl (lv_at hl 0 rfl) ?_
  refine cbVi (n := 0) (rest := [.int r9, .int r7, .int r5, .int r3, .int r1, .ref (x 15)]) hx hb hml hown hts hE hP hD hS hA (sX_X1_today_2 NF l dC dI cy x0 x  v f hIv ) k_831 k_832 k_833 k_106 k_834 (by decide +kernel) ⟨Nat.le_of_ble_eq_true rfl, Nat.le_of_ble_eq_true rfl⟩ 28 1 rfl rfl (rfl) hl.1 rfl (Nat.le_of_ble_eq_true rfl) dX1_illness_40 (fun r11 u H locs hw hP hD hS => ?_)
  have hG12 := hw
  refine cbVi (n := 6) (rest := []) hx hb hml hown hts hE hP hD hS hA (sX_X4_worth_1 NF l dC dI cy x0 x r1 r3 r5 r7 r9 r11 v f hIv ) k_835 k_836 k_837 k_105 k_838 (by decide +kernel) ⟨Nat.le_of_ble_eq_true rfl, Nat.le_of_ble_eq_true rfl⟩ 16 4 rfl rfl (rfl) hl.1 rfl (Nat.le_of_ble_eq_true rfl) dX1_illness_43 (fun r13 u H locs hw hP hD hS => ?_)
  obtain ⟨hG14, hw⟩ := hw
  obtain ⟨v15, f16⟩ := u
  obtain ⟨kV_v15, kF_f16, hIv15, hk0_v15, hk1_v15, hk7_v15, hk8_v15, hk9_v15, hk10_v15, hk31_v15, hk32_v15⟩ := hw
  have hM_v15 : KV [] v15 v := KV.tr kV_v15 hM_v rfl
  have hA_f16 : KF [13, 14] f16 f := KF.tr kF_f16 hA_f rfl
  have hP : va_P (dC, dI) vwCl (XW cy x0 x v15 f16) H := hP
  have hD : va_D A (XW cy x0 x v15 f16) := hD
  have hq0_v15 : v15 0 = (v 0) := hk0_v15
  have hq1_v15 : v15 1 = (v 1) := hk1_v15
  have hq7_v15 : v15 7 = (v 7) := hk7_v15
  have hq8_v15 : v15 8 = (v 8) := hk8_v15
  have hq9_v15 : v15 9 = (v 9) := hk9_v15
  have hq10_v15 : v15 10 = (v 10) := hk10_v15
  have hq31_v15 : v15 31 = (v 31) := hk31_v15
  have hq32_v15 : v15 32 = (v 32) := hk32_v15
  exact ret r13 (v15, f16) _ _ _ _ _ _ rfl ⟨(gsX_X1_illness_2_q0 hG2.symm hG4.symm hG6.symm hG8.symm hG10.symm hG12.symm hG14), hM_v15, hA_f16, hIv15, hk0_v15, hk1_v15, hk7_v15, hk8_v15, hk9_v15, hk10_v15, hk31_v15, hk32_v15⟩ hP hD hS dX1_illness_46 (Nat.le_refl _) (Nat.le_refl _)
def gsX_X1_fits_2 (NF : Nat) (p1 : Int32) (p2 : Int32) (v : Nat → Int32) (f : Nat → Nat → Int32) : Int32 × (Nat → Int32) × (Nat → Nat → Int32) :=
  if gsX_X7_hasMan_1 NF p1 v f = 1 then
    if gsX_X7_hasCoat_1 NF p2 v f = 1 then
      match gsX_X1_illness_2 NF p1 p2 v f with
      | (r7, v9, f10) =>
        if (v9 33) < r7 then
          (0, v9, f10)
        else
          (1, v9, f10)
    else
      (0, v, f)
  else
    (0, v, f)
theorem gsX_X1_fits_2_q0 {NF : Nat} {p1 : Int32} {p2 : Int32} {v : Nat → Int32} {f : Nat → Nat → Int32} {r7 : Int32} {v9 : Nat → Int32} {f10 : Nat → Nat → Int32} (h0 : gsX_X7_hasMan_1 NF p1 v f = 1) (h1 : gsX_X7_hasCoat_1 NF p2 v f = 1) (h2 : gsX_X1_illness_2 NF p1 p2 v f = (r7, v9, f10)) (h3 : ((v9 33) < r7)) : gsX_X1_fits_2 NF p1 p2 v f = (0, v9, f10) := by
  simp only [gsX_X1_fits_2, h0, h1, h2, if_pos h3, ite11, ite01, if_true, if_false]
theorem gsX_X1_fits_2_q1 {NF : Nat} {p1 : Int32} {p2 : Int32} {v : Nat → Int32} {f : Nat → Nat → Int32} {r7 : Int32} {v9 : Nat → Int32} {f10 : Nat → Nat → Int32} (h0 : gsX_X7_hasMan_1 NF p1 v f = 1) (h1 : gsX_X7_hasCoat_1 NF p2 v f = 1) (h2 : gsX_X1_illness_2 NF p1 p2 v f = (r7, v9, f10)) (h3 : ¬ ((v9 33) < r7)) : gsX_X1_fits_2 NF p1 p2 v f = (1, v9, f10) := by
  simp only [gsX_X1_fits_2, h0, h1, h2, if_neg h3, ite11, ite01, if_true, if_false]
theorem gsX_X1_fits_2_q2 {NF : Nat} {p1 : Int32} {p2 : Int32} {v : Nat → Int32} {f : Nat → Nat → Int32} (h0 : gsX_X7_hasMan_1 NF p1 v f = 1) (h1 : gsX_X7_hasCoat_1 NF p2 v f = 0) : gsX_X1_fits_2 NF p1 p2 v f = (0, v, f) := by
  simp only [gsX_X1_fits_2, h0, h1, ite11, ite01, if_true, if_false]
theorem gsX_X1_fits_2_q3 {NF : Nat} {p1 : Int32} {p2 : Int32} {v : Nat → Int32} {f : Nat → Nat → Int32} (h0 : gsX_X7_hasMan_1 NF p1 v f = 0) : gsX_X1_fits_2 NF p1 p2 v f = (0, v, f) := by
  simp only [gsX_X1_fits_2, h0, ite11, ite01, if_true, if_false]
set_option maxHeartbeats 4000000 in
set_option maxRecDepth 100000 in
theorem sX_X1_fits_2 (NF : Nat) (l : Launch) (dC : Nat → ClassId) (dI : Nat → Nat → Nat) (cy : Nat → ClassId) (x0 : Nat) (x : Nat → Nat) (p1 : Int32) (p2 : Int32) (v : Nat → Int32) (f : Nat → Nat → Int32) (hIv : XI v)  : ctI l (dC, dI) cy yX1_fits cX1_fits 3 .boolean 4 133 0 0 ((Nat → Int32) × (Nat → Nat → Int32)) [.ref (x 27), .int p1, .int p2] (XW cy x0 x v f) (fun r u => gsX_X1_fits_2 NF p1 p2 v f = (r, u) ∧ KV [] u.1 v ∧ KF [13, 14] u.2 f ∧ XI u.1 ∧ u.1 0 = v 0 ∧ u.1 1 = v 1 ∧ u.1 7 = v 7 ∧ u.1 8 = v 8 ∧ u.1 9 = v 9 ∧ u.1 10 = v 10 ∧ u.1 31 = v 31 ∧ u.1 32 = v 32 ∧ ((r = 1) ∨ (r = 0))) (fun u => XW cy x0 x u.1 u.2) := by
  refine ctI_of (by decide) (Nat.le_of_ble_eq_true rfl) (fun p e s m below meth c A ls Q hx hb hml hts hown hE hP hD hA hl ret => ?_)
  have hM_v : KV [] v v := fun _ _ => rfl
  have hA_f : KF [13, 14] f f := fun _ _ => rfl
  have hown : s.vm.findClass RX1 = some m.cls := hown
  have hS : va_S A s.heap s.heap [] := va_S.rf
  have hl : lv_has ls 3 [(0, .ref (x 27)), (1, .int p1), (2, .int p2)] := hl
  refine lv_aload_n hx hb dX1_fits_0 rfl (lv_at hl 0 rfl) ?_
  refine va_get (D := (dC, dI)) (ci := 1) (v := .ref (x 26)) (C := RX1) (T := TX1) (N := 2) hx hb hts inB_1 hown hE.1 hP 28 rfl rfl 0 (by decide) (hts _ k_318) (fun _ h9 => h9) rfl dX1_fits_1 ?_
  refine lv_iload_n hx hb dX1_fits_4 rfl (lv_at hl 1 rfl) ?_
  refine cbVi (n := 1) (rest := []) hx hb hml hown hts hE hP hD hS hA (sX_X7_hasMan_1 NF l dC dI cy x0 x p1 v f hIv ) k_808 k_307 k_308 k_104 k_309 (by decide +kernel) ⟨Nat.le_of_ble_eq_true rfl, Nat.le_of_ble_eq_true rfl⟩ 27 7 rfl rfl (rfl) hl.1 rfl (Nat.le_of_ble_eq_true rfl) dX1_fits_5 (fun r1 u H locs hw hP hD hS => ?_)
  obtain ⟨hG2, hw⟩ := hw
  rcases hw with ⟨g3, g3_0, g3_1, g3_2⟩ | ⟨g3⟩
  · skip
    subst g3
    refine lv_if_eq (tgt := 42) hx hb dX1_fits_8 (by decide) (fun c0 => absurd c0 (by decide)) (fun _ => ?_)
    refine lv_aload_n hx hb dX1_fits_11 rfl (lv_at hl 0 rfl) ?_
    refine va_get (D := (dC, dI)) (ci := 1) (v := .ref (x 26)) (C := RX1) (T := TX1) (N := 2) hx hb hts inB_1 hown hE.1 hP 28 rfl rfl 0 (by decide) (hts _ k_318) (fun _ h9 => h9) rfl dX1_fits_12 ?_
    refine lv_iload_n hx hb dX1_fits_15 rfl (lv_at hl 2 rfl) ?_
    refine cbVi (n := 1) (rest := []) hx hb hml hown hts hE hP hD hS hA (sX_X7_hasCoat_1 NF l dC dI cy x0 x p2 v f hIv ) k_821 k_315 k_316 k_104 k_317 (by decide +kernel) ⟨Nat.le_of_ble_eq_true rfl, Nat.le_of_ble_eq_true rfl⟩ 27 7 rfl rfl (rfl) hl.1 rfl (Nat.le_of_ble_eq_true rfl) dX1_fits_16 (fun r4 u H locs hw hP hD hS => ?_)
    obtain ⟨hG5, hw⟩ := hw
    rcases hw with ⟨g6, g6_0, g6_1, g6_2⟩ | ⟨g6⟩
    · skip
      subst g6
      refine lv_if_eq (tgt := 42) hx hb dX1_fits_19 (by decide) (fun c0 => absurd c0 (by decide)) (fun _ => ?_)
      refine lv_aload_n hx hb dX1_fits_22 rfl (lv_at hl 0 rfl) ?_
      refine lv_iload_n hx hb dX1_fits_23 rfl (lv_at hl 1 rfl) ?_
      refine lv_iload_n hx hb dX1_fits_24 rfl (lv_at hl 2 rfl) ?_
      refine cbVi (n := 2) (rest := []) hx hb hml hown hts hE hP hD hS hA (sX_X1_illness_2 NF l dC dI cy x0 x p1 p2 v f hIv ) k_822 k_823 k_824 k_106 k_825 (by decide +kernel) ⟨Nat.le_of_ble_eq_true rfl, Nat.le_of_ble_eq_true rfl⟩ 28 1 rfl rfl (rfl) hl.1 rfl (Nat.le_of_ble_eq_true rfl) dX1_fits_25 (fun r7 u H locs hw hP hD hS => ?_)
      obtain ⟨hG8, hw⟩ := hw
      obtain ⟨v9, f10⟩ := u
      obtain ⟨kV_v9, kF_f10, hIv9, hk0_v9, hk1_v9, hk7_v9, hk8_v9, hk9_v9, hk10_v9, hk31_v9, hk32_v9⟩ := hw
      have hM_v9 : KV [] v9 v := KV.tr kV_v9 hM_v rfl
      have hA_f10 : KF [13, 14] f10 f := KF.tr kF_f10 hA_f rfl
      have hP : va_P (dC, dI) vwCl (XW cy x0 x v9 f10) H := hP
      have hD : va_D A (XW cy x0 x v9 f10) := hD
      have hq0_v9 : v9 0 = (v 0) := hk0_v9
      have hq1_v9 : v9 1 = (v 1) := hk1_v9
      have hq7_v9 : v9 7 = (v 7) := hk7_v9
      have hq8_v9 : v9 8 = (v 8) := hk8_v9
      have hq9_v9 : v9 9 = (v 9) := hk9_v9
      have hq10_v9 : v9 10 = (v 10) := hk10_v9
      have hq31_v9 : v9 31 = (v 31) := hk31_v9
      have hq32_v9 : v9 32 = (v 32) := hk32_v9
      refine lv_aload_n hx hb dX1_fits_28 rfl (lv_at hl 0 rfl) ?_
      refine va_get (D := (dC, dI)) (ci := 1) (v := .ref (x 26)) (C := RX1) (T := TX1) (N := 2) hx hb hts inB_1 hown hE.1 hP 28 rfl rfl 0 (by decide) (hts _ k_318) (fun _ h9 => h9) rfl dX1_fits_29 ?_
      refine va_getN (D := (dC, dI)) (ci := 7) (v := .int (v9 33)) (C := RX7) (T := TX7) (N := 10) hx hb hts inB_7 hown hE.1 hP 27 rfl rfl 5 (by decide) (va_Nw.use rfl (hE.2 _ k_232)) (fun _ h9 => h9) rfl dX1_fits_32 ?_
      refine lv_icmp_gt (tgt := 42) hx hb dX1_fits_35 (by decide) (fun c11 => ?_) (fun c11 => ?_)
      · skip
        have zc11 : (v9 33).toInt < r7.toInt := by rw [fa_lt] at c11; exact c11
        have rg12 := fb_rng r7
        have rg13 := fb_rng (v9 33)
        refine lv_iconst (v := 0) hx hb dX1_fits_42 (by decide) ?_
        exact ret 0 (v9, f10) _ _ _ _ _ _ rfl ⟨(gsX_X1_fits_2_q0 hG2 hG5 hG8 c11), hM_v9, hA_f10, hIv9, hk0_v9, hk1_v9, hk7_v9, hk8_v9, hk9_v9, hk10_v9, hk31_v9, hk32_v9, (Or.inr rfl)⟩ hP hD hS dX1_fits_43 (Nat.le_refl _) (Nat.le_refl _)
      · skip
        have zc11 : ¬ ((v9 33).toInt < r7.toInt) := by rw [fa_lt] at c11; exact c11
        have rg14 := fb_rng r7
        have rg15 := fb_rng (v9 33)
        refine lv_iconst (v := 1) hx hb dX1_fits_38 (by decide) ?_
        refine lv_goto (tgt := 43) hx hb dX1_fits_39 (by decide) ?_
        exact ret 1 (v9, f10) _ _ _ _ _ _ rfl ⟨(gsX_X1_fits_2_q1 hG2 hG5 hG8 c11), hM_v9, hA_f10, hIv9, hk0_v9, hk1_v9, hk7_v9, hk8_v9, hk9_v9, hk10_v9, hk31_v9, hk32_v9, (Or.inl rfl)⟩ hP hD hS dX1_fits_43 (Nat.le_refl _) (Nat.le_refl _)
    · skip
      subst g6
      refine lv_if_eq (tgt := 42) hx hb dX1_fits_19 (by decide) (fun _ => ?_) (fun c0 => absurd (by decide) c0)
      refine lv_iconst (v := 0) hx hb dX1_fits_42 (by decide) ?_
      exact ret 0 (v, f) _ _ _ _ _ _ rfl ⟨(gsX_X1_fits_2_q2 hG2 hG5), hM_v, hA_f, hIv, rfl, rfl, rfl, rfl, rfl, rfl, rfl, rfl, (Or.inr rfl)⟩ hP hD hS dX1_fits_43 (Nat.le_refl _) (Nat.le_refl _)
  · skip
    subst g3
    refine lv_if_eq (tgt := 42) hx hb dX1_fits_8 (by decide) (fun _ => ?_) (fun c0 => absurd (by decide) c0)
    refine lv_iconst (v := 0) hx hb dX1_fits_42 (by decide) ?_
    exact ret 0 (v, f) _ _ _ _ _ _ rfl ⟨(gsX_X1_fits_2_q3 hG2), hM_v, hA_f, hIv, rfl, rfl, rfl, rfl, rfl, rfl, rfl, rfl, (Or.inr rfl)⟩ hP hD hS dX1_fits_43 (Nat.le_refl _) (Nat.le_refl _)
def gsX_X1_setWears_2 (NF : Nat) (p1 : Int32) (p2 : Int32) (v : Nat → Int32) (f : Nat → Nat → Int32) : (Nat → Int32) × (Nat → Nat → Int32) :=
  if gsX_X7_hasMan_1 NF p1 v f = 1 then
    let t4 : Int32 := 6 + p1
    let f6 : Nat → Nat → Int32 := upd2 f 18 (upd (f 18) t4.toNatClampNeg p2)
    (v, f6)
  else
    (v, f)
theorem gsX_X1_setWears_2_q0 {NF : Nat} {p1 : Int32} {p2 : Int32} {v : Nat → Int32} {f : Nat → Nat → Int32} {t4 : Int32} {f6 : Nat → Nat → Int32} (h0 : gsX_X7_hasMan_1 NF p1 v f = 1) (h1 : t4 = 6 + p1) (h2 : f6 = upd2 f 18 (upd (f 18) t4.toNatClampNeg p2)) : gsX_X1_setWears_2 NF p1 p2 v f = (v, f6) := by
  subst h1 h2
  simp only [gsX_X1_setWears_2, h0, ite11, ite01, if_true, if_false]
theorem gsX_X1_setWears_2_q1 {NF : Nat} {p1 : Int32} {p2 : Int32} {v : Nat → Int32} {f : Nat → Nat → Int32} (h0 : gsX_X7_hasMan_1 NF p1 v f = 0) : gsX_X1_setWears_2 NF p1 p2 v f = (v, f) := by
  simp only [gsX_X1_setWears_2, h0, ite11, ite01, if_true, if_false]
set_option maxHeartbeats 4000000 in
set_option maxRecDepth 100000 in
theorem sX_X1_setWears_2 (NF : Nat) (l : Launch) (dC : Nat → ClassId) (dI : Nat → Nat → Nat) (cy : Nat → ClassId) (x0 : Nat) (x : Nat → Nat) (p1 : Int32) (p2 : Int32) (v : Nat → Int32) (f : Nat → Nat → Int32) (hIv : XI v)  : ctV l (dC, dI) cy yX1_setWears cX1_setWears 3 2 81 0 0 ((Nat → Int32) × (Nat → Nat → Int32)) [.ref (x 27), .int p1, .int p2] (XW cy x0 x v f) (fun u => gsX_X1_setWears_2 NF p1 p2 v f = u ∧ KV [] u.1 v ∧ KF [18] u.2 f ∧ XI u.1 ∧ u.1 0 = v 0 ∧ u.1 1 = v 1 ∧ u.1 7 = v 7 ∧ u.1 8 = v 8 ∧ u.1 9 = v 9 ∧ u.1 10 = v 10 ∧ u.1 31 = v 31 ∧ u.1 32 = v 32) (fun u => XW cy x0 x u.1 u.2) := by
  refine ctV_of (by decide) (Nat.le_of_ble_eq_true rfl) (fun p e s m below meth c A ls Q hx hb hml hts hown hnm hE hP hD hA hl ret => ?_)
  have hM_v : KV [] v v := fun _ _ => rfl
  have hA_f : KF [18] f f := fun _ _ => rfl
  have hown : s.vm.findClass RX1 = some m.cls := hown
  have hS : va_S A s.heap s.heap [] := va_S.rf
  have hl : lv_has ls 3 [(0, .ref (x 27)), (1, .int p1), (2, .int p2)] := hl
  refine lv_aload_n hx hb dX1_setWears_0 rfl (lv_at hl 0 rfl) ?_
  refine va_get (D := (dC, dI)) (ci := 1) (v := .ref (x 26)) (C := RX1) (T := TX1) (N := 2) hx hb hts inB_1 hown hE.1 hP 28 rfl rfl 0 (by decide) (hts _ k_318) (fun _ h9 => h9) rfl dX1_setWears_1 ?_
  refine lv_iload_n hx hb dX1_setWears_4 rfl (lv_at hl 1 rfl) ?_
  refine cbVi (n := 1) (rest := []) hx hb hml hown hts hE hP hD hS hA (sX_X7_hasMan_1 NF l dC dI cy x0 x p1 v f hIv ) k_808 k_307 k_308 k_104 k_309 (by decide +kernel) ⟨Nat.le_of_ble_eq_true rfl, Nat.le_of_ble_eq_true rfl⟩ 27 7 rfl rfl (rfl) hl.1 rfl (Nat.le_of_ble_eq_true rfl) dX1_setWears_5 (fun r1 u H locs hw hP hD hS => ?_)
  obtain ⟨hG2, hw⟩ := hw
  rcases hw with ⟨g3, g3_0, g3_1, g3_2⟩ | ⟨g3⟩
  · skip
    subst g3
    refine lv_if_eq (tgt := 21) hx hb dX1_setWears_8 (by decide) (fun c0 => absurd c0 (by decide)) (fun _ => ?_)
    refine lv_aload_n hx hb dX1_setWears_11 rfl (lv_at hl 0 rfl) ?_
    refine va_get (D := (dC, dI)) (ci := 1) (v := .ref (x 28)) (C := RX1) (T := TX1) (N := 2) hx hb hts inB_1 hown hE.1 hP 28 rfl rfl 1 (by decide) (hts _ k_319) (fun _ h9 => h9) rfl dX1_setWears_12 ?_
    refine lv_bipush (v := 6) hx hb dX1_setWears_15 (by decide) ?_
    refine lv_iload_n hx hb dX1_setWears_17 rfl (lv_at hl 1 rfl) ?_
    refine lv_iadd hx hb dX1_setWears_18 ?_
    refine lv_topi (fun t4 et4 => ?_)
    have rg5 := fb_rng p1
    have zt4 : t4.toInt = 6 + p1.toInt := by rw [et4]; exact add_i (by decide) rfl (by omega) (by omega)
    refine lv_iload_n hx hb dX1_setWears_19 rfl (lv_at hl 2 rfl) ?_
    refine stI hx hb hE hP hD hS 29 rfl (vp_in_iff.mpr ⟨by omega, by omega⟩) rfl dX1_setWears_20 (fun H locs hP hD hS => ?_)
    obtain ⟨f6, ef6, hP, hD⟩ : ∃ fz9, fz9 = upd2 f 18 (upd (f 18) t4.toNatClampNeg p2) ∧ va_P (dC, dI) vwCl (XW cy x0 x v fz9) H ∧ va_D A (XW cy x0 x v fz9) := ⟨_, rfl, hP, hD⟩
    have hA_f6 : KF [18] f6 f := by rw [ef6]; exact KF.up hA_f rfl
    exact ret (v, f6) _ _ _ _ _ _ ⟨(gsX_X1_setWears_2_q0 hG2 et4 ef6), hM_v, hA_f6, hIv, rfl, rfl, rfl, rfl, rfl, rfl, rfl, rfl⟩ hP hD hS dX1_setWears_21 (Nat.le_refl _) (Nat.le_refl _)
  · skip
    subst g3
    refine lv_if_eq (tgt := 21) hx hb dX1_setWears_8 (by decide) (fun _ => ?_) (fun c0 => absurd (by decide) c0)
    exact ret (v, f) _ _ _ _ _ _ ⟨(gsX_X1_setWears_2_q1 hG2), hM_v, hA_f, hIv, rfl, rfl, rfl, rfl, rfl, rfl, rfl, rfl⟩ hP hD hS dX1_setWears_21 (Nat.le_refl _) (Nat.le_refl _)
def gsX_X1_setPart_2 (NF : Nat) (p1 : Int32) (p2 : Int32) (p3 : Int32) (v : Nat → Int32) (f : Nat → Nat → Int32) : (Nat → Int32) × (Nat → Nat → Int32) :=
  if gsX_X7_hasCoat_1 NF p2 v f = 1 then
    if p1 < 0 then
      (v, f)
    else
      if 5 ≤ p1 then
        (v, f)
      else
        let t6 : Int32 := p1 * 6
        let t8 : Int32 := 12 + t6
        let t10 : Int32 := t8 + p2
        let f13 : Nat → Nat → Int32 := upd2 f 18 (upd (f 18) t10.toNatClampNeg p3)
        (v, f13)
  else
    (v, f)
theorem gsX_X1_setPart_2_q0 {NF : Nat} {p1 : Int32} {p2 : Int32} {p3 : Int32} {v : Nat → Int32} {f : Nat → Nat → Int32} (h0 : gsX_X7_hasCoat_1 NF p2 v f = 1) (h1 : (p1 < 0)) : gsX_X1_setPart_2 NF p1 p2 p3 v f = (v, f) := by
  simp only [gsX_X1_setPart_2, h0, if_pos h1, ite11, ite01, if_true, if_false]
theorem gsX_X1_setPart_2_q1 {NF : Nat} {p1 : Int32} {p2 : Int32} {p3 : Int32} {v : Nat → Int32} {f : Nat → Nat → Int32} (h0 : gsX_X7_hasCoat_1 NF p2 v f = 1) (h1 : ¬ (p1 < 0)) (h2 : (5 ≤ p1)) : gsX_X1_setPart_2 NF p1 p2 p3 v f = (v, f) := by
  simp only [gsX_X1_setPart_2, h0, if_neg h1, if_pos h2, ite11, ite01, if_true, if_false]
theorem gsX_X1_setPart_2_q2 {NF : Nat} {p1 : Int32} {p2 : Int32} {p3 : Int32} {v : Nat → Int32} {f : Nat → Nat → Int32} {t6 : Int32} {t8 : Int32} {t10 : Int32} {f13 : Nat → Nat → Int32} (h0 : gsX_X7_hasCoat_1 NF p2 v f = 1) (h1 : ¬ (p1 < 0)) (h2 : ¬ (5 ≤ p1)) (h3 : t6 = p1 * 6) (h4 : t8 = 12 + t6) (h5 : t10 = t8 + p2) (h6 : f13 = upd2 f 18 (upd (f 18) t10.toNatClampNeg p3)) : gsX_X1_setPart_2 NF p1 p2 p3 v f = (v, f13) := by
  subst h3 h4 h5 h6
  simp only [gsX_X1_setPart_2, h0, if_neg h1, if_neg h2, ite11, ite01, if_true, if_false]
theorem gsX_X1_setPart_2_q3 {NF : Nat} {p1 : Int32} {p2 : Int32} {p3 : Int32} {v : Nat → Int32} {f : Nat → Nat → Int32} (h0 : gsX_X7_hasCoat_1 NF p2 v f = 0) : gsX_X1_setPart_2 NF p1 p2 p3 v f = (v, f) := by
  simp only [gsX_X1_setPart_2, h0, ite11, ite01, if_true, if_false]
set_option maxHeartbeats 4000000 in
set_option maxRecDepth 100000 in
theorem sX_X1_setPart_2 (NF : Nat) (l : Launch) (dC : Nat → ClassId) (dI : Nat → Nat → Nat) (cy : Nat → ClassId) (x0 : Nat) (x : Nat → Nat) (p1 : Int32) (p2 : Int32) (p3 : Int32) (v : Nat → Int32) (f : Nat → Nat → Int32) (hIv : XI v)  : ctV l (dC, dI) cy yX1_setPart cX1_setPart 4 2 81 0 0 ((Nat → Int32) × (Nat → Nat → Int32)) [.ref (x 27), .int p1, .int p2, .int p3] (XW cy x0 x v f) (fun u => gsX_X1_setPart_2 NF p1 p2 p3 v f = u ∧ KV [] u.1 v ∧ KF [18] u.2 f ∧ XI u.1 ∧ u.1 0 = v 0 ∧ u.1 1 = v 1 ∧ u.1 7 = v 7 ∧ u.1 8 = v 8 ∧ u.1 9 = v 9 ∧ u.1 10 = v 10 ∧ u.1 31 = v 31 ∧ u.1 32 = v 32) (fun u => XW cy x0 x u.1 u.2) := by
  refine ctV_of (by decide) (Nat.le_of_ble_eq_true rfl) (fun p e s m below meth c A ls Q hx hb hml hts hown hnm hE hP hD hA hl ret => ?_)
  have hM_v : KV [] v v := fun _ _ => rfl
  have hA_f : KF [18] f f := fun _ _ => rfl
  have hown : s.vm.findClass RX1 = some m.cls := hown
  have hS : va_S A s.heap s.heap [] := va_S.rf
  have hl : lv_has ls 4 [(0, .ref (x 27)), (1, .int p1), (2, .int p2), (3, .int p3)] := hl
  refine lv_aload_n hx hb dX1_setPart_0 rfl (lv_at hl 0 rfl) ?_
  refine va_get (D := (dC, dI)) (ci := 1) (v := .ref (x 26)) (C := RX1) (T := TX1) (N := 2) hx hb hts inB_1 hown hE.1 hP 28 rfl rfl 0 (by decide) (hts _ k_318) (fun _ h9 => h9) rfl dX1_setPart_1 ?_
  refine lv_iload_n hx hb dX1_setPart_4 rfl (lv_at hl 2 rfl) ?_
  refine cbVi (n := 1) (rest := []) hx hb hml hown hts hE hP hD hS hA (sX_X7_hasCoat_1 NF l dC dI cy x0 x p2 v f hIv ) k_821 k_315 k_316 k_104 k_317 (by decide +kernel) ⟨Nat.le_of_ble_eq_true rfl, Nat.le_of_ble_eq_true rfl⟩ 27 7 rfl rfl (rfl) hl.1 rfl (Nat.le_of_ble_eq_true rfl) dX1_setPart_5 (fun r1 u H locs hw hP hD hS => ?_)
  obtain ⟨hG2, hw⟩ := hw
  rcases hw with ⟨g3, g3_0, g3_1, g3_2⟩ | ⟨g3⟩
  · skip
    subst g3
    refine lv_if_eq (tgt := 35) hx hb dX1_setPart_8 (by decide) (fun c0 => absurd c0 (by decide)) (fun _ => ?_)
    refine lv_iload_n hx hb dX1_setPart_11 rfl (lv_at hl 1 rfl) ?_
    refine lv_if_lt (tgt := 35) hx hb dX1_setPart_12 (by decide) (fun c4 => ?_) (fun c4 => ?_)
    · skip
      have zc4 : p1.toInt < 0 := by rw [fa_lt, show (0 : Int32).toInt = 0 from by decide] at c4; exact c4
      exact ret (v, f) _ _ _ _ _ _ ⟨(gsX_X1_setPart_2_q0 hG2 c4), hM_v, hA_f, hIv, rfl, rfl, rfl, rfl, rfl, rfl, rfl, rfl⟩ hP hD hS dX1_setPart_35 (Nat.le_refl _) (Nat.le_refl _)
    · skip
      have zc4 : ¬ (p1.toInt < 0) := by rw [fa_lt, show (0 : Int32).toInt = 0 from by decide] at c4; exact c4
      refine lv_iload_n hx hb dX1_setPart_15 rfl (lv_at hl 1 rfl) ?_
      refine lv_iconst (v := 5) hx hb dX1_setPart_16 (by decide) ?_
      refine lv_icmp_ge (tgt := 35) hx hb dX1_setPart_17 (by decide) (fun c5 => ?_) (fun c5 => ?_)
      · skip
        have zc5 : 5 ≤ p1.toInt := by rw [fa_le, show (5 : Int32).toInt = 5 from by decide] at c5; exact c5
        exact ret (v, f) _ _ _ _ _ _ ⟨(gsX_X1_setPart_2_q1 hG2 c4 c5), hM_v, hA_f, hIv, rfl, rfl, rfl, rfl, rfl, rfl, rfl, rfl⟩ hP hD hS dX1_setPart_35 (Nat.le_refl _) (Nat.le_refl _)
      · skip
        have zc5 : ¬ (5 ≤ p1.toInt) := by rw [fa_le, show (5 : Int32).toInt = 5 from by decide] at c5; exact c5
        refine lv_aload_n hx hb dX1_setPart_20 rfl (lv_at hl 0 rfl) ?_
        refine va_get (D := (dC, dI)) (ci := 1) (v := .ref (x 28)) (C := RX1) (T := TX1) (N := 2) hx hb hts inB_1 hown hE.1 hP 28 rfl rfl 1 (by decide) (hts _ k_319) (fun _ h9 => h9) rfl dX1_setPart_21 ?_
        refine lv_bipush (v := 12) hx hb dX1_setPart_24 (by decide) ?_
        refine lv_iload_n hx hb dX1_setPart_26 rfl (lv_at hl 1 rfl) ?_
        refine lv_bipush (v := 6) hx hb dX1_setPart_27 (by decide) ?_
        refine lv_imul hx hb dX1_setPart_29 ?_
        refine lv_topi (fun t6 et6 => ?_)
        have rg7 := fb_rng p1
        have zt6 : t6.toInt = p1.toInt * 6 := by rw [et6]; exact mul_i rfl (by decide) (by omega) (by omega)
        refine lv_iadd hx hb dX1_setPart_30 ?_
        refine lv_topi (fun t8 et8 => ?_)
        have rg9 := fb_rng t6
        have zt8 : t8.toInt = 12 + t6.toInt := by rw [et8]; exact add_i (by decide) rfl (by omega) (by omega)
        refine lv_iload_n hx hb dX1_setPart_31 rfl (lv_at hl 2 rfl) ?_
        refine lv_iadd hx hb dX1_setPart_32 ?_
        refine lv_topi (fun t10 et10 => ?_)
        have rg11 := fb_rng t8
        have rg12 := fb_rng p2
        have zt10 : t10.toInt = t8.toInt + p2.toInt := by rw [et10]; exact add_i rfl rfl (by omega) (by omega)
        refine lv_iload_n hx hb dX1_setPart_33 rfl (lv_at hl 3 rfl) ?_
        refine stI hx hb hE hP hD hS 29 rfl (vp_in_iff.mpr ⟨by omega, by omega⟩) rfl dX1_setPart_34 (fun H locs hP hD hS => ?_)
        obtain ⟨f13, ef13, hP, hD⟩ : ∃ fz9, fz9 = upd2 f 18 (upd (f 18) t10.toNatClampNeg p3) ∧ va_P (dC, dI) vwCl (XW cy x0 x v fz9) H ∧ va_D A (XW cy x0 x v fz9) := ⟨_, rfl, hP, hD⟩
        have hA_f13 : KF [18] f13 f := by rw [ef13]; exact KF.up hA_f rfl
        exact ret (v, f13) _ _ _ _ _ _ ⟨(gsX_X1_setPart_2_q2 hG2 c4 c5 et6 et8 et10 ef13), hM_v, hA_f13, hIv, rfl, rfl, rfl, rfl, rfl, rfl, rfl, rfl⟩ hP hD hS dX1_setPart_35 (Nat.le_refl _) (Nat.le_refl _)
  · skip
    subst g3
    refine lv_if_eq (tgt := 35) hx hb dX1_setPart_8 (by decide) (fun _ => ?_) (fun c0 => absurd (by decide) c0)
    exact ret (v, f) _ _ _ _ _ _ ⟨(gsX_X1_setPart_2_q3 hG2), hM_v, hA_f, hIv, rfl, rfl, rfl, rfl, rfl, rfl, rfl, rfl⟩ hP hD hS dX1_setPart_35 (Nat.le_refl _) (Nat.le_refl _)
def gsX_X1_weather_2 (NF : Nat) (p1 : Int32) (p2 : Int32) (v : Nat → Int32) (f : Nat → Nat → Int32) : (Nat → Int32) × (Nat → Nat → Int32) :=
  let r1 : Int32 := gsX_X1_part_2 NF 3 p1 v f
  let t3 : Int32 := r1 + 1
  let t4 : Int32 := if t3 < (99 : Int32) then t3 else (99 : Int32)
  match gsX_X1_setPart_2 NF 3 p1 t4 v f with
  | (v6, f7) =>
    let r8 : Int32 := gsX_X1_part_2 NF 1 p1 v6 f7
    let t10 : Int32 := r8 - p2
    let t11 : Int32 := if (0 : Int32) < t10 then t10 else (0 : Int32)
    match gsX_X1_setPart_2 NF 1 p1 t11 v6 f7 with
    | (v13, f14) =>
      let r15 : Int32 := gsX_X1_part_2 NF 0 p1 v13 f14
      let t17 : Int32 := r15 - p2
      let t18 : Int32 := if (0 : Int32) < t17 then t17 else (0 : Int32)
      match gsX_X1_setPart_2 NF 0 p1 t18 v13 f14 with
      | (v20, f21) =>
        (v20, f21)
theorem gsX_X1_weather_2_q0 {NF : Nat} {p1 : Int32} {p2 : Int32} {v : Nat → Int32} {f : Nat → Nat → Int32} {r1 : Int32} {t3 : Int32} {t4 : Int32} {v6 : Nat → Int32} {f7 : Nat → Nat → Int32} {r8 : Int32} {t10 : Int32} {t11 : Int32} {v13 : Nat → Int32} {f14 : Nat → Nat → Int32} {r15 : Int32} {t17 : Int32} {t18 : Int32} {v20 : Nat → Int32} {f21 : Nat → Nat → Int32} (h0 : r1 = gsX_X1_part_2 NF 3 p1 v f) (h1 : t3 = r1 + 1) (h2 : t4 = if t3 < (99 : Int32) then t3 else (99 : Int32)) (h3 : gsX_X1_setPart_2 NF 3 p1 t4 v f = (v6, f7)) (h4 : r8 = gsX_X1_part_2 NF 1 p1 v6 f7) (h5 : t10 = r8 - p2) (h6 : t11 = if (0 : Int32) < t10 then t10 else (0 : Int32)) (h7 : gsX_X1_setPart_2 NF 1 p1 t11 v6 f7 = (v13, f14)) (h8 : r15 = gsX_X1_part_2 NF 0 p1 v13 f14) (h9 : t17 = r15 - p2) (h10 : t18 = if (0 : Int32) < t17 then t17 else (0 : Int32)) (h11 : gsX_X1_setPart_2 NF 0 p1 t18 v13 f14 = (v20, f21)) : gsX_X1_weather_2 NF p1 p2 v f = (v20, f21) := by
  subst h0 h1 h2 h4 h5 h6 h8 h9 h10
  simp only [gsX_X1_weather_2, h3, h7, h11]
set_option maxHeartbeats 4000000 in
set_option maxRecDepth 100000 in
theorem sX_X1_weather_2 (NF : Nat) (l : Launch) (dC : Nat → ClassId) (dI : Nat → Nat → Nat) (cy : Nat → ClassId) (x0 : Nat) (x : Nat → Nat) (p1 : Int32) (p2 : Int32) (v : Nat → Int32) (f : Nat → Nat → Int32) (hIv : XI v)  : ctV l (dC, dI) cy yX1_weather cX1_weather 3 3 104 0 0 ((Nat → Int32) × (Nat → Nat → Int32)) [.ref (x 27), .int p1, .int p2] (XW cy x0 x v f) (fun u => gsX_X1_weather_2 NF p1 p2 v f = u ∧ KV [] u.1 v ∧ KF [18] u.2 f ∧ XI u.1 ∧ u.1 0 = v 0 ∧ u.1 1 = v 1 ∧ u.1 7 = v 7 ∧ u.1 8 = v 8 ∧ u.1 9 = v 9 ∧ u.1 10 = v 10 ∧ u.1 31 = v 31 ∧ u.1 32 = v 32) (fun u => XW cy x0 x u.1 u.2) := by
  refine ctV_of (by decide) (Nat.le_of_ble_eq_true rfl) (fun p e s m below meth c A ls Q hx hb hml hts hown hnm hE hP hD hA hl ret => ?_)
  have hM_v : KV [] v v := fun _ _ => rfl
  have hA_f : KF [18] f f := fun _ _ => rfl
  have hown : s.vm.findClass RX1 = some m.cls := hown
  have hS : va_S A s.heap s.heap [] := va_S.rf
  have hl : lv_has ls 3 [(0, .ref (x 27)), (1, .int p1), (2, .int p2)] := hl
  refine lv_aload_n hx hb dX1_weather_0 rfl (lv_at hl 0 rfl) ?_
  refine lv_iconst (v := 3) hx hb dX1_weather_1 (by decide) ?_
  refine lv_iload_n hx hb dX1_weather_2 rfl (lv_at hl 1 rfl) ?_
  refine lv_bipush (v := 99) hx hb dX1_weather_3 (by decide) ?_
  refine lv_aload_n hx hb dX1_weather_5 rfl (lv_at hl 0 rfl) ?_
  refine lv_iconst (v := 3) hx hb dX1_weather_6 (by decide) ?_
  refine lv_iload_n hx hb dX1_weather_7 rfl (lv_at hl 1 rfl) ?_
  refine cbVi (n := 2) (rest := [.int 99, .int p1, .int 3, .ref (x 27)]) hx hb hml hown hts hE hP hD hS hA (sX_X1_part_2 NF l dC dI cy x0 x 3 p1 v f hIv ) k_827 k_828 k_829 k_106 k_830 (by decide +kernel) ⟨Nat.le_of_ble_eq_true rfl, Nat.le_of_ble_eq_true rfl⟩ 28 1 rfl rfl (rfl) hl.1 rfl (Nat.le_of_ble_eq_true rfl) dX1_weather_8 (fun r1 u H locs hw hP hD hS => ?_)
  have hG2 := hw
  refine lv_iconst (v := 1) hx hb dX1_weather_11 (by decide) ?_
  refine lv_iadd hx hb dX1_weather_12 ?_
  refine lv_topi (fun t3 et3 => ?_)
  refine va_mmin hx hb (by rw [hml]; exact hl.1.symm) hown (hts _ k_869) (hts _ k_643) (hts _ k_119) (hts _ k_644) (Nat.le_of_ble_eq_true rfl) (Nat.le_of_ble_eq_true rfl) (Nat.le_of_ble_eq_true rfl) (Nat.le_of_ble_eq_true rfl) dX1_weather_13 ?_
  refine lv_topi (fun t4 et4 => ?_)
  have zt4 : t4.toInt = min (99) (t3.toInt) := by rw [et4]; exact mmin_i (by decide) rfl
  refine cbVv (n := 3) (rest := []) hx hb hml hown hts hE hP hD hS hA (sX_X1_setPart_2 NF l dC dI cy x0 x 3 p1 t4 v f hIv ) k_874 k_875 k_876 k_106 k_877 (by decide +kernel) ⟨Nat.le_of_ble_eq_true rfl, Nat.le_of_ble_eq_true rfl⟩ 28 1 rfl rfl (rfl) hl.1 rfl (Nat.le_of_ble_eq_true rfl) dX1_weather_16 (fun u H locs hw hP hD hS => ?_)
  obtain ⟨hG5, hw⟩ := hw
  obtain ⟨v6, f7⟩ := u
  obtain ⟨kV_v6, kF_f7, hIv6, hk0_v6, hk1_v6, hk7_v6, hk8_v6, hk9_v6, hk10_v6, hk31_v6, hk32_v6⟩ := hw
  have hM_v6 : KV [] v6 v := KV.tr kV_v6 hM_v rfl
  have hA_f7 : KF [18] f7 f := KF.tr kF_f7 hA_f rfl
  have hP : va_P (dC, dI) vwCl (XW cy x0 x v6 f7) H := hP
  have hD : va_D A (XW cy x0 x v6 f7) := hD
  have hq0_v6 : v6 0 = (v 0) := hk0_v6
  have hq1_v6 : v6 1 = (v 1) := hk1_v6
  have hq7_v6 : v6 7 = (v 7) := hk7_v6
  have hq8_v6 : v6 8 = (v 8) := hk8_v6
  have hq9_v6 : v6 9 = (v 9) := hk9_v6
  have hq10_v6 : v6 10 = (v 10) := hk10_v6
  have hq31_v6 : v6 31 = (v 31) := hk31_v6
  have hq32_v6 : v6 32 = (v 32) := hk32_v6
  refine lv_aload_n hx hb dX1_weather_19 rfl (lv_at hl 0 rfl) ?_
  refine lv_iconst (v := 1) hx hb dX1_weather_20 (by decide) ?_
  refine lv_iload_n hx hb dX1_weather_21 rfl (lv_at hl 1 rfl) ?_
  refine lv_iconst (v := 0) hx hb dX1_weather_22 (by decide) ?_
  refine lv_aload_n hx hb dX1_weather_23 rfl (lv_at hl 0 rfl) ?_
  refine lv_iconst (v := 1) hx hb dX1_weather_24 (by decide) ?_
  refine lv_iload_n hx hb dX1_weather_25 rfl (lv_at hl 1 rfl) ?_
  refine cbVi (n := 2) (rest := [.int 0, .int p1, .int 1, .ref (x 27)]) hx hb hml hown hts hE hP hD hS hA (sX_X1_part_2 NF l dC dI cy x0 x 1 p1 v6 f7 hIv6 ) k_827 k_828 k_829 k_106 k_830 (by decide +kernel) ⟨Nat.le_of_ble_eq_true rfl, Nat.le_of_ble_eq_true rfl⟩ 28 1 rfl rfl (rfl) hl.1 rfl (Nat.le_of_ble_eq_true rfl) dX1_weather_26 (fun r8 u H locs hw hP hD hS => ?_)
  have hG9 := hw
  refine lv_iload_n hx hb dX1_weather_29 rfl (lv_at hl 2 rfl) ?_
  refine lv_isub hx hb dX1_weather_30 ?_
  refine lv_topi (fun t10 et10 => ?_)
  refine va_mmax hx hb (by rw [hml]; exact hl.1.symm) hown (hts _ k_878) (hts _ k_640) (hts _ k_119) (hts _ k_641) (Nat.le_of_ble_eq_true rfl) (Nat.le_of_ble_eq_true rfl) (Nat.le_of_ble_eq_true rfl) (Nat.le_of_ble_eq_true rfl) dX1_weather_31 ?_
  refine lv_topi (fun t11 et11 => ?_)
  have zt11 : t11.toInt = max (0) (t10.toInt) := by rw [et11]; exact mmax_i (by decide) rfl
  refine cbVv (n := 3) (rest := []) hx hb hml hown hts hE hP hD hS hA (sX_X1_setPart_2 NF l dC dI cy x0 x 1 p1 t11 v6 f7 hIv6 ) k_874 k_875 k_876 k_106 k_877 (by decide +kernel) ⟨Nat.le_of_ble_eq_true rfl, Nat.le_of_ble_eq_true rfl⟩ 28 1 rfl rfl (rfl) hl.1 rfl (Nat.le_of_ble_eq_true rfl) dX1_weather_34 (fun u H locs hw hP hD hS => ?_)
  obtain ⟨hG12, hw⟩ := hw
  obtain ⟨v13, f14⟩ := u
  obtain ⟨kV_v13, kF_f14, hIv13, hk0_v13, hk1_v13, hk7_v13, hk8_v13, hk9_v13, hk10_v13, hk31_v13, hk32_v13⟩ := hw
  have hM_v13 : KV [] v13 v := KV.tr kV_v13 hM_v6 rfl
  have hA_f14 : KF [18] f14 f := KF.tr kF_f14 hA_f7 rfl
  have hP : va_P (dC, dI) vwCl (XW cy x0 x v13 f14) H := hP
  have hD : va_D A (XW cy x0 x v13 f14) := hD
  have hq0_v13 : v13 0 = (v 0) := hk0_v13.trans hq0_v6
  have hq1_v13 : v13 1 = (v 1) := hk1_v13.trans hq1_v6
  have hq7_v13 : v13 7 = (v 7) := hk7_v13.trans hq7_v6
  have hq8_v13 : v13 8 = (v 8) := hk8_v13.trans hq8_v6
  have hq9_v13 : v13 9 = (v 9) := hk9_v13.trans hq9_v6
  have hq10_v13 : v13 10 = (v 10) := hk10_v13.trans hq10_v6
  have hq31_v13 : v13 31 = (v 31) := hk31_v13.trans hq31_v6
  have hq32_v13 : v13 32 = (v 32) := hk32_v13.trans hq32_v6
  refine lv_aload_n hx hb dX1_weather_37 rfl (lv_at hl 0 rfl) ?_
  refine lv_iconst (v := 0) hx hb dX1_weather_38 (by decide) ?_
  refine lv_iload_n hx hb dX1_weather_39 rfl (lv_at hl 1 rfl) ?_
  refine lv_iconst (v := 0) hx hb dX1_weather_40 (by decide) ?_
  refine lv_aload_n hx hb dX1_weather_41 rfl (lv_at hl 0 rfl) ?_
  refine lv_iconst (v := 0) hx hb dX1_weather_42 (by decide) ?_
  refine lv_iload_n hx hb dX1_weather_43 rfl (lv_at hl 1 rfl) ?_
  refine cbVi (n := 2) (rest := [.int 0, .int p1, .int 0, .ref (x 27)]) hx hb hml hown hts hE hP hD hS hA (sX_X1_part_2 NF l dC dI cy x0 x 0 p1 v13 f14 hIv13 ) k_827 k_828 k_829 k_106 k_830 (by decide +kernel) ⟨Nat.le_of_ble_eq_true rfl, Nat.le_of_ble_eq_true rfl⟩ 28 1 rfl rfl (rfl) hl.1 rfl (Nat.le_of_ble_eq_true rfl) dX1_weather_44 (fun r15 u H locs hw hP hD hS => ?_)
  have hG16 := hw
  refine lv_iload_n hx hb dX1_weather_47 rfl (lv_at hl 2 rfl) ?_
  refine lv_isub hx hb dX1_weather_48 ?_
  refine lv_topi (fun t17 et17 => ?_)
  refine va_mmax hx hb (by rw [hml]; exact hl.1.symm) hown (hts _ k_878) (hts _ k_640) (hts _ k_119) (hts _ k_641) (Nat.le_of_ble_eq_true rfl) (Nat.le_of_ble_eq_true rfl) (Nat.le_of_ble_eq_true rfl) (Nat.le_of_ble_eq_true rfl) dX1_weather_49 ?_
  refine lv_topi (fun t18 et18 => ?_)
  have zt18 : t18.toInt = max (0) (t17.toInt) := by rw [et18]; exact mmax_i (by decide) rfl
  refine cbVv (n := 3) (rest := []) hx hb hml hown hts hE hP hD hS hA (sX_X1_setPart_2 NF l dC dI cy x0 x 0 p1 t18 v13 f14 hIv13 ) k_874 k_875 k_876 k_106 k_877 (by decide +kernel) ⟨Nat.le_of_ble_eq_true rfl, Nat.le_of_ble_eq_true rfl⟩ 28 1 rfl rfl (rfl) hl.1 rfl (Nat.le_of_ble_eq_true rfl) dX1_weather_52 (fun u H locs hw hP hD hS => ?_)
  obtain ⟨hG19, hw⟩ := hw
  obtain ⟨v20, f21⟩ := u
  obtain ⟨kV_v20, kF_f21, hIv20, hk0_v20, hk1_v20, hk7_v20, hk8_v20, hk9_v20, hk10_v20, hk31_v20, hk32_v20⟩ := hw
  have hM_v20 : KV [] v20 v := KV.tr kV_v20 hM_v13 rfl
  have hA_f21 : KF [18] f21 f := KF.tr kF_f21 hA_f14 rfl
  have hP : va_P (dC, dI) vwCl (XW cy x0 x v20 f21) H := hP
  have hD : va_D A (XW cy x0 x v20 f21) := hD
  have hq0_v20 : v20 0 = (v 0) := hk0_v20.trans hq0_v13
  have hq1_v20 : v20 1 = (v 1) := hk1_v20.trans hq1_v13
  have hq7_v20 : v20 7 = (v 7) := hk7_v20.trans hq7_v13
  have hq8_v20 : v20 8 = (v 8) := hk8_v20.trans hq8_v13
  have hq9_v20 : v20 9 = (v 9) := hk9_v20.trans hq9_v13
  have hq10_v20 : v20 10 = (v 10) := hk10_v20.trans hq10_v13
  have hq31_v20 : v20 31 = (v 31) := hk31_v20.trans hq31_v13
  have hq32_v20 : v20 32 = (v 32) := hk32_v20.trans hq32_v13
  exact ret (v20, f21) _ _ _ _ _ _ ⟨(gsX_X1_weather_2_q0 hG2.symm et3 et4 hG5 hG9.symm et10 et11 hG12 hG16.symm et17 et18 hG19), hM_v20, hA_f21, hIv20, (hk0_v20.trans (hk0_v13.trans hk0_v6)), (hk1_v20.trans (hk1_v13.trans hk1_v6)), (hk7_v20.trans (hk7_v13.trans hk7_v6)), (hk8_v20.trans (hk8_v13.trans hk8_v6)), (hk9_v20.trans (hk9_v13.trans hk9_v6)), (hk10_v20.trans (hk10_v13.trans hk10_v6)), (hk31_v20.trans (hk31_v13.trans hk31_v6)), (hk32_v20.trans (hk32_v13.trans hk32_v6))⟩ hP hD hS dX1_weather_55 (Nat.le_refl _) (Nat.le_refl _)
