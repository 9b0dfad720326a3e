set_option maxHeartbeats 4000000 in
set_option maxRecDepth 100000 in
theorem sX_X3_coatBehind_1 (l : Launch) (dC : Nat → ClassId) (dI : Nat → Nat → Nat) (cy : Nat → ClassId) (x0 : Nat) (x : Nat → Nat) (p1 : Int32) (p2 : Int32) (p3 : Int32) (v : Nat → Int32) (f : Nat → Nat → Int32) (hIv : XI v)  : ctI l (dC, dI) cy yX3_coatBehind cX3_coatBehind 5 .int 6 179 0 0 ((Nat → Int32) × (Nat → Nat → Int32)) [.ref (x 25), .int p1, .int p2, .int p3] (XW cy x0 x v f) (fun r u => KV [] u.1 v ∧ KF [13, 14, 18] u.2 f ∧ XI u.1 ∧ u.1 0 = v 0 ∧ u.1 1 = v 1 ∧ u.1 7 = v 7 ∧ u.1 8 = v 8 ∧ u.1 9 = v 9 ∧ u.1 10 = v 10 ∧ u.1 31 = v 31 ∧ u.1 32 = v 32) (fun u => XW cy x0 x u.1 u.2) := by
  refine ctI_of (by decide) (Nat.le_of_ble_eq_true rfl) (fun p e s m below meth c A ls Q hx hb hml hts hown hE hP hD hA hl ret => ?_)
  have hM_v : KV [] v v := fun _ _ => rfl
  have hA_f : KF [13, 14, 18] f f := fun _ _ => rfl
  have hown : s.vm.findClass RX3 = some m.cls := hown
  have hS : va_S A s.heap s.heap [] := va_S.rf
  have hl : lv_has ls 5 [(0, .ref (x 25)), (1, .int p1), (2, .int p2), (3, .int p3)] := hl
  refine lv_aload_n hx hb dX3_coatBehind_0 rfl (lv_at hl 0 rfl) ?_
  refine va_get (D := (dC, dI)) (ci := 3) (v := .ref (x 27)) (C := RX3) (T := TX3) (N := 10) hx hb hts inB_3 hown hE.1 hP 26 rfl rfl 2 (by decide) (hts _ k_372) (fun _ h9 => h9) rfl dX3_coatBehind_1 ?_
  refine lv_aload_n hx hb dX3_coatBehind_4 rfl (lv_at hl 0 rfl) ?_
  refine va_get (D := (dC, dI)) (ci := 3) (v := .ref (x 21)) (C := RX3) (T := TX3) (N := 10) hx hb hts inB_3 hown hE.1 hP 26 rfl rfl 1 (by decide) (hts _ k_371) (fun _ h9 => h9) rfl dX3_coatBehind_5 ?_
  refine cbVv (n := 1) (rest := []) hx hb hml hown hts hE hP hD hS hA (sX_X1_copy_1 l dC dI cy x0 x  v f hIv ) k_945 k_946 k_947 k_106 k_948 (by decide +kernel) ⟨Nat.le_of_ble_eq_true rfl, Nat.le_of_ble_eq_true rfl⟩ 28 1 rfl rfl (rfl) hl.1 rfl (Nat.le_of_ble_eq_true rfl) dX3_coatBehind_8 (fun u H locs hw hP hD hS => ?_)
  obtain ⟨v1, f2⟩ := u
  obtain ⟨kV_v1, kF_f2, hIv1, hk0_v1, hk1_v1, hk7_v1, hk8_v1, hk9_v1, hk10_v1, hk31_v1, hk32_v1⟩ := hw
  have hM_v1 : KV [] v1 v := KV.tr kV_v1 hM_v rfl
  have hA_f2 : KF [13, 14, 18] f2 f := KF.tr kF_f2 hA_f rfl
  have hP : va_P (dC, dI) vwCl (XW cy x0 x v1 f2) H := hP
  have hD : va_D A (XW cy x0 x v1 f2) := hD
  have hq0_v1 : v1 0 = (v 0) := hk0_v1
  have hq1_v1 : v1 1 = (v 1) := hk1_v1
  have hq7_v1 : v1 7 = (v 7) := hk7_v1
  have hq8_v1 : v1 8 = (v 8) := hk8_v1
  have hq9_v1 : v1 9 = (v 9) := hk9_v1
  have hq10_v1 : v1 10 = (v 10) := hk10_v1
  have hq31_v1 : v1 31 = (v 31) := hk31_v1
  have hq32_v1 : v1 32 = (v 32) := hk32_v1
  refine lv_iconst (v := 0) hx hb dX3_coatBehind_11 (by decide) ?_
  refine lv_istore (lv' := [(4, .int 0), (0, .ref (x 25)), (1, .int p1), (2, .int p2), (3, .int p3)]) hx hb dX3_coatBehind_12 hl (by decide) rfl (fun ls hl => ?_)
  have lp3 : ∀ (n3 : Nat) (l4_3 : Int32) (v3 : Nat → Int32) (f3 : Nat → Nat → Int32), XI v3 → v3 0 = (v 0) → v3 1 = (v 1) → v3 7 = (v 7) → v3 8 = (v 8) → v3 9 = (v 9) → v3 10 = (v 10) → v3 31 = (v 31) → v3 32 = (v 32) → ((0 : Int) ≤ l4_3.toInt ∧ l4_3.toInt ≤ 2147483647) → KV [] v3 v → KF [13, 14, 18] f3 f → (2147483647 - l4_3.toInt).toNat < n3 → ∀ (H : Heap) (locs : List Loc) (ls : Array Slot), va_P (dC, dI) vwCl (XW cy x0 x v3 f3) H → va_D A (XW cy x0 x v3 f3) → va_S A s.heap H locs → lv_has ls 5 [(4, .int l4_3), (0, .ref (x 25)), (1, .int p1), (2, .int p2), (3, .int p3)] → W p l e { frames := 6, cells := 0, slots := 0, locals := 179 } s m ([.ref (x 25), .int p1, .int p2, .int p3] : List Value).toArray below meth c H locs 0 0 Q (F0 m 14 ls []) := by
    intro n3
    induction n3 with
    | zero => intro l4_3 v3 f3 hIv3 hq0_v3 hq1_v3 hq7_v3 hq8_v3 hq9_v3 hq10_v3 hq31_v3 hq32_v3 hr4_3 hM_v3 hA_f3 hm; exact absurd hm (Nat.not_lt_zero _)
    | succ n3 ih3 =>
      intro l4_3 v3 f3 hIv3 hq0_v3 hq1_v3 hq7_v3 hq8_v3 hq9_v3 hq10_v3 hq31_v3 hq32_v3 hr4_3 hM_v3 hA_f3 hm3 H locs ls hP hD hS hl
      refine lv_iload hx hb dX3_coatBehind_14 (lv_at hl 0 rfl) ?_
      refine lv_iload_n hx hb dX3_coatBehind_16 rfl (lv_at hl 3 rfl) ?_
      refine lv_icmp_ge (tgt := 35) hx hb dX3_coatBehind_17 (by decide) (fun c4 => ?_) (fun c4 => ?_)
      · skip
        have zc4 : p2.toInt ≤ l4_3.toInt := by rw [fa_le] at c4; exact c4
        have rg5 := fb_rng l4_3
        have rg6 := fb_rng p2
        refine lv_aload_n hx hb dX3_coatBehind_35 rfl (lv_at hl 1 rfl) ?_
        refine va_get (D := (dC, dI)) (ci := 3) (v := .ref (x 27)) (C := RX3) (T := TX3) (N := 10) hx hb hts inB_3 hown hE.1 hP 26 rfl rfl 2 (by decide) (hts _ k_372) (fun _ h9 => h9) rfl dX3_coatBehind_36 ?_
        refine lv_iload_n hx hb dX3_coatBehind_39 rfl (lv_at hl 2 rfl) ?_
        refine cbVi (n := 1) (rest := []) hx hb hml hown hts hE hP hD hS hA (sX_X1_wears_2 l dC dI cy x0 x p1 v3 f3 hIv3 ) k_950 k_810 k_811 k_106 k_812 (by decide +kernel) ⟨Nat.le_of_ble_eq_true rfl, Nat.le_of_ble_eq_true rfl⟩ 28 1 rfl rfl (rfl) hl.1 rfl (Nat.le_of_ble_eq_true rfl) dX3_coatBehind_40 (fun r7 u H locs hw hP hD hS => ?_)
        exact ret r7 (v3, f3) _ _ _ _ _ _ rfl ⟨hM_v3, hA_f3, hIv3, hq0_v3, hq1_v3, hq7_v3, hq8_v3, hq9_v3, hq10_v3, hq31_v3, hq32_v3⟩ hP hD hS dX3_coatBehind_43 (Nat.le_refl _) (Nat.le_refl _)
      · skip
        have zc4 : ¬ (p2.toInt ≤ l4_3.toInt) := by rw [fa_le] at c4; exact c4
        have rg8 := fb_rng l4_3
        have rg9 := fb_rng p2
        refine lv_aload_n hx hb dX3_coatBehind_20 rfl (lv_at hl 1 rfl) ?_
        refine va_get (D := (dC, dI)) (ci := 3) (v := .ref (x 27)) (C := RX3) (T := TX3) (N := 10) hx hb hts inB_3 hown hE.1 hP 26 rfl rfl 2 (by decide) (hts _ k_372) (fun _ h9 => h9) rfl dX3_coatBehind_21 ?_
        refine lv_iload_n hx hb dX3_coatBehind_24 rfl (lv_at hl 4 rfl) ?_
        refine cbVi (n := 1) (rest := []) hx hb hml hown hts hE hP hD hS hA (sX_X1_passDay_2 l dC dI cy x0 x p3 v3 f3 hIv3 ) k_949 k_866 k_867 k_106 k_868 (by decide +kernel) ⟨Nat.le_of_ble_eq_true rfl, Nat.le_of_ble_eq_true rfl⟩ 28 1 rfl rfl (rfl) hl.1 rfl (Nat.le_of_ble_eq_true rfl) dX3_coatBehind_25 (fun r10 u H locs hw hP hD hS => ?_)
        obtain ⟨v11, f12⟩ := u
        obtain ⟨kV_v11, kF_f12, hIv11, hk0_v11, hk1_v11, hk7_v11, hk8_v11, hk9_v11, hk10_v11, hk31_v11, hk32_v11⟩ := hw
        have hM_v11 : KV [] v11 v := KV.tr kV_v11 hM_v3 rfl
        have hA_f12 : KF [13, 14, 18] f12 f := KF.tr kF_f12 hA_f3 rfl
        have hP : va_P (dC, dI) vwCl (XW cy x0 x v11 f12) H := hP
        have hD : va_D A (XW cy x0 x v11 f12) := hD
        have hq0_v11 : v11 0 = (v 0) := hk0_v11.trans hq0_v3
        have hq1_v11 : v11 1 = (v 1) := hk1_v11.trans hq1_v3
        have hq7_v11 : v11 7 = (v 7) := hk7_v11.trans hq7_v3
        have hq8_v11 : v11 8 = (v 8) := hk8_v11.trans hq8_v3
        have hq9_v11 : v11 9 = (v 9) := hk9_v11.trans hq9_v3
        have hq10_v11 : v11 10 = (v 10) := hk10_v11.trans hq10_v3
        have hq31_v11 : v11 31 = (v 31) := hk31_v11.trans hq31_v3
        have hq32_v11 : v11 32 = (v 32) := hk32_v11.trans hq32_v3
        refine lv_pop hx hb dX3_coatBehind_28 rfl ?_
        obtain ⟨t13, et13⟩ : ∃ y : Int32, y = l4_3 + 1 := ⟨_, rfl⟩
        have zt13 : t13.toInt = l4_3.toInt + 1 := by rw [et13]; exact add_i rfl (by decide) (by omega) (by omega)
        refine lv_iinc (v := t13) (lv' := [(4, .int t13), (0, .ref (x 25)), (1, .int p1), (2, .int p2), (3, .int p3)]) hx hb dX3_coatBehind_29 hl (k := 0) rfl (by rw [et13]; rfl) (by decide) rfl (fun ls hl => ?_)
        refine lv_goto (tgt := 14) hx hb dX3_coatBehind_32 (by decide) ?_
        have rg14 := fb_rng t13
        exact ih3 t13 v11 f12 hIv11 hq0_v11 hq1_v11 hq7_v11 hq8_v11 hq9_v11 hq10_v11 hq31_v11 hq32_v11 ⟨show (0 : Int) ≤ t13.toInt by omega, show t13.toInt ≤ (2147483647 : Int) by omega⟩ hM_v11 hA_f12 (by show (2147483647 - t13.toInt).toNat < n3; omega) _ _ _ hP hD hS (lv_sub hl [0, 1, 2, 3, 4] rfl)
  exact lp3 _ 0 v1 f2 hIv1 hq0_v1 hq1_v1 hq7_v1 hq8_v1 hq9_v1 hq10_v1 hq31_v1 hq32_v1 ⟨by decide, by decide⟩ hM_v1 hA_f2 (Nat.lt_succ_self _) _ _ _ hP hD hS (lv_sub hl [0, 1, 2, 3, 4] rfl)
set_option maxHeartbeats 4000000 in
set_option maxRecDepth 100000 in
theorem sX_X10_will_1 (l : Launch) (dC : Nat → ClassId) (dI : Nat → Nat → Nat) (cy : Nat → ClassId) (x0 : Nat) (x : Nat → Nat) (p1 : Int32) (p2 : Int32) (p3 : Int32) (v : Nat → Int32) (f : Nat → Nat → Int32) (hIv : XI v)  : ctI l (dC, dI) cy yX10_will cX10_will 4 .int 7 203 0 0 ((Nat → Int32) × (Nat → Nat → Int32)) [.ref x0, .int p1, .int p2, .int p3] (XW cy x0 x v f) (fun r u => KV [] u.1 v ∧ KF [13, 14, 18] u.2 f ∧ XI u.1 ∧ u.1 0 = v 0 ∧ u.1 1 = v 1 ∧ u.1 7 = v 7 ∧ u.1 8 = v 8 ∧ u.1 9 = v 9 ∧ u.1 10 = v 10 ∧ u.1 31 = v 31 ∧ u.1 32 = v 32) (fun u => XW cy x0 x u.1 u.2) := by
  refine ctI_of (by decide) (Nat.le_of_ble_eq_true rfl) (fun p e s m below meth c A ls Q hx hb hml hts hown hE hP hD hA hl ret => ?_)
  have hM_v : KV [] v v := fun _ _ => rfl
  have hA_f : KF [13, 14, 18] f f := fun _ _ => rfl
  have hown : s.vm.findClass RX10 = some m.cls := hown
  have hS : va_S A s.heap s.heap [] := va_S.rf
  have hl : lv_has ls 4 [(0, .ref x0), (1, .int p1), (2, .int p2), (3, .int p3)] := hl
  refine lv_aload_n hx hb dX10_will_0 rfl (lv_at hl 0 rfl) ?_
  refine va_get (D := (dC, dI)) (ci := 10) (v := .ref (x 26)) (C := RX10) (T := TX10) (N := 10) hx hb hts inB_10 hown hE.1 hP 0 rfl rfl 2 (by decide) (hts _ k_493) (fun _ h9 => h9) rfl dX10_will_1 ?_
  refine lv_iload_n hx hb dX10_will_4 rfl (lv_at hl 1 rfl) ?_
  refine cbVi (n := 1) (rest := []) hx hb hml hown hts hE hP hD hS hA (sX_X7_hasMan_1 0 l dC dI cy x0 x p1 v f hIv ) k_802 k_307 k_308 k_104 k_309 (by decide +kernel) ⟨Nat.le_of_ble_eq_true rfl, Nat.le_of_ble_eq_true rfl⟩ 27 7 rfl rfl (rfl) hl.1 rfl (Nat.le_of_ble_eq_true rfl) dX10_will_5 (fun r1 u H locs hw hP hD hS => ?_)
  obtain ⟨hG2, hw⟩ := hw
  rcases hw with ⟨g3, g3_0, g3_1, g3_2⟩ | ⟨g3⟩
  · skip
    subst g3
    refine lv_if_eq (tgt := 30) hx hb dX10_will_8 (by decide) (fun c0 => absurd c0 (by decide)) (fun _ => ?_)
    refine lv_iload_n hx hb dX10_will_11 rfl (lv_at hl 2 rfl) ?_
    refine lv_if_lt (tgt := 30) hx hb dX10_will_12 (by decide) (fun c4 => ?_) (fun c4 => ?_)
    · skip
      have zc4 : p2.toInt < 0 := by rw [fa_lt, show (0 : Int32).toInt = 0 from by decide] at c4; exact c4
      refine lv_bipush (v := (-2)) hx hb dX10_will_30 (by decide) ?_
      exact ret (-2) (v, f) _ _ _ _ _ _ rfl ⟨hM_v, hA_f, hIv, rfl, rfl, rfl, rfl, rfl, rfl, rfl, rfl⟩ hP hD hS dX10_will_32 (Nat.le_refl _) (Nat.le_refl _)
    · skip
      have zc4 : ¬ (p2.toInt < 0) := by rw [fa_lt, show (0 : Int32).toInt = 0 from by decide] at c4; exact c4
      refine lv_iload_n hx hb dX10_will_15 rfl (lv_at hl 2 rfl) ?_
      refine lv_bipush (v := 60) hx hb dX10_will_16 (by decide) ?_
      refine lv_icmp_gt (tgt := 30) hx hb dX10_will_18 (by decide) (fun c5 => ?_) (fun c5 => ?_)
      · skip
        have zc5 : 60 < p2.toInt := by rw [fa_lt, show (60 : Int32).toInt = 60 from by decide] at c5; exact c5
        refine lv_bipush (v := (-2)) hx hb dX10_will_30 (by decide) ?_
        exact ret (-2) (v, f) _ _ _ _ _ _ rfl ⟨hM_v, hA_f, hIv, rfl, rfl, rfl, rfl, rfl, rfl, rfl, rfl⟩ hP hD hS dX10_will_32 (Nat.le_refl _) (Nat.le_refl _)
      · skip
        have zc5 : ¬ (60 < p2.toInt) := by rw [fa_lt, show (60 : Int32).toInt = 60 from by decide] at c5; exact c5
        refine lv_iload_n hx hb dX10_will_21 rfl (lv_at hl 3 rfl) ?_
        refine lv_if_lt (tgt := 30) hx hb dX10_will_22 (by decide) (fun c6 => ?_) (fun c6 => ?_)
        · skip
          have zc6 : p3.toInt < 0 := by rw [fa_lt, show (0 : Int32).toInt = 0 from by decide] at c6; exact c6
          refine lv_bipush (v := (-2)) hx hb dX10_will_30 (by decide) ?_
          exact ret (-2) (v, f) _ _ _ _ _ _ rfl ⟨hM_v, hA_f, hIv, rfl, rfl, rfl, rfl, rfl, rfl, rfl, rfl⟩ hP hD hS dX10_will_32 (Nat.le_refl _) (Nat.le_refl _)
        · skip
          have zc6 : ¬ (p3.toInt < 0) := by rw [fa_lt, show (0 : Int32).toInt = 0 from by decide] at c6; exact c6
          refine lv_iload_n hx hb dX10_will_25 rfl (lv_at hl 3 rfl) ?_
          refine lv_iconst (v := 1) hx hb dX10_will_26 (by decide) ?_
          refine lv_icmp_le (tgt := 33) hx hb dX10_will_27 (by decide) (fun c7 => ?_) (fun c7 => ?_)
          · skip
            have zc7 : p3.toInt ≤ 1 := by rw [fa_le, show (1 : Int32).toInt = 1 from by decide] at c7; exact c7
            refine lv_aload_n hx hb dX10_will_33 rfl (lv_at hl 0 rfl) ?_
            refine va_get (D := (dC, dI)) (ci := 10) (v := .ref (x 25)) (C := RX10) (T := TX10) (N := 10) hx hb hts inB_10 hown hE.1 hP 0 rfl rfl 5 (by decide) (hts _ k_496) (fun _ h9 => h9) rfl dX10_will_34 ?_
            refine lv_iload_n hx hb dX10_will_37 rfl (lv_at hl 1 rfl) ?_
            refine lv_iload_n hx hb dX10_will_38 rfl (lv_at hl 2 rfl) ?_
            refine lv_iload_n hx hb dX10_will_39 rfl (lv_at hl 3 rfl) ?_
            refine lv_iconst (v := 1) hx hb dX10_will_40 (by decide) ?_
            refine lv_icmp_ne (tgt := 54) hx hb dX10_will_41 (by decide) (fun c8 => ?_) (fun c8 => ?_)
            · skip
              have zc8 : ¬ (p3.toInt = 1) := by rw [fa_eq, show (1 : Int32).toInt = 1 from by decide] at c8; exact c8
              refine lv_iconst (v := 0) hx hb dX10_will_54 (by decide) ?_
              refine cbVi (n := 3) (rest := []) hx hb hml hown hts hE hP hD hS hA (sX_X3_coatBehind_1 l dC dI cy x0 x p1 p2 0 v f hIv ) k_941 k_942 k_943 k_109 k_944 (by decide +kernel) ⟨Nat.le_of_ble_eq_true rfl, Nat.le_of_ble_eq_true rfl⟩ 26 3 rfl rfl (rfl) hl.1 rfl (Nat.le_of_ble_eq_true rfl) dX10_will_55 (fun r9 u H locs hw hP hD hS => ?_)
              obtain ⟨v10, f11⟩ := u
              obtain ⟨kV_v10, kF_f11, hIv10, hk0_v10, hk1_v10, hk7_v10, hk8_v10, hk9_v10, hk10_v10, hk31_v10, hk32_v10⟩ := hw
              have hM_v10 : KV [] v10 v := KV.tr kV_v10 hM_v rfl
              have hA_f11 : KF [13, 14, 18] f11 f := KF.tr kF_f11 hA_f rfl
              have hP : va_P (dC, dI) vwCl (XW cy x0 x v10 f11) H := hP
              have hD : va_D A (XW cy x0 x v10 f11) := hD
              have hq0_v10 : v10 0 = (v 0) := hk0_v10
              have hq1_v10 : v10 1 = (v 1) := hk1_v10
              have hq7_v10 : v10 7 = (v 7) := hk7_v10
              have hq8_v10 : v10 8 = (v 8) := hk8_v10
              have hq9_v10 : v10 9 = (v 9) := hk9_v10
              have hq10_v10 : v10 10 = (v 10) := hk10_v10
              have hq31_v10 : v10 31 = (v 31) := hk31_v10
              have hq32_v10 : v10 32 = (v 32) := hk32_v10
              exact ret r9 (v10, f11) _ _ _ _ _ _ rfl ⟨hM_v10, hA_f11, hIv10, hk0_v10, hk1_v10, hk7_v10, hk8_v10, hk9_v10, hk10_v10, hk31_v10, hk32_v10⟩ hP hD hS dX10_will_58 (Nat.le_refl _) (Nat.le_refl _)
            · skip
              have zc8 : p3.toInt = 1 := by rw [fa_eq, show (1 : Int32).toInt = 1 from by decide] at c8; exact c8
              refine lv_aload_n hx hb dX10_will_44 rfl (lv_at hl 0 rfl) ?_
              refine va_get (D := (dC, dI)) (ci := 10) (v := .ref (x 26)) (C := RX10) (T := TX10) (N := 10) hx hb hts inB_10 hown hE.1 hP 0 rfl rfl 2 (by decide) (hts _ k_493) (fun _ h9 => h9) rfl dX10_will_45 ?_
              refine va_getN (D := (dC, dI)) (ci := 7) (v := .int (v 36)) (C := RX7) (T := TX7) (N := 10) hx hb hts inB_7 hown hE.1 hP 27 rfl rfl 8 (by decide) (va_Nw.use rfl (hE.2 _ k_241)) (fun _ h9 => h9) rfl dX10_will_48 ?_
              refine lv_goto (tgt := 55) hx hb dX10_will_51 (by decide) ?_
              refine cbVi (n := 3) (rest := []) hx hb hml hown hts hE hP hD hS hA (sX_X3_coatBehind_1 l dC dI cy x0 x p1 p2 (v 36) v f hIv ) k_941 k_942 k_943 k_109 k_944 (by decide +kernel) ⟨Nat.le_of_ble_eq_true rfl, Nat.le_of_ble_eq_true rfl⟩ 26 3 rfl rfl (rfl) hl.1 rfl (Nat.le_of_ble_eq_true rfl) dX10_will_55 (fun r12 u H locs hw hP hD hS => ?_)
              obtain ⟨v13, f14⟩ := u
              obtain ⟨kV_v13, kF_f14, hIv13, hk0_v13, hk1_v13, hk7_v13, hk8_v13, hk9_v13, hk10_v13, hk31_v13, hk32_v13⟩ := hw
              have hM_v13 : KV [] v13 v := KV.tr kV_v13 hM_v rfl
              have hA_f14 : KF [13, 14, 18] f14 f := KF.tr kF_f14 hA_f rfl
              have hP : va_P (dC, dI) vwCl (XW cy x0 x v13 f14) H := hP
              have hD : va_D A (XW cy x0 x v13 f14) := hD
              have hq0_v13 : v13 0 = (v 0) := hk0_v13
              have hq1_v13 : v13 1 = (v 1) := hk1_v13
              have hq7_v13 : v13 7 = (v 7) := hk7_v13
              have hq8_v13 : v13 8 = (v 8) := hk8_v13
              have hq9_v13 : v13 9 = (v 9) := hk9_v13
              have hq10_v13 : v13 10 = (v 10) := hk10_v13
              have hq31_v13 : v13 31 = (v 31) := hk31_v13
              have hq32_v13 : v13 32 = (v 32) := hk32_v13
              exact ret r12 (v13, f14) _ _ _ _ _ _ rfl ⟨hM_v13, hA_f14, hIv13, hk0_v13, hk1_v13, hk7_v13, hk8_v13, hk9_v13, hk10_v13, hk31_v13, hk32_v13⟩ hP hD hS dX10_will_58 (Nat.le_refl _) (Nat.le_refl _)
          · skip
            have zc7 : ¬ (p3.toInt ≤ 1) := by rw [fa_le, show (1 : Int32).toInt = 1 from by decide] at c7; exact c7
            refine lv_bipush (v := (-2)) hx hb dX10_will_30 (by decide) ?_
            exact ret (-2) (v, f) _ _ _ _ _ _ rfl ⟨hM_v, hA_f, hIv, rfl, rfl, rfl, rfl, rfl, rfl, rfl, rfl⟩ hP hD hS dX10_will_32 (Nat.le_refl _) (Nat.le_refl _)
  · skip
    subst g3
    refine lv_if_eq (tgt := 30) hx hb dX10_will_8 (by decide) (fun _ => ?_) (fun c0 => absurd (by decide) c0)
    refine lv_bipush (v := (-2)) hx hb dX10_will_30 (by decide) ?_
    exact ret (-2) (v, f) _ _ _ _ _ _ rfl ⟨hM_v, hA_f, hIv, rfl, rfl, rfl, rfl, rfl, rfl, rfl, rfl⟩ hP hD hS dX10_will_32 (Nat.le_refl _) (Nat.le_refl _)
set_option maxHeartbeats 4000000 in
set_option maxRecDepth 100000 in
theorem sX_X3_daysTillOut_1 (l : Launch) (dC : Nat → ClassId) (dI : Nat → Nat → Nat) (cy : Nat → ClassId) (x0 : Nat) (x : Nat → Nat) (p1 : Int32) (v : Nat → Int32) (f : Nat → Nat → Int32) (hIv : XI v)  : ctI l (dC, dI) cy yX3_daysTillOut cX3_daysTillOut 3 .int 6 179 0 0 ((Nat → Int32) × (Nat → Nat → Int32)) [.ref (x 25), .int p1] (XW cy x0 x v f) (fun r u => KV [] u.1 v ∧ KF [13, 14, 18] u.2 f ∧ XI u.1 ∧ u.1 0 = v 0 ∧ u.1 1 = v 1 ∧ u.1 7 = v 7 ∧ u.1 8 = v 8 ∧ u.1 9 = v 9 ∧ u.1 10 = v 10 ∧ u.1 31 = v 31 ∧ u.1 32 = v 32) (fun u => XW cy x0 x u.1 u.2) := by
  refine ctI_of (by decide) (Nat.le_of_ble_eq_true rfl) (fun p e s m below meth c A ls Q hx hb hml hts hown hE hP hD hA hl ret => ?_)
  have hM_v : KV [] v v := fun _ _ => rfl
  have hA_f : KF [13, 14, 18] f f := fun _ _ => rfl
  have hown : s.vm.findClass RX3 = some m.cls := hown
  have hS : va_S A s.heap s.heap [] := va_S.rf
  have hl : lv_has ls 3 [(0, .ref (x 25)), (1, .int p1)] := hl
  refine lv_aload_n hx hb dX3_daysTillOut_0 rfl (lv_at hl 0 rfl) ?_
  refine va_get (D := (dC, dI)) (ci := 3) (v := .ref (x 27)) (C := RX3) (T := TX3) (N := 10) hx hb hts inB_3 hown hE.1 hP 26 rfl rfl 2 (by decide) (hts _ k_372) (fun _ h9 => h9) rfl dX3_daysTillOut_1 ?_
  refine lv_aload_n hx hb dX3_daysTillOut_4 rfl (lv_at hl 0 rfl) ?_
  refine va_get (D := (dC, dI)) (ci := 3) (v := .ref (x 21)) (C := RX3) (T := TX3) (N := 10) hx hb hts inB_3 hown hE.1 hP 26 rfl rfl 1 (by decide) (hts _ k_371) (fun _ h9 => h9) rfl dX3_daysTillOut_5 ?_
  refine cbVv (n := 1) (rest := []) hx hb hml hown hts hE hP hD hS hA (sX_X1_copy_1 l dC dI cy x0 x  v f hIv ) k_945 k_946 k_947 k_106 k_948 (by decide +kernel) ⟨Nat.le_of_ble_eq_true rfl, Nat.le_of_ble_eq_true rfl⟩ 28 1 rfl rfl (rfl) hl.1 rfl (Nat.le_of_ble_eq_true rfl) dX3_daysTillOut_8 (fun u H locs hw hP hD hS => ?_)
  obtain ⟨v1, f2⟩ := u
  obtain ⟨kV_v1, kF_f2, hIv1, hk0_v1, hk1_v1, hk7_v1, hk8_v1, hk9_v1, hk10_v1, hk31_v1, hk32_v1⟩ := hw
  have hM_v1 : KV [] v1 v := KV.tr kV_v1 hM_v rfl
  have hA_f2 : KF [13, 14, 18] f2 f := KF.tr kF_f2 hA_f rfl
  have hP : va_P (dC, dI) vwCl (XW cy x0 x v1 f2) H := hP
  have hD : va_D A (XW cy x0 x v1 f2) := hD
  have hq0_v1 : v1 0 = (v 0) := hk0_v1
  have hq1_v1 : v1 1 = (v 1) := hk1_v1
  have hq7_v1 : v1 7 = (v 7) := hk7_v1
  have hq8_v1 : v1 8 = (v 8) := hk8_v1
  have hq9_v1 : v1 9 = (v 9) := hk9_v1
  have hq10_v1 : v1 10 = (v 10) := hk10_v1
  have hq31_v1 : v1 31 = (v 31) := hk31_v1
  have hq32_v1 : v1 32 = (v 32) := hk32_v1
  refine lv_iconst (v := 0) hx hb dX3_daysTillOut_11 (by decide) ?_
  refine lv_istore_n (lv' := [(2, .int 0), (0, .ref (x 25)), (1, .int p1)]) hx hb dX3_daysTillOut_12 rfl hl (by decide) rfl (fun ls hl => ?_)
  have lp3 : ∀ (n3 : Nat) (l2_3 : Int32) (v3 : Nat → Int32) (f3 : Nat → Nat → Int32), XI v3 → v3 0 = (v 0) → v3 1 = (v 1) → v3 7 = (v 7) → v3 8 = (v 8) → v3 9 = (v 9) → v3 10 = (v 10) → v3 31 = (v 31) → v3 32 = (v 32) → ((0 : Int) ≤ l2_3.toInt ∧ l2_3.toInt ≤ 2147483647) → KV [] v3 v → KF [13, 14, 18] f3 f → (2147483647 - l2_3.toInt).toNat < n3 → ∀ (H : Heap) (locs : List Loc) (ls : Array Slot), va_P (dC, dI) vwCl (XW cy x0 x v3 f3) H → va_D A (XW cy x0 x v3 f3) → va_S A s.heap H locs → lv_has ls 3 [(2, .int l2_3), (0, .ref (x 25)), (1, .int p1)] → W p l e { frames := 6, cells := 0, slots := 0, locals := 179 } s m ([.ref (x 25), .int p1] : List Value).toArray below meth c H locs 0 0 Q (F0 m 13 ls []) := by
    intro n3
    induction n3 with
    | zero => intro l2_3 v3 f3 hIv3 hq0_v3 hq1_v3 hq7_v3 hq8_v3 hq9_v3 hq10_v3 hq31_v3 hq32_v3 hr2_3 hM_v3 hA_f3 hm; exact absurd hm (Nat.not_lt_zero _)
    | succ n3 ih3 =>
      intro l2_3 v3 f3 hIv3 hq0_v3 hq1_v3 hq7_v3 hq8_v3 hq9_v3 hq10_v3 hq31_v3 hq32_v3 hr2_3 hM_v3 hA_f3 hm3 H locs ls hP hD hS hl
      refine lv_iload_n hx hb dX3_daysTillOut_13 rfl (lv_at hl 0 rfl) ?_
      refine lv_bipush (v := 60) hx hb dX3_daysTillOut_14 (by decide) ?_
      refine lv_icmp_gt (tgt := 48) hx hb dX3_daysTillOut_16 (by decide) (fun c4 => ?_) (fun c4 => ?_)
      · skip
        have zc4 : 60 < l2_3.toInt := by rw [fa_lt, show (60 : Int32).toInt = 60 from by decide] at c4; exact c4
        refine lv_iconst (v := (-1)) hx hb dX3_daysTillOut_48 (by decide) ?_
        exact ret (-1) (v3, f3) _ _ _ _ _ _ rfl ⟨hM_v3, hA_f3, hIv3, hq0_v3, hq1_v3, hq7_v3, hq8_v3, hq9_v3, hq10_v3, hq31_v3, hq32_v3⟩ hP hD hS dX3_daysTillOut_49 (Nat.le_refl _) (Nat.le_refl _)
      · skip
        have zc4 : ¬ (60 < l2_3.toInt) := by rw [fa_lt, show (60 : Int32).toInt = 60 from by decide] at c4; exact c4
        refine lv_aload_n hx hb dX3_daysTillOut_19 rfl (lv_at hl 1 rfl) ?_
        refine va_get (D := (dC, dI)) (ci := 3) (v := .ref (x 27)) (C := RX3) (T := TX3) (N := 10) hx hb hts inB_3 hown hE.1 hP 26 rfl rfl 2 (by decide) (hts _ k_372) (fun _ h9 => h9) rfl dX3_daysTillOut_20 ?_
        refine lv_iload_n hx hb dX3_daysTillOut_23 rfl (lv_at hl 2 rfl) ?_
        refine cbVi (n := 1) (rest := []) hx hb hml hown hts hE hP hD hS hA (sX_X1_wears_2 l dC dI cy x0 x p1 v3 f3 hIv3 ) k_950 k_810 k_811 k_106 k_812 (by decide +kernel) ⟨Nat.le_of_ble_eq_true rfl, Nat.le_of_ble_eq_true rfl⟩ 28 1 rfl rfl (rfl) hl.1 rfl (Nat.le_of_ble_eq_true rfl) dX3_daysTillOut_24 (fun r5 u H locs hw hP hD hS => ?_)
        refine lv_iconst (v := (-1)) hx hb dX3_daysTillOut_27 (by decide) ?_
        refine lv_icmp_ne (tgt := 33) hx hb dX3_daysTillOut_28 (by decide) (fun c6 => ?_) (fun c6 => ?_)
        · skip
          have zc6 : ¬ (r5.toInt = (-1)) := by rw [fa_eq, show ((-1) : Int32).toInt = -1 from by decide] at c6; exact c6
          refine lv_aload_n hx hb dX3_daysTillOut_33 rfl (lv_at hl 1 rfl) ?_
          refine va_get (D := (dC, dI)) (ci := 3) (v := .ref (x 27)) (C := RX3) (T := TX3) (N := 10) hx hb hts inB_3 hown hE.1 hP 26 rfl rfl 2 (by decide) (hts _ k_372) (fun _ h9 => h9) rfl dX3_daysTillOut_34 ?_
          refine lv_iconst (v := 0) hx hb dX3_daysTillOut_37 (by decide) ?_
          refine cbVi (n := 1) (rest := []) hx hb hml hown hts hE hP hD hS hA (sX_X1_passDay_2 l dC dI cy x0 x 0 v3 f3 hIv3 ) k_949 k_866 k_867 k_106 k_868 (by decide +kernel) ⟨Nat.le_of_ble_eq_true rfl, Nat.le_of_ble_eq_true rfl⟩ 28 1 rfl rfl (rfl) hl.1 rfl (Nat.le_of_ble_eq_true rfl) dX3_daysTillOut_38 (fun r7 u H locs hw hP hD hS => ?_)
          obtain ⟨v8, f9⟩ := u
          obtain ⟨kV_v8, kF_f9, hIv8, hk0_v8, hk1_v8, hk7_v8, hk8_v8, hk9_v8, hk10_v8, hk31_v8, hk32_v8⟩ := hw
          have hM_v8 : KV [] v8 v := KV.tr kV_v8 hM_v3 rfl
          have hA_f9 : KF [13, 14, 18] f9 f := KF.tr kF_f9 hA_f3 rfl
          have hP : va_P (dC, dI) vwCl (XW cy x0 x v8 f9) H := hP
          have hD : va_D A (XW cy x0 x v8 f9) := hD
          have hq0_v8 : v8 0 = (v 0) := hk0_v8.trans hq0_v3
          have hq1_v8 : v8 1 = (v 1) := hk1_v8.trans hq1_v3
          have hq7_v8 : v8 7 = (v 7) := hk7_v8.trans hq7_v3
          have hq8_v8 : v8 8 = (v 8) := hk8_v8.trans hq8_v3
          have hq9_v8 : v8 9 = (v 9) := hk9_v8.trans hq9_v3
          have hq10_v8 : v8 10 = (v 10) := hk10_v8.trans hq10_v3
          have hq31_v8 : v8 31 = (v 31) := hk31_v8.trans hq31_v3
          have hq32_v8 : v8 32 = (v 32) := hk32_v8.trans hq32_v3
          refine lv_pop hx hb dX3_daysTillOut_41 rfl ?_
          obtain ⟨t10, et10⟩ : ∃ y : Int32, y = l2_3 + 1 := ⟨_, rfl⟩
          have rg11 := fb_rng l2_3
          have zt10 : t10.toInt = l2_3.toInt + 1 := by rw [et10]; exact add_i rfl (by decide) (by omega) (by omega)
          refine lv_iinc (v := t10) (lv' := [(2, .int t10), (0, .ref (x 25)), (1, .int p1)]) hx hb dX3_daysTillOut_42 hl (k := 0) rfl (by rw [et10]; rfl) (by decide) rfl (fun ls hl => ?_)
          refine lv_goto (tgt := 13) hx hb dX3_daysTillOut_45 (by decide) ?_
          have rg12 := fb_rng t10
          exact ih3 t10 v8 f9 hIv8 hq0_v8 hq1_v8 hq7_v8 hq8_v8 hq9_v8 hq10_v8 hq31_v8 hq32_v8 ⟨show (0 : Int) ≤ t10.toInt by omega, show t10.toInt ≤ (2147483647 : Int) by omega⟩ hM_v8 hA_f9 (by show (2147483647 - t10.toInt).toNat < n3; omega) _ _ _ hP hD hS (lv_sub hl [0, 1, 2] rfl)
        · skip
          have zc6 : r5.toInt = (-1) := by rw [fa_eq, show ((-1) : Int32).toInt = -1 from by decide] at c6; exact c6
          refine lv_iload_n hx hb dX3_daysTillOut_31 rfl (lv_at hl 0 rfl) ?_
          exact ret l2_3 (v3, f3) _ _ _ _ _ _ rfl ⟨hM_v3, hA_f3, hIv3, hq0_v3, hq1_v3, hq7_v3, hq8_v3, hq9_v3, hq10_v3, hq31_v3, hq32_v3⟩ hP hD hS dX3_daysTillOut_32 (Nat.le_refl _) (Nat.le_refl _)
  exact lp3 _ 0 v1 f2 hIv1 hq0_v1 hq1_v1 hq7_v1 hq8_v1 hq9_v1 hq10_v1 hq31_v1 hq32_v1 ⟨by decide, by decide⟩ hM_v1 hA_f2 (Nat.lt_succ_self _) _ _ _ hP hD hS (lv_sub hl [0, 1, 2] rfl)
set_option maxHeartbeats 4000000 in
set_option maxRecDepth 100000 in
theorem sX_X10_out_1 (l : Launch) (dC : Nat → ClassId) (dI : Nat → Nat → Nat) (cy : Nat → ClassId) (x0 : Nat) (x : Nat → Nat) (p1 : Int32) (v : Nat → Int32) (f : Nat → Nat → Int32) (hIv : XI v)  : ctI l (dC, dI) cy yX10_out cX10_out 2 .int 7 201 0 0 ((Nat → Int32) × (Nat → Nat → Int32)) [.ref x0, .int p1] (XW cy x0 x v f) (fun r u => KV [] u.1 v ∧ KF [13, 14, 18] u.2 f ∧ XI u.1 ∧ u.1 0 = v 0 ∧ u.1 1 = v 1 ∧ u.1 7 = v 7 ∧ u.1 8 = v 8 ∧ u.1 9 = v 9 ∧ u.1 10 = v 10 ∧ u.1 31 = v 31 ∧ u.1 32 = v 32) (fun u => XW cy x0 x u.1 u.2) := by
  refine ctI_of (by decide) (Nat.le_of_ble_eq_true rfl) (fun p e s m below meth c A ls Q hx hb hml hts hown hE hP hD hA hl ret => ?_)
  have hM_v : KV [] v v := fun _ _ => rfl
  have hA_f : KF [13, 14, 18] f f := fun _ _ => rfl
  have hown : s.vm.findClass RX10 = some m.cls := hown
  have hS : va_S A s.heap s.heap [] := va_S.rf
  have hl : lv_has ls 2 [(0, .ref x0), (1, .int p1)] := hl
  refine lv_aload_n hx hb dX10_out_0 rfl (lv_at hl 0 rfl) ?_
  refine va_get (D := (dC, dI)) (ci := 10) (v := .ref (x 26)) (C := RX10) (T := TX10) (N := 10) hx hb hts inB_10 hown hE.1 hP 0 rfl rfl 2 (by decide) (hts _ k_493) (fun _ h9 => h9) rfl dX10_out_1 ?_
  refine lv_iload_n hx hb dX10_out_4 rfl (lv_at hl 1 rfl) ?_
  refine cbVi (n := 1) (rest := []) hx hb hml hown hts hE hP hD hS hA (sX_X7_hasMan_1 0 l dC dI cy x0 x p1 v f hIv ) k_802 k_307 k_308 k_104 k_309 (by decide +kernel) ⟨Nat.le_of_ble_eq_true rfl, Nat.le_of_ble_eq_true rfl⟩ 27 7 rfl rfl (rfl) hl.1 rfl (Nat.le_of_ble_eq_true rfl) dX10_out_5 (fun r1 u H locs hw hP hD hS => ?_)
  obtain ⟨hG2, hw⟩ := hw
  rcases hw with ⟨g3, g3_0, g3_1, g3_2⟩ | ⟨g3⟩
  · skip
    subst g3
    refine lv_if_eq (tgt := 22) hx hb dX10_out_8 (by decide) (fun c0 => absurd c0 (by decide)) (fun _ => ?_)
    refine lv_aload_n hx hb dX10_out_11 rfl (lv_at hl 0 rfl) ?_
    refine va_get (D := (dC, dI)) (ci := 10) (v := .ref (x 25)) (C := RX10) (T := TX10) (N := 10) hx hb hts inB_10 hown hE.1 hP 0 rfl rfl 5 (by decide) (hts _ k_496) (fun _ h9 => h9) rfl dX10_out_12 ?_
    refine lv_iload_n hx hb dX10_out_15 rfl (lv_at hl 1 rfl) ?_
    refine cbVi (n := 1) (rest := []) hx hb hml hown hts hE hP hD hS hA (sX_X3_daysTillOut_1 l dC dI cy x0 x p1 v f hIv ) k_955 k_956 k_957 k_109 k_958 (by decide +kernel) ⟨Nat.le_of_ble_eq_true rfl, Nat.le_of_ble_eq_true rfl⟩ 26 3 rfl rfl (rfl) hl.1 rfl (Nat.le_of_ble_eq_true rfl) dX10_out_16 (fun r4 u H locs hw hP hD hS => ?_)
    obtain ⟨v5, f6⟩ := u
    obtain ⟨kV_v5, kF_f6, hIv5, hk0_v5, hk1_v5, hk7_v5, hk8_v5, hk9_v5, hk10_v5, hk31_v5, hk32_v5⟩ := hw
    have hM_v5 : KV [] v5 v := KV.tr kV_v5 hM_v rfl
    have hA_f6 : KF [13, 14, 18] f6 f := KF.tr kF_f6 hA_f rfl
    have hP : va_P (dC, dI) vwCl (XW cy x0 x v5 f6) H := hP
    have hD : va_D A (XW cy x0 x v5 f6) := hD
    have hq0_v5 : v5 0 = (v 0) := hk0_v5
    have hq1_v5 : v5 1 = (v 1) := hk1_v5
    have hq7_v5 : v5 7 = (v 7) := hk7_v5
    have hq8_v5 : v5 8 = (v 8) := hk8_v5
    have hq9_v5 : v5 9 = (v 9) := hk9_v5
    have hq10_v5 : v5 10 = (v 10) := hk10_v5
    have hq31_v5 : v5 31 = (v 31) := hk31_v5
    have hq32_v5 : v5 32 = (v 32) := hk32_v5
    refine lv_goto (tgt := 23) hx hb dX10_out_19 (by decide) ?_
    exact ret r4 (v5, f6) _ _ _ _ _ _ rfl ⟨hM_v5, hA_f6, hIv5, hk0_v5, hk1_v5, hk7_v5, hk8_v5, hk9_v5, hk10_v5, hk31_v5, hk32_v5⟩ hP hD hS dX10_out_23 (Nat.le_refl _) (Nat.le_refl _)
  · skip
    subst g3
    refine lv_if_eq (tgt := 22) hx hb dX10_out_8 (by decide) (fun _ => ?_) (fun c0 => absurd (by decide) c0)
    refine lv_iconst (v := (-1)) hx hb dX10_out_22 (by decide) ?_
    exact ret (-1) (v, f) _ _ _ _ _ _ rfl ⟨hM_v, hA_f, hIv, rfl, rfl, rfl, rfl, rfl, rfl, rfl, rfl⟩ hP hD hS dX10_out_23 (Nat.le_refl _) (Nat.le_refl _)
set_option maxHeartbeats 4000000 in
set_option maxRecDepth 100000 in
theorem sX_X1_fittedMen_1 (l : Launch) (dC : Nat → ClassId) (dI : Nat → Nat → Nat) (cy : Nat → ClassId) (x0 : Nat) (x : Nat → Nat)  (v : Nat → Int32) (f : Nat → Nat → Int32) (hIv : XI v)  : ctI l (dC, dI) cy yX1_fittedMen cX1_fittedMen 3 .int 5 155 0 0 ((Nat → Int32) × (Nat → Nat → Int32)) [.ref (x 21)] (XW cy x0 x v f) (fun r u => KV [] u.1 v ∧ KF [13, 14] u.2 f ∧ XI u.1 ∧ u.1 0 = v 0 ∧ u.1 1 = v 1 ∧ u.1 7 = v 7 ∧ u.1 8 = v 8 ∧ u.1 9 = v 9 ∧ u.1 10 = v 10 ∧ u.1 31 = v 31 ∧ u.1 32 = v 32) (fun u => XW cy x0 x u.1 u.2) := by
  refine ctI_of (by decide) (Nat.le_of_ble_eq_true rfl) (fun p e s m below meth c A ls Q hx hb hml hts hown hE hP hD hA hl ret => ?_)
  have hM_v : KV [] v v := fun _ _ => rfl
  have hA_f : KF [13, 14] f f := fun _ _ => rfl
  have hown : s.vm.findClass RX1 = some m.cls := hown
  have hS : va_S A s.heap s.heap [] := va_S.rf
  have hl : lv_has ls 3 [(0, .ref (x 21))] := hl
  refine lv_iconst (v := 0) hx hb dX1_fittedMen_0 (by decide) ?_
  refine lv_istore_n (lv' := [(1, .int 0), (0, .ref (x 21))]) hx hb dX1_fittedMen_1 rfl hl (by decide) rfl (fun ls hl => ?_)
  refine lv_iconst (v := 0) hx hb dX1_fittedMen_2 (by decide) ?_
  refine lv_istore_n (lv' := [(2, .int 0), (1, .int 0), (0, .ref (x 21))]) hx hb dX1_fittedMen_3 rfl hl (by decide) rfl (fun ls hl => ?_)
  have lp1 : ∀ (n1 : Nat) (l1_1 : Int32) (l2_1 : Int32) (v1 : Nat → Int32) (f1 : Nat → Nat → Int32), XI v1 → v1 0 = (v 0) → v1 1 = (v 1) → v1 7 = (v 7) → v1 8 = (v 8) → v1 9 = (v 9) → v1 10 = (v 10) → v1 31 = (v 31) → v1 32 = (v 32) → ((0 : Int) ≤ l2_1.toInt ∧ l2_1.toInt ≤ 2147483647) → KV [] v1 v → KF [13, 14] f1 f → (2147483647 - l2_1.toInt).toNat < n1 → ∀ (H : Heap) (locs : List Loc) (ls : Array Slot), va_P (dC, dI) vwCl (XW cy x0 x v1 f1) H → va_D A (XW cy x0 x v1 f1) → va_S A s.heap H locs → lv_has ls 3 [(2, .int l2_1), (1, .int l1_1), (0, .ref (x 21))] → W p l e { frames := 5, cells := 0, slots := 0, locals := 155 } s m ([.ref (x 21)] : List Value).toArray below meth c H locs 0 0 Q (F0 m 4 ls []) := by
    intro n1
    induction n1 with
    | zero => intro l1_1 l2_1 v1 f1 hIv1 hq0_v1 hq1_v1 hq7_v1 hq8_v1 hq9_v1 hq10_v1 hq31_v1 hq32_v1 hr2_1 hM_v1 hA_f1 hm; exact absurd hm (Nat.not_lt_zero _)
    | succ n1 ih1 =>
      intro l1_1 l2_1 v1 f1 hIv1 hq0_v1 hq1_v1 hq7_v1 hq8_v1 hq9_v1 hq10_v1 hq31_v1 hq32_v1 hr2_1 hM_v1 hA_f1 hm1 H locs ls hP hD hS hl
      refine lv_iload_n hx hb dX1_fittedMen_4 rfl (lv_at hl 0 rfl) ?_
      refine lv_aload_n hx hb dX1_fittedMen_5 rfl (lv_at hl 2 rfl) ?_
      refine va_get (D := (dC, dI)) (ci := 1) (v := .ref (x 26)) (C := RX1) (T := TX1) (N := 2) hx hb hts inB_1 hown hE.1 hP 22 rfl rfl 0 (by decide) (hts _ k_318) (fun _ h9 => h9) rfl dX1_fittedMen_6 ?_
      refine va_getN (D := (dC, dI)) (ci := 7) (v := .int (v1 31)) (C := RX7) (T := TX7) (N := 10) hx hb hts inB_7 hown hE.1 hP 27 rfl rfl 3 (by decide) (va_Nw.use rfl (hE.2 _ k_219)) (fun _ h9 => h9) rfl dX1_fittedMen_9 ?_
      refine tI (y := (v 31)) hq31_v1 ?_
      have b31_v : 0 ≤ (v 31).toInt ∧ (v 31).toInt ≤ 6 := XI.b hIv 31 (by decide)
      refine lv_icmp_ge (tgt := 40) hx hb dX1_fittedMen_12 (by decide) (fun c2 => ?_) (fun c2 => ?_)
      · skip
        have zc2 : (v 31).toInt ≤ l2_1.toInt := by rw [fa_le] at c2; exact c2
        have rg3 := fb_rng l2_1
        have rg4 := fb_rng (v 31)
        refine lv_iload_n hx hb dX1_fittedMen_40 rfl (lv_at hl 1 rfl) ?_
        exact ret l1_1 (v1, f1) _ _ _ _ _ _ rfl ⟨hM_v1, hA_f1, hIv1, (show v1 0 = v 0 from hq0_v1), (show v1 1 = v 1 from hq1_v1), (show v1 7 = v 7 from hq7_v1), (show v1 8 = v 8 from hq8_v1), (show v1 9 = v 9 from hq9_v1), (show v1 10 = v 10 from hq10_v1), (show v1 31 = v 31 from hq31_v1), (show v1 32 = v 32 from hq32_v1)⟩ hP hD hS dX1_fittedMen_41 (Nat.le_refl _) (Nat.le_refl _)
      · skip
        have zc2 : ¬ ((v 31).toInt ≤ l2_1.toInt) := by rw [fa_le] at c2; exact c2
        have rg5 := fb_rng l2_1
        have rg6 := fb_rng (v 31)
        refine lv_aload_n hx hb dX1_fittedMen_15 rfl (lv_at hl 2 rfl) ?_
        refine lv_iload_n hx hb dX1_fittedMen_16 rfl (lv_at hl 0 rfl) ?_
        refine lv_aload_n hx hb dX1_fittedMen_17 rfl (lv_at hl 2 rfl) ?_
        refine lv_iload_n hx hb dX1_fittedMen_18 rfl (lv_at hl 0 rfl) ?_
        refine cbVi (n := 1) (rest := [.int l2_1, .ref (x 21)]) hx hb hml hown hts hE hP hD hS hA (sX_X1_wears_1 l dC dI cy x0 x l2_1 v1 f1 hIv1 ) k_853 k_810 k_811 k_106 k_812 (by decide +kernel) ⟨Nat.le_of_ble_eq_true rfl, Nat.le_of_ble_eq_true rfl⟩ 22 1 rfl rfl (rfl) hl.1 rfl (Nat.le_of_ble_eq_true rfl) dX1_fittedMen_19 (fun r7 u H locs hw hP hD hS => ?_)
        refine cbVi (n := 2) (rest := []) hx hb hml hown hts hE hP hD hS hA (sX_X1_fits_1 l dC dI cy x0 x l2_1 r7 v1 f1 hIv1 ) k_817 k_818 k_819 k_106 k_820 (by decide +kernel) ⟨Nat.le_of_ble_eq_true rfl, Nat.le_of_ble_eq_true rfl⟩ 22 1 rfl rfl (rfl) hl.1 rfl (Nat.le_of_ble_eq_true rfl) dX1_fittedMen_22 (fun r8 u H locs hw hP hD hS => ?_)
        obtain ⟨v9, f10⟩ := u
        obtain ⟨kV_v9, kF_f10, hIv9, hk0_v9, hk1_v9, hk7_v9, hk8_v9, hk9_v9, hk10_v9, hk31_v9, hk32_v9, hw⟩ := hw
        have hM_v9 : KV [] v9 v := KV.tr kV_v9 hM_v1 rfl
        have hA_f10 : KF [13, 14] f10 f := KF.tr kF_f10 hA_f1 rfl
        have hP : va_P (dC, dI) vwCl (XW cy x0 x v9 f10) H := hP
        have hD : va_D A (XW cy x0 x v9 f10) := hD
        have hq0_v9 : v9 0 = (v 0) := hk0_v9.trans hq0_v1
        have hq1_v9 : v9 1 = (v 1) := hk1_v9.trans hq1_v1
        have hq7_v9 : v9 7 = (v 7) := hk7_v9.trans hq7_v1
        have hq8_v9 : v9 8 = (v 8) := hk8_v9.trans hq8_v1
        have hq9_v9 : v9 9 = (v 9) := hk9_v9.trans hq9_v1
        have hq10_v9 : v9 10 = (v 10) := hk10_v9.trans hq10_v1
        have hq31_v9 : v9 31 = (v 31) := hk31_v9.trans hq31_v1
        have hq32_v9 : v9 32 = (v 32) := hk32_v9.trans hq32_v1
        rcases hw with ⟨g11⟩ | ⟨g11⟩
        · skip
          subst g11
          refine lv_if_eq (tgt := 34) hx hb dX1_fittedMen_25 (by decide) (fun c0 => absurd c0 (by decide)) (fun _ => ?_)
          refine lv_iload_n hx hb dX1_fittedMen_28 rfl (lv_at hl 1 rfl) ?_
          refine lv_iconst (v := 1) hx hb dX1_fittedMen_29 (by decide) ?_
          refine lv_iload_n hx hb dX1_fittedMen_30 rfl (lv_at hl 0 rfl) ?_
          refine lv_ishl hx hb dX1_fittedMen_31 ?_
          refine lv_topi (fun t12 et12 => ?_)
          have zt12 : 1 ≤ t12.toInt ∧ t12.toInt ≤ 32 := by rw [et12]; exact shl1_rng (by omega) (by omega)
          refine lv_ior hx hb dX1_fittedMen_32 ?_
          refine lv_topi (fun t13 et13 => ?_)
          refine lv_istore_n (lv' := [(1, .int t13), (2, .int l2_1), (0, .ref (x 21))]) hx hb dX1_fittedMen_33 rfl hl (by decide) rfl (fun ls hl => ?_)
          obtain ⟨t14, et14⟩ : ∃ y : Int32, y = l2_1 + 1 := ⟨_, rfl⟩
          have zt14 : t14.toInt = l2_1.toInt + 1 := by rw [et14]; exact add_i rfl (by decide) (by omega) (by omega)
          refine lv_iinc (v := t14) (lv' := [(2, .int t14), (1, .int t13), (0, .ref (x 21))]) hx hb dX1_fittedMen_34 hl (k := 1) rfl (by rw [et14]; rfl) (by decide) rfl (fun ls hl => ?_)
          refine lv_goto (tgt := 4) hx hb dX1_fittedMen_37 (by decide) ?_
          have rg15 := fb_rng t14
          exact ih1 t13 t14 v9 f10 hIv9 hq0_v9 hq1_v9 hq7_v9 hq8_v9 hq9_v9 hq10_v9 hq31_v9 hq32_v9 ⟨show (0 : Int) ≤ t14.toInt by omega, show t14.toInt ≤ (2147483647 : Int) by omega⟩ hM_v9 hA_f10 (by show (2147483647 - t14.toInt).toNat < n1; omega) _ _ _ hP hD hS (lv_sub hl [0, 1, 2] rfl)
        · skip
          subst g11
          refine lv_if_eq (tgt := 34) hx hb dX1_fittedMen_25 (by decide) (fun _ => ?_) (fun c0 => absurd (by decide) c0)
          obtain ⟨t16, et16⟩ : ∃ y : Int32, y = l2_1 + 1 := ⟨_, rfl⟩
          have zt16 : t16.toInt = l2_1.toInt + 1 := by rw [et16]; exact add_i rfl (by decide) (by omega) (by omega)
          refine lv_iinc (v := t16) (lv' := [(2, .int t16), (1, .int l1_1), (0, .ref (x 21))]) hx hb dX1_fittedMen_34 hl (k := 0) rfl (by rw [et16]; rfl) (by decide) rfl (fun ls hl => ?_)
          refine lv_goto (tgt := 4) hx hb dX1_fittedMen_37 (by decide) ?_
          have rg17 := fb_rng t16
          exact ih1 l1_1 t16 v9 f10 hIv9 hq0_v9 hq1_v9 hq7_v9 hq8_v9 hq9_v9 hq10_v9 hq31_v9 hq32_v9 ⟨show (0 : Int) ≤ t16.toInt by omega, show t16.toInt ≤ (2147483647 : Int) by omega⟩ hM_v9 hA_f10 (by show (2147483647 - t16.toInt).toNat < n1; omega) _ _ _ hP hD hS (lv_sub hl [0, 1, 2] rfl)
  exact lp1 _ 0 0 v f hIv rfl rfl rfl rfl rfl rfl rfl rfl ⟨by decide, by decide⟩ hM_v hA_f (Nat.lt_succ_self _) _ _ _ hP hD hS (lv_sub hl [0, 1, 2] rfl)
set_option maxHeartbeats 4000000 in
set_option maxRecDepth 100000 in
theorem sX_X10_fitted_1 (l : Launch) (dC : Nat → ClassId) (dI : Nat → Nat → Nat) (cy : Nat → ClassId) (x0 : Nat) (x : Nat → Nat)  (v : Nat → Int32) (f : Nat → Nat → Int32) (hIv : XI v)  : ctI l (dC, dI) cy yX10_fitted cX10_fitted 1 .int 6 177 0 0 ((Nat → Int32) × (Nat → Nat → Int32)) [.ref x0] (XW cy x0 x v f) (fun r u => KV [] u.1 v ∧ KF [13, 14] u.2 f ∧ XI u.1 ∧ u.1 0 = v 0 ∧ u.1 1 = v 1 ∧ u.1 7 = v 7 ∧ u.1 8 = v 8 ∧ u.1 9 = v 9 ∧ u.1 10 = v 10 ∧ u.1 31 = v 31 ∧ u.1 32 = v 32) (fun u => XW cy x0 x u.1 u.2) := by
  refine ctI_of (by decide) (Nat.le_of_ble_eq_true rfl) (fun p e s m below meth c A ls Q hx hb hml hts hown hE hP hD hA hl ret => ?_)
  have hM_v : KV [] v v := fun _ _ => rfl
  have hA_f : KF [13, 14] f f := fun _ _ => rfl
  have hown : s.vm.findClass RX10 = some m.cls := hown
  have hS : va_S A s.heap s.heap [] := va_S.rf
  have hl : lv_has ls 1 [(0, .ref x0)] := hl
  refine lv_aload_n hx hb dX10_fitted_0 rfl (lv_at hl 0 rfl) ?_
  refine va_get (D := (dC, dI)) (ci := 10) (v := .ref (x 21)) (C := RX10) (T := TX10) (N := 10) hx hb hts inB_10 hown hE.1 hP 0 rfl rfl 3 (by decide) (hts _ k_494) (fun _ h9 => h9) rfl dX10_fitted_1 ?_
  refine cbVi (n := 0) (rest := []) hx hb hml hown hts hE hP hD hS hA (sX_X1_fittedMen_1 l dC dI cy x0 x  v f hIv ) k_963 k_964 k_965 k_106 k_966 (by decide +kernel) ⟨Nat.le_of_ble_eq_true rfl, Nat.le_of_ble_eq_true rfl⟩ 22 1 rfl rfl (rfl) hl.1 rfl (Nat.le_of_ble_eq_true rfl) dX10_fitted_4 (fun r1 u H locs hw hP hD hS => ?_)
  obtain ⟨v2, f3⟩ := u
  obtain ⟨kV_v2, kF_f3, hIv2, hk0_v2, hk1_v2, hk7_v2, hk8_v2, hk9_v2, hk10_v2, hk31_v2, hk32_v2⟩ := hw
  have hM_v2 : KV [] v2 v := KV.tr kV_v2 hM_v rfl
  have hA_f3 : KF [13, 14] f3 f := KF.tr kF_f3 hA_f rfl
  have hP : va_P (dC, dI) vwCl (XW cy x0 x v2 f3) H := hP
  have hD : va_D A (XW cy x0 x v2 f3) := hD
  have hq0_v2 : v2 0 = (v 0) := hk0_v2
  have hq1_v2 : v2 1 = (v 1) := hk1_v2
  have hq7_v2 : v2 7 = (v 7) := hk7_v2
  have hq8_v2 : v2 8 = (v 8) := hk8_v2
  have hq9_v2 : v2 9 = (v 9) := hk9_v2
  have hq10_v2 : v2 10 = (v 10) := hk10_v2
  have hq31_v2 : v2 31 = (v 31) := hk31_v2
  have hq32_v2 : v2 32 = (v 32) := hk32_v2
  exact ret r1 (v2, f3) _ _ _ _ _ _ rfl ⟨hM_v2, hA_f3, hIv2, hk0_v2, hk1_v2, hk7_v2, hk8_v2, hk9_v2, hk10_v2, hk31_v2, hk32_v2⟩ hP hD hS dX10_fitted_7 (Nat.le_refl _) (Nat.le_refl _)
set_option maxHeartbeats 4000000 in
set_option maxRecDepth 100000 in
theorem sX_X0_reckonGains_1 (l : Launch) (dC : Nat → ClassId) (dI : Nat → Nat → Nat) (cy : Nat → ClassId) (x0 : Nat) (x : Nat → Nat)  (v : Nat → Int32) (f : Nat → Nat → Int32) (hIv : XI v)  : ctV l (dC, dI) cy yX0_reckonGains cX0_reckonGains 4 4 133 0 0 ((Nat → Int32) × (Nat → Nat → Int32)) [.ref (x 31)] (XW cy x0 x v f) (fun u => KV [] u.1 v ∧ KF [13, 14, 22] u.2 f ∧ XI u.1 ∧ u.1 0 = v 0 ∧ u.1 1 = v 1 ∧ u.1 7 = v 7 ∧ u.1 8 = v 8 ∧ u.1 9 = v 9 ∧ u.1 10 = v 10 ∧ u.1 31 = v 31 ∧ u.1 32 = v 32) (fun u => XW cy x0 x u.1 u.2) := by
  refine ctV_of (by decide) (Nat.le_of_ble_eq_true rfl) (fun p e s m below meth c A ls Q hx hb hml hts hown hnm hE hP hD hA hl ret => ?_)
  have hM_v : KV [] v v := fun _ _ => rfl
  have hA_f : KF [13, 14, 22] f f := fun _ _ => rfl
  have hown : s.vm.findClass RX0 = some m.cls := hown
  have hS : va_S A s.heap s.heap [] := va_S.rf
  have hl : lv_has ls 4 [(0, .ref (x 31))] := hl
  refine lv_iconst (v := 0) hx hb dX0_reckonGains_0 (by decide) ?_
  refine lv_istore_n (lv' := [(1, .int 0), (0, .ref (x 31))]) hx hb dX0_reckonGains_1 rfl hl (by decide) rfl (fun ls hl => ?_)
  have lp1 : ∀ (n1 : Nat) (l1_1 : Int32) (v1 : Nat → Int32) (f1 : Nat → Nat → Int32), XI v1 → v1 0 = (v 0) → v1 1 = (v 1) → v1 7 = (v 7) → v1 8 = (v 8) → v1 9 = (v 9) → v1 10 = (v 10) → v1 31 = (v 31) → v1 32 = (v 32) → ((0 : Int) ≤ l1_1.toInt ∧ l1_1.toInt ≤ 2147483647) → KV [] v1 v → KF [13, 14, 22] f1 f → (2147483647 - l1_1.toInt).toNat < n1 → ∀ (H : Heap) (locs : List Loc) (ls : Array Slot), va_P (dC, dI) vwCl (XW cy x0 x v1 f1) H → va_D A (XW cy x0 x v1 f1) → va_S A s.heap H locs → lv_has ls 4 [(1, .int l1_1), (0, .ref (x 31))] → W p l e { frames := 4, cells := 0, slots := 0, locals := 133 } s m ([.ref (x 31)] : List Value).toArray below meth c H locs 0 0 Q (F0 m 2 ls []) := by
    intro n1
    induction n1 with
    | zero => intro l1_1 v1 f1 hIv1 hq0_v1 hq1_v1 hq7_v1 hq8_v1 hq9_v1 hq10_v1 hq31_v1 hq32_v1 hr1_1 hM_v1 hA_f1 hm; exact absurd hm (Nat.not_lt_zero _)
    | succ n1 ih1 =>
      intro l1_1 v1 f1 hIv1 hq0_v1 hq1_v1 hq7_v1 hq8_v1 hq9_v1 hq10_v1 hq31_v1 hq32_v1 hr1_1 hM_v1 hA_f1 hm1 H locs ls hP hD hS hl
      refine lv_iload_n hx hb dX0_reckonGains_2 rfl (lv_at hl 0 rfl) ?_
      refine lv_aload_n hx hb dX0_reckonGains_3 rfl (lv_at hl 1 rfl) ?_
      refine va_get (D := (dC, dI)) (ci := 0) (v := .ref (x 26)) (C := RX0) (T := TX0) (N := 8) hx hb hts inB_0 hown hE.1 hP 32 rfl rfl 0 (by decide) (hts _ k_430) (fun _ h9 => h9) rfl dX0_reckonGains_4 ?_
      refine va_getN (D := (dC, dI)) (ci := 7) (v := .int (v1 31)) (C := RX7) (T := TX7) (N := 10) hx hb hts inB_7 hown hE.1 hP 27 rfl rfl 3 (by decide) (va_Nw.use rfl (hE.2 _ k_216)) (fun _ h9 => h9) rfl dX0_reckonGains_7 ?_
      refine tI (y := (v 31)) hq31_v1 ?_
      have b31_v : 0 ≤ (v 31).toInt ∧ (v 31).toInt ≤ 6 := XI.b hIv 31 (by decide)
      refine lv_icmp_ge (tgt := 79) hx hb dX0_reckonGains_10 (by decide) (fun c2 => ?_) (fun c2 => ?_)
      · skip
        have zc2 : (v 31).toInt ≤ l1_1.toInt := by rw [fa_le] at c2; exact c2
        have rg3 := fb_rng l1_1
        have rg4 := fb_rng (v 31)
        exact ret (v1, f1) _ _ _ _ _ _ ⟨hM_v1, hA_f1, hIv1, (show v1 0 = v 0 from hq0_v1), (show v1 1 = v 1 from hq1_v1), (show v1 7 = v 7 from hq7_v1), (show v1 8 = v 8 from hq8_v1), (show v1 9 = v 9 from hq9_v1), (show v1 10 = v 10 from hq10_v1), (show v1 31 = v 31 from hq31_v1), (show v1 32 = v 32 from hq32_v1)⟩ hP hD hS dX0_reckonGains_79 (Nat.le_refl _) (Nat.le_refl _)
      · skip
        have zc2 : ¬ ((v 31).toInt ≤ l1_1.toInt) := by rw [fa_le] at c2; exact c2
        have rg5 := fb_rng l1_1
        have rg6 := fb_rng (v 31)
        refine lv_iconst (v := 0) hx hb dX0_reckonGains_13 (by decide) ?_
        refine lv_istore_n (lv' := [(2, .int 0), (1, .int l1_1), (0, .ref (x 31))]) hx hb dX0_reckonGains_14 rfl hl (by decide) rfl (fun ls hl => ?_)
        have lp7 : ∀ (n7 : Nat) (l2_7 : Int32) (v7 : Nat → Int32) (f7 : Nat → Nat → Int32), XI v7 → v7 0 = (v 0) → v7 1 = (v 1) → v7 7 = (v 7) → v7 8 = (v 8) → v7 9 = (v 9) → v7 10 = (v 10) → v7 31 = (v 31) → v7 32 = (v 32) → ((0 : Int) ≤ l2_7.toInt ∧ l2_7.toInt ≤ 2147483647) → KV [] v7 v → KF [13, 14, 22] f7 f → (2147483647 - l2_7.toInt).toNat < n7 → ∀ (H : Heap) (locs : List Loc) (ls : Array Slot), va_P (dC, dI) vwCl (XW cy x0 x v7 f7) H → va_D A (XW cy x0 x v7 f7) → va_S A s.heap H locs → lv_has ls 4 [(2, .int l2_7), (1, .int l1_1), (0, .ref (x 31))] → W p l e { frames := 4, cells := 0, slots := 0, locals := 133 } s m ([.ref (x 31)] : List Value).toArray below meth c H locs 0 0 Q (F0 m 15 ls []) := by
          intro n7
          induction n7 with
          | zero => intro l2_7 v7 f7 hIv7 hq0_v7 hq1_v7 hq7_v7 hq8_v7 hq9_v7 hq10_v7 hq31_v7 hq32_v7 hr2_7 hM_v7 hA_f7 hm; exact absurd hm (Nat.not_lt_zero _)
          | succ n7 ih7 =>
            intro l2_7 v7 f7 hIv7 hq0_v7 hq1_v7 hq7_v7 hq8_v7 hq9_v7 hq10_v7 hq31_v7 hq32_v7 hr2_7 hM_v7 hA_f7 hm7 H locs ls hP hD hS hl
            refine lv_iload_n hx hb dX0_reckonGains_15 rfl (lv_at hl 0 rfl) ?_
            refine lv_aload_n hx hb dX0_reckonGains_16 rfl (lv_at hl 2 rfl) ?_
            refine va_get (D := (dC, dI)) (ci := 0) (v := .ref (x 26)) (C := RX0) (T := TX0) (N := 8) hx hb hts inB_0 hown hE.1 hP 32 rfl rfl 0 (by decide) (hts _ k_430) (fun _ h9 => h9) rfl dX0_reckonGains_17 ?_
            refine va_getN (D := (dC, dI)) (ci := 7) (v := .int (v7 32)) (C := RX7) (T := TX7) (N := 10) hx hb hts inB_7 hown hE.1 hP 27 rfl rfl 4 (by decide) (va_Nw.use rfl (hE.2 _ k_222)) (fun _ h9 => h9) rfl dX0_reckonGains_20 ?_
            refine tI (y := (v 32)) hq32_v7 ?_
            have b32_v : 0 ≤ (v 32).toInt ∧ (v 32).toInt ≤ 6 := XI.b hIv 32 (by decide)
            refine lv_icmp_ge (tgt := 73) hx hb dX0_reckonGains_23 (by decide) (fun c8 => ?_) (fun c8 => ?_)
            · skip
              have zc8 : (v 32).toInt ≤ l2_7.toInt := by rw [fa_le] at c8; exact c8
              have rg9 := fb_rng l2_7
              have rg10 := fb_rng (v 32)
              obtain ⟨t11, et11⟩ : ∃ y : Int32, y = l1_1 + 1 := ⟨_, rfl⟩
              have zt11 : t11.toInt = l1_1.toInt + 1 := by rw [et11]; exact add_i rfl (by decide) (by omega) (by omega)
              refine lv_iinc (v := t11) (lv' := [(1, .int t11), (2, .int l2_7), (0, .ref (x 31))]) hx hb dX0_reckonGains_73 hl (k := 1) rfl (by rw [et11]; rfl) (by decide) rfl (fun ls hl => ?_)
              refine lv_goto (tgt := 2) hx hb dX0_reckonGains_76 (by decide) ?_
              have rg12 := fb_rng t11
              exact ih1 t11 v7 f7 hIv7 hq0_v7 hq1_v7 hq7_v7 hq8_v7 hq9_v7 hq10_v7 hq31_v7 hq32_v7 ⟨show (0 : Int) ≤ t11.toInt by omega, show t11.toInt ≤ (2147483647 : Int) by omega⟩ hM_v7 hA_f7 (by show (2147483647 - t11.toInt).toNat < n1; omega) _ _ _ hP hD hS (lv_sub hl [0, 2] rfl)
            · skip
              have zc8 : ¬ ((v 32).toInt ≤ l2_7.toInt) := by rw [fa_le] at c8; exact c8
              have rg13 := fb_rng l2_7
              have rg14 := fb_rng (v 32)
              refine lv_aload_n hx hb dX0_reckonGains_26 rfl (lv_at hl 2 rfl) ?_
              refine va_get (D := (dC, dI)) (ci := 0) (v := .ref (x 21)) (C := RX0) (T := TX0) (N := 8) hx hb hts inB_0 hown hE.1 hP 32 rfl rfl 1 (by decide) (hts _ k_431) (fun _ h9 => h9) rfl dX0_reckonGains_27 ?_
              refine lv_iload_n hx hb dX0_reckonGains_30 rfl (lv_at hl 1 rfl) ?_
              refine lv_iload_n hx hb dX0_reckonGains_31 rfl (lv_at hl 0 rfl) ?_
              refine cbVi (n := 2) (rest := []) hx hb hml hown hts hE hP hD hS hA (sX_X1_illness_1 l dC dI cy x0 x l1_1 l2_7 v7 f7 hIv7 ) k_979 k_823 k_824 k_106 k_825 (by decide +kernel) ⟨Nat.le_of_ble_eq_true rfl, Nat.le_of_ble_eq_true rfl⟩ 22 1 rfl rfl (rfl) hl.1 rfl (Nat.le_of_ble_eq_true rfl) dX0_reckonGains_32 (fun r15 u H locs hw hP hD hS => ?_)
              obtain ⟨v16, f17⟩ := u
              obtain ⟨kV_v16, kF_f17, hIv16, hk0_v16, hk1_v16, hk7_v16, hk8_v16, hk9_v16, hk10_v16, hk31_v16, hk32_v16⟩ := hw
              have hM_v16 : KV [] v16 v := KV.tr kV_v16 hM_v7 rfl
              have hA_f17 : KF [13, 14, 22] f17 f := KF.tr kF_f17 hA_f7 rfl
              have hP : va_P (dC, dI) vwCl (XW cy x0 x v16 f17) H := hP
              have hD : va_D A (XW cy x0 x v16 f17) := hD
              have hq0_v16 : v16 0 = (v 0) := hk0_v16.trans hq0_v7
              have hq1_v16 : v16 1 = (v 1) := hk1_v16.trans hq1_v7
              have hq7_v16 : v16 7 = (v 7) := hk7_v16.trans hq7_v7
              have hq8_v16 : v16 8 = (v 8) := hk8_v16.trans hq8_v7
              have hq9_v16 : v16 9 = (v 9) := hk9_v16.trans hq9_v7
              have hq10_v16 : v16 10 = (v 10) := hk10_v16.trans hq10_v7
              have hq31_v16 : v16 31 = (v 31) := hk31_v16.trans hq31_v7
              have hq32_v16 : v16 32 = (v 32) := hk32_v16.trans hq32_v7
              refine lv_istore_n (lv' := [(3, .int r15), (2, .int l2_7), (1, .int l1_1), (0, .ref (x 31))]) hx hb dX0_reckonGains_35 rfl hl (by decide) rfl (fun ls hl => ?_)
              refine lv_aload_n hx hb dX0_reckonGains_36 rfl (lv_at hl 3 rfl) ?_
              refine va_get (D := (dC, dI)) (ci := 0) (v := .ref (x 34)) (C := RX0) (T := TX0) (N := 8) hx hb hts inB_0 hown hE.1 hP 32 rfl rfl 5 (by decide) (hts _ k_436) (fun _ h9 => h9) rfl dX0_reckonGains_37 ?_
              refine lv_iload_n hx hb dX0_reckonGains_40 rfl (lv_at hl 2 rfl) ?_
              refine lv_bipush (v := 6) hx hb dX0_reckonGains_41 (by decide) ?_
              refine lv_imul hx hb dX0_reckonGains_43 ?_
              refine lv_topi (fun t18 et18 => ?_)
              have zt18 : t18.toInt = l1_1.toInt * 6 := by rw [et18]; exact mul_i rfl (by decide) (by omega) (by omega)
              refine lv_iload_n hx hb dX0_reckonGains_44 rfl (lv_at hl 1 rfl) ?_
              refine lv_iadd hx hb dX0_reckonGains_45 ?_
              refine lv_topi (fun t19 et19 => ?_)
              have rg20 := fb_rng t18
              have zt19 : t19.toInt = t18.toInt + l2_7.toInt := by rw [et19]; exact add_i rfl rfl (by omega) (by omega)
              refine lv_iload_n hx hb dX0_reckonGains_46 rfl (lv_at hl 0 rfl) ?_
              refine lv_aload_n hx hb dX0_reckonGains_47 rfl (lv_at hl 3 rfl) ?_
              refine va_get (D := (dC, dI)) (ci := 0) (v := .ref (x 26)) (C := RX0) (T := TX0) (N := 8) hx hb hts inB_0 hown hE.1 hP 32 rfl rfl 0 (by decide) (hts _ k_430) (fun _ h9 => h9) rfl dX0_reckonGains_48 ?_
              refine va_getN (D := (dC, dI)) (ci := 7) (v := .int (v16 33)) (C := RX7) (T := TX7) (N := 10) hx hb hts inB_7 hown hE.1 hP 27 rfl rfl 5 (by decide) (va_Nw.use rfl (hE.2 _ k_229)) (fun _ h9 => h9) rfl dX0_reckonGains_51 ?_
              refine lv_icmp_gt (tgt := 65) hx hb dX0_reckonGains_54 (by decide) (fun c21 => ?_) (fun c21 => ?_)
              · skip
                have zc21 : (v16 33).toInt < r15.toInt := by rw [fa_lt] at c21; exact c21
                have rg22 := fb_rng r15
                have rg23 := fb_rng (v16 33)
                refine lv_iconst (v := (-1)) hx hb dX0_reckonGains_65 (by decide) ?_
                refine stI hx hb hE hP hD hS 35 rfl (vp_in_iff.mpr ⟨by omega, by omega⟩) rfl dX0_reckonGains_66 (fun H locs hP hD hS => ?_)
                obtain ⟨f24, ef24, hP, hD⟩ : ∃ fz9, fz9 = upd2 f17 22 (upd (f17 22) t19.toNatClampNeg (-1)) ∧ va_P (dC, dI) vwCl (XW cy x0 x v16 fz9) H ∧ va_D A (XW cy x0 x v16 fz9) := ⟨_, rfl, hP, hD⟩
                have hA_f24 : KF [13, 14, 22] f24 f := by rw [ef24]; exact KF.up hA_f17 rfl
                obtain ⟨t25, et25⟩ : ∃ y : Int32, y = l2_7 + 1 := ⟨_, rfl⟩
                have zt25 : t25.toInt = l2_7.toInt + 1 := by rw [et25]; exact add_i rfl (by decide) (by omega) (by omega)
                refine lv_iinc (v := t25) (lv' := [(2, .int t25), (3, .int r15), (1, .int l1_1), (0, .ref (x 31))]) hx hb dX0_reckonGains_67 hl (k := 1) rfl (by rw [et25]; rfl) (by decide) rfl (fun ls hl => ?_)
                refine lv_goto (tgt := 15) hx hb dX0_reckonGains_70 (by decide) ?_
                have rg26 := fb_rng t25
                exact ih7 t25 v16 f24 hIv16 hq0_v16 hq1_v16 hq7_v16 hq8_v16 hq9_v16 hq10_v16 hq31_v16 hq32_v16 ⟨show (0 : Int) ≤ t25.toInt by omega, show t25.toInt ≤ (2147483647 : Int) by omega⟩ hM_v16 hA_f24 (by show (2147483647 - t25.toInt).toNat < n7; omega) _ _ _ hP hD hS (lv_sub hl [0, 2, 3] rfl)
              · skip
                have zc21 : ¬ ((v16 33).toInt < r15.toInt) := by rw [fa_lt] at c21; exact c21
                have rg27 := fb_rng r15
                have rg28 := fb_rng (v16 33)
                refine lv_sipush (v := 10000) hx hb dX0_reckonGains_57 (by decide) ?_
                refine lv_iload_n hx hb dX0_reckonGains_60 rfl (lv_at hl 0 rfl) ?_
                refine lv_isub hx hb dX0_reckonGains_61 ?_
                refine lv_topi (fun t29 et29 => ?_)
                refine lv_goto (tgt := 66) hx hb dX0_reckonGains_62 (by decide) ?_
                refine stI hx hb hE hP hD hS 35 rfl (vp_in_iff.mpr ⟨by omega, by omega⟩) rfl dX0_reckonGains_66 (fun H locs hP hD hS => ?_)
                obtain ⟨f30, ef30, hP, hD⟩ : ∃ fz9, fz9 = upd2 f17 22 (upd (f17 22) t19.toNatClampNeg t29) ∧ va_P (dC, dI) vwCl (XW cy x0 x v16 fz9) H ∧ va_D A (XW cy x0 x v16 fz9) := ⟨_, rfl, hP, hD⟩
                have hA_f30 : KF [13, 14, 22] f30 f := by rw [ef30]; exact KF.up hA_f17 rfl
                obtain ⟨t31, et31⟩ : ∃ y : Int32, y = l2_7 + 1 := ⟨_, rfl⟩
                have zt31 : t31.toInt = l2_7.toInt + 1 := by rw [et31]; exact add_i rfl (by decide) (by omega) (by omega)
                refine lv_iinc (v := t31) (lv' := [(2, .int t31), (3, .int r15), (1, .int l1_1), (0, .ref (x 31))]) hx hb dX0_reckonGains_67 hl (k := 1) rfl (by rw [et31]; rfl) (by decide) rfl (fun ls hl => ?_)
                refine lv_goto (tgt := 15) hx hb dX0_reckonGains_70 (by decide) ?_
                have rg32 := fb_rng t31
                exact ih7 t31 v16 f30 hIv16 hq0_v16 hq1_v16 hq7_v16 hq8_v16 hq9_v16 hq10_v16 hq31_v16 hq32_v16 ⟨show (0 : Int) ≤ t31.toInt by omega, show t31.toInt ≤ (2147483647 : Int) by omega⟩ hM_v16 hA_f30 (by show (2147483647 - t31.toInt).toNat < n7; omega) _ _ _ hP hD hS (lv_sub hl [0, 2, 3] rfl)
        exact lp7 _ 0 v1 f1 hIv1 hq0_v1 hq1_v1 hq7_v1 hq8_v1 hq9_v1 hq10_v1 hq31_v1 hq32_v1 ⟨by decide, by decide⟩ hM_v1 hA_f1 (Nat.lt_succ_self _) _ _ _ hP hD hS (lv_sub hl [0, 1, 2] rfl)
  exact lp1 _ 0 v f hIv rfl rfl rfl rfl rfl rfl rfl rfl ⟨by decide, by decide⟩ hM_v hA_f (Nat.lt_succ_self _) _ _ _ hP hD hS (lv_sub hl [0, 1] rfl)
def gsX_J7_fill_53178_2_L1 (NF : Nat) (p1 : Int32) : Nat → (Int32) → (Nat → Int32) → (Nat → Nat → Int32) → (Nat → Int32) × (Nat → Nat → Int32)
  | 0, _, _, _ => ((fun _ => 0), (fun _ _ => 0))
  | n1 + 1, l2_1, v1, f1 =>
    if 448 ≤ l2_1 then
      (v1, f1)
    else
      let f3 : Nat → Nat → Int32 := upd2 f1 21 (upd (f1 21) l2_1.toNatClampNeg p1)
      let t4 : Int32 := l2_1 + 1
      gsX_J7_fill_53178_2_L1 NF p1 n1 t4 v1 f3
def gsX_J7_fill_53178_2 (NF : Nat) (p1 : Int32) (v : Nat → Int32) (f : Nat → Nat → Int32) : (Nat → Int32) × (Nat → Nat → Int32) :=
  gsX_J7_fill_53178_2_L1 NF p1 (4294967296 + NF) 0 v f
theorem gsX_J7_fill_53178_2_q2 {NF : Nat} {p1 : Int32} {v : Nat → Int32} {f : Nat → Nat → Int32}  : gsX_J7_fill_53178_2 NF p1 v f = gsX_J7_fill_53178_2_L1 NF p1 (4294967296 + NF) 0 v f := by
  simp only [gsX_J7_fill_53178_2]
theorem gsX_J7_fill_53178_2_q0 {NF : Nat} {p1 : Int32} {n1 : Nat} {l2_1 : Int32} {v1 : Nat → Int32} {f1 : Nat → Nat → Int32} (h0 : (448 ≤ l2_1)) : gsX_J7_fill_53178_2_L1 NF p1 (n1 + 1) l2_1 v1 f1 = (v1, f1) := by
  simp only [gsX_J7_fill_53178_2_L1, if_pos h0]
theorem gsX_J7_fill_53178_2_q1 {NF : Nat} {p1 : Int32} {n1 : Nat} {l2_1 : Int32} {v1 : Nat → Int32} {f1 : Nat → Nat → Int32} {f3 : Nat → Nat → Int32} {t4 : Int32} (h0 : ¬ (448 ≤ l2_1)) (h1 : f3 = upd2 f1 21 (upd (f1 21) l2_1.toNatClampNeg p1)) (h2 : t4 = l2_1 + 1) : gsX_J7_fill_53178_2_L1 NF p1 (n1 + 1) l2_1 v1 f1 = gsX_J7_fill_53178_2_L1 NF p1 n1 t4 v1 f3 := by
  subst h1 h2
  simp only [gsX_J7_fill_53178_2_L1, if_neg h0]
set_option maxHeartbeats 4000000 in
set_option maxRecDepth 100000 in
theorem sX_J7_fill_53178_2 (NF : Nat) (l : Launch) (dC : Nat → ClassId) (dI : Nat → Nat → Nat) (cy : Nat → ClassId) (x0 : Nat) (x : Nat → Nat) (p1 : Int32) (v : Nat → Int32) (f : Nat → Nat → Int32) (hIv : XI v)  : ctV l (dC, dI) cy yJ7_fill_53178 cJ7_fill_53178 4 1 60 0 0 ((Nat → Int32) × (Nat → Nat → Int32)) [.ref (x 33), .int p1] (XW cy x0 x v f) (fun u => gsX_J7_fill_53178_2 NF p1 v f = u ∧ KV [] u.1 v ∧ KF [21] u.2 f ∧ XI u.1 ∧ u.1 0 = v 0 ∧ u.1 1 = v 1 ∧ u.1 7 = v 7 ∧ u.1 8 = v 8 ∧ u.1 9 = v 9 ∧ u.1 10 = v 10 ∧ u.1 31 = v 31 ∧ u.1 32 = v 32) (fun u => XW cy x0 x u.1 u.2) := by
  refine ctV_of (by decide) (Nat.le_of_ble_eq_true rfl) (fun p e s m below meth c A ls Q hx hb hml hts hown hnm hE hP hD hA hl ret => ?_)
  have hM_v : KV [] v v := fun _ _ => rfl
  have hA_f : KF [21] f f := fun _ _ => rfl
  have hown : s.vm.findClass RJ7 = some m.cls := hown
  have hS : va_S A s.heap s.heap [] := va_S.rf
  have hl : lv_has ls 4 [(0, .ref (x 33)), (1, .int p1)] := hl
  refine lv_iconst (v := 0) hx hb dJ7_fill_53178_0 (by decide) ?_
  refine lv_istore_n (lv' := [(2, .int 0), (0, .ref (x 33)), (1, .int p1)]) hx hb dJ7_fill_53178_1 rfl hl (by decide) rfl (fun ls hl => ?_)
  refine lv_aload_n hx hb dJ7_fill_53178_2 rfl (lv_at hl 1 rfl) ?_
  refine va_alen (v := 448) hx hb hE.1 hP 34 1 rfl rfl rfl dJ7_fill_53178_3 ?_
  refine lv_istore_n (lv' := [(3, .int 448), (2, .int 0), (0, .ref (x 33)), (1, .int p1)]) hx hb dJ7_fill_53178_4 rfl hl (by decide) rfl (fun ls hl => ?_)
  have lp1 : ∀ (n1 : Nat) (l2_1 : Int32) (v1 : Nat → Int32) (f1 : Nat → Nat → Int32), XI v1 → v1 0 = (v 0) → v1 1 = (v 1) → v1 7 = (v 7) → v1 8 = (v 8) → v1 9 = (v 9) → v1 10 = (v 10) → v1 31 = (v 31) → v1 32 = (v 32) → gsX_J7_fill_53178_2_L1 NF p1 n1 l2_1 v1 f1 = (gsX_J7_fill_53178_2 NF p1 v f) → ((0 : Int) ≤ l2_1.toInt ∧ l2_1.toInt ≤ 2147483647) → KV [] v1 v → KF [21] f1 f → (2147483647 - l2_1.toInt).toNat < n1 → ∀ (H : Heap) (locs : List Loc) (ls : Array Slot), va_P (dC, dI) vwCl (XW cy x0 x v1 f1) H → va_D A (XW cy x0 x v1 f1) → va_S A s.heap H locs → lv_has ls 4 [(3, .int 448), (2, .int l2_1), (0, .ref (x 33)), (1, .int p1)] → W p l e { frames := 1, cells := 0, slots := 0, locals := 60 } s m ([.ref (x 33), .int p1] : List Value).toArray below meth c H locs 0 0 Q (F0 m 5 ls []) := by
    intro n1
    induction n1 with
    | zero => intro l2_1 v1 f1 hIv1 hq0_v1 hq1_v1 hq7_v1 hq8_v1 hq9_v1 hq10_v1 hq31_v1 hq32_v1 hT1 hr2_1 hM_v1 hA_f1 hm; exact absurd hm (Nat.not_lt_zero _)
    | succ n1 ih1 =>
      intro l2_1 v1 f1 hIv1 hq0_v1 hq1_v1 hq7_v1 hq8_v1 hq9_v1 hq10_v1 hq31_v1 hq32_v1 hT1 hr2_1 hM_v1 hA_f1 hm1 H locs ls hP hD hS hl
      refine lv_iload_n hx hb dJ7_fill_53178_5 rfl (lv_at hl 1 rfl) ?_
      refine lv_iload_n hx hb dJ7_fill_53178_6 rfl (lv_at hl 0 rfl) ?_
      refine lv_icmp_ge (tgt := 20) hx hb dJ7_fill_53178_7 (by decide) (fun c2 => ?_) (fun c2 => ?_)
      · skip
        have zc2 : 448 ≤ l2_1.toInt := by rw [fa_le, show (448 : Int32).toInt = 448 from by decide] at c2; exact c2
        exact ret (v1, f1) _ _ _ _ _ _ ⟨(hT1.symm.trans (gsX_J7_fill_53178_2_q0 c2)), hM_v1, hA_f1, hIv1, (show v1 0 = v 0 from hq0_v1), (show v1 1 = v 1 from hq1_v1), (show v1 7 = v 7 from hq7_v1), (show v1 8 = v 8 from hq8_v1), (show v1 9 = v 9 from hq9_v1), (show v1 10 = v 10 from hq10_v1), (show v1 31 = v 31 from hq31_v1), (show v1 32 = v 32 from hq32_v1)⟩ hP hD hS dJ7_fill_53178_20 (Nat.le_refl _) (Nat.le_refl _)
      · skip
        have zc2 : ¬ (448 ≤ l2_1.toInt) := by rw [fa_le, show (448 : Int32).toInt = 448 from by decide] at c2; exact c2
        refine lv_aload_n hx hb dJ7_fill_53178_10 rfl (lv_at hl 2 rfl) ?_
        refine lv_iload_n hx hb dJ7_fill_53178_11 rfl (lv_at hl 1 rfl) ?_
        refine lv_iload_n hx hb dJ7_fill_53178_12 rfl (lv_at hl 3 rfl) ?_
        refine stI hx hb hE hP hD hS 34 rfl (vp_in_iff.mpr ⟨by omega, by omega⟩) rfl dJ7_fill_53178_13 (fun H locs hP hD hS => ?_)
        obtain ⟨f3, ef3, hP, hD⟩ : ∃ fz9, fz9 = upd2 f1 21 (upd (f1 21) l2_1.toNatClampNeg p1) ∧ va_P (dC, dI) vwCl (XW cy x0 x v1 fz9) H ∧ va_D A (XW cy x0 x v1 fz9) := ⟨_, rfl, hP, hD⟩
        have hA_f3 : KF [21] f3 f := by rw [ef3]; exact KF.up hA_f1 rfl
        obtain ⟨t4, et4⟩ : ∃ y : Int32, y = l2_1 + 1 := ⟨_, rfl⟩
        have rg5 := fb_rng l2_1
        have zt4 : t4.toInt = l2_1.toInt + 1 := by rw [et4]; exact add_i rfl (by decide) (by omega) (by omega)
        refine lv_iinc (v := t4) (lv' := [(2, .int t4), (3, .int 448), (0, .ref (x 33)), (1, .int p1)]) hx hb dJ7_fill_53178_14 hl (k := 1) rfl (by rw [et4]; rfl) (by decide) rfl (fun ls hl => ?_)
        refine lv_goto (tgt := 5) hx hb dJ7_fill_53178_17 (by decide) ?_
        have rg6 := fb_rng t4
        exact ih1 t4 v1 f3 hIv1 hq0_v1 hq1_v1 hq7_v1 hq8_v1 hq9_v1 hq10_v1 hq31_v1 hq32_v1 ((gsX_J7_fill_53178_2_q1 c2 ef3 et4).symm.trans hT1) ⟨show (0 : Int) ≤ t4.toInt by omega, show t4.toInt ≤ (2147483647 : Int) by omega⟩ hM_v1 hA_f3 (by show (2147483647 - t4.toInt).toNat < n1; omega) _ _ _ hP hD hS (lv_sub hl [1, 0, 2, 3] rfl)
  exact lp1 (4294967296 + NF) 0 v f hIv rfl rfl rfl rfl rfl rfl rfl rfl gsX_J7_fill_53178_2_q2.symm ⟨by decide, by decide⟩ hM_v hA_f (by have q3 : (448 : Int32).toInt = 448 := (by decide); have q2 : (0 : Int32).toInt = 0 := (by decide); show (2147483647 - (0 : Int32).toInt).toNat < 4294967296 + NF; omega) _ _ _ hP hD hS (lv_sub hl [0, 1, 2, 3] rfl)
set_option maxHeartbeats 4000000 in
set_option maxRecDepth 100000 in
theorem sX_X0_worthOf_1 (l : Launch) (dC : Nat → ClassId) (dI : Nat → Nat → Nat) (cy : Nat → ClassId) (x0 : Nat) (x : Nat → Nat) (p1 : Int32) (p2 : Int32) (p3 : Int32) (v : Nat → Int32) (f : Nat → Nat → Int32) (hIv : XI v) (hp1 : (0 : Int) ≤ p1.toInt ∧ p1.toInt ≤ 5) (hp2 : (0 : Int) ≤ p2.toInt ∧ p2.toInt ≤ 5) (hp3 : (0 : Int) ≤ p3.toInt ∧ p3.toInt ≤ 63) : ctI l (dC, dI) cy yX0_worthOf cX0_worthOf 5 .int 1 60 0 0 Unit [.ref (x 31), .int p1, .int p2, .int p3] (XW cy x0 x v f) (fun r u => True) (fun u => XW cy x0 x v f) := by
  refine ctI_of (by decide) (Nat.le_of_ble_eq_true rfl) (fun p e s m below meth c A ls Q hx hb hml hts hown hE hP hD hA hl ret => ?_)
  have hown : s.vm.findClass RX0 = some m.cls := hown
  have hS : va_S A s.heap s.heap [] := va_S.rf
  have hl : lv_has ls 5 [(0, .ref (x 31)), (1, .int p1), (2, .int p2), (3, .int p3)] := hl
  refine lv_aload_n hx hb dX0_worthOf_0 rfl (lv_at hl 0 rfl) ?_
  refine va_get (D := (dC, dI)) (ci := 0) (v := .ref (x 34)) (C := RX0) (T := TX0) (N := 8) hx hb hts inB_0 hown hE.1 hP 32 rfl rfl 5 (by decide) (hts _ k_436) (fun _ h9 => h9) rfl dX0_worthOf_1 ?_
  refine lv_iload_n hx hb dX0_worthOf_4 rfl (lv_at hl 1 rfl) ?_
  refine lv_bipush (v := 6) hx hb dX0_worthOf_5 (by decide) ?_
  refine lv_imul hx hb dX0_worthOf_7 ?_
  refine lv_topi (fun t1 et1 => ?_)
  have rg2 := fb_rng p1
  have zt1 : t1.toInt = p1.toInt * 6 := by rw [et1]; exact mul_i rfl (by decide) (by omega) (by omega)
  refine lv_iload_n hx hb dX0_worthOf_8 rfl (lv_at hl 2 rfl) ?_
  refine lv_iadd hx hb dX0_worthOf_9 ?_
  refine lv_topi (fun t3 et3 => ?_)
  have rg4 := fb_rng t1
  have rg5 := fb_rng p2
  have zt3 : t3.toInt = t1.toInt + p2.toInt := by rw [et3]; exact add_i rfl rfl (by omega) (by omega)
  refine ldI hx hb hE hP 35 rfl (vp_in_iff.mpr ⟨by omega, by omega⟩) rfl rfl dX0_worthOf_10 ?_
  refine lv_topi (fun t6 et6 => ?_)
  refine lv_istore (lv' := [(4, .int t6), (0, .ref (x 31)), (1, .int p1), (2, .int p2), (3, .int p3)]) hx hb dX0_worthOf_11 hl (by decide) rfl (fun ls hl => ?_)
  refine lv_iload hx hb dX0_worthOf_13 (lv_at hl 0 rfl) ?_
  refine lv_iconst (v := (-1)) hx hb dX0_worthOf_15 (by decide) ?_
  refine lv_icmp_eq (tgt := 27) hx hb dX0_worthOf_16 (by decide) (fun c7 => ?_) (fun c7 => ?_)
  · skip
    have zc7 : t6.toInt = (-1) := by rw [fa_eq, show ((-1) : Int32).toInt = -1 from by decide] at c7; exact c7
    refine lv_iconst (v := (-1)) hx hb dX0_worthOf_27 (by decide) ?_
    exact ret (-1) () _ _ _ _ _ _ rfl trivial hP hD hS dX0_worthOf_28 (Nat.le_refl _) (Nat.le_refl _)
  · skip
    have zc7 : ¬ (t6.toInt = (-1)) := by rw [fa_eq, show ((-1) : Int32).toInt = -1 from by decide] at c7; exact c7
    refine lv_iload_n hx hb dX0_worthOf_19 rfl (lv_at hl 4 rfl) ?_
    refine lv_iload_n hx hb dX0_worthOf_20 rfl (lv_at hl 3 rfl) ?_
    refine lv_ishr hx hb dX0_worthOf_21 ?_
    refine lv_topi (fun t8 et8 => ?_)
    refine lv_iconst (v := 1) hx hb dX0_worthOf_22 (by decide) ?_
    refine lv_iand hx hb dX0_worthOf_23 ?_
    refine lv_topi (fun t9 et9 => ?_)
    have zt9 : 0 ≤ t9.toInt ∧ t9.toInt < 2 := by rw [et9]; exact and_rng _ (k := 1) (by decide) (by decide)
    refine lv_if_eq (tgt := 29) hx hb dX0_worthOf_24 (by decide) (fun c10 => ?_) (fun c10 => ?_)
    · skip
      have zc10 : t9.toInt = 0 := by rw [fa_eq, show (0 : Int32).toInt = 0 from by decide] at c10; exact c10
      refine lv_iload hx hb dX0_worthOf_29 (lv_at hl 0 rfl) ?_
      refine lv_aload_n hx hb dX0_worthOf_31 rfl (lv_at hl 1 rfl) ?_
      refine va_get (D := (dC, dI)) (ci := 0) (v := .ref (x 33)) (C := RX0) (T := TX0) (N := 8) hx hb hts inB_0 hown hE.1 hP 32 rfl rfl 4 (by decide) (hts _ k_435) (fun _ h9 => h9) rfl dX0_worthOf_32 ?_
      refine lv_iload_n hx hb dX0_worthOf_35 rfl (lv_at hl 2 rfl) ?_
      refine lv_iconst (v := 1) hx hb dX0_worthOf_36 (by decide) ?_
      refine lv_iadd hx hb dX0_worthOf_37 ?_
      refine lv_topi (fun t11 et11 => ?_)
      have zt11 : t11.toInt = p1.toInt + 1 := by rw [et11]; exact add_i rfl (by decide) (by omega) (by omega)
      refine lv_bipush (v := 64) hx hb dX0_worthOf_38 (by decide) ?_
      refine lv_imul hx hb dX0_worthOf_40 ?_
      refine lv_topi (fun t12 et12 => ?_)
      have rg13 := fb_rng t11
      have zt12 : t12.toInt = t11.toInt * 64 := by rw [et12]; exact mul_i rfl (by decide) (by omega) (by omega)
      refine lv_iload_n hx hb dX0_worthOf_41 rfl (lv_at hl 4 rfl) ?_
      refine lv_iconst (v := 1) hx hb dX0_worthOf_42 (by decide) ?_
      refine lv_iload_n hx hb dX0_worthOf_43 rfl (lv_at hl 3 rfl) ?_
      refine lv_ishl hx hb dX0_worthOf_44 ?_
      refine lv_topi (fun t14 et14 => ?_)
      have zt14 : 1 ≤ t14.toInt ∧ t14.toInt ≤ 32 := by rw [et14]; exact shl1_rng (by omega) (by omega)
      refine lv_ior hx hb dX0_worthOf_45 ?_
      refine lv_topi (fun t15 et15 => ?_)
      have zt15 : 0 ≤ t15.toInt ∧ t15.toInt ≤ 63 := by rw [et15]; exact or_rng (by omega) (by omega) (by omega) (by omega)
      refine lv_iadd hx hb dX0_worthOf_46 ?_
      refine lv_topi (fun t16 et16 => ?_)
      have rg17 := fb_rng t12
      have rg18 := fb_rng t15
      have zt16 : t16.toInt = t12.toInt + t15.toInt := by rw [et16]; exact add_i rfl rfl (by omega) (by omega)
      refine ldI hx hb hE hP 34 rfl (vp_in_iff.mpr ⟨by omega, by omega⟩) rfl rfl dX0_worthOf_47 ?_
      refine lv_topi (fun t19 et19 => ?_)
      refine lv_iadd hx hb dX0_worthOf_48 ?_
      refine lv_topi (fun t20 et20 => ?_)
      exact ret t20 () _ _ _ _ _ _ rfl trivial hP hD hS dX0_worthOf_49 (Nat.le_refl _) (Nat.le_refl _)
    · skip
      have zc10 : ¬ (t9.toInt = 0) := by rw [fa_eq, show (0 : Int32).toInt = 0 from by decide] at c10; exact c10
      refine lv_iconst (v := (-1)) hx hb dX0_worthOf_27 (by decide) ?_
      exact ret (-1) () _ _ _ _ _ _ rfl trivial hP hD hS dX0_worthOf_28 (Nat.le_refl _) (Nat.le_refl _)
set_option maxHeartbeats 4000000 in
set_option maxRecDepth 100000 in
theorem sX_X0_reckonBest_1 (l : Launch) (dC : Nat → ClassId) (dI : Nat → Nat → Nat) (cy : Nat → ClassId) (x0 : Nat) (x : Nat → Nat)  (v : Nat → Int32) (f : Nat → Nat → Int32) (hIv : XI v)  : ctV l (dC, dI) cy yX0_reckonBest cX0_reckonBest 5 2 84 0 0 ((Nat → Int32) × (Nat → Nat → Int32)) [.ref (x 31)] (XW cy x0 x v f) (fun u => KV [] u.1 v ∧ KF [21] u.2 f ∧ XI u.1 ∧ u.1 0 = v 0 ∧ u.1 1 = v 1 ∧ u.1 7 = v 7 ∧ u.1 8 = v 8 ∧ u.1 9 = v 9 ∧ u.1 10 = v 10 ∧ u.1 31 = v 31 ∧ u.1 32 = v 32) (fun u => XW cy x0 x u.1 u.2) := by
  refine ctV_of (by decide) (Nat.le_of_ble_eq_true rfl) (fun p e s m below meth c A ls Q hx hb hml hts hown hnm hE hP hD hA hl ret => ?_)
  have hM_v : KV [] v v := fun _ _ => rfl
  have hA_f : KF [21] f f := fun _ _ => rfl
  have hown : s.vm.findClass RX0 = some m.cls := hown
  have hS : va_S A s.heap s.heap [] := va_S.rf
  have hl : lv_has ls 5 [(0, .ref (x 31))] := hl
  refine lv_aload_n hx hb dX0_reckonBest_0 rfl (lv_at hl 0 rfl) ?_
  refine va_get (D := (dC, dI)) (ci := 0) (v := .ref (x 33)) (C := RX0) (T := TX0) (N := 8) hx hb hts inB_0 hown hE.1 hP 32 rfl rfl 4 (by decide) (hts _ k_435) (fun _ h9 => h9) rfl dX0_reckonBest_1 ?_
  refine lv_iconst (v := 0) hx hb dX0_reckonBest_4 (by decide) ?_
  refine cbSv (n := 2) (rest := []) hx hb hml hown hts hE hP hD hS hA (sX_J7_fill_53178_2 0 l dC dI cy x0 x 0 v f hIv ) k_984 k_465 k_113 k_466 (by decide +kernel) ⟨Nat.le_of_ble_eq_true rfl, Nat.le_of_ble_eq_true rfl⟩ (rfl) hl.1 rfl (Nat.le_of_ble_eq_true rfl) dX0_reckonBest_5 (fun u H locs hw hP hD hS => ?_)
  obtain ⟨hG1, hw⟩ := hw
  obtain ⟨v2, f3⟩ := u
  obtain ⟨kV_v2, kF_f3, hIv2, hk0_v2, hk1_v2, hk7_v2, hk8_v2, hk9_v2, hk10_v2, hk31_v2, hk32_v2⟩ := hw
  have hM_v2 : KV [] v2 v := KV.tr kV_v2 hM_v rfl
  have hA_f3 : KF [21] f3 f := KF.tr kF_f3 hA_f rfl
  have hP : va_P (dC, dI) vwCl (XW cy x0 x v2 f3) H := hP
  have hD : va_D A (XW cy x0 x v2 f3) := hD
  have hq0_v2 : v2 0 = (v 0) := hk0_v2
  have hq1_v2 : v2 1 = (v 1) := hk1_v2
  have hq7_v2 : v2 7 = (v 7) := hk7_v2
  have hq8_v2 : v2 8 = (v 8) := hk8_v2
  have hq9_v2 : v2 9 = (v 9) := hk9_v2
  have hq10_v2 : v2 10 = (v 10) := hk10_v2
  have hq31_v2 : v2 31 = (v 31) := hk31_v2
  have hq32_v2 : v2 32 = (v 32) := hk32_v2
  refine lv_aload_n hx hb dX0_reckonBest_8 rfl (lv_at hl 0 rfl) ?_
  refine va_get (D := (dC, dI)) (ci := 0) (v := .ref (x 26)) (C := RX0) (T := TX0) (N := 8) hx hb hts inB_0 hown hE.1 hP 32 rfl rfl 0 (by decide) (hts _ k_430) (fun _ h9 => h9) rfl dX0_reckonBest_9 ?_
  refine va_getN (D := (dC, dI)) (ci := 7) (v := .int (v2 31)) (C := RX7) (T := TX7) (N := 10) hx hb hts inB_7 hown hE.1 hP 27 rfl rfl 3 (by decide) (va_Nw.use rfl (hE.2 _ k_216)) (fun _ h9 => h9) rfl dX0_reckonBest_12 ?_
  refine tI (y := (v 31)) hq31_v2 ?_
  have b31_v : 0 ≤ (v 31).toInt ∧ (v 31).toInt ≤ 6 := XI.b hIv 31 (by decide)
  refine lv_iconst (v := 1) hx hb dX0_reckonBest_15 (by decide) ?_
  refine lv_isub hx hb dX0_reckonBest_16 ?_
  refine lv_topi (fun t4 et4 => ?_)
  have rg5 := fb_rng (v 31)
  have zt4 : t4.toInt = (v 31).toInt - 1 := by rw [et4]; exact sub_i rfl (by decide) (by omega) (by omega)
  refine lv_istore_n (lv' := [(1, .int t4), (0, .ref (x 31))]) hx hb dX0_reckonBest_17 rfl hl (by decide) rfl (fun ls hl => ?_)
  have lp6 : ∀ (n6 : Nat) (l1_6 : Int32) (v6 : Nat → Int32) (f6 : Nat → Nat → Int32), XI v6 → v6 0 = (v 0) → v6 1 = (v 1) → v6 7 = (v 7) → v6 8 = (v 8) → v6 9 = (v 9) → v6 10 = (v 10) → v6 31 = (v 31) → v6 32 = (v 32) → ((-2147483648 : Int) ≤ l1_6.toInt ∧ l1_6.toInt ≤ 5) → KV [] v6 v → KF [21] f6 f → (l1_6.toInt + 2147483648).toNat < n6 → ∀ (H : Heap) (locs : List Loc) (ls : Array Slot), va_P (dC, dI) vwCl (XW cy x0 x v6 f6) H → va_D A (XW cy x0 x v6 f6) → va_S A s.heap H locs → lv_has ls 5 [(1, .int l1_6), (0, .ref (x 31))] → W p l e { frames := 2, cells := 0, slots := 0, locals := 84 } s m ([.ref (x 31)] : List Value).toArray below meth c H locs 0 0 Q (F0 m 18 ls []) := by
    intro n6
    induction n6 with
    | zero => intro l1_6 v6 f6 hIv6 hq0_v6 hq1_v6 hq7_v6 hq8_v6 hq9_v6 hq10_v6 hq31_v6 hq32_v6 hr1_6 hM_v6 hA_f6 hm; exact absurd hm (Nat.not_lt_zero _)
    | succ n6 ih6 =>
      intro l1_6 v6 f6 hIv6 hq0_v6 hq1_v6 hq7_v6 hq8_v6 hq9_v6 hq10_v6 hq31_v6 hq32_v6 hr1_6 hM_v6 hA_f6 hm6 H locs ls hP hD hS hl
      refine lv_iload_n hx hb dX0_reckonBest_18 rfl (lv_at hl 0 rfl) ?_
      refine lv_if_lt (tgt := 102) hx hb dX0_reckonBest_19 (by decide) (fun c7 => ?_) (fun c7 => ?_)
      · skip
        have zc7 : l1_6.toInt < 0 := by rw [fa_lt, show (0 : Int32).toInt = 0 from by decide] at c7; exact c7
        exact ret (v6, f6) _ _ _ _ _ _ ⟨hM_v6, hA_f6, hIv6, hq0_v6, hq1_v6, hq7_v6, hq8_v6, hq9_v6, hq10_v6, hq31_v6, hq32_v6⟩ hP hD hS dX0_reckonBest_102 (Nat.le_refl _) (Nat.le_refl _)
      · skip
        have zc7 : ¬ (l1_6.toInt < 0) := by rw [fa_lt, show (0 : Int32).toInt = 0 from by decide] at c7; exact c7
        refine lv_iconst (v := 0) hx hb dX0_reckonBest_22 (by decide) ?_
        refine lv_istore_n (lv' := [(2, .int 0), (1, .int l1_6), (0, .ref (x 31))]) hx hb dX0_reckonBest_23 rfl hl (by decide) rfl (fun ls hl => ?_)
        have lp8 : ∀ (n8 : Nat) (l2_8 : Int32) (v8 : Nat → Int32) (f8 : Nat → Nat → Int32), XI v8 → v8 0 = (v 0) → v8 1 = (v 1) → v8 7 = (v 7) → v8 8 = (v 8) → v8 9 = (v 9) → v8 10 = (v 10) → v8 31 = (v 31) → v8 32 = (v 32) → ((0 : Int) ≤ l2_8.toInt ∧ l2_8.toInt ≤ 2147483647) → KV [] v8 v → KF [21] f8 f → (2147483647 - l2_8.toInt).toNat < n8 → ∀ (H : Heap) (locs : List Loc) (ls : Array Slot), va_P (dC, dI) vwCl (XW cy x0 x v8 f8) H → va_D A (XW cy x0 x v8 f8) → va_S A s.heap H locs → lv_has ls 5 [(2, .int l2_8), (1, .int l1_6), (0, .ref (x 31))] → W p l e { frames := 2, cells := 0, slots := 0, locals := 84 } s m ([.ref (x 31)] : List Value).toArray below meth c H locs 0 0 Q (F0 m 24 ls []) := by
          intro n8
          induction n8 with
          | zero => intro l2_8 v8 f8 hIv8 hq0_v8 hq1_v8 hq7_v8 hq8_v8 hq9_v8 hq10_v8 hq31_v8 hq32_v8 hr2_8 hM_v8 hA_f8 hm; exact absurd hm (Nat.not_lt_zero _)
          | succ n8 ih8 =>
            intro l2_8 v8 f8 hIv8 hq0_v8 hq1_v8 hq7_v8 hq8_v8 hq9_v8 hq10_v8 hq31_v8 hq32_v8 hr2_8 hM_v8 hA_f8 hm8 H locs ls hP hD hS hl
            refine lv_iload_n hx hb dX0_reckonBest_24 rfl (lv_at hl 0 rfl) ?_
            refine lv_bipush (v := 64) hx hb dX0_reckonBest_25 (by decide) ?_
            refine lv_icmp_ge (tgt := 96) hx hb dX0_reckonBest_27 (by decide) (fun c9 => ?_) (fun c9 => ?_)
            · skip
              have zc9 : 64 ≤ l2_8.toInt := by rw [fa_le, show (64 : Int32).toInt = 64 from by decide] at c9; exact c9
              obtain ⟨t10, et10⟩ : ∃ y : Int32, y = l1_6 + (-1) := ⟨_, rfl⟩
              have rg11 := fb_rng l1_6
              have zt10 : t10.toInt = l1_6.toInt + (-1) := by rw [et10]; exact add_i rfl (by decide) (by omega) (by omega)
              refine lv_iinc (v := t10) (lv' := [(1, .int t10), (2, .int l2_8), (0, .ref (x 31))]) hx hb dX0_reckonBest_96 hl (k := 1) rfl (by rw [et10]; rfl) (by decide) rfl (fun ls hl => ?_)
              refine lv_goto (tgt := 18) hx hb dX0_reckonBest_99 (by decide) ?_
              have rg12 := fb_rng t10
              exact ih6 t10 v8 f8 hIv8 hq0_v8 hq1_v8 hq7_v8 hq8_v8 hq9_v8 hq10_v8 hq31_v8 hq32_v8 ⟨show (-2147483648 : Int) ≤ t10.toInt by omega, show t10.toInt ≤ (5 : Int) by omega⟩ hM_v8 hA_f8 (by show (t10.toInt + 2147483648).toNat < n6; omega) _ _ _ hP hD hS (lv_sub hl [0, 2] rfl)
            · skip
              have zc9 : ¬ (64 ≤ l2_8.toInt) := by rw [fa_le, show (64 : Int32).toInt = 64 from by decide] at c9; exact c9
              refine lv_aload_n hx hb dX0_reckonBest_30 rfl (lv_at hl 2 rfl) ?_
              refine va_get (D := (dC, dI)) (ci := 0) (v := .ref (x 33)) (C := RX0) (T := TX0) (N := 8) hx hb hts inB_0 hown hE.1 hP 32 rfl rfl 4 (by decide) (hts _ k_435) (fun _ h9 => h9) rfl dX0_reckonBest_31 ?_
              refine lv_iload_n hx hb dX0_reckonBest_34 rfl (lv_at hl 1 rfl) ?_
              refine lv_iconst (v := 1) hx hb dX0_reckonBest_35 (by decide) ?_
              refine lv_iadd hx hb dX0_reckonBest_36 ?_
              refine lv_topi (fun t13 et13 => ?_)
              have rg14 := fb_rng l1_6
              have zt13 : t13.toInt = l1_6.toInt + 1 := by rw [et13]; exact add_i rfl (by decide) (by omega) (by omega)
              refine lv_bipush (v := 64) hx hb dX0_reckonBest_37 (by decide) ?_
              refine lv_imul hx hb dX0_reckonBest_39 ?_
              refine lv_topi (fun t15 et15 => ?_)
              have rg16 := fb_rng t13
              have zt15 : t15.toInt = t13.toInt * 64 := by rw [et15]; exact mul_i rfl (by decide) (by omega) (by omega)
              refine lv_iload_n hx hb dX0_reckonBest_40 rfl (lv_at hl 0 rfl) ?_
              refine lv_iadd hx hb dX0_reckonBest_41 ?_
              refine lv_topi (fun t17 et17 => ?_)
              have rg18 := fb_rng t15
              have rg19 := fb_rng l2_8
              have zt17 : t17.toInt = t15.toInt + l2_8.toInt := by rw [et17]; exact add_i rfl rfl (by omega) (by omega)
              refine ldI hx hb hE hP 34 rfl (vp_in_iff.mpr ⟨by omega, by omega⟩) rfl rfl dX0_reckonBest_42 ?_
              refine lv_topi (fun t20 et20 => ?_)
              refine lv_istore_n (lv' := [(3, .int t20), (2, .int l2_8), (1, .int l1_6), (0, .ref (x 31))]) hx hb dX0_reckonBest_43 rfl hl (by decide) rfl (fun ls hl => ?_)
              refine lv_iconst (v := 0) hx hb dX0_reckonBest_44 (by decide) ?_
              refine lv_istore (lv' := [(4, .int 0), (3, .int t20), (2, .int l2_8), (1, .int l1_6), (0, .ref (x 31))]) hx hb dX0_reckonBest_45 hl (by decide) rfl (fun ls hl => ?_)
              have lp21 : ∀ (n21 : Nat) (l3_21 : Int32) (l4_21 : Int32), ((0 : Int) ≤ l4_21.toInt ∧ l4_21.toInt ≤ 2147483647) → (2147483647 - l4_21.toInt).toNat < n21 → ∀ (H : Heap) (locs : List Loc) (ls : Array Slot), va_P (dC, dI) vwCl (XW cy x0 x v8 f8) H → va_D A (XW cy x0 x v8 f8) → va_S A s.heap H locs → lv_has ls 5 [(4, .int l4_21), (3, .int l3_21), (2, .int l2_8), (1, .int l1_6), (0, .ref (x 31))] → W p l e { frames := 2, cells := 0, slots := 0, locals := 84 } s m ([.ref (x 31)] : List Value).toArray below meth c H locs 0 0 Q (F0 m 47 ls []) := by
                intro n21
                induction n21 with
                | zero => intro l3_21 l4_21 hr4_21 hm; exact absurd hm (Nat.not_lt_zero _)
                | succ n21 ih21 =>
                  intro l3_21 l4_21 hr4_21 hm21 H locs ls hP hD hS hl
                  refine lv_iload hx hb dX0_reckonBest_47 (lv_at hl 0 rfl) ?_
                  refine lv_aload_n hx hb dX0_reckonBest_49 rfl (lv_at hl 4 rfl) ?_
                  refine va_get (D := (dC, dI)) (ci := 0) (v := .ref (x 26)) (C := RX0) (T := TX0) (N := 8) hx hb hts inB_0 hown hE.1 hP 32 rfl rfl 0 (by decide) (hts _ k_430) (fun _ h9 => h9) rfl dX0_reckonBest_50 ?_
                  refine va_getN (D := (dC, dI)) (ci := 7) (v := .int (v8 32)) (C := RX7) (T := TX7) (N := 10) hx hb hts inB_7 hown hE.1 hP 27 rfl rfl 4 (by decide) (va_Nw.use rfl (hE.2 _ k_222)) (fun _ h9 => h9) rfl dX0_reckonBest_53 ?_
                  refine tI (y := (v 32)) hq32_v8 ?_
                  have b32_v : 0 ≤ (v 32).toInt ∧ (v 32).toInt ≤ 6 := XI.b hIv 32 (by decide)
                  refine lv_icmp_ge (tgt := 78) hx hb dX0_reckonBest_56 (by decide) (fun c22 => ?_) (fun c22 => ?_)
                  · skip
                    have zc22 : (v 32).toInt ≤ l4_21.toInt := by rw [fa_le] at c22; exact c22
                    have rg23 := fb_rng l4_21
                    have rg24 := fb_rng (v 32)
                    refine lv_aload_n hx hb dX0_reckonBest_78 rfl (lv_at hl 4 rfl) ?_
                    refine va_get (D := (dC, dI)) (ci := 0) (v := .ref (x 33)) (C := RX0) (T := TX0) (N := 8) hx hb hts inB_0 hown hE.1 hP 32 rfl rfl 4 (by decide) (hts _ k_435) (fun _ h9 => h9) rfl dX0_reckonBest_79 ?_
                    refine lv_iload_n hx hb dX0_reckonBest_82 rfl (lv_at hl 3 rfl) ?_
                    refine lv_bipush (v := 64) hx hb dX0_reckonBest_83 (by decide) ?_
                    refine lv_imul hx hb dX0_reckonBest_85 ?_
                    refine lv_topi (fun t25 et25 => ?_)
                    have zt25 : t25.toInt = l1_6.toInt * 64 := by rw [et25]; exact mul_i rfl (by decide) (by omega) (by omega)
                    refine lv_iload_n hx hb dX0_reckonBest_86 rfl (lv_at hl 2 rfl) ?_
                    refine lv_iadd hx hb dX0_reckonBest_87 ?_
                    refine lv_topi (fun t26 et26 => ?_)
                    have rg27 := fb_rng t25
                    have zt26 : t26.toInt = t25.toInt + l2_8.toInt := by rw [et26]; exact add_i rfl rfl (by omega) (by omega)
                    refine lv_iload_n hx hb dX0_reckonBest_88 rfl (lv_at hl 1 rfl) ?_
                    refine stI hx hb hE hP hD hS 34 rfl (vp_in_iff.mpr ⟨by omega, by omega⟩) rfl dX0_reckonBest_89 (fun H locs hP hD hS => ?_)
                    obtain ⟨f28, ef28, hP, hD⟩ : ∃ fz9, fz9 = upd2 f8 21 (upd (f8 21) t26.toNatClampNeg l3_21) ∧ va_P (dC, dI) vwCl (XW cy x0 x v8 fz9) H ∧ va_D A (XW cy x0 x v8 fz9) := ⟨_, rfl, hP, hD⟩
                    have hA_f28 : KF [21] f28 f := by rw [ef28]; exact KF.up hA_f8 rfl
                    obtain ⟨t29, et29⟩ : ∃ y : Int32, y = l2_8 + 1 := ⟨_, rfl⟩
                    have zt29 : t29.toInt = l2_8.toInt + 1 := by rw [et29]; exact add_i rfl (by decide) (by omega) (by omega)
                    refine lv_iinc (v := t29) (lv' := [(2, .int t29), (4, .int l4_21), (3, .int l3_21), (1, .int l1_6), (0, .ref (x 31))]) hx hb dX0_reckonBest_90 hl (k := 2) rfl (by rw [et29]; rfl) (by decide) rfl (fun ls hl => ?_)
                    refine lv_goto (tgt := 24) hx hb dX0_reckonBest_93 (by decide) ?_
                    have rg30 := fb_rng t29
                    exact ih8 t29 v8 f28 hIv8 hq0_v8 hq1_v8 hq7_v8 hq8_v8 hq9_v8 hq10_v8 hq31_v8 hq32_v8 ⟨show (0 : Int) ≤ t29.toInt by omega, show t29.toInt ≤ (2147483647 : Int) by omega⟩ hM_v8 hA_f28 (by show (2147483647 - t29.toInt).toNat < n8; omega) _ _ _ hP hD hS (lv_sub hl [0, 3, 4] rfl)
                  · skip
                    have zc22 : ¬ ((v 32).toInt ≤ l4_21.toInt) := by rw [fa_le] at c22; exact c22
                    have rg31 := fb_rng l4_21
                    have rg32 := fb_rng (v 32)
                    refine lv_iload_n hx hb dX0_reckonBest_59 rfl (lv_at hl 1 rfl) ?_
                    refine lv_aload_n hx hb dX0_reckonBest_60 rfl (lv_at hl 4 rfl) ?_
                    refine lv_iload_n hx hb dX0_reckonBest_61 rfl (lv_at hl 3 rfl) ?_
                    refine lv_iload hx hb dX0_reckonBest_62 (lv_at hl 0 rfl) ?_
                    refine lv_iload_n hx hb dX0_reckonBest_64 rfl (lv_at hl 2 rfl) ?_
                    refine cbVi (n := 3) (rest := [.int l3_21]) hx hb hml hown hts hE hP hD hS hA (sX_X0_worthOf_1 l dC dI cy x0 x l1_6 l4_21 l2_8 v8 f8 hIv8 ⟨show (0 : Int) ≤ l1_6.toInt by omega, show l1_6.toInt ≤ (5 : Int) by omega⟩ ⟨show (0 : Int) ≤ l4_21.toInt by omega, show l4_21.toInt ≤ (5 : Int) by omega⟩ ⟨show (0 : Int) ≤ l2_8.toInt by omega, show l2_8.toInt ≤ (63 : Int) by omega⟩) k_985 k_987 k_24 k_111 k_988 (by decide +kernel) ⟨Nat.le_of_ble_eq_true rfl, Nat.le_of_ble_eq_true rfl⟩ 32 0 rfl rfl (rfl) hl.1 rfl (Nat.le_of_ble_eq_true rfl) dX0_reckonBest_65 (fun r33 u H locs hw hP hD hS => ?_)
                    refine va_mmax hx hb (by rw [hml]; exact hl.1.symm) hown (hts _ k_989) (hts _ k_640) (hts _ k_119) (hts _ k_641) (Nat.le_of_ble_eq_true rfl) (Nat.le_of_ble_eq_true rfl) (Nat.le_of_ble_eq_true rfl) (Nat.le_of_ble_eq_true rfl) dX0_reckonBest_68 ?_
                    refine lv_topi (fun t34 et34 => ?_)
                    have zt34 : t34.toInt = max (l3_21.toInt) (r33.toInt) := by rw [et34]; exact mmax_i rfl rfl
                    refine lv_istore_n (lv' := [(3, .int t34), (4, .int l4_21), (2, .int l2_8), (1, .int l1_6), (0, .ref (x 31))]) hx hb dX0_reckonBest_71 rfl hl (by decide) rfl (fun ls hl => ?_)
                    obtain ⟨t35, et35⟩ : ∃ y : Int32, y = l4_21 + 1 := ⟨_, rfl⟩
                    have zt35 : t35.toInt = l4_21.toInt + 1 := by rw [et35]; exact add_i rfl (by decide) (by omega) (by omega)
                    refine lv_iinc (v := t35) (lv' := [(4, .int t35), (3, .int t34), (2, .int l2_8), (1, .int l1_6), (0, .ref (x 31))]) hx hb dX0_reckonBest_72 hl (k := 1) rfl (by rw [et35]; rfl) (by decide) rfl (fun ls hl => ?_)
                    refine lv_goto (tgt := 47) hx hb dX0_reckonBest_75 (by decide) ?_
                    have rg36 := fb_rng t35
                    exact ih21 t34 t35 ⟨show (0 : Int) ≤ t35.toInt by omega, show t35.toInt ≤ (2147483647 : Int) by omega⟩ (by show (2147483647 - t35.toInt).toNat < n21; omega) _ _ _ hP hD hS (lv_sub hl [0, 1, 2, 3, 4] rfl)
              exact lp21 _ t20 0 ⟨by decide, by decide⟩ (Nat.lt_succ_self _) _ _ _ hP hD hS (lv_sub hl [0, 1, 2, 3, 4] rfl)
        exact lp8 _ 0 v6 f6 hIv6 hq0_v6 hq1_v6 hq7_v6 hq8_v6 hq9_v6 hq10_v6 hq31_v6 hq32_v6 ⟨by decide, by decide⟩ hM_v6 hA_f6 (Nat.lt_succ_self _) _ _ _ hP hD hS (lv_sub hl [0, 1, 2] rfl)
  have rg37 := fb_rng t4
  exact lp6 _ t4 v2 f3 hIv2 hq0_v2 hq1_v2 hq7_v2 hq8_v2 hq9_v2 hq10_v2 hq31_v2 hq32_v2 ⟨show (-2147483648 : Int) ≤ t4.toInt by omega, show t4.toInt ≤ (5 : Int) by omega⟩ hM_v2 hA_f3 (Nat.lt_succ_self _) _ _ _ hP hD hS (lv_sub hl [0, 1] rfl)
set_option maxHeartbeats 4000000 in
set_option maxRecDepth 100000 in
theorem sX_X0_firstBest_1 (l : Launch) (dC : Nat → ClassId) (dI : Nat → Nat → Nat) (cy : Nat → ClassId) (x0 : Nat) (x : Nat → Nat) (p1 : Int32) (p2 : Int32) (v : Nat → Int32) (f : Nat → Nat → Int32) (hIv : XI v) (hp1 : (0 : Int) ≤ p1.toInt ∧ p1.toInt ≤ 5) (hp2 : (0 : Int) ≤ p2.toInt ∧ p2.toInt ≤ 63) : ctI l (dC, dI) cy yX0_firstBest cX0_firstBest 4 .int 2 84 0 0 Unit [.ref (x 31), .int p1, .int p2] (XW cy x0 x v f) (fun r u => ((-1 : Int) ≤ r.toInt ∧ r.toInt ≤ 5)) (fun u => XW cy x0 x v f) := by
  refine ctI_of (by decide) (Nat.le_of_ble_eq_true rfl) (fun p e s m below meth c A ls Q hx hb hml hts hown hE hP hD hA hl ret => ?_)
  have hown : s.vm.findClass RX0 = some m.cls := hown
  have hS : va_S A s.heap s.heap [] := va_S.rf
  have hl : lv_has ls 4 [(0, .ref (x 31)), (1, .int p1), (2, .int p2)] := hl
  refine lv_iconst (v := 0) hx hb dX0_firstBest_0 (by decide) ?_
  refine lv_istore_n (lv' := [(3, .int 0), (0, .ref (x 31)), (1, .int p1), (2, .int p2)]) hx hb dX0_firstBest_1 rfl hl (by decide) rfl (fun ls hl => ?_)
  have lp1 : ∀ (n1 : Nat) (l3_1 : Int32), ((0 : Int) ≤ l3_1.toInt ∧ l3_1.toInt ≤ 2147483647) → (2147483647 - l3_1.toInt).toNat < n1 → ∀ (H : Heap) (locs : List Loc) (ls : Array Slot), va_P (dC, dI) vwCl (XW cy x0 x v f) H → va_D A (XW cy x0 x v f) → va_S A s.heap H locs → lv_has ls 4 [(3, .int l3_1), (0, .ref (x 31)), (1, .int p1), (2, .int p2)] → W p l e { frames := 2, cells := 0, slots := 0, locals := 84 } s m ([.ref (x 31), .int p1, .int p2] : List Value).toArray below meth c H locs 0 0 Q (F0 m 2 ls []) := by
    intro n1
    induction n1 with
    | zero => intro l3_1 hr3_1 hm; exact absurd hm (Nat.not_lt_zero _)
    | succ n1 ih1 =>
      intro l3_1 hr3_1 hm1 H locs ls hP hD hS hl
      refine lv_iload_n hx hb dX0_firstBest_2 rfl (lv_at hl 0 rfl) ?_
      refine lv_aload_n hx hb dX0_firstBest_3 rfl (lv_at hl 1 rfl) ?_
      refine va_get (D := (dC, dI)) (ci := 0) (v := .ref (x 26)) (C := RX0) (T := TX0) (N := 8) hx hb hts inB_0 hown hE.1 hP 32 rfl rfl 0 (by decide) (hts _ k_430) (fun _ h9 => h9) rfl dX0_firstBest_4 ?_
      refine va_getN (D := (dC, dI)) (ci := 7) (v := .int (v 32)) (C := RX7) (T := TX7) (N := 10) hx hb hts inB_7 hown hE.1 hP 27 rfl rfl 4 (by decide) (va_Nw.use rfl (hE.2 _ k_222)) (fun _ h9 => h9) rfl dX0_firstBest_7 ?_
      have b32_v : 0 ≤ (v 32).toInt ∧ (v 32).toInt ≤ 6 := XI.b hIv 32 (by decide)
      refine lv_icmp_ge (tgt := 42) hx hb dX0_firstBest_10 (by decide) (fun c2 => ?_) (fun c2 => ?_)
      · skip
        have zc2 : (v 32).toInt ≤ l3_1.toInt := by rw [fa_le] at c2; exact c2
        have rg3 := fb_rng l3_1
        have rg4 := fb_rng (v 32)
        refine lv_iconst (v := (-1)) hx hb dX0_firstBest_42 (by decide) ?_
        exact ret (-1) () _ _ _ _ _ _ rfl ⟨by decide, by decide⟩ hP hD hS dX0_firstBest_43 (Nat.le_refl _) (Nat.le_refl _)
      · skip
        have zc2 : ¬ ((v 32).toInt ≤ l3_1.toInt) := by rw [fa_le] at c2; exact c2
        have rg5 := fb_rng l3_1
        have rg6 := fb_rng (v 32)
        refine lv_aload_n hx hb dX0_firstBest_13 rfl (lv_at hl 1 rfl) ?_
        refine lv_iload_n hx hb dX0_firstBest_14 rfl (lv_at hl 2 rfl) ?_
        refine lv_iload_n hx hb dX0_firstBest_15 rfl (lv_at hl 0 rfl) ?_
        refine lv_iload_n hx hb dX0_firstBest_16 rfl (lv_at hl 3 rfl) ?_
        refine cbVi (n := 3) (rest := []) hx hb hml hown hts hE hP hD hS hA (sX_X0_worthOf_1 l dC dI cy x0 x p1 l3_1 p2 v f hIv ⟨show (0 : Int) ≤ p1.toInt by omega, show p1.toInt ≤ (5 : Int) by omega⟩ ⟨show (0 : Int) ≤ l3_1.toInt by omega, show l3_1.toInt ≤ (5 : Int) by omega⟩ ⟨show (0 : Int) ≤ p2.toInt by omega, show p2.toInt ≤ (63 : Int) by omega⟩) k_985 k_987 k_24 k_111 k_988 (by decide +kernel) ⟨Nat.le_of_ble_eq_true rfl, Nat.le_of_ble_eq_true rfl⟩ 32 0 rfl rfl (rfl) hl.1 rfl (Nat.le_of_ble_eq_true rfl) dX0_firstBest_17 (fun r7 u H locs hw hP hD hS => ?_)
        refine lv_aload_n hx hb dX0_firstBest_20 rfl (lv_at hl 1 rfl) ?_
        refine va_get (D := (dC, dI)) (ci := 0) (v := .ref (x 33)) (C := RX0) (T := TX0) (N := 8) hx hb hts inB_0 hown hE.1 hP 32 rfl rfl 4 (by decide) (hts _ k_435) (fun _ h9 => h9) rfl dX0_firstBest_21 ?_
        refine lv_iload_n hx hb dX0_firstBest_24 rfl (lv_at hl 2 rfl) ?_
        refine lv_bipush (v := 64) hx hb dX0_firstBest_25 (by decide) ?_
        refine lv_imul hx hb dX0_firstBest_27 ?_
        refine lv_topi (fun t8 et8 => ?_)
        have rg9 := fb_rng p1
        have zt8 : t8.toInt = p1.toInt * 64 := by rw [et8]; exact mul_i rfl (by decide) (by omega) (by omega)
        refine lv_iload_n hx hb dX0_firstBest_28 rfl (lv_at hl 3 rfl) ?_
        refine lv_iadd hx hb dX0_firstBest_29 ?_
        refine lv_topi (fun t10 et10 => ?_)
        have rg11 := fb_rng t8
        have rg12 := fb_rng p2
        have zt10 : t10.toInt = t8.toInt + p2.toInt := by rw [et10]; exact add_i rfl rfl (by omega) (by omega)
        refine ldI hx hb hE hP 34 rfl (vp_in_iff.mpr ⟨by omega, by omega⟩) rfl rfl dX0_firstBest_30 ?_
        refine lv_topi (fun t13 et13 => ?_)
        refine lv_icmp_ne (tgt := 36) hx hb dX0_firstBest_31 (by decide) (fun c14 => ?_) (fun c14 => ?_)
        · skip
          have zc14 : ¬ (r7.toInt = t13.toInt) := by rw [fa_eq] at c14; exact c14
          have rg15 := fb_rng r7
          have rg16 := fb_rng t13
          obtain ⟨t17, et17⟩ : ∃ y : Int32, y = l3_1 + 1 := ⟨_, rfl⟩
          have zt17 : t17.toInt = l3_1.toInt + 1 := by rw [et17]; exact add_i rfl (by decide) (by omega) (by omega)
          refine lv_iinc (v := t17) (lv' := [(3, .int t17), (0, .ref (x 31)), (1, .int p1), (2, .int p2)]) hx hb dX0_firstBest_36 hl (k := 0) rfl (by rw [et17]; rfl) (by decide) rfl (fun ls hl => ?_)
          refine lv_goto (tgt := 2) hx hb dX0_firstBest_39 (by decide) ?_
          have rg18 := fb_rng t17
          exact ih1 t17 ⟨show (0 : Int) ≤ t17.toInt by omega, show t17.toInt ≤ (2147483647 : Int) by omega⟩ (by show (2147483647 - t17.toInt).toNat < n1; omega) _ _ _ hP hD hS (lv_sub hl [0, 1, 2, 3] rfl)
        · skip
          have zc14 : r7.toInt = t13.toInt := by rw [fa_eq] at c14; exact c14
          have rg19 := fb_rng r7
          have rg20 := fb_rng t13
          refine lv_iload_n hx hb dX0_firstBest_34 rfl (lv_at hl 0 rfl) ?_
          exact ret l3_1 () _ _ _ _ _ _ rfl ⟨by omega, by omega⟩ hP hD hS dX0_firstBest_35 (Nat.le_refl _) (Nat.le_refl _)
  exact lp1 _ 0 ⟨by decide, by decide⟩ (Nat.lt_succ_self _) _ _ _ hP hD hS (lv_sub hl [0, 1, 2, 3] rfl)
set_option maxHeartbeats 4000000 in
set_option maxRecDepth 100000 in
theorem sX_X0_lay_1 (l : Launch) (dC : Nat → ClassId) (dI : Nat → Nat → Nat) (cy : Nat → ClassId) (x0 : Nat) (x : Nat → Nat) (p1 : Int32) (v : Nat → Int32) (f : Nat → Nat → Int32) (hIv : XI v)  : ctV l (dC, dI) cy yX0_lay cX0_lay 2 1 60 0 0 ((Nat → Int32) × (Nat → Nat → Int32)) [.ref (x 31), .int p1] (XW cy x0 x v f) (fun u => KV [38] u.1 v ∧ KF [20] u.2 f ∧ XI u.1 ∧ u.1 0 = v 0 ∧ u.1 1 = v 1 ∧ u.1 7 = v 7 ∧ u.1 8 = v 8 ∧ u.1 9 = v 9 ∧ u.1 10 = v 10 ∧ u.1 31 = v 31 ∧ u.1 32 = v 32) (fun u => XW cy x0 x u.1 u.2) := by
  refine ctV_of (by decide) (Nat.le_of_ble_eq_true rfl) (fun p e s m below meth c A ls Q hx hb hml hts hown hnm hE hP hD hA hl ret => ?_)
  have hM_v : KV [38] v v := fun _ _ => rfl
  have hA_f : KF [20] f f := fun _ _ => rfl
  have hown : s.vm.findClass RX0 = some m.cls := hown
  have hS : va_S A s.heap s.heap [] := va_S.rf
  have hl : lv_has ls 2 [(0, .ref (x 31)), (1, .int p1)] := hl
  refine lv_aload_n hx hb dX0_lay_0 rfl (lv_at hl 0 rfl) ?_
  refine va_get (D := (dC, dI)) (ci := 0) (v := .int (v 38)) (C := RX0) (T := TX0) (N := 8) hx hb hts inB_0 hown hE.1 hP 32 rfl rfl 3 (by decide) (hts _ k_433) (fun _ h9 => h9) rfl dX0_lay_1 ?_
  have b38_v : 0 ≤ (v 38).toInt ∧ (v 38).toInt ≤ 6 := XI.b hIv 38 (by decide)
  refine lv_aload_n hx hb dX0_lay_4 rfl (lv_at hl 0 rfl) ?_
  refine va_get (D := (dC, dI)) (ci := 0) (v := .ref (x 32)) (C := RX0) (T := TX0) (N := 8) hx hb hts inB_0 hown hE.1 hP 32 rfl rfl 2 (by decide) (hts _ k_432) (fun _ h9 => h9) rfl dX0_lay_5 ?_
  refine va_alen (v := 6) hx hb hE.1 hP 33 1 rfl rfl rfl dX0_lay_8 ?_
  refine lv_icmp_ge (tgt := 32) hx hb dX0_lay_9 (by decide) (fun c1 => ?_) (fun c1 => ?_)
  · skip
    have zc1 : 6 ≤ (v 38).toInt := by rw [fa_le, show (6 : Int32).toInt = 6 from by decide] at c1; exact c1
    exact ret (v, f) _ _ _ _ _ _ ⟨hM_v, hA_f, hIv, rfl, rfl, rfl, rfl, rfl, rfl, rfl, rfl⟩ hP hD hS dX0_lay_32 (Nat.le_refl _) (Nat.le_refl _)
  · skip
    have zc1 : ¬ (6 ≤ (v 38).toInt) := by rw [fa_le, show (6 : Int32).toInt = 6 from by decide] at c1; exact c1
    refine lv_aload_n hx hb dX0_lay_12 rfl (lv_at hl 0 rfl) ?_
    refine va_get (D := (dC, dI)) (ci := 0) (v := .ref (x 32)) (C := RX0) (T := TX0) (N := 8) hx hb hts inB_0 hown hE.1 hP 32 rfl rfl 2 (by decide) (hts _ k_432) (fun _ h9 => h9) rfl dX0_lay_13 ?_
    refine lv_aload_n hx hb dX0_lay_16 rfl (lv_at hl 0 rfl) ?_
    refine va_get (D := (dC, dI)) (ci := 0) (v := .int (v 38)) (C := RX0) (T := TX0) (N := 8) hx hb hts inB_0 hown hE.1 hP 32 rfl rfl 3 (by decide) (hts _ k_433) (fun _ h9 => h9) rfl dX0_lay_17 ?_
    refine lv_iload_n hx hb dX0_lay_20 rfl (lv_at hl 1 rfl) ?_
    refine stI hx hb hE hP hD hS 33 rfl (vp_in_iff.mpr ⟨by omega, by omega⟩) rfl dX0_lay_21 (fun H locs hP hD hS => ?_)
    obtain ⟨f2, ef2, hP, hD⟩ : ∃ fz9, fz9 = upd2 f 20 (upd (f 20) (v 38).toNatClampNeg p1) ∧ va_P (dC, dI) vwCl (XW cy x0 x v fz9) H ∧ va_D A (XW cy x0 x v fz9) := ⟨_, rfl, hP, hD⟩
    have hA_f2 : KF [20] f2 f := by rw [ef2]; exact KF.up hA_f rfl
    refine lv_aload_n hx hb dX0_lay_22 rfl (lv_at hl 0 rfl) ?_
    refine lv_dup hx hb dX0_lay_23 rfl ?_
    refine va_get (D := (dC, dI)) (ci := 0) (v := .int (v 38)) (C := RX0) (T := TX0) (N := 8) hx hb hts inB_0 hown hE.1 hP 32 rfl rfl 3 (by decide) (hts _ k_433) (fun _ h9 => h9) rfl dX0_lay_24 ?_
    refine lv_iconst (v := 1) hx hb dX0_lay_27 (by decide) ?_
    refine lv_iadd hx hb dX0_lay_28 ?_
    refine lv_topi (fun t3 et3 => ?_)
    have rg4 := fb_rng (v 38)
    have zt3 : t3.toInt = (v 38).toInt + 1 := by rw [et3]; exact add_i rfl (by decide) (by omega) (by omega)
    refine va_put (D := (dC, dI)) (ci := 0) (v := .int t3) (ty := tyX0 3) (C := RX0) (T := TX0) (N := 8) hx hb hts inB_0 tyX0 tyX0_ok nmX0 hown hE.1 hP hD hS 32 rfl rfl 3 (by decide) (hts _ k_433) (fun _ h9 => h9) rfl (tyX0_ok 3 (by decide)) rfl rfl (Nat.le_of_ble_eq_true rfl) dX0_lay_29 (fun H locs hP hD hS => ?_)
    have hP : va_P (dC, dI) vwCl (XW cy x0 x (upd v 38 t3) f2) H := hP
    have hD : va_D A (XW cy x0 x (upd v 38 t3) f2) := hD
    exact ret ((upd v 38 t3), f2) _ _ _ _ _ _ ⟨(KV.up (j := 38) (x := t3) hM_v rfl), hA_f2, (XI.upd (j := 38) (x := t3) hIv (show (0 : Int) ≤ t3.toInt by omega) (show t3.toInt ≤ (6 : Int) by omega)), rfl, rfl, rfl, rfl, rfl, rfl, rfl, rfl⟩ hP hD hS dX0_lay_32 (Nat.le_refl _) (Nat.le_refl _)
set_option maxHeartbeats 4000000 in
set_option maxRecDepth 100000 in
theorem sX_X0_layDressing_1 (l : Launch) (dC : Nat → ClassId) (dI : Nat → Nat → Nat) (cy : Nat → ClassId) (x0 : Nat) (x : Nat → Nat)  (v : Nat → Int32) (f : Nat → Nat → Int32) (hIv : XI v)  : ctV l (dC, dI) cy yX0_layDressing cX0_layDressing 4 5 156 0 0 ((Nat → Int32) × (Nat → Nat → Int32)) [.ref (x 31)] (XW cy x0 x v f) (fun u => KV [38, 39, 40] u.1 v ∧ KF [13, 14, 20, 21, 22] u.2 f ∧ XI u.1 ∧ u.1 0 = v 0 ∧ u.1 1 = v 1 ∧ u.1 7 = v 7 ∧ u.1 8 = v 8 ∧ u.1 9 = v 9 ∧ u.1 10 = v 10 ∧ u.1 31 = v 31 ∧ u.1 32 = v 32) (fun u => XW cy x0 x u.1 u.2) := by
  refine ctV_of (by decide) (Nat.le_of_ble_eq_true rfl) (fun p e s m below meth c A ls Q hx hb hml hts hown hnm hE hP hD hA hl ret => ?_)
  have hM_v : KV [38, 39, 40] v v := fun _ _ => rfl
  have hA_f : KF [13, 14, 20, 21, 22] f f := fun _ _ => rfl
  have hown : s.vm.findClass RX0 = some m.cls := hown
  have hS : va_S A s.heap s.heap [] := va_S.rf
  have hl : lv_has ls 4 [(0, .ref (x 31))] := hl
  refine lv_aload_n hx hb dX0_layDressing_0 rfl (lv_at hl 0 rfl) ?_
  refine cbVv (n := 0) (rest := []) hx hb hml hown hts hE hP hD hS hA (sX_X0_reckonGains_1 l dC dI cy x0 x  v f hIv ) k_975 k_977 k_22 k_111 k_978 (by decide +kernel) ⟨Nat.le_of_ble_eq_true rfl, Nat.le_of_ble_eq_true rfl⟩ 32 0 rfl rfl (rfl) hl.1 rfl (Nat.le_of_ble_eq_true rfl) dX0_layDressing_1 (fun u H locs hw hP hD hS => ?_)
  obtain ⟨v1, f2⟩ := u
  obtain ⟨kV_v1, kF_f2, hIv1, hk0_v1, hk1_v1, hk7_v1, hk8_v1, hk9_v1, hk10_v1, hk31_v1, hk32_v1⟩ := hw
  have hM_v1 : KV [38, 39, 40] v1 v := KV.tr kV_v1 hM_v rfl
  have hA_f2 : KF [13, 14, 20, 21, 22] f2 f := KF.tr kF_f2 hA_f rfl
  have hP : va_P (dC, dI) vwCl (XW cy x0 x v1 f2) H := hP
  have hD : va_D A (XW cy x0 x v1 f2) := hD
  have hq0_v1 : v1 0 = (v 0) := hk0_v1
  have hq1_v1 : v1 1 = (v 1) := hk1_v1
  have hq7_v1 : v1 7 = (v 7) := hk7_v1
  have hq8_v1 : v1 8 = (v 8) := hk8_v1
  have hq9_v1 : v1 9 = (v 9) := hk9_v1
  have hq10_v1 : v1 10 = (v 10) := hk10_v1
  have hq31_v1 : v1 31 = (v 31) := hk31_v1
  have hq32_v1 : v1 32 = (v 32) := hk32_v1
  refine lv_aload_n hx hb dX0_layDressing_4 rfl (lv_at hl 0 rfl) ?_
  refine cbVv (n := 0) (rest := []) hx hb hml hown hts hE hP hD hS hA (sX_X0_reckonBest_1 l dC dI cy x0 x  v1 f2 hIv1 ) k_980 k_982 k_23 k_111 k_983 (by decide +kernel) ⟨Nat.le_of_ble_eq_true rfl, Nat.le_of_ble_eq_true rfl⟩ 32 0 rfl rfl (rfl) hl.1 rfl (Nat.le_of_ble_eq_true rfl) dX0_layDressing_5 (fun u H locs hw hP hD hS => ?_)
  obtain ⟨v3, f4⟩ := u
  obtain ⟨kV_v3, kF_f4, hIv3, hk0_v3, hk1_v3, hk7_v3, hk8_v3, hk9_v3, hk10_v3, hk31_v3, hk32_v3⟩ := hw
  have hM_v3 : KV [38, 39, 40] v3 v := KV.tr kV_v3 hM_v1 rfl
  have hA_f4 : KF [13, 14, 20, 21, 22] f4 f := KF.tr kF_f4 hA_f2 rfl
  have hP : va_P (dC, dI) vwCl (XW cy x0 x v3 f4) H := hP
  have hD : va_D A (XW cy x0 x v3 f4) := hD
  have hq0_v3 : v3 0 = (v 0) := hk0_v3.trans hq0_v1
  have hq1_v3 : v3 1 = (v 1) := hk1_v3.trans hq1_v1
  have hq7_v3 : v3 7 = (v 7) := hk7_v3.trans hq7_v1
  have hq8_v3 : v3 8 = (v 8) := hk8_v3.trans hq8_v1
  have hq9_v3 : v3 9 = (v 9) := hk9_v3.trans hq9_v1
  have hq10_v3 : v3 10 = (v 10) := hk10_v3.trans hq10_v1
  have hq31_v3 : v3 31 = (v 31) := hk31_v3.trans hq31_v1
  have hq32_v3 : v3 32 = (v 32) := hk32_v3.trans hq32_v1
  refine lv_aload_n hx hb dX0_layDressing_8 rfl (lv_at hl 0 rfl) ?_
  refine cbVv (n := 0) (rest := []) hx hb hml hown hts hE hP hD hS hA (sX_X0_clear_1 0 l dC dI cy x0 x  v3 f4 hIv3 ) k_990 k_787 k_788 k_111 k_789 (by decide +kernel) ⟨Nat.le_of_ble_eq_true rfl, Nat.le_of_ble_eq_true rfl⟩ 32 0 rfl rfl (rfl) hl.1 rfl (Nat.le_of_ble_eq_true rfl) dX0_layDressing_9 (fun u H locs hw hP hD hS => ?_)
  obtain ⟨hG5, hw⟩ := hw
  obtain ⟨v6, f7⟩ := u
  obtain ⟨kV_v6, kF_f7, hIv6, hk0_v6, hk1_v6, hk7_v6, hk8_v6, hk9_v6, hk10_v6, hk31_v6, hk32_v6⟩ := hw
  have hM_v6 : KV [38, 39, 40] v6 v := KV.tr kV_v6 hM_v3 rfl
  have hA_f7 : KF [13, 14, 20, 21, 22] f7 f := KF.tr kF_f7 hA_f4 rfl
  have hP : va_P (dC, dI) vwCl (XW cy x0 x v6 f7) H := hP
  have hD : va_D A (XW cy x0 x v6 f7) := hD
  have hq0_v6 : v6 0 = (v 0) := hk0_v6.trans hq0_v3
  have hq1_v6 : v6 1 = (v 1) := hk1_v6.trans hq1_v3
  have hq7_v6 : v6 7 = (v 7) := hk7_v6.trans hq7_v3
  have hq8_v6 : v6 8 = (v 8) := hk8_v6.trans hq8_v3
  have hq9_v6 : v6 9 = (v 9) := hk9_v6.trans hq9_v3
  have hq10_v6 : v6 10 = (v 10) := hk10_v6.trans hq10_v3
  have hq31_v6 : v6 31 = (v 31) := hk31_v6.trans hq31_v3
  have hq32_v6 : v6 32 = (v 32) := hk32_v6.trans hq32_v3
  refine lv_aload_n hx hb dX0_layDressing_12 rfl (lv_at hl 0 rfl) ?_
  refine lv_iconst (v := 0) hx hb dX0_layDressing_13 (by decide) ?_
  refine va_put (D := (dC, dI)) (ci := 0) (v := .int 0) (ty := tyX0 6) (C := RX0) (T := TX0) (N := 8) hx hb hts inB_0 tyX0 tyX0_ok nmX0 hown hE.1 hP hD hS 32 rfl rfl 6 (by decide) (hts _ k_437) (fun _ h9 => h9) rfl (tyX0_ok 6 (by decide)) rfl rfl (Nat.le_of_ble_eq_true rfl) dX0_layDressing_14 (fun H locs hP hD hS => ?_)
  have hP : va_P (dC, dI) vwCl (XW cy x0 x (upd v6 39 0) f7) H := hP
  have hD : va_D A (XW cy x0 x (upd v6 39 0) f7) := hD
  refine lv_aload_n hx hb dX0_layDressing_17 rfl (lv_at hl 0 rfl) ?_
  refine lv_iconst (v := 0) hx hb dX0_layDressing_18 (by decide) ?_
  refine va_put (D := (dC, dI)) (ci := 0) (v := .int 0) (ty := tyX0 7) (C := RX0) (T := TX0) (N := 8) hx hb hts inB_0 tyX0 tyX0_ok nmX0 hown hE.1 hP hD hS 32 rfl rfl 7 (by decide) (hts _ k_439) (fun _ h9 => h9) rfl (tyX0_ok 7 (by decide)) rfl rfl (Nat.le_of_ble_eq_true rfl) dX0_layDressing_19 (fun H locs hP hD hS => ?_)
  have hP : va_P (dC, dI) vwCl (XW cy x0 x (upd (upd v6 39 0) 40 0) f7) H := hP
  have hD : va_D A (XW cy x0 x (upd (upd v6 39 0) 40 0) f7) := hD
  refine lv_iconst (v := 0) hx hb dX0_layDressing_22 (by decide) ?_
  refine lv_istore_n (lv' := [(1, .int 0), (0, .ref (x 31))]) hx hb dX0_layDressing_23 rfl hl (by decide) rfl (fun ls hl => ?_)
  refine lv_iconst (v := 0) hx hb dX0_layDressing_24 (by decide) ?_
  refine lv_istore_n (lv' := [(2, .int 0), (1, .int 0), (0, .ref (x 31))]) hx hb dX0_layDressing_25 rfl hl (by decide) rfl (fun ls hl => ?_)
  have lp8 : ∀ (n8 : Nat) (l1_8 : Int32) (l2_8 : Int32) (v8 : Nat → Int32) (f8 : Nat → Nat → Int32), XI v8 → v8 0 = (v 0) → v8 1 = (v 1) → v8 7 = (v 7) → v8 8 = (v 8) → v8 9 = (v 9) → v8 10 = (v 10) → v8 31 = (v 31) → v8 32 = (v 32) → ((0 : Int) ≤ l1_8.toInt ∧ l1_8.toInt ≤ 63) → ((0 : Int) ≤ l2_8.toInt ∧ l2_8.toInt ≤ 2147483647) → KV [38, 39, 40] v8 v → KF [13, 14, 20, 21, 22] f8 f → (2147483647 - l2_8.toInt).toNat < n8 → ∀ (H : Heap) (locs : List Loc) (ls : Array Slot), va_P (dC, dI) vwCl (XW cy x0 x v8 f8) H → va_D A (XW cy x0 x v8 f8) → va_S A s.heap H locs → lv_has ls 4 [(2, .int l2_8), (1, .int l1_8), (0, .ref (x 31))] → W p l e { frames := 5, cells := 0, slots := 0, locals := 156 } s m ([.ref (x 31)] : List Value).toArray below meth c H locs 0 0 Q (F0 m 26 ls []) := by
    intro n8
    induction n8 with
    | zero => intro l1_8 l2_8 v8 f8 hIv8 hq0_v8 hq1_v8 hq7_v8 hq8_v8 hq9_v8 hq10_v8 hq31_v8 hq32_v8 hr1_8 hr2_8 hM_v8 hA_f8 hm; exact absurd hm (Nat.not_lt_zero _)
    | succ n8 ih8 =>
      intro l1_8 l2_8 v8 f8 hIv8 hq0_v8 hq1_v8 hq7_v8 hq8_v8 hq9_v8 hq10_v8 hq31_v8 hq32_v8 hr1_8 hr2_8 hM_v8 hA_f8 hm8 H locs ls hP hD hS hl
      refine lv_iload_n hx hb dX0_layDressing_26 rfl (lv_at hl 0 rfl) ?_
      refine lv_aload_n hx hb dX0_layDressing_27 rfl (lv_at hl 2 rfl) ?_
      refine va_get (D := (dC, dI)) (ci := 0) (v := .ref (x 26)) (C := RX0) (T := TX0) (N := 8) hx hb hts inB_0 hown hE.1 hP 32 rfl rfl 0 (by decide) (hts _ k_430) (fun _ h9 => h9) rfl dX0_layDressing_28 ?_
      refine va_getN (D := (dC, dI)) (ci := 7) (v := .int (v8 31)) (C := RX7) (T := TX7) (N := 10) hx hb hts inB_7 hown hE.1 hP 27 rfl rfl 3 (by decide) (va_Nw.use rfl (hE.2 _ k_216)) (fun _ h9 => h9) rfl dX0_layDressing_31 ?_
      refine tI (y := (v 31)) hq31_v8 ?_
      have b31_v : 0 ≤ (v 31).toInt ∧ (v 31).toInt ≤ 6 := XI.b hIv 31 (by decide)
      refine lv_icmp_ge (tgt := 94) hx hb dX0_layDressing_34 (by decide) (fun c9 => ?_) (fun c9 => ?_)
      · skip
        have zc9 : (v 31).toInt ≤ l2_8.toInt := by rw [fa_le] at c9; exact c9
        have rg10 := fb_rng l2_8
        have rg11 := fb_rng (v 31)
        exact ret (v8, f8) _ _ _ _ _ _ ⟨hM_v8, hA_f8, hIv8, hq0_v8, hq1_v8, hq7_v8, hq8_v8, hq9_v8, hq10_v8, hq31_v8, hq32_v8⟩ hP hD hS dX0_layDressing_94 (Nat.le_refl _) (Nat.le_refl _)
      · skip
        have zc9 : ¬ ((v 31).toInt ≤ l2_8.toInt) := by rw [fa_le] at c9; exact c9
        have rg12 := fb_rng l2_8
        have rg13 := fb_rng (v 31)
        refine lv_aload_n hx hb dX0_layDressing_37 rfl (lv_at hl 2 rfl) ?_
        refine lv_iload_n hx hb dX0_layDressing_38 rfl (lv_at hl 0 rfl) ?_
        refine lv_iload_n hx hb dX0_layDressing_39 rfl (lv_at hl 1 rfl) ?_
        refine cbVi (n := 2) (rest := []) hx hb hml hown hts hE hP hD hS hA (sX_X0_firstBest_1 l dC dI cy x0 x l2_8 l1_8 v8 f8 hIv8 ⟨show (0 : Int) ≤ l2_8.toInt by omega, show l2_8.toInt ≤ (5 : Int) by omega⟩ ⟨show (0 : Int) ≤ l1_8.toInt by omega, show l1_8.toInt ≤ (63 : Int) by omega⟩) k_991 k_993 k_25 k_111 k_994 (by decide +kernel) ⟨Nat.le_of_ble_eq_true rfl, Nat.le_of_ble_eq_true rfl⟩ 32 0 rfl rfl (rfl) hl.1 rfl (Nat.le_of_ble_eq_true rfl) dX0_layDressing_40 (fun r14 u H locs hw hP hD hS => ?_)
        refine lv_istore_n (lv' := [(3, .int r14), (2, .int l2_8), (1, .int l1_8), (0, .ref (x 31))]) hx hb dX0_layDressing_43 rfl hl (by decide) rfl (fun ls hl => ?_)
        refine lv_aload_n hx hb dX0_layDressing_44 rfl (lv_at hl 3 rfl) ?_
        refine lv_iload_n hx hb dX0_layDressing_45 rfl (lv_at hl 0 rfl) ?_
        refine cbVv (n := 1) (rest := []) hx hb hml hown hts hE hP hD hS hA (sX_X0_lay_1 l dC dI cy x0 x r14 v8 f8 hIv8 ) k_995 k_997 k_26 k_111 k_998 (by decide +kernel) ⟨Nat.le_of_ble_eq_true rfl, Nat.le_of_ble_eq_true rfl⟩ 32 0 rfl rfl (rfl) hl.1 rfl (Nat.le_of_ble_eq_true rfl) dX0_layDressing_46 (fun u H locs hw hP hD hS => ?_)
        obtain ⟨v15, f16⟩ := u
        obtain ⟨kV_v15, kF_f16, hIv15, hk0_v15, hk1_v15, hk7_v15, hk8_v15, hk9_v15, hk10_v15, hk31_v15, hk32_v15⟩ := hw
        have hM_v15 : KV [38, 39, 40] v15 v := KV.tr kV_v15 hM_v8 rfl
        have hA_f16 : KF [13, 14, 20, 21, 22] f16 f := KF.tr kF_f16 hA_f8 rfl
        have hP : va_P (dC, dI) vwCl (XW cy x0 x v15 f16) H := hP
        have hD : va_D A (XW cy x0 x v15 f16) := hD
        have hq0_v15 : v15 0 = (v 0) := hk0_v15.trans hq0_v8
        have hq1_v15 : v15 1 = (v 1) := hk1_v15.trans hq1_v8
        have hq7_v15 : v15 7 = (v 7) := hk7_v15.trans hq7_v8
        have hq8_v15 : v15 8 = (v 8) := hk8_v15.trans hq8_v8
        have hq9_v15 : v15 9 = (v 9) := hk9_v15.trans hq9_v8
        have hq10_v15 : v15 10 = (v 10) := hk10_v15.trans hq10_v8
        have hq31_v15 : v15 31 = (v 31) := hk31_v15.trans hq31_v8
        have hq32_v15 : v15 32 = (v 32) := hk32_v15.trans hq32_v8
        refine lv_iload_n hx hb dX0_layDressing_49 rfl (lv_at hl 0 rfl) ?_
        refine lv_iconst (v := (-1)) hx hb dX0_layDressing_50 (by decide) ?_
        refine lv_icmp_eq (tgt := 88) hx hb dX0_layDressing_51 (by decide) (fun c17 => ?_) (fun c17 => ?_)
        · skip
          have zc17 : r14.toInt = (-1) := by rw [fa_eq, show ((-1) : Int32).toInt = -1 from by decide] at c17; exact c17
          obtain ⟨t18, et18⟩ : ∃ y : Int32, y = l2_8 + 1 := ⟨_, rfl⟩
          have zt18 : t18.toInt = l2_8.toInt + 1 := by rw [et18]; exact add_i rfl (by decide) (by omega) (by omega)
          refine lv_iinc (v := t18) (lv' := [(2, .int t18), (3, .int r14), (1, .int l1_8), (0, .ref (x 31))]) hx hb dX0_layDressing_88 hl (k := 1) rfl (by rw [et18]; rfl) (by decide) rfl (fun ls hl => ?_)
          refine lv_goto (tgt := 26) hx hb dX0_layDressing_91 (by decide) ?_
          have rg19 := fb_rng l1_8
          have rg20 := fb_rng t18
          exact ih8 l1_8 t18 v15 f16 hIv15 hq0_v15 hq1_v15 hq7_v15 hq8_v15 hq9_v15 hq10_v15 hq31_v15 hq32_v15 ⟨show (0 : Int) ≤ l1_8.toInt by omega, show l1_8.toInt ≤ (63 : Int) by omega⟩ ⟨show (0 : Int) ≤ t18.toInt by omega, show t18.toInt ≤ (2147483647 : Int) by omega⟩ hM_v15 hA_f16 (by show (2147483647 - t18.toInt).toNat < n8; omega) _ _ _ hP hD hS (lv_sub hl [0, 2, 3] rfl)
        · skip
          have zc17 : ¬ (r14.toInt = (-1)) := by rw [fa_eq, show ((-1) : Int32).toInt = -1 from by decide] at c17; exact c17
          refine lv_iload_n hx hb dX0_layDressing_54 rfl (lv_at hl 2 rfl) ?_
          refine lv_iconst (v := 1) hx hb dX0_layDressing_55 (by decide) ?_
          refine lv_iload_n hx hb dX0_layDressing_56 rfl (lv_at hl 0 rfl) ?_
          refine lv_ishl hx hb dX0_layDressing_57 ?_
          refine lv_topi (fun t21 et21 => ?_)
          have zt21 : 1 ≤ t21.toInt ∧ t21.toInt ≤ 32 := by rw [et21]; exact shl1_rng (by omega) (by omega)
          refine lv_ior hx hb dX0_layDressing_58 ?_
          refine lv_topi (fun t22 et22 => ?_)
          have zt22 : 0 ≤ t22.toInt ∧ t22.toInt ≤ 63 := by rw [et22]; exact or_rng (by omega) (by omega) (by omega) (by omega)
          refine lv_istore_n (lv' := [(1, .int t22), (3, .int r14), (2, .int l2_8), (0, .ref (x 31))]) hx hb dX0_layDressing_59 rfl hl (by decide) rfl (fun ls hl => ?_)
          refine lv_aload_n hx hb dX0_layDressing_60 rfl (lv_at hl 3 rfl) ?_
          refine lv_dup hx hb dX0_layDressing_61 rfl ?_
          refine va_get (D := (dC, dI)) (ci := 0) (v := .int (v15 39)) (C := RX0) (T := TX0) (N := 8) hx hb hts inB_0 hown hE.1 hP 32 rfl rfl 6 (by decide) (hts _ k_437) (fun _ h9 => h9) rfl dX0_layDressing_62 ?_
          refine lv_iconst (v := 1) hx hb dX0_layDressing_65 (by decide) ?_
          refine lv_iadd hx hb dX0_layDressing_66 ?_
          refine lv_topi (fun t23 et23 => ?_)
          refine va_put (D := (dC, dI)) (ci := 0) (v := .int t23) (ty := tyX0 6) (C := RX0) (T := TX0) (N := 8) hx hb hts inB_0 tyX0 tyX0_ok nmX0 hown hE.1 hP hD hS 32 rfl rfl 6 (by decide) (hts _ k_437) (fun _ h9 => h9) rfl (tyX0_ok 6 (by decide)) rfl rfl (Nat.le_of_ble_eq_true rfl) dX0_layDressing_67 (fun H locs hP hD hS => ?_)
          have hP : va_P (dC, dI) vwCl (XW cy x0 x (upd v15 39 t23) f16) H := hP
          have hD : va_D A (XW cy x0 x (upd v15 39 t23) f16) := hD
          refine lv_aload_n hx hb dX0_layDressing_70 rfl (lv_at hl 3 rfl) ?_
          refine lv_dup hx hb dX0_layDressing_71 rfl ?_
          refine va_get (D := (dC, dI)) (ci := 0) (v := .int (v15 40)) (C := RX0) (T := TX0) (N := 8) hx hb hts inB_0 hown hE.1 hP 32 rfl rfl 7 (by decide) (hts _ k_439) (fun _ h9 => h9) rfl dX0_layDressing_72 ?_
          refine lv_aload_n hx hb dX0_layDressing_75 rfl (lv_at hl 3 rfl) ?_
          refine va_get (D := (dC, dI)) (ci := 0) (v := .ref (x 21)) (C := RX0) (T := TX0) (N := 8) hx hb hts inB_0 hown hE.1 hP 32 rfl rfl 1 (by decide) (hts _ k_431) (fun _ h9 => h9) rfl dX0_layDressing_76 ?_
          refine lv_iload_n hx hb dX0_layDressing_79 rfl (lv_at hl 2 rfl) ?_
          refine lv_iload_n hx hb dX0_layDressing_80 rfl (lv_at hl 1 rfl) ?_
          refine cbVi (n := 2) (rest := [.int (v15 40), .ref (x 31)]) hx hb hml hown hts hE hP hD hS hA (sX_X1_illness_1 l dC dI cy x0 x l2_8 r14 (upd v15 39 t23) f16 (XI.upd (j := 39) (x := t23) hIv15 (rlo _) (rhi _)) ) k_979 k_823 k_824 k_106 k_825 (by decide +kernel) ⟨Nat.le_of_ble_eq_true rfl, Nat.le_of_ble_eq_true rfl⟩ 22 1 rfl rfl (rfl) hl.1 rfl (Nat.le_of_ble_eq_true rfl) dX0_layDressing_81 (fun r24 u H locs hw hP hD hS => ?_)
          obtain ⟨v25, f26⟩ := u
          obtain ⟨kV_v25, kF_f26, hIv25, hk0_v25, hk1_v25, hk7_v25, hk8_v25, hk9_v25, hk10_v25, hk31_v25, hk32_v25⟩ := hw
          have hM_v25 : KV [38, 39, 40] v25 v := KV.tr kV_v25 (KV.up (j := 39) (x := t23) hM_v15 rfl) rfl
          have hA_f26 : KF [13, 14, 20, 21, 22] f26 f := KF.tr kF_f26 hA_f16 rfl
          have hP : va_P (dC, dI) vwCl (XW cy x0 x v25 f26) H := hP
          have hD : va_D A (XW cy x0 x v25 f26) := hD
          have hq0_v25 : v25 0 = (v 0) := hk0_v25.trans hq0_v15
          have hq1_v25 : v25 1 = (v 1) := hk1_v25.trans hq1_v15
          have hq7_v25 : v25 7 = (v 7) := hk7_v25.trans hq7_v15
          have hq8_v25 : v25 8 = (v 8) := hk8_v25.trans hq8_v15
          have hq9_v25 : v25 9 = (v 9) := hk9_v25.trans hq9_v15
          have hq10_v25 : v25 10 = (v 10) := hk10_v25.trans hq10_v15
          have hq31_v25 : v25 31 = (v 31) := hk31_v25.trans hq31_v15
          have hq32_v25 : v25 32 = (v 32) := hk32_v25.trans hq32_v15
          refine lv_iadd hx hb dX0_layDressing_84 ?_
          refine lv_topi (fun t27 et27 => ?_)
          refine va_put (D := (dC, dI)) (ci := 0) (v := .int t27) (ty := tyX0 7) (C := RX0) (T := TX0) (N := 8) hx hb hts inB_0 tyX0 tyX0_ok nmX0 hown hE.1 hP hD hS 32 rfl rfl 7 (by decide) (hts _ k_439) (fun _ h9 => h9) rfl (tyX0_ok 7 (by decide)) rfl rfl (Nat.le_of_ble_eq_true rfl) dX0_layDressing_85 (fun H locs hP hD hS => ?_)
          have hP : va_P (dC, dI) vwCl (XW cy x0 x (upd v25 40 t27) f26) H := hP
          have hD : va_D A (XW cy x0 x (upd v25 40 t27) f26) := hD
          obtain ⟨t28, et28⟩ : ∃ y : Int32, y = l2_8 + 1 := ⟨_, rfl⟩
          have zt28 : t28.toInt = l2_8.toInt + 1 := by rw [et28]; exact add_i rfl (by decide) (by omega) (by omega)
          refine lv_iinc (v := t28) (lv' := [(2, .int t28), (1, .int t22), (3, .int r14), (0, .ref (x 31))]) hx hb dX0_layDressing_88 hl (k := 2) rfl (by rw [et28]; rfl) (by decide) rfl (fun ls hl => ?_)
          refine lv_goto (tgt := 26) hx hb dX0_layDressing_91 (by decide) ?_
          have rg29 := fb_rng t22
          have rg30 := fb_rng t28
          exact ih8 t22 t28 (upd v25 40 t27) f26 (XI.upd (j := 40) (x := t27) hIv25 (rlo _) (rhi _)) hq0_v25 hq1_v25 hq7_v25 hq8_v25 hq9_v25 hq10_v25 hq31_v25 hq32_v25 ⟨show (0 : Int) ≤ t22.toInt by omega, show t22.toInt ≤ (63 : Int) by omega⟩ ⟨show (0 : Int) ≤ t28.toInt by omega, show t28.toInt ≤ (2147483647 : Int) by omega⟩ (KV.up (j := 40) (x := t27) hM_v25 rfl) hA_f26 (by show (2147483647 - t28.toInt).toNat < n8; omega) _ _ _ hP hD hS (lv_sub hl [0, 1, 3] rfl)
  exact lp8 _ 0 0 (upd (upd v6 39 0) 40 0) f7 (XI.upd (j := 40) (x := 0) (XI.upd (j := 39) (x := 0) hIv6 (rlo _) (rhi _)) (rlo _) (rhi _)) hq0_v6 hq1_v6 hq7_v6 hq8_v6 hq9_v6 hq10_v6 hq31_v6 hq32_v6 ⟨by decide, by decide⟩ ⟨by decide, by decide⟩ (KV.up (j := 40) (x := 0) (KV.up (j := 39) (x := 0) hM_v6 rfl) rfl) hA_f7 (Nat.lt_succ_self _) _ _ _ hP hD hS (lv_sub hl [0, 1, 2] rfl)
set_option maxHeartbeats 4000000 in
set_option maxRecDepth 100000 in
theorem sX_X10_dress_1 (l : Launch) (dC : Nat → ClassId) (dI : Nat → Nat → Nat) (cy : Nat → ClassId) (x0 : Nat) (x : Nat → Nat) (p1 : Int32) (v : Nat → Int32) (f : Nat → Nat → Int32) (hIv : XI v)  : ctI l (dC, dI) cy yX10_dress cX10_dress 2 .int 6 179 0 0 ((Nat → Int32) × (Nat → Nat → Int32)) [.ref x0, .int p1] (XW cy x0 x v f) (fun r u => KV [38, 39, 40] u.1 v ∧ KF [13, 14, 20, 21, 22] u.2 f ∧ XI u.1 ∧ u.1 0 = v 0 ∧ u.1 1 = v 1 ∧ u.1 7 = v 7 ∧ u.1 8 = v 8 ∧ u.1 9 = v 9 ∧ u.1 10 = v 10 ∧ u.1 31 = v 31 ∧ u.1 32 = v 32) (fun u => XW cy x0 x u.1 u.2) := by
  refine ctI_of (by decide) (Nat.le_of_ble_eq_true rfl) (fun p e s m below meth c A ls Q hx hb hml hts hown hE hP hD hA hl ret => ?_)
  have hM_v : KV [38, 39, 40] v v := fun _ _ => rfl
  have hA_f : KF [13, 14, 20, 21, 22] f f := fun _ _ => rfl
  have hown : s.vm.findClass RX10 = some m.cls := hown
  have hS : va_S A s.heap s.heap [] := va_S.rf
  have hl : lv_has ls 2 [(0, .ref x0), (1, .int p1)] := hl
  refine lv_aload_n hx hb dX10_dress_0 rfl (lv_at hl 0 rfl) ?_
  refine va_get (D := (dC, dI)) (ci := 10) (v := .ref (x 31)) (C := RX10) (T := TX10) (N := 10) hx hb hts inB_10 hown hE.1 hP 0 rfl rfl 7 (by decide) (hts _ k_498) (fun _ h9 => h9) rfl dX10_dress_1 ?_
  refine cbVv (n := 0) (rest := []) hx hb hml hown hts hE hP hD hS hA (sX_X0_layDressing_1 l dC dI cy x0 x  v f hIv ) k_971 k_972 k_973 k_111 k_974 (by decide +kernel) ⟨Nat.le_of_ble_eq_true rfl, Nat.le_of_ble_eq_true rfl⟩ 32 0 rfl rfl (rfl) hl.1 rfl (Nat.le_of_ble_eq_true rfl) dX10_dress_4 (fun u H locs hw hP hD hS => ?_)
  obtain ⟨v1, f2⟩ := u
  obtain ⟨kV_v1, kF_f2, hIv1, hk0_v1, hk1_v1, hk7_v1, hk8_v1, hk9_v1, hk10_v1, hk31_v1, hk32_v1⟩ := hw
  have hM_v1 : KV [38, 39, 40] v1 v := KV.tr kV_v1 hM_v rfl
  have hA_f2 : KF [13, 14, 20, 21, 22] f2 f := KF.tr kF_f2 hA_f rfl
  have hP : va_P (dC, dI) vwCl (XW cy x0 x v1 f2) H := hP
  have hD : va_D A (XW cy x0 x v1 f2) := hD
  have hq0_v1 : v1 0 = (v 0) := hk0_v1
  have hq1_v1 : v1 1 = (v 1) := hk1_v1
  have hq7_v1 : v1 7 = (v 7) := hk7_v1
  have hq8_v1 : v1 8 = (v 8) := hk8_v1
  have hq9_v1 : v1 9 = (v 9) := hk9_v1
  have hq10_v1 : v1 10 = (v 10) := hk10_v1
  have hq31_v1 : v1 31 = (v 31) := hk31_v1
  have hq32_v1 : v1 32 = (v 32) := hk32_v1
  refine lv_iload_n hx hb dX10_dress_7 rfl (lv_at hl 1 rfl) ?_
  refine lv_if_ne (tgt := 21) hx hb dX10_dress_8 (by decide) (fun c3 => ?_) (fun c3 => ?_)
  · skip
    have zc3 : ¬ (p1.toInt = 0) := by rw [fa_eq, show (0 : Int32).toInt = 0 from by decide] at c3; exact c3
    refine lv_iload_n hx hb dX10_dress_21 rfl (lv_at hl 1 rfl) ?_
    refine lv_iconst (v := 1) hx hb dX10_dress_22 (by decide) ?_
    refine lv_icmp_ne (tgt := 36) hx hb dX10_dress_23 (by decide) (fun c4 => ?_) (fun c4 => ?_)
    · skip
      have zc4 : ¬ (p1.toInt = 1) := by rw [fa_eq, show (1 : Int32).toInt = 1 from by decide] at c4; exact c4
      refine lv_iconst (v := (-1)) hx hb dX10_dress_36 (by decide) ?_
      exact ret (-1) (v1, f2) _ _ _ _ _ _ rfl ⟨hM_v1, hA_f2, hIv1, hk0_v1, hk1_v1, hk7_v1, hk8_v1, hk9_v1, hk10_v1, hk31_v1, hk32_v1⟩ hP hD hS dX10_dress_37 (Nat.le_refl _) (Nat.le_refl _)
    · skip
      have zc4 : p1.toInt = 1 := by rw [fa_eq, show (1 : Int32).toInt = 1 from by decide] at c4; exact c4
      refine lv_aload_n hx hb dX10_dress_26 rfl (lv_at hl 0 rfl) ?_
      refine va_get (D := (dC, dI)) (ci := 10) (v := .ref (x 31)) (C := RX10) (T := TX10) (N := 10) hx hb hts inB_10 hown hE.1 hP 0 rfl rfl 7 (by decide) (hts _ k_498) (fun _ h9 => h9) rfl dX10_dress_27 ?_
      refine va_getN (D := (dC, dI)) (ci := 0) (v := .int (v1 40)) (C := RX0) (T := TX0) (N := 8) hx hb hts inB_0 hown hE.1 hP 32 rfl rfl 7 (by decide) (va_Nw.use rfl (hE.2 _ k_440)) (fun _ h9 => h9) rfl dX10_dress_30 ?_
      refine lv_goto (tgt := 37) hx hb dX10_dress_33 (by decide) ?_
      exact ret (v1 40) (v1, f2) _ _ _ _ _ _ rfl ⟨hM_v1, hA_f2, hIv1, hk0_v1, hk1_v1, hk7_v1, hk8_v1, hk9_v1, hk10_v1, hk31_v1, hk32_v1⟩ hP hD hS dX10_dress_37 (Nat.le_refl _) (Nat.le_refl _)
  · skip
    have zc3 : p1.toInt = 0 := by rw [fa_eq, show (0 : Int32).toInt = 0 from by decide] at c3; exact c3
    refine lv_aload_n hx hb dX10_dress_11 rfl (lv_at hl 0 rfl) ?_
    refine va_get (D := (dC, dI)) (ci := 10) (v := .ref (x 31)) (C := RX10) (T := TX10) (N := 10) hx hb hts inB_10 hown hE.1 hP 0 rfl rfl 7 (by decide) (hts _ k_498) (fun _ h9 => h9) rfl dX10_dress_12 ?_
    refine va_getN (D := (dC, dI)) (ci := 0) (v := .int (v1 39)) (C := RX0) (T := TX0) (N := 8) hx hb hts inB_0 hown hE.1 hP 32 rfl rfl 6 (by decide) (va_Nw.use rfl (hE.2 _ k_438)) (fun _ h9 => h9) rfl dX10_dress_15 ?_
    refine lv_goto (tgt := 37) hx hb dX10_dress_18 (by decide) ?_
    exact ret (v1 39) (v1, f2) _ _ _ _ _ _ rfl ⟨hM_v1, hA_f2, hIv1, hk0_v1, hk1_v1, hk7_v1, hk8_v1, hk9_v1, hk10_v1, hk31_v1, hk32_v1⟩ hP hD hS dX10_dress_37 (Nat.le_refl _) (Nat.le_refl _)
set_option maxHeartbeats 4000000 in
set_option maxRecDepth 100000 in
theorem sX_X3_sewnFits_1 (l : Launch) (dC : Nat → ClassId) (dI : Nat → Nat → Nat) (cy : Nat → ClassId) (x0 : Nat) (x : Nat → Nat) (p1 : Int32) (p2 : Int32) (p3 : Int32) (p4 : Int32) (v : Nat → Int32) (f : Nat → Nat → Int32) (hIv : XI v)  : ctI l (dC, dI) cy yX3_sewnFits cX3_sewnFits 7 .boolean 3 111 0 0 ((Nat → Int32) × (Nat → Nat → Int32)) [.ref (x 25), .int p1, .int p2, .int p3, .int p4] (XW cy x0 x v f) (fun r u => KV [24, 25] u.1 v ∧ KF [13, 14] u.2 f ∧ XI u.1 ∧ u.1 0 = v 0 ∧ u.1 1 = v 1 ∧ u.1 7 = v 7 ∧ u.1 8 = v 8 ∧ u.1 9 = v 9 ∧ u.1 10 = v 10 ∧ u.1 31 = v 31 ∧ u.1 32 = v 32 ∧ ((r = 1) ∨ (r = 0))) (fun u => XW cy x0 x u.1 u.2) := by
  refine ctI_of (by decide) (Nat.le_of_ble_eq_true rfl) (fun p e s m below meth c A ls Q hx hb hml hts hown hE hP hD hA hl ret => ?_)
  have hM_v : KV [24, 25] v v := fun _ _ => rfl
  have hA_f : KF [13, 14] f f := fun _ _ => rfl
  have hown : s.vm.findClass RX3 = some m.cls := hown
  have hS : va_S A s.heap s.heap [] := va_S.rf
  have hl : lv_has ls 7 [(0, .ref (x 25)), (1, .int p1), (2, .int p2), (3, .int p3), (4, .int p4)] := hl
  refine lv_aload_n hx hb dX3_sewnFits_0 rfl (lv_at hl 0 rfl) ?_
  refine va_get (D := (dC, dI)) (ci := 3) (v := .ref (x 21)) (C := RX3) (T := TX3) (N := 10) hx hb hts inB_3 hown hE.1 hP 26 rfl rfl 1 (by decide) (hts _ k_371) (fun _ h9 => h9) rfl dX3_sewnFits_1 ?_
  refine lv_iconst (v := 0) hx hb dX3_sewnFits_4 (by decide) ?_
  refine lv_iload_n hx hb dX3_sewnFits_5 rfl (lv_at hl 1 rfl) ?_
  refine cbVi (n := 2) (rest := []) hx hb hml hown hts hE hP hD hS hA (sX_X1_part_1 l dC dI cy x0 x 0 p1 v f hIv ) k_1012 k_828 k_829 k_106 k_830 (by decide +kernel) ⟨Nat.le_of_ble_eq_true rfl, Nat.le_of_ble_eq_true rfl⟩ 22 1 rfl rfl (rfl) hl.1 rfl (Nat.le_of_ble_eq_true rfl) dX3_sewnFits_6 (fun r1 u H locs hw hP hD hS => ?_)
  refine lv_iload_n hx hb dX3_sewnFits_9 rfl (lv_at hl 3 rfl) ?_
  refine lv_isub hx hb dX3_sewnFits_10 ?_
  refine lv_topi (fun t2 et2 => ?_)
  refine lv_istore (lv' := [(5, .int t2), (0, .ref (x 25)), (1, .int p1), (2, .int p2), (3, .int p3), (4, .int p4)]) hx hb dX3_sewnFits_11 hl (by decide) rfl (fun ls hl => ?_)
  refine lv_aload_n hx hb dX3_sewnFits_13 rfl (lv_at hl 1 rfl) ?_
  refine va_get (D := (dC, dI)) (ci := 3) (v := .ref (x 21)) (C := RX3) (T := TX3) (N := 10) hx hb hts inB_3 hown hE.1 hP 26 rfl rfl 1 (by decide) (hts _ k_371) (fun _ h9 => h9) rfl dX3_sewnFits_14 ?_
  refine lv_iconst (v := 1) hx hb dX3_sewnFits_17 (by decide) ?_
  refine lv_iload_n hx hb dX3_sewnFits_18 rfl (lv_at hl 2 rfl) ?_
  refine cbVi (n := 2) (rest := []) hx hb hml hown hts hE hP hD hS hA (sX_X1_part_1 l dC dI cy x0 x 1 p1 v f hIv ) k_1012 k_828 k_829 k_106 k_830 (by decide +kernel) ⟨Nat.le_of_ble_eq_true rfl, Nat.le_of_ble_eq_true rfl⟩ 22 1 rfl rfl (rfl) hl.1 rfl (Nat.le_of_ble_eq_true rfl) dX3_sewnFits_19 (fun r3 u H locs hw hP hD hS => ?_)
  refine lv_iload hx hb dX3_sewnFits_22 (lv_at hl 5 rfl) ?_
  refine lv_isub hx hb dX3_sewnFits_24 ?_
  refine lv_topi (fun t4 et4 => ?_)
  refine lv_istore (lv' := [(6, .int t4), (5, .int t2), (0, .ref (x 25)), (1, .int p1), (2, .int p2), (3, .int p3), (4, .int p4)]) hx hb dX3_sewnFits_25 hl (by decide) rfl (fun ls hl => ?_)
  refine lv_iload hx hb dX3_sewnFits_27 (lv_at hl 1 rfl) ?_
  refine lv_if_lt (tgt := 59) hx hb dX3_sewnFits_29 (by decide) (fun c5 => ?_) (fun c5 => ?_)
  · skip
    have zc5 : t2.toInt < 0 := by rw [fa_lt, show (0 : Int32).toInt = 0 from by decide] at c5; exact c5
    refine lv_iconst (v := 0) hx hb dX3_sewnFits_59 (by decide) ?_
    exact ret 0 (v, f) _ _ _ _ _ _ rfl ⟨hM_v, hA_f, hIv, rfl, rfl, rfl, rfl, rfl, rfl, rfl, rfl, (Or.inr rfl)⟩ hP hD hS dX3_sewnFits_60 (Nat.le_refl _) (Nat.le_refl _)
  · skip
    have zc5 : ¬ (t2.toInt < 0) := by rw [fa_lt, show (0 : Int32).toInt = 0 from by decide] at c5; exact c5
    refine lv_iload hx hb dX3_sewnFits_32 (lv_at hl 0 rfl) ?_
    refine lv_if_lt (tgt := 59) hx hb dX3_sewnFits_34 (by decide) (fun c6 => ?_) (fun c6 => ?_)
    · skip
      have zc6 : t4.toInt < 0 := by rw [fa_lt, show (0 : Int32).toInt = 0 from by decide] at c6; exact c6
      refine lv_iconst (v := 0) hx hb dX3_sewnFits_59 (by decide) ?_
      exact ret 0 (v, f) _ _ _ _ _ _ rfl ⟨hM_v, hA_f, hIv, rfl, rfl, rfl, rfl, rfl, rfl, rfl, rfl, (Or.inr rfl)⟩ hP hD hS dX3_sewnFits_60 (Nat.le_refl _) (Nat.le_refl _)
    · skip
      have zc6 : ¬ (t4.toInt < 0) := by rw [fa_lt, show (0 : Int32).toInt = 0 from by decide] at c6; exact c6
      refine lv_iload hx hb dX3_sewnFits_37 (lv_at hl 0 rfl) ?_
      refine lv_bipush (v := 99) hx hb dX3_sewnFits_39 (by decide) ?_
      refine lv_icmp_gt (tgt := 59) hx hb dX3_sewnFits_41 (by decide) (fun c7 => ?_) (fun c7 => ?_)
      · skip
        have zc7 : 99 < t4.toInt := by rw [fa_lt, show (99 : Int32).toInt = 99 from by decide] at c7; exact c7
        refine lv_iconst (v := 0) hx hb dX3_sewnFits_59 (by decide) ?_
        exact ret 0 (v, f) _ _ _ _ _ _ rfl ⟨hM_v, hA_f, hIv, rfl, rfl, rfl, rfl, rfl, rfl, rfl, rfl, (Or.inr rfl)⟩ hP hD hS dX3_sewnFits_60 (Nat.le_refl _) (Nat.le_refl _)
      · skip
        have zc7 : ¬ (99 < t4.toInt) := by rw [fa_lt, show (99 : Int32).toInt = 99 from by decide] at c7; exact c7
        refine lv_iload hx hb dX3_sewnFits_44 (lv_at hl 6 rfl) ?_
        refine lv_ineg hx hb dX3_sewnFits_46 ?_
        refine lv_topi (fun t8 et8 => ?_)
        refine lv_aload_n hx hb dX3_sewnFits_47 rfl (lv_at hl 2 rfl) ?_
        refine va_get (D := (dC, dI)) (ci := 3) (v := .ref (x 21)) (C := RX3) (T := TX3) (N := 10) hx hb hts inB_3 hown hE.1 hP 26 rfl rfl 1 (by decide) (hts _ k_371) (fun _ h9 => h9) rfl dX3_sewnFits_48 ?_
        refine lv_iconst (v := 2) hx hb dX3_sewnFits_51 (by decide) ?_
        refine lv_iload_n hx hb dX3_sewnFits_52 rfl (lv_at hl 3 rfl) ?_
        refine cbVi (n := 2) (rest := [.int t8]) hx hb hml hown hts hE hP hD hS hA (sX_X1_part_1 l dC dI cy x0 x 2 p1 v f hIv ) k_1012 k_828 k_829 k_106 k_830 (by decide +kernel) ⟨Nat.le_of_ble_eq_true rfl, Nat.le_of_ble_eq_true rfl⟩ 22 1 rfl rfl (rfl) hl.1 rfl (Nat.le_of_ble_eq_true rfl) dX3_sewnFits_53 (fun r9 u H locs hw hP hD hS => ?_)
        refine lv_icmp_le (tgt := 61) hx hb dX3_sewnFits_56 (by decide) (fun c10 => ?_) (fun c10 => ?_)
        · skip
          have zc10 : t8.toInt ≤ r9.toInt := by rw [fa_le] at c10; exact c10
          have rg11 := fb_rng t8
          have rg12 := fb_rng r9
          refine lv_aload_n hx hb dX3_sewnFits_61 rfl (lv_at hl 2 rfl) ?_
          refine lv_iload_n hx hb dX3_sewnFits_62 rfl (lv_at hl 5 rfl) ?_
          refine va_put (D := (dC, dI)) (ci := 3) (v := .int p3) (ty := tyX3 3) (C := RX3) (T := TX3) (N := 10) hx hb hts inB_3 tyX3 tyX3_ok nmX3 hown hE.1 hP hD hS 26 rfl rfl 3 (by decide) (hts _ k_373) (fun _ h9 => h9) rfl (tyX3_ok 3 (by decide)) rfl rfl (Nat.le_of_ble_eq_true rfl) dX3_sewnFits_63 (fun H locs hP hD hS => ?_)
          have hP : va_P (dC, dI) vwCl (XW cy x0 x (upd v 24 p3) f) H := hP
          have hD : va_D A (XW cy x0 x (upd v 24 p3) f) := hD
          refine lv_aload_n hx hb dX3_sewnFits_66 rfl (lv_at hl 2 rfl) ?_
          refine lv_iload hx hb dX3_sewnFits_67 (lv_at hl 6 rfl) ?_
          refine va_put (D := (dC, dI)) (ci := 3) (v := .int p4) (ty := tyX3 4) (C := RX3) (T := TX3) (N := 10) hx hb hts inB_3 tyX3 tyX3_ok nmX3 hown hE.1 hP hD hS 26 rfl rfl 4 (by decide) (hts _ k_375) (fun _ h9 => h9) rfl (tyX3_ok 4 (by decide)) rfl rfl (Nat.le_of_ble_eq_true rfl) dX3_sewnFits_69 (fun H locs hP hD hS => ?_)
          have hP : va_P (dC, dI) vwCl (XW cy x0 x (upd (upd v 24 p3) 25 p4) f) H := hP
          have hD : va_D A (XW cy x0 x (upd (upd v 24 p3) 25 p4) f) := hD
          refine lv_aload_n hx hb dX3_sewnFits_72 rfl (lv_at hl 2 rfl) ?_
          refine va_get (D := (dC, dI)) (ci := 3) (v := .ref (x 26)) (C := RX3) (T := TX3) (N := 10) hx hb hts inB_3 hown hE.1 hP 26 rfl rfl 0 (by decide) (hts _ k_370) (fun _ h9 => h9) rfl dX3_sewnFits_73 ?_
          refine va_getN (D := (dC, dI)) (ci := 7) (v := .ref (x 15)) (C := RX7) (T := TX7) (N := 10) hx hb hts inB_7 hown hE.1 hP 27 rfl rfl 2 (by decide) (va_Nw.use rfl (hE.2 _ k_207)) (fun _ h9 => h9) rfl dX3_sewnFits_76 ?_
          refine lv_aload_n hx hb dX3_sewnFits_79 rfl (lv_at hl 2 rfl) ?_
          refine va_get (D := (dC, dI)) (ci := 3) (v := .ref (x 26)) (C := RX3) (T := TX3) (N := 10) hx hb hts inB_3 hown hE.1 hP 26 rfl rfl 0 (by decide) (hts _ k_370) (fun _ h9 => h9) rfl dX3_sewnFits_80 ?_
          refine lv_iconst (v := 0) hx hb dX3_sewnFits_83 (by decide) ?_
          refine lv_iload_n hx hb dX3_sewnFits_84 rfl (lv_at hl 4 rfl) ?_
          refine cbVi (n := 2) (rest := [.ref (x 15)]) hx hb hml hown hts hE hP hD hS hA (sX_X7_manPart_1 0 l dC dI cy x0 x 0 p2 (upd (upd v 24 p3) 25 p4) f (XI.upd (j := 25) (x := p4) (XI.upd (j := 24) (x := p3) hIv (rlo _) (rhi _)) (rlo _) (rhi _)) ) k_1013 k_303 k_304 k_104 k_305 (by decide +kernel) ⟨Nat.le_of_ble_eq_true rfl, Nat.le_of_ble_eq_true rfl⟩ 27 7 rfl rfl (rfl) hl.1 rfl (Nat.le_of_ble_eq_true rfl) dX3_sewnFits_85 (fun r13 u H locs hw hP hD hS => ?_)
          have hG14 := hw
          refine lv_aload_n hx hb dX3_sewnFits_88 rfl (lv_at hl 2 rfl) ?_
          refine va_get (D := (dC, dI)) (ci := 3) (v := .ref (x 21)) (C := RX3) (T := TX3) (N := 10) hx hb hts inB_3 hown hE.1 hP 26 rfl rfl 1 (by decide) (hts _ k_371) (fun _ h9 => h9) rfl dX3_sewnFits_89 ?_
          refine lv_iload_n hx hb dX3_sewnFits_92 rfl (lv_at hl 4 rfl) ?_
          refine cbVi (n := 1) (rest := [.int r13, .ref (x 15)]) hx hb hml hown hts hE hP hD hS hA (sX_X1_manWide_1 l dC dI cy x0 x p2 (upd (upd v 24 p3) 25 p4) f (XI.upd (j := 25) (x := p4) (XI.upd (j := 24) (x := p3) hIv (rlo _) (rhi _)) (rlo _) (rhi _)) ) k_1014 k_805 k_806 k_106 k_807 (by decide +kernel) ⟨Nat.le_of_ble_eq_true rfl, Nat.le_of_ble_eq_true rfl⟩ 22 1 rfl rfl (rfl) hl.1 rfl (Nat.le_of_ble_eq_true rfl) dX3_sewnFits_93 (fun r15 u H locs hw hP hD hS => ?_)
          refine lv_iload hx hb dX3_sewnFits_96 (lv_at hl 1 rfl) ?_
          refine lv_iload hx hb dX3_sewnFits_98 (lv_at hl 0 rfl) ?_
          refine lv_aload_n hx hb dX3_sewnFits_100 rfl (lv_at hl 2 rfl) ?_
          refine va_get (D := (dC, dI)) (ci := 3) (v := .ref (x 21)) (C := RX3) (T := TX3) (N := 10) hx hb hts inB_3 hown hE.1 hP 26 rfl rfl 1 (by decide) (hts _ k_371) (fun _ h9 => h9) rfl dX3_sewnFits_101 ?_
          refine lv_iconst (v := 3) hx hb dX3_sewnFits_104 (by decide) ?_
          refine lv_iload_n hx hb dX3_sewnFits_105 rfl (lv_at hl 3 rfl) ?_
          refine cbVi (n := 2) (rest := [.int t4, .int t2, .int r15, .int r13, .ref (x 15)]) hx hb hml hown hts hE hP hD hS hA (sX_X1_part_1 l dC dI cy x0 x 3 p1 (upd (upd v 24 p3) 25 p4) f (XI.upd (j := 25) (x := p4) (XI.upd (j := 24) (x := p3) hIv (rlo _) (rhi _)) (rlo _) (rhi _)) ) k_1012 k_828 k_829 k_106 k_830 (by decide +kernel) ⟨Nat.le_of_ble_eq_true rfl, Nat.le_of_ble_eq_true rfl⟩ 22 1 rfl rfl (rfl) hl.1 rfl (Nat.le_of_ble_eq_true rfl) dX3_sewnFits_106 (fun r16 u H locs hw hP hD hS => ?_)
          refine lv_aload_n hx hb dX3_sewnFits_109 rfl (lv_at hl 2 rfl) ?_
          refine va_get (D := (dC, dI)) (ci := 3) (v := .ref (x 21)) (C := RX3) (T := TX3) (N := 10) hx hb hts inB_3 hown hE.1 hP 26 rfl rfl 1 (by decide) (hts _ k_371) (fun _ h9 => h9) rfl dX3_sewnFits_110 ?_
          refine cbVi (n := 0) (rest := [.int r16, .int t4, .int t2, .int r15, .int r13, .ref (x 15)]) hx hb hml hown hts hE hP hD hS hA (sX_X1_today_1 l dC dI cy x0 x  (upd (upd v 24 p3) 25 p4) f (XI.upd (j := 25) (x := p4) (XI.upd (j := 24) (x := p3) hIv (rlo _) (rhi _)) (rlo _) (rhi _)) ) k_1015 k_832 k_833 k_106 k_834 (by decide +kernel) ⟨Nat.le_of_ble_eq_true rfl, Nat.le_of_ble_eq_true rfl⟩ 22 1 rfl rfl (rfl) hl.1 rfl (Nat.le_of_ble_eq_true rfl) dX3_sewnFits_113 (fun r17 u H locs hw hP hD hS => ?_)
          refine cbVi (n := 6) (rest := []) hx hb hml hown hts hE hP hD hS hA (sX_X4_worth_1 l dC dI cy x0 x r13 r15 t2 t4 r16 r17 (upd (upd v 24 p3) 25 p4) f (XI.upd (j := 25) (x := p4) (XI.upd (j := 24) (x := p3) hIv (rlo _) (rhi _)) (rlo _) (rhi _)) ) k_1016 k_836 k_837 k_105 k_838 (by decide +kernel) ⟨Nat.le_of_ble_eq_true rfl, Nat.le_of_ble_eq_true rfl⟩ 16 4 rfl rfl (rfl) hl.1 rfl (Nat.le_of_ble_eq_true rfl) dX3_sewnFits_116 (fun r18 u H locs hw hP hD hS => ?_)
          obtain ⟨v19, f20⟩ := u
          obtain ⟨kV_v19, kF_f20, hIv19, hk0_v19, hk1_v19, hk7_v19, hk8_v19, hk9_v19, hk10_v19, hk31_v19, hk32_v19⟩ := hw
          have hM_v19 : KV [24, 25] v19 v := KV.tr kV_v19 (KV.up (j := 25) (x := p4) (KV.up (j := 24) (x := p3) hM_v rfl) rfl) rfl
          have hA_f20 : KF [13, 14] f20 f := KF.tr kF_f20 hA_f rfl
          have hP : va_P (dC, dI) vwCl (XW cy x0 x v19 f20) H := hP
          have hD : va_D A (XW cy x0 x v19 f20) := hD
          have hq0_v19 : v19 0 = (v 0) := hk0_v19
          have hq1_v19 : v19 1 = (v 1) := hk1_v19
          have hq7_v19 : v19 7 = (v 7) := hk7_v19
          have hq8_v19 : v19 8 = (v 8) := hk8_v19
          have hq9_v19 : v19 9 = (v 9) := hk9_v19
          have hq10_v19 : v19 10 = (v 10) := hk10_v19
          have hq31_v19 : v19 31 = (v 31) := hk31_v19
          have hq32_v19 : v19 32 = (v 32) := hk32_v19
          refine lv_aload_n hx hb dX3_sewnFits_119 rfl (lv_at hl 2 rfl) ?_
          refine va_get (D := (dC, dI)) (ci := 3) (v := .ref (x 26)) (C := RX3) (T := TX3) (N := 10) hx hb hts inB_3 hown hE.1 hP 26 rfl rfl 0 (by decide) (hts _ k_370) (fun _ h9 => h9) rfl dX3_sewnFits_120 ?_
          refine va_getN (D := (dC, dI)) (ci := 7) (v := .int (v19 33)) (C := RX7) (T := TX7) (N := 10) hx hb hts inB_7 hown hE.1 hP 27 rfl rfl 5 (by decide) (va_Nw.use rfl (hE.2 _ k_230)) (fun _ h9 => h9) rfl dX3_sewnFits_123 ?_
          refine lv_icmp_gt (tgt := 133) hx hb dX3_sewnFits_126 (by decide) (fun c21 => ?_) (fun c21 => ?_)
          · skip
            have zc21 : (v19 33).toInt < r18.toInt := by rw [fa_lt] at c21; exact c21
            have rg22 := fb_rng r18
            have rg23 := fb_rng (v19 33)
            refine lv_iconst (v := 0) hx hb dX3_sewnFits_133 (by decide) ?_
            exact ret 0 (v19, f20) _ _ _ _ _ _ rfl ⟨hM_v19, hA_f20, hIv19, hk0_v19, hk1_v19, hk7_v19, hk8_v19, hk9_v19, hk10_v19, hk31_v19, hk32_v19, (Or.inr rfl)⟩ hP hD hS dX3_sewnFits_134 (Nat.le_refl _) (Nat.le_refl _)
          · skip
            have zc21 : ¬ ((v19 33).toInt < r18.toInt) := by rw [fa_lt] at c21; exact c21
            have rg24 := fb_rng r18
            have rg25 := fb_rng (v19 33)
            refine lv_iconst (v := 1) hx hb dX3_sewnFits_129 (by decide) ?_
            refine lv_goto (tgt := 134) hx hb dX3_sewnFits_130 (by decide) ?_
            exact ret 1 (v19, f20) _ _ _ _ _ _ rfl ⟨hM_v19, hA_f20, hIv19, hk0_v19, hk1_v19, hk7_v19, hk8_v19, hk9_v19, hk10_v19, hk31_v19, hk32_v19, (Or.inl rfl)⟩ hP hD hS dX3_sewnFits_134 (Nat.le_refl _) (Nat.le_refl _)
        · skip
          have zc10 : ¬ (t8.toInt ≤ r9.toInt) := by rw [fa_le] at c10; exact c10
          have rg26 := fb_rng t8
          have rg27 := fb_rng r9
          refine lv_iconst (v := 0) hx hb dX3_sewnFits_59 (by decide) ?_
          exact ret 0 (v, f) _ _ _ _ _ _ rfl ⟨hM_v, hA_f, hIv, rfl, rfl, rfl, rfl, rfl, rfl, rfl, rfl, (Or.inr rfl)⟩ hP hD hS dX3_sewnFits_60 (Nat.le_refl _) (Nat.le_refl _)
