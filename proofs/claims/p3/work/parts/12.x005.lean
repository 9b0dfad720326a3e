set_option maxHeartbeats 4000000 in
set_option maxRecDepth 100000 in
theorem sX_X3_coatBehind_1 (l : Launch) (dC : Nat → ClassId) (dI : Nat → Nat → Nat) (cy : Nat → ClassId) (x0 : Nat) (x : Nat → Nat) (p1 : Int32) (p2 : Int32) (p3 : Int32) (v : Nat → Int32) (f : Nat → Nat → Int32) (hIv : XI v)  : ctI l (dC, dI) cy yX3_coatBehind cX3_coatBehind 5 .int 6 179 0 0 ((Nat → Int32) × (Nat → Nat → Int32)) [.ref (x 25), .int p1, .int p2, .int p3] (XW cy x0 x v f) (fun r u => KV [] u.1 v ∧ KF [13, 14, 18] u.2 f ∧ XI u.1 ∧ u.1 0 = v 0 ∧ u.1 1 = v 1 ∧ u.1 7 = v 7 ∧ u.1 8 = v 8 ∧ u.1 9 = v 9 ∧ u.1 10 = v 10 ∧ u.1 31 = v 31 ∧ u.1 32 = v 32) (fun u => XW cy x0 x u.1 u.2) := by
  refine ctI_of (by decide) (Nat.le_of_ble_eq_true rfl) (fun p e s m below meth c A ls Q hx hb hml hts hown hE hP hD hA hl ret => ?_)
  have hM_v : KV [] v v := fun _ _ => rfl
  have hA_f : KF [13, 14, 18] f f := fun _ _ => rfl
  have hown : s.vm.findClass RX3 = some m.cls := hown
  have hS : va_S A s.heap s.heap [] := va_S.rf
  have hl : lv_has ls 5 [(0, .ref (x 25)), (1, .int p1), (2, .int p2), (3, .int p3)] := hl
  refine lv_aload_n hx hb dX3_coatBehind_0 rfl (lv_at hl 0 rfl) ?_
  refine va_get (D := (dC, dI)) (ci := 3) (v := .ref (x 27)) (C := RX3) (T := TX3) (N := 10) hx hb hts inB_3 hown hE.1 hP 26 rfl rfl 2 (Nat.le_of_ble_eq_true rfl) (hts _ k_372) (fun _ h9 => h9) rfl dX3_coatBehind_1 ?_
  refine lv_aload_n hx hb dX3_coatBehind_4 rfl (lv_at hl 0 rfl) ?_
  refine va_get (D := (dC, dI)) (ci := 3) (v := .ref (x 21)) (C := RX3) (T := TX3) (N := 10) hx hb hts inB_3 hown hE.1 hP 26 rfl rfl 1 (Nat.le_of_ble_eq_true rfl) (hts _ k_371) (fun _ h9 => h9) rfl dX3_coatBehind_5 ?_
  refine cbVv (n := 1) (rest := []) hx hb hml hown hts hE hP hD hS hA (sX_X1_copy_1 l dC dI cy x0 x  v f hIv ) k_945 k_946 k_947 k_106 k_948 (by decide +kernel) ⟨Nat.le_of_ble_eq_true rfl, Nat.le_of_ble_eq_true rfl⟩ 28 1 rfl rfl (rfl) hl.1 rfl (Nat.le_of_ble_eq_true rfl) dX3_coatBehind_8 (fun u H locs hw hP hD hS => ?_)
  obtain ⟨v1, f2⟩ := u
  obtain ⟨kV_v1, kF_f2, hIv1, hk0_v1, hk1_v1, hk7_v1, hk8_v1, hk9_v1, hk10_v1, hk31_v1, hk32_v1⟩ := hw
  have hM_v1 : KV [] v1 v := KV.tr kV_v1 hM_v rfl
  have hA_f2 : KF [13, 14, 18] f2 f := KF.tr kF_f2 hA_f rfl
  have hP : va_P (dC, dI) vwCl (XW cy x0 x v1 f2) H := hP
  have hD : va_D A (XW cy x0 x v1 f2) := hD
  have hq0_v1 : v1 0 = (v 0) := hk0_v1
  have hq1_v1 : v1 1 = (v 1) := hk1_v1
  have hq7_v1 : v1 7 = (v 7) := hk7_v1
  have hq8_v1 : v1 8 = (v 8) := hk8_v1
  have hq9_v1 : v1 9 = (v 9) := hk9_v1
  have hq10_v1 : v1 10 = (v 10) := hk10_v1
  have hq31_v1 : v1 31 = (v 31) := hk31_v1
  have hq32_v1 : v1 32 = (v 32) := hk32_v1
  refine lv_iconst (v := 0) hx hb dX3_coatBehind_11 rfl ?_
  refine lv_istore (lv' := [(4, .int 0), (0, .ref (x 25)), (1, .int p1), (2, .int p2), (3, .int p3)]) hx hb dX3_coatBehind_12 hl (Nat.le_of_ble_eq_true rfl) rfl (fun ls hl => ?_)
  have lp3 : ∀ (n3 : Nat) (l4_3 : Int32) (v3 : Nat → Int32) (f3 : Nat → Nat → Int32), XI v3 → v3 0 = (v 0) → v3 1 = (v 1) → v3 7 = (v 7) → v3 8 = (v 8) → v3 9 = (v 9) → v3 10 = (v 10) → v3 31 = (v 31) → v3 32 = (v 32) → ((0 : Int) ≤ l4_3.toInt ∧ l4_3.toInt ≤ 2147483647) → KV [] v3 v → KF [13, 14, 18] f3 f → (2147483647 - l4_3.toInt).toNat < n3 → ∀ (H : Heap) (locs : List Loc) (ls : Array Slot), va_P (dC, dI) vwCl (XW cy x0 x v3 f3) H → va_D A (XW cy x0 x v3 f3) → va_S A s.heap H locs → lv_has ls 5 [(4, .int l4_3), (0, .ref (x 25)), (1, .int p1), (2, .int p2), (3, .int p3)] → W p l e { frames := 6, cells := 0, slots := 0, locals := 179 } s m ([.ref (x 25), .int p1, .int p2, .int p3] : List Value).toArray below meth c H locs 0 0 Q (F0 m 14 ls []) := by
    intro n3
    induction n3 with
    | zero => intro l4_3 v3 f3 hIv3 hq0_v3 hq1_v3 hq7_v3 hq8_v3 hq9_v3 hq10_v3 hq31_v3 hq32_v3 hr4_3 hM_v3 hA_f3 hm; exact absurd hm (Nat.not_lt_zero _)
    | succ n3 ih3 =>
      intro l4_3 v3 f3 hIv3 hq0_v3 hq1_v3 hq7_v3 hq8_v3 hq9_v3 hq10_v3 hq31_v3 hq32_v3 hr4_3 hM_v3 hA_f3 hm3 H locs ls hP hD hS hl
      refine lv_iload hx hb dX3_coatBehind_14 (lv_at hl 0 rfl) ?_
      refine lv_iload_n hx hb dX3_coatBehind_16 rfl (lv_at hl 3 rfl) ?_
      refine lv_icmp_ge (tgt := 35) hx hb dX3_coatBehind_17 rfl (fun c4 => ?_) (fun c4 => ?_)
      · skip
        have zc4 : p2.toInt ≤ l4_3.toInt := by rw [fa_le] at c4; exact c4
        have rg5 := fb_rng l4_3
        have rg6 := fb_rng p2
        refine lv_aload_n hx hb dX3_coatBehind_35 rfl (lv_at hl 1 rfl) ?_
        refine va_get (D := (dC, dI)) (ci := 3) (v := .ref (x 27)) (C := RX3) (T := TX3) (N := 10) hx hb hts inB_3 hown hE.1 hP 26 rfl rfl 2 (Nat.le_of_ble_eq_true rfl) (hts _ k_372) (fun _ h9 => h9) rfl dX3_coatBehind_36 ?_
        refine lv_iload_n hx hb dX3_coatBehind_39 rfl (lv_at hl 2 rfl) ?_
        refine cbVi (n := 1) (rest := []) hx hb hml hown hts hE hP hD hS hA (sX_X1_wears_2 l dC dI cy x0 x p1 v3 f3 hIv3 ) k_950 k_810 k_811 k_106 k_812 (by decide +kernel) ⟨Nat.le_of_ble_eq_true rfl, Nat.le_of_ble_eq_true rfl⟩ 28 1 rfl rfl (rfl) hl.1 rfl (Nat.le_of_ble_eq_true rfl) dX3_coatBehind_40 (fun r7 u H locs hw hP hD hS => ?_)
        exact ret r7 (v3, f3) _ _ _ _ _ _ rfl ⟨hM_v3, hA_f3, hIv3, hq0_v3, hq1_v3, hq7_v3, hq8_v3, hq9_v3, hq10_v3, hq31_v3, hq32_v3⟩ hP hD hS dX3_coatBehind_43 (Nat.le_refl _) (Nat.le_refl _)
      · skip
        have zc4 : ¬ (p2.toInt ≤ l4_3.toInt) := by rw [fa_le] at c4; exact c4
        have rg8 := fb_rng l4_3
        have rg9 := fb_rng p2
        refine lv_aload_n hx hb dX3_coatBehind_20 rfl (lv_at hl 1 rfl) ?_
        refine va_get (D := (dC, dI)) (ci := 3) (v := .ref (x 27)) (C := RX3) (T := TX3) (N := 10) hx hb hts inB_3 hown hE.1 hP 26 rfl rfl 2 (Nat.le_of_ble_eq_true rfl) (hts _ k_372) (fun _ h9 => h9) rfl dX3_coatBehind_21 ?_
        refine lv_iload_n hx hb dX3_coatBehind_24 rfl (lv_at hl 4 rfl) ?_
        refine cbVi (n := 1) (rest := []) hx hb hml hown hts hE hP hD hS hA (sX_X1_passDay_2 l dC dI cy x0 x p3 v3 f3 hIv3 ) k_949 k_866 k_867 k_106 k_868 (by decide +kernel) ⟨Nat.le_of_ble_eq_true rfl, Nat.le_of_ble_eq_true rfl⟩ 28 1 rfl rfl (rfl) hl.1 rfl (Nat.le_of_ble_eq_true rfl) dX3_coatBehind_25 (fun r10 u H locs hw hP hD hS => ?_)
        obtain ⟨v11, f12⟩ := u
        obtain ⟨kV_v11, kF_f12, hIv11, hk0_v11, hk1_v11, hk7_v11, hk8_v11, hk9_v11, hk10_v11, hk31_v11, hk32_v11⟩ := hw
        have hM_v11 : KV [] v11 v := KV.tr kV_v11 hM_v3 rfl
        have hA_f12 : KF [13, 14, 18] f12 f := KF.tr kF_f12 hA_f3 rfl
        have hP : va_P (dC, dI) vwCl (XW cy x0 x v11 f12) H := hP
        have hD : va_D A (XW cy x0 x v11 f12) := hD
        have hq0_v11 : v11 0 = (v 0) := hk0_v11.trans hq0_v3
        have hq1_v11 : v11 1 = (v 1) := hk1_v11.trans hq1_v3
        have hq7_v11 : v11 7 = (v 7) := hk7_v11.trans hq7_v3
        have hq8_v11 : v11 8 = (v 8) := hk8_v11.trans hq8_v3
        have hq9_v11 : v11 9 = (v 9) := hk9_v11.trans hq9_v3
        have hq10_v11 : v11 10 = (v 10) := hk10_v11.trans hq10_v3
        have hq31_v11 : v11 31 = (v 31) := hk31_v11.trans hq31_v3
        have hq32_v11 : v11 32 = (v 32) := hk32_v11.trans hq32_v3
        refine lv_pop hx hb dX3_coatBehind_28 rfl ?_
        obtain ⟨t13, et13⟩ : ∃ y : Int32, y = l4_3 + 1 := ⟨_, rfl⟩
        have zt13 : t13.toInt = l4_3.toInt + 1 := by rw [et13]; exact add_i rfl (by decide) (by omega) (by omega)
        refine lv_iinc (v := t13) (lv' := [(4, .int t13), (0, .ref (x 25)), (1, .int p1), (2, .int p2), (3, .int p3)]) hx hb dX3_coatBehind_29 hl (k := 0) rfl (by rw [et13]; rfl) (by decide) rfl (fun ls hl => ?_)
        refine lv_goto (tgt := 14) hx hb dX3_coatBehind_32 rfl ?_
        have rg14 := fb_rng t13
        exact ih3 t13 v11 f12 hIv11 hq0_v11 hq1_v11 hq7_v11 hq8_v11 hq9_v11 hq10_v11 hq31_v11 hq32_v11 ⟨show (0 : Int) ≤ t13.toInt by omega, show t13.toInt ≤ (2147483647 : Int) by omega⟩ hM_v11 hA_f12 (by show (2147483647 - t13.toInt).toNat < n3; omega) _ _ _ hP hD hS (lv_sub hl [0, 1, 2, 3, 4] rfl)
  exact lp3 _ 0 v1 f2 hIv1 hq0_v1 hq1_v1 hq7_v1 hq8_v1 hq9_v1 hq10_v1 hq31_v1 hq32_v1 ⟨by decide, by decide⟩ hM_v1 hA_f2 (Nat.lt_succ_self _) _ _ _ hP hD hS (lv_sub hl [0, 1, 2, 3, 4] rfl)
set_option maxHeartbeats 4000000 in
set_option maxRecDepth 100000 in
theorem sX_X10_will_1 (l : Launch) (dC : Nat → ClassId) (dI : Nat → Nat → Nat) (cy : Nat → ClassId) (x0 : Nat) (x : Nat → Nat) (p1 : Int32) (p2 : Int32) (p3 : Int32) (v : Nat → Int32) (f : Nat → Nat → Int32) (hIv : XI v)  : ctI l (dC, dI) cy yX10_will cX10_will 4 .int 7 203 0 0 ((Nat → Int32) × (Nat → Nat → Int32)) [.ref x0, .int p1, .int p2, .int p3] (XW cy x0 x v f) (fun r u => KV [] u.1 v ∧ KF [13, 14, 18] u.2 f ∧ XI u.1 ∧ u.1 0 = v 0 ∧ u.1 1 = v 1 ∧ u.1 7 = v 7 ∧ u.1 8 = v 8 ∧ u.1 9 = v 9 ∧ u.1 10 = v 10 ∧ u.1 31 = v 31 ∧ u.1 32 = v 32) (fun u => XW cy x0 x u.1 u.2) := by
  refine ctI_of (by decide) (Nat.le_of_ble_eq_true rfl) (fun p e s m below meth c A ls Q hx hb hml hts hown hE hP hD hA hl ret => ?_)
  have hM_v : KV [] v v := fun _ _ => rfl
  have hA_f : KF [13, 14, 18] f f := fun _ _ => rfl
  have hown : s.vm.findClass RX10 = some m.cls := hown
  have hS : va_S A s.heap s.heap [] := va_S.rf
  have hl : lv_has ls 4 [(0, .ref x0), (1, .int p1), (2, .int p2), (3, .int p3)] := hl
  refine lv_aload_n hx hb dX10_will_0 rfl (lv_at hl 0 rfl) ?_
  refine va_get (D := (dC, dI)) (ci := 10) (v := .ref (x 26)) (C := RX10) (T := TX10) (N := 10) hx hb hts inB_10 hown hE.1 hP 0 rfl rfl 2 (Nat.le_of_ble_eq_true rfl) (hts _ k_493) (fun _ h9 => h9) rfl dX10_will_1 ?_
  refine lv_iload_n hx hb dX10_will_4 rfl (lv_at hl 1 rfl) ?_
  refine cbVi (n := 1) (rest := []) hx hb hml hown hts hE hP hD hS hA (sX_X7_hasMan_1 0 l dC dI cy x0 x p1 v f hIv ) k_802 k_307 k_308 k_104 k_309 (by decide +kernel) ⟨Nat.le_of_ble_eq_true rfl, Nat.le_of_ble_eq_true rfl⟩ 27 7 rfl rfl (rfl) hl.1 rfl (Nat.le_of_ble_eq_true rfl) dX10_will_5 (fun r1 u H locs hw hP hD hS => ?_)
  obtain ⟨hG2, hw⟩ := hw
  rcases hw with ⟨g3, g3_0, g3_1, g3_2⟩ | ⟨g3⟩
  · skip
    subst g3
    refine lv_if_eq (tgt := 30) hx hb dX10_will_8 rfl (fun c0 => absurd c0 (by decide)) (fun _ => ?_)
    refine lv_iload_n hx hb dX10_will_11 rfl (lv_at hl 2 rfl) ?_
    refine lv_if_lt (tgt := 30) hx hb dX10_will_12 rfl (fun c4 => ?_) (fun c4 => ?_)
    · skip
      have zc4 : p2.toInt < 0 := by rw [fa_lt, show (0 : Int32).toInt = 0 from by decide] at c4; exact c4
      refine lv_bipush (v := (-2)) hx hb dX10_will_30 rfl ?_
      exact ret (-2) (v, f) _ _ _ _ _ _ rfl ⟨hM_v, hA_f, hIv, rfl, rfl, rfl, rfl, rfl, rfl, rfl, rfl⟩ hP hD hS dX10_will_32 (Nat.le_refl _) (Nat.le_refl _)
    · skip
      have zc4 : ¬ (p2.toInt < 0) := by rw [fa_lt, show (0 : Int32).toInt = 0 from by decide] at c4; exact c4
      refine lv_iload_n hx hb dX10_will_15 rfl (lv_at hl 2 rfl) ?_
      refine lv_bipush (v := 60) hx hb dX10_will_16 rfl ?_
      refine lv_icmp_gt (tgt := 30) hx hb dX10_will_18 rfl (fun c5 => ?_) (fun c5 => ?_)
      · skip
        have zc5 : 60 < p2.toInt := by rw [fa_lt, show (60 : Int32).toInt = 60 from by decide] at c5; exact c5
        refine lv_bipush (v := (-2)) hx hb dX10_will_30 rfl ?_
        exact ret (-2) (v, f) _ _ _ _ _ _ rfl ⟨hM_v, hA_f, hIv, rfl, rfl, rfl, rfl, rfl, rfl, rfl, rfl⟩ hP hD hS dX10_will_32 (Nat.le_refl _) (Nat.le_refl _)
      · skip
        have zc5 : ¬ (60 < p2.toInt) := by rw [fa_lt, show (60 : Int32).toInt = 60 from by decide] at c5; exact c5
        refine lv_iload_n hx hb dX10_will_21 rfl (lv_at hl 3 rfl) ?_
        refine lv_if_lt (tgt := 30) hx hb dX10_will_22 rfl (fun c6 => ?_) (fun c6 => ?_)
        · skip
          have zc6 : p3.toInt < 0 := by rw [fa_lt, show (0 : Int32).toInt = 0 from by decide] at c6; exact c6
          refine lv_bipush (v := (-2)) hx hb dX10_will_30 rfl ?_
          exact ret (-2) (v, f) _ _ _ _ _ _ rfl ⟨hM_v, hA_f, hIv, rfl, rfl, rfl, rfl, rfl, rfl, rfl, rfl⟩ hP hD hS dX10_will_32 (Nat.le_refl _) (Nat.le_refl _)
        · skip
          have zc6 : ¬ (p3.toInt < 0) := by rw [fa_lt, show (0 : Int32).toInt = 0 from by decide] at c6; exact c6
          refine lv_iload_n hx hb dX10_will_25 rfl (lv_at hl 3 rfl) ?_
          refine lv_iconst (v := 1) hx hb dX10_will_26 rfl ?_
          refine lv_icmp_le (tgt := 33) hx hb dX10_will_27 rfl (fun c7 => ?_) (fun c7 => ?_)
          · skip
            have zc7 : p3.toInt ≤ 1 := by rw [fa_le, show (1 : Int32).toInt = 1 from by decide] at c7; exact c7
            refine lv_aload_n hx hb dX10_will_33 rfl (lv_at hl 0 rfl) ?_
            refine va_get (D := (dC, dI)) (ci := 10) (v := .ref (x 25)) (C := RX10) (T := TX10) (N := 10) hx hb hts inB_10 hown hE.1 hP 0 rfl rfl 5 (Nat.le_of_ble_eq_true rfl) (hts _ k_496) (fun _ h9 => h9) rfl dX10_will_34 ?_
            refine lv_iload_n hx hb dX10_will_37 rfl (lv_at hl 1 rfl) ?_
            refine lv_iload_n hx hb dX10_will_38 rfl (lv_at hl 2 rfl) ?_
            refine lv_iload_n hx hb dX10_will_39 rfl (lv_at hl 3 rfl) ?_
            refine lv_iconst (v := 1) hx hb dX10_will_40 rfl ?_
            refine lv_icmp_ne (tgt := 54) hx hb dX10_will_41 rfl (fun c8 => ?_) (fun c8 => ?_)
            · skip
              have zc8 : ¬ (p3.toInt = 1) := by rw [fa_eq, show (1 : Int32).toInt = 1 from by decide] at c8; exact c8
              refine lv_iconst (v := 0) hx hb dX10_will_54 rfl ?_
              refine cbVi (n := 3) (rest := []) hx hb hml hown hts hE hP hD hS hA (sX_X3_coatBehind_1 l dC dI cy x0 x p1 p2 0 v f hIv ) k_941 k_942 k_943 k_109 k_944 (by decide +kernel) ⟨Nat.le_of_ble_eq_true rfl, Nat.le_of_ble_eq_true rfl⟩ 26 3 rfl rfl (rfl) hl.1 rfl (Nat.le_of_ble_eq_true rfl) dX10_will_55 (fun r9 u H locs hw hP hD hS => ?_)
              obtain ⟨v10, f11⟩ := u
              obtain ⟨kV_v10, kF_f11, hIv10, hk0_v10, hk1_v10, hk7_v10, hk8_v10, hk9_v10, hk10_v10, hk31_v10, hk32_v10⟩ := hw
              have hM_v10 : KV [] v10 v := KV.tr kV_v10 hM_v rfl
              have hA_f11 : KF [13, 14, 18] f11 f := KF.tr kF_f11 hA_f rfl
              have hP : va_P (dC, dI) vwCl (XW cy x0 x v10 f11) H := hP
              have hD : va_D A (XW cy x0 x v10 f11) := hD
              have hq0_v10 : v10 0 = (v 0) := hk0_v10
              have hq1_v10 : v10 1 = (v 1) := hk1_v10
              have hq7_v10 : v10 7 = (v 7) := hk7_v10
              have hq8_v10 : v10 8 = (v 8) := hk8_v10
              have hq9_v10 : v10 9 = (v 9) := hk9_v10
              have hq10_v10 : v10 10 = (v 10) := hk10_v10
              have hq31_v10 : v10 31 = (v 31) := hk31_v10
              have hq32_v10 : v10 32 = (v 32) := hk32_v10
              exact ret r9 (v10, f11) _ _ _ _ _ _ rfl ⟨hM_v10, hA_f11, hIv10, hk0_v10, hk1_v10, hk7_v10, hk8_v10, hk9_v10, hk10_v10, hk31_v10, hk32_v10⟩ hP hD hS dX10_will_58 (Nat.le_refl _) (Nat.le_refl _)
            · skip
              have zc8 : p3.toInt = 1 := by rw [fa_eq, show (1 : Int32).toInt = 1 from by decide] at c8; exact c8
              refine lv_aload_n hx hb dX10_will_44 rfl (lv_at hl 0 rfl) ?_
              refine va_get (D := (dC, dI)) (ci := 10) (v := .ref (x 26)) (C := RX10) (T := TX10) (N := 10) hx hb hts inB_10 hown hE.1 hP 0 rfl rfl 2 (Nat.le_of_ble_eq_true rfl) (hts _ k_493) (fun _ h9 => h9) rfl dX10_will_45 ?_
              refine va_getN (D := (dC, dI)) (ci := 7) (v := .int (v 36)) (C := RX7) (T := TX7) (N := 10) hx hb hts inB_7 hown hE.1 hP 27 rfl rfl 8 (Nat.le_of_ble_eq_true rfl) (va_Nw.use rfl (hE.2 _ k_241)) (fun _ h9 => h9) rfl dX10_will_48 ?_
              refine lv_goto (tgt := 55) hx hb dX10_will_51 rfl ?_
              refine cbVi (n := 3) (rest := []) hx hb hml hown hts hE hP hD hS hA (sX_X3_coatBehind_1 l dC dI cy x0 x p1 p2 (v 36) v f hIv ) k_941 k_942 k_943 k_109 k_944 (by decide +kernel) ⟨Nat.le_of_ble_eq_true rfl, Nat.le_of_ble_eq_true rfl⟩ 26 3 rfl rfl (rfl) hl.1 rfl (Nat.le_of_ble_eq_true rfl) dX10_will_55 (fun r12 u H locs hw hP hD hS => ?_)
              obtain ⟨v13, f14⟩ := u
              obtain ⟨kV_v13, kF_f14, hIv13, hk0_v13, hk1_v13, hk7_v13, hk8_v13, hk9_v13, hk10_v13, hk31_v13, hk32_v13⟩ := hw
              have hM_v13 : KV [] v13 v := KV.tr kV_v13 hM_v rfl
              have hA_f14 : KF [13, 14, 18] f14 f := KF.tr kF_f14 hA_f rfl
              have hP : va_P (dC, dI) vwCl (XW cy x0 x v13 f14) H := hP
              have hD : va_D A (XW cy x0 x v13 f14) := hD
              have hq0_v13 : v13 0 = (v 0) := hk0_v13
              have hq1_v13 : v13 1 = (v 1) := hk1_v13
              have hq7_v13 : v13 7 = (v 7) := hk7_v13
              have hq8_v13 : v13 8 = (v 8) := hk8_v13
              have hq9_v13 : v13 9 = (v 9) := hk9_v13
              have hq10_v13 : v13 10 = (v 10) := hk10_v13
              have hq31_v13 : v13 31 = (v 31) := hk31_v13
              have hq32_v13 : v13 32 = (v 32) := hk32_v13
              exact ret r12 (v13, f14) _ _ _ _ _ _ rfl ⟨hM_v13, hA_f14, hIv13, hk0_v13, hk1_v13, hk7_v13, hk8_v13, hk9_v13, hk10_v13, hk31_v13, hk32_v13⟩ hP hD hS dX10_will_58 (Nat.le_refl _) (Nat.le_refl _)
          · skip
            have zc7 : ¬ (p3.toInt ≤ 1) := by rw [fa_le, show (1 : Int32).toInt = 1 from by decide] at c7; exact c7
            refine lv_bipush (v := (-2)) hx hb dX10_will_30 rfl ?_
            exact ret (-2) (v, f) _ _ _ _ _ _ rfl ⟨hM_v, hA_f, hIv, rfl, rfl, rfl, rfl, rfl, rfl, rfl, rfl⟩ hP hD hS dX10_will_32 (Nat.le_refl _) (Nat.le_refl _)
  · skip
    subst g3
    refine lv_if_eq (tgt := 30) hx hb dX10_will_8 rfl (fun _ => ?_) (fun c0 => absurd (by decide) c0)
    refine lv_bipush (v := (-2)) hx hb dX10_will_30 rfl ?_
    exact ret (-2) (v, f) _ _ _ _ _ _ rfl ⟨hM_v, hA_f, hIv, rfl, rfl, rfl, rfl, rfl, rfl, rfl, rfl⟩ hP hD hS dX10_will_32 (Nat.le_refl _) (Nat.le_refl _)
set_option maxHeartbeats 4000000 in
set_option maxRecDepth 100000 in
theorem sX_X3_daysTillOut_1 (l : Launch) (dC : Nat → ClassId) (dI : Nat → Nat → Nat) (cy : Nat → ClassId) (x0 : Nat) (x : Nat → Nat) (p1 : Int32) (v : Nat → Int32) (f : Nat → Nat → Int32) (hIv : XI v)  : ctI l (dC, dI) cy yX3_daysTillOut cX3_daysTillOut 3 .int 6 179 0 0 ((Nat → Int32) × (Nat → Nat → Int32)) [.ref (x 25), .int p1] (XW cy x0 x v f) (fun r u => KV [] u.1 v ∧ KF [13, 14, 18] u.2 f ∧ XI u.1 ∧ u.1 0 = v 0 ∧ u.1 1 = v 1 ∧ u.1 7 = v 7 ∧ u.1 8 = v 8 ∧ u.1 9 = v 9 ∧ u.1 10 = v 10 ∧ u.1 31 = v 31 ∧ u.1 32 = v 32) (fun u => XW cy x0 x u.1 u.2) := by
  refine ctI_of (by decide) (Nat.le_of_ble_eq_true rfl) (fun p e s m below meth c A ls Q hx hb hml hts hown hE hP hD hA hl ret => ?_)
  have hM_v : KV [] v v := fun _ _ => rfl
  have hA_f : KF [13, 14, 18] f f := fun _ _ => rfl
  have hown : s.vm.findClass RX3 = some m.cls := hown
  have hS : va_S A s.heap s.heap [] := va_S.rf
  have hl : lv_has ls 3 [(0, .ref (x 25)), (1, .int p1)] := hl
  refine lv_aload_n hx hb dX3_daysTillOut_0 rfl (lv_at hl 0 rfl) ?_
  refine va_get (D := (dC, dI)) (ci := 3) (v := .ref (x 27)) (C := RX3) (T := TX3) (N := 10) hx hb hts inB_3 hown hE.1 hP 26 rfl rfl 2 (Nat.le_of_ble_eq_true rfl) (hts _ k_372) (fun _ h9 => h9) rfl dX3_daysTillOut_1 ?_
  refine lv_aload_n hx hb dX3_daysTillOut_4 rfl (lv_at hl 0 rfl) ?_
  refine va_get (D := (dC, dI)) (ci := 3) (v := .ref (x 21)) (C := RX3) (T := TX3) (N := 10) hx hb hts inB_3 hown hE.1 hP 26 rfl rfl 1 (Nat.le_of_ble_eq_true rfl) (hts _ k_371) (fun _ h9 => h9) rfl dX3_daysTillOut_5 ?_
  refine cbVv (n := 1) (rest := []) hx hb hml hown hts hE hP hD hS hA (sX_X1_copy_1 l dC dI cy x0 x  v f hIv ) k_945 k_946 k_947 k_106 k_948 (by decide +kernel) ⟨Nat.le_of_ble_eq_true rfl, Nat.le_of_ble_eq_true rfl⟩ 28 1 rfl rfl (rfl) hl.1 rfl (Nat.le_of_ble_eq_true rfl) dX3_daysTillOut_8 (fun u H locs hw hP hD hS => ?_)
  obtain ⟨v1, f2⟩ := u
  obtain ⟨kV_v1, kF_f2, hIv1, hk0_v1, hk1_v1, hk7_v1, hk8_v1, hk9_v1, hk10_v1, hk31_v1, hk32_v1⟩ := hw
  have hM_v1 : KV [] v1 v := KV.tr kV_v1 hM_v rfl
  have hA_f2 : KF [13, 14, 18] f2 f := KF.tr kF_f2 hA_f rfl
  have hP : va_P (dC, dI) vwCl (XW cy x0 x v1 f2) H := hP
  have hD : va_D A (XW cy x0 x v1 f2) := hD
  have hq0_v1 : v1 0 = (v 0) := hk0_v1
  have hq1_v1 : v1 1 = (v 1) := hk1_v1
  have hq7_v1 : v1 7 = (v 7) := hk7_v1
  have hq8_v1 : v1 8 = (v 8) := hk8_v1
  have hq9_v1 : v1 9 = (v 9) := hk9_v1
  have hq10_v1 : v1 10 = (v 10) := hk10_v1
  have hq31_v1 : v1 31 = (v 31) := hk31_v1
  have hq32_v1 : v1 32 = (v 32) := hk32_v1
  refine lv_iconst (v := 0) hx hb dX3_daysTillOut_11 rfl ?_
  refine lv_istore_n (lv' := [(2, .int 0), (0, .ref (x 25)), (1, .int p1)]) hx hb dX3_daysTillOut_12 rfl hl (Nat.le_of_ble_eq_true rfl) rfl (fun ls hl => ?_)
  have lp3 : ∀ (n3 : Nat) (l2_3 : Int32) (v3 : Nat → Int32) (f3 : Nat → Nat → Int32), XI v3 → v3 0 = (v 0) → v3 1 = (v 1) → v3 7 = (v 7) → v3 8 = (v 8) → v3 9 = (v 9) → v3 10 = (v 10) → v3 31 = (v 31) → v3 32 = (v 32) → ((0 : Int) ≤ l2_3.toInt ∧ l2_3.toInt ≤ 2147483647) → KV [] v3 v → KF [13, 14, 18] f3 f → (2147483647 - l2_3.toInt).toNat < n3 → ∀ (H : Heap) (locs : List Loc) (ls : Array Slot), va_P (dC, dI) vwCl (XW cy x0 x v3 f3) H → va_D A (XW cy x0 x v3 f3) → va_S A s.heap H locs → lv_has ls 3 [(2, .int l2_3), (0, .ref (x 25)), (1, .int p1)] → W p l e { frames := 6, cells := 0, slots := 0, locals := 179 } s m ([.ref (x 25), .int p1] : List Value).toArray below meth c H locs 0 0 Q (F0 m 13 ls []) := by
    intro n3
    induction n3 with
    | zero => intro l2_3 v3 f3 hIv3 hq0_v3 hq1_v3 hq7_v3 hq8_v3 hq9_v3 hq10_v3 hq31_v3 hq32_v3 hr2_3 hM_v3 hA_f3 hm; exact absurd hm (Nat.not_lt_zero _)
    | succ n3 ih3 =>
      intro l2_3 v3 f3 hIv3 hq0_v3 hq1_v3 hq7_v3 hq8_v3 hq9_v3 hq10_v3 hq31_v3 hq32_v3 hr2_3 hM_v3 hA_f3 hm3 H locs ls hP hD hS hl
      refine lv_iload_n hx hb dX3_daysTillOut_13 rfl (lv_at hl 0 rfl) ?_
      refine lv_bipush (v := 60) hx hb dX3_daysTillOut_14 rfl ?_
      refine lv_icmp_gt (tgt := 48) hx hb dX3_daysTillOut_16 rfl (fun c4 => ?_) (fun c4 => ?_)
      · skip
        have zc4 : 60 < l2_3.toInt := by rw [fa_lt, show (60 : Int32).toInt = 60 from by decide] at c4; exact c4
        refine lv_iconst (v := (-1)) hx hb dX3_daysTillOut_48 rfl ?_
        exact ret (-1) (v3, f3) _ _ _ _ _ _ rfl ⟨hM_v3, hA_f3, hIv3, hq0_v3, hq1_v3, hq7_v3, hq8_v3, hq9_v3, hq10_v3, hq31_v3, hq32_v3⟩ hP hD hS dX3_daysTillOut_49 (Nat.le_refl _) (Nat.le_refl _)
      · skip
        have zc4 : ¬ (60 < l2_3.toInt) := by rw [fa_lt, show (60 : Int32).toInt = 60 from by decide] at c4; exact c4
        refine lv_aload_n hx hb dX3_daysTillOut_19 rfl (lv_at hl 1 rfl) ?_
        refine va_get (D := (dC, dI)) (ci := 3) (v := .ref (x 27)) (C := RX3) (T := TX3) (N := 10) hx hb hts inB_3 hown hE.1 hP 26 rfl rfl 2 (Nat.le_of_ble_eq_true rfl) (hts _ k_372) (fun _ h9 => h9) rfl dX3_daysTillOut_20 ?_
        refine lv_iload_n hx hb dX3_daysTillOut_23 rfl (lv_at hl 2 rfl) ?_
        refine cbVi (n := 1) (rest := []) hx hb hml hown hts hE hP hD hS hA (sX_X1_wears_2 l dC dI cy x0 x p1 v3 f3 hIv3 ) k_950 k_810 k_811 k_106 k_812 (by decide +kernel) ⟨Nat.le_of_ble_eq_true rfl, Nat.le_of_ble_eq_true rfl⟩ 28 1 rfl rfl (rfl) hl.1 rfl (Nat.le_of_ble_eq_true rfl) dX3_daysTillOut_24 (fun r5 u H locs hw hP hD hS => ?_)
        refine lv_iconst (v := (-1)) hx hb dX3_daysTillOut_27 rfl ?_
        refine lv_icmp_ne (tgt := 33) hx hb dX3_daysTillOut_28 rfl (fun c6 => ?_) (fun c6 => ?_)
        · skip
          have zc6 : ¬ (r5.toInt = (-1)) := by rw [fa_eq, show ((-1) : Int32).toInt = -1 from by decide] at c6; exact c6
          refine lv_aload_n hx hb dX3_daysTillOut_33 rfl (lv_at hl 1 rfl) ?_
          refine va_get (D := (dC, dI)) (ci := 3) (v := .ref (x 27)) (C := RX3) (T := TX3) (N := 10) hx hb hts inB_3 hown hE.1 hP 26 rfl rfl 2 (Nat.le_of_ble_eq_true rfl) (hts _ k_372) (fun _ h9 => h9) rfl dX3_daysTillOut_34 ?_
          refine lv_iconst (v := 0) hx hb dX3_daysTillOut_37 rfl ?_
          refine cbVi (n := 1) (rest := []) hx hb hml hown hts hE hP hD hS hA (sX_X1_passDay_2 l dC dI cy x0 x 0 v3 f3 hIv3 ) k_949 k_866 k_867 k_106 k_868 (by decide +kernel) ⟨Nat.le_of_ble_eq_true rfl, Nat.le_of_ble_eq_true rfl⟩ 28 1 rfl rfl (rfl) hl.1 rfl (Nat.le_of_ble_eq_true rfl) dX3_daysTillOut_38 (fun r7 u H locs hw hP hD hS => ?_)
          obtain ⟨v8, f9⟩ := u
          obtain ⟨kV_v8, kF_f9, hIv8, hk0_v8, hk1_v8, hk7_v8, hk8_v8, hk9_v8, hk10_v8, hk31_v8, hk32_v8⟩ := hw
          have hM_v8 : KV [] v8 v := KV.tr kV_v8 hM_v3 rfl
          have hA_f9 : KF [13, 14, 18] f9 f := KF.tr kF_f9 hA_f3 rfl
          have hP : va_P (dC, dI) vwCl (XW cy x0 x v8 f9) H := hP
          have hD : va_D A (XW cy x0 x v8 f9) := hD
          have hq0_v8 : v8 0 = (v 0) := hk0_v8.trans hq0_v3
          have hq1_v8 : v8 1 = (v 1) := hk1_v8.trans hq1_v3
          have hq7_v8 : v8 7 = (v 7) := hk7_v8.trans hq7_v3
          have hq8_v8 : v8 8 = (v 8) := hk8_v8.trans hq8_v3
          have hq9_v8 : v8 9 = (v 9) := hk9_v8.trans hq9_v3
          have hq10_v8 : v8 10 = (v 10) := hk10_v8.trans hq10_v3
          have hq31_v8 : v8 31 = (v 31) := hk31_v8.trans hq31_v3
          have hq32_v8 : v8 32 = (v 32) := hk32_v8.trans hq32_v3
          refine lv_pop hx hb dX3_daysTillOut_41 rfl ?_
          obtain ⟨t10, et10⟩ : ∃ y : Int32, y = l2_3 + 1 := ⟨_, rfl⟩
          have rg11 := fb_rng l2_3
          have zt10 : t10.toInt = l2_3.toInt + 1 := by rw [et10]; exact add_i rfl (by decide) (by omega) (by omega)
          refine lv_iinc (v := t10) (lv' := [(2, .int t10), (0, .ref (x 25)), (1, .int p1)]) hx hb dX3_daysTillOut_42 hl (k := 0) rfl (by rw [et10]; rfl) (by decide) rfl (fun ls hl => ?_)
          refine lv_goto (tgt := 13) hx hb dX3_daysTillOut_45 rfl ?_
          have rg12 := fb_rng t10
          exact ih3 t10 v8 f9 hIv8 hq0_v8 hq1_v8 hq7_v8 hq8_v8 hq9_v8 hq10_v8 hq31_v8 hq32_v8 ⟨show (0 : Int) ≤ t10.toInt by omega, show t10.toInt ≤ (2147483647 : Int) by omega⟩ hM_v8 hA_f9 (by show (2147483647 - t10.toInt).toNat < n3; omega) _ _ _ hP hD hS (lv_sub hl [0, 1, 2] rfl)
        · skip
          have zc6 : r5.toInt = (-1) := by rw [fa_eq, show ((-1) : Int32).toInt = -1 from by decide] at c6; exact c6
          refine lv_iload_n hx hb dX3_daysTillOut_31 rfl (lv_at hl 0 rfl) ?_
          exact ret l2_3 (v3, f3) _ _ _ _ _ _ rfl ⟨hM_v3, hA_f3, hIv3, hq0_v3, hq1_v3, hq7_v3, hq8_v3, hq9_v3, hq10_v3, hq31_v3, hq32_v3⟩ hP hD hS dX3_daysTillOut_32 (Nat.le_refl _) (Nat.le_refl _)
  exact lp3 _ 0 v1 f2 hIv1 hq0_v1 hq1_v1 hq7_v1 hq8_v1 hq9_v1 hq10_v1 hq31_v1 hq32_v1 ⟨by decide, by decide⟩ hM_v1 hA_f2 (Nat.lt_succ_self _) _ _ _ hP hD hS (lv_sub hl [0, 1, 2] rfl)
set_option maxHeartbeats 4000000 in
set_option maxRecDepth 100000 in
theorem sX_X10_out_1 (l : Launch) (dC : Nat → ClassId) (dI : Nat → Nat → Nat) (cy : Nat → ClassId) (x0 : Nat) (x : Nat → Nat) (p1 : Int32) (v : Nat → Int32) (f : Nat → Nat → Int32) (hIv : XI v)  : ctI l (dC, dI) cy yX10_out cX10_out 2 .int 7 201 0 0 ((Nat → Int32) × (Nat → Nat → Int32)) [.ref x0, .int p1] (XW cy x0 x v f) (fun r u => KV [] u.1 v ∧ KF [13, 14, 18] u.2 f ∧ XI u.1 ∧ u.1 0 = v 0 ∧ u.1 1 = v 1 ∧ u.1 7 = v 7 ∧ u.1 8 = v 8 ∧ u.1 9 = v 9 ∧ u.1 10 = v 10 ∧ u.1 31 = v 31 ∧ u.1 32 = v 32) (fun u => XW cy x0 x u.1 u.2) := by
  refine ctI_of (by decide) (Nat.le_of_ble_eq_true rfl) (fun p e s m below meth c A ls Q hx hb hml hts hown hE hP hD hA hl ret => ?_)
  have hM_v : KV [] v v := fun _ _ => rfl
  have hA_f : KF [13, 14, 18] f f := fun _ _ => rfl
  have hown : s.vm.findClass RX10 = some m.cls := hown
  have hS : va_S A s.heap s.heap [] := va_S.rf
  have hl : lv_has ls 2 [(0, .ref x0), (1, .int p1)] := hl
  refine lv_aload_n hx hb dX10_out_0 rfl (lv_at hl 0 rfl) ?_
  refine va_get (D := (dC, dI)) (ci := 10) (v := .ref (x 26)) (C := RX10) (T := TX10) (N := 10) hx hb hts inB_10 hown hE.1 hP 0 rfl rfl 2 (Nat.le_of_ble_eq_true rfl) (hts _ k_493) (fun _ h9 => h9) rfl dX10_out_1 ?_
  refine lv_iload_n hx hb dX10_out_4 rfl (lv_at hl 1 rfl) ?_
  refine cbVi (n := 1) (rest := []) hx hb hml hown hts hE hP hD hS hA (sX_X7_hasMan_1 0 l dC dI cy x0 x p1 v f hIv ) k_802 k_307 k_308 k_104 k_309 (by decide +kernel) ⟨Nat.le_of_ble_eq_true rfl, Nat.le_of_ble_eq_true rfl⟩ 27 7 rfl rfl (rfl) hl.1 rfl (Nat.le_of_ble_eq_true rfl) dX10_out_5 (fun r1 u H locs hw hP hD hS => ?_)
  obtain ⟨hG2, hw⟩ := hw
  rcases hw with ⟨g3, g3_0, g3_1, g3_2⟩ | ⟨g3⟩
  · skip
    subst g3
    refine lv_if_eq (tgt := 22) hx hb dX10_out_8 rfl (fun c0 => absurd c0 (by decide)) (fun _ => ?_)
    refine lv_aload_n hx hb dX10_out_11 rfl (lv_at hl 0 rfl) ?_
    refine va_get (D := (dC, dI)) (ci := 10) (v := .ref (x 25)) (C := RX10) (T := TX10) (N := 10) hx hb hts inB_10 hown hE.1 hP 0 rfl rfl 5 (Nat.le_of_ble_eq_true rfl) (hts _ k_496) (fun _ h9 => h9) rfl dX10_out_12 ?_
    refine lv_iload_n hx hb dX10_out_15 rfl (lv_at hl 1 rfl) ?_
    refine cbVi (n := 1) (rest := []) hx hb hml hown hts hE hP hD hS hA (sX_X3_daysTillOut_1 l dC dI cy x0 x p1 v f hIv ) k_955 k_956 k_957 k_109 k_958 (by decide +kernel) ⟨Nat.le_of_ble_eq_true rfl, Nat.le_of_ble_eq_true rfl⟩ 26 3 rfl rfl (rfl) hl.1 rfl (Nat.le_of_ble_eq_true rfl) dX10_out_16 (fun r4 u H locs hw hP hD hS => ?_)
    obtain ⟨v5, f6⟩ := u
    obtain ⟨kV_v5, kF_f6, hIv5, hk0_v5, hk1_v5, hk7_v5, hk8_v5, hk9_v5, hk10_v5, hk31_v5, hk32_v5⟩ := hw
    have hM_v5 : KV [] v5 v := KV.tr kV_v5 hM_v rfl
    have hA_f6 : KF [13, 14, 18] f6 f := KF.tr kF_f6 hA_f rfl
    have hP : va_P (dC, dI) vwCl (XW cy x0 x v5 f6) H := hP
    have hD : va_D A (XW cy x0 x v5 f6) := hD
    have hq0_v5 : v5 0 = (v 0) := hk0_v5
    have hq1_v5 : v5 1 = (v 1) := hk1_v5
    have hq7_v5 : v5 7 = (v 7) := hk7_v5
    have hq8_v5 : v5 8 = (v 8) := hk8_v5
    have hq9_v5 : v5 9 = (v 9) := hk9_v5
    have hq10_v5 : v5 10 = (v 10) := hk10_v5
    have hq31_v5 : v5 31 = (v 31) := hk31_v5
    have hq32_v5 : v5 32 = (v 32) := hk32_v5
    refine lv_goto (tgt := 23) hx hb dX10_out_19 rfl ?_
    exact ret r4 (v5, f6) _ _ _ _ _ _ rfl ⟨hM_v5, hA_f6, hIv5, hk0_v5, hk1_v5, hk7_v5, hk8_v5, hk9_v5, hk10_v5, hk31_v5, hk32_v5⟩ hP hD hS dX10_out_23 (Nat.le_refl _) (Nat.le_refl _)
  · skip
    subst g3
    refine lv_if_eq (tgt := 22) hx hb dX10_out_8 rfl (fun _ => ?_) (fun c0 => absurd (by decide) c0)
    refine lv_iconst (v := (-1)) hx hb dX10_out_22 rfl ?_
    exact ret (-1) (v, f) _ _ _ _ _ _ rfl ⟨hM_v, hA_f, hIv, rfl, rfl, rfl, rfl, rfl, rfl, rfl, rfl⟩ hP hD hS dX10_out_23 (Nat.le_refl _) (Nat.le_refl _)
set_option maxHeartbeats 4000000 in
set_option maxRecDepth 100000 in
theorem sX_X1_fittedMen_1 (l : Launch) (dC : Nat → ClassId) (dI : Nat → Nat → Nat) (cy : Nat → ClassId) (x0 : Nat) (x : Nat → Nat)  (v : Nat → Int32) (f : Nat → Nat → Int32) (hIv : XI v)  : ctI l (dC, dI) cy yX1_fittedMen cX1_fittedMen 3 .int 5 155 0 0 ((Nat → Int32) × (Nat → Nat → Int32)) [.ref (x 21)] (XW cy x0 x v f) (fun r u => KV [] u.1 v ∧ KF [13, 14] u.2 f ∧ XI u.1 ∧ u.1 0 = v 0 ∧ u.1 1 = v 1 ∧ u.1 7 = v 7 ∧ u.1 8 = v 8 ∧ u.1 9 = v 9 ∧ u.1 10 = v 10 ∧ u.1 31 = v 31 ∧ u.1 32 = v 32) (fun u => XW cy x0 x u.1 u.2) := by
  refine ctI_of (by decide) (Nat.le_of_ble_eq_true rfl) (fun p e s m below meth c A ls Q hx hb hml hts hown hE hP hD hA hl ret => ?_)
  have hM_v : KV [] v v := fun _ _ => rfl
  have hA_f : KF [13, 14] f f := fun _ _ => rfl
  have hown : s.vm.findClass RX1 = some m.cls := hown
  have hS : va_S A s.heap s.heap [] := va_S.rf
  have hl : lv_has ls 3 [(0, .ref (x 21))] := hl
  refine lv_iconst (v := 0) hx hb dX1_fittedMen_0 rfl ?_
  refine lv_istore_n (lv' := [(1, .int 0), (0, .ref (x 21))]) hx hb dX1_fittedMen_1 rfl hl (Nat.le_of_ble_eq_true rfl) rfl (fun ls hl => ?_)
  refine lv_iconst (v := 0) hx hb dX1_fittedMen_2 rfl ?_
  refine lv_istore_n (lv' := [(2, .int 0), (1, .int 0), (0, .ref (x 21))]) hx hb dX1_fittedMen_3 rfl hl (Nat.le_of_ble_eq_true rfl) rfl (fun ls hl => ?_)
  have lp1 : ∀ (n1 : Nat) (l1_1 : Int32) (l2_1 : Int32) (v1 : Nat → Int32) (f1 : Nat → Nat → Int32), XI v1 → v1 0 = (v 0) → v1 1 = (v 1) → v1 7 = (v 7) → v1 8 = (v 8) → v1 9 = (v 9) → v1 10 = (v 10) → v1 31 = (v 31) → v1 32 = (v 32) → ((0 : Int) ≤ l2_1.toInt ∧ l2_1.toInt ≤ 2147483647) → KV [] v1 v → KF [13, 14] f1 f → (2147483647 - l2_1.toInt).toNat < n1 → ∀ (H : Heap) (locs : List Loc) (ls : Array Slot), va_P (dC, dI) vwCl (XW cy x0 x v1 f1) H → va_D A (XW cy x0 x v1 f1) → va_S A s.heap H locs → lv_has ls 3 [(2, .int l2_1), (1, .int l1_1), (0, .ref (x 21))] → W p l e { frames := 5, cells := 0, slots := 0, locals := 155 } s m ([.ref (x 21)] : List Value).toArray below meth c H locs 0 0 Q (F0 m 4 ls []) := by
    intro n1
    induction n1 with
    | zero => intro l1_1 l2_1 v1 f1 hIv1 hq0_v1 hq1_v1 hq7_v1 hq8_v1 hq9_v1 hq10_v1 hq31_v1 hq32_v1 hr2_1 hM_v1 hA_f1 hm; exact absurd hm (Nat.not_lt_zero _)
    | succ n1 ih1 =>
      intro l1_1 l2_1 v1 f1 hIv1 hq0_v1 hq1_v1 hq7_v1 hq8_v1 hq9_v1 hq10_v1 hq31_v1 hq32_v1 hr2_1 hM_v1 hA_f1 hm1 H locs ls hP hD hS hl
      refine lv_iload_n hx hb dX1_fittedMen_4 rfl (lv_at hl 0 rfl) ?_
      refine lv_aload_n hx hb dX1_fittedMen_5 rfl (lv_at hl 2 rfl) ?_
      refine va_get (D := (dC, dI)) (ci := 1) (v := .ref (x 26)) (C := RX1) (T := TX1) (N := 2) hx hb hts inB_1 hown hE.1 hP 22 rfl rfl 0 (Nat.le_of_ble_eq_true rfl) (hts _ k_318) (fun _ h9 => h9) rfl dX1_fittedMen_6 ?_
      refine va_getN (D := (dC, dI)) (ci := 7) (v := .int (v1 31)) (C := RX7) (T := TX7) (N := 10) hx hb hts inB_7 hown hE.1 hP 27 rfl rfl 3 (Nat.le_of_ble_eq_true rfl) (va_Nw.use rfl (hE.2 _ k_219)) (fun _ h9 => h9) rfl dX1_fittedMen_9 ?_
      refine tI (y := (v 31)) hq31_v1 ?_
      have b31_v : 0 ≤ (v 31).toInt ∧ (v 31).toInt ≤ 6 := XI.b hIv 31 (by decide)
      refine lv_icmp_ge (tgt := 40) hx hb dX1_fittedMen_12 rfl (fun c2 => ?_) (fun c2 => ?_)
      · skip
        have zc2 : (v 31).toInt ≤ l2_1.toInt := by rw [fa_le] at c2; exact c2
        have rg3 := fb_rng l2_1
        have rg4 := fb_rng (v 31)
        refine lv_iload_n hx hb dX1_fittedMen_40 rfl (lv_at hl 1 rfl) ?_
        exact ret l1_1 (v1, f1) _ _ _ _ _ _ rfl ⟨hM_v1, hA_f1, hIv1, (show v1 0 = v 0 from hq0_v1), (show v1 1 = v 1 from hq1_v1), (show v1 7 = v 7 from hq7_v1), (show v1 8 = v 8 from hq8_v1), (show v1 9 = v 9 from hq9_v1), (show v1 10 = v 10 from hq10_v1), (show v1 31 = v 31 from hq31_v1), (show v1 32 = v 32 from hq32_v1)⟩ hP hD hS dX1_fittedMen_41 (Nat.le_refl _) (Nat.le_refl _)
      · skip
        have zc2 : ¬ ((v 31).toInt ≤ l2_1.toInt) := by rw [fa_le] at c2; exact c2
        have rg5 := fb_rng l2_1
        have rg6 := fb_rng (v 31)
        refine lv_aload_n hx hb dX1_fittedMen_15 rfl (lv_at hl 2 rfl) ?_
        refine lv_iload_n hx hb dX1_fittedMen_16 rfl (lv_at hl 0 rfl) ?_
        refine lv_aload_n hx hb dX1_fittedMen_17 rfl (lv_at hl 2 rfl) ?_
        refine lv_iload_n hx hb dX1_fittedMen_18 rfl (lv_at hl 0 rfl) ?_
        refine cbVi (n := 1) (rest := [.int l2_1, .ref (x 21)]) hx hb hml hown hts hE hP hD hS hA (sX_X1_wears_1 l dC dI cy x0 x l2_1 v1 f1 hIv1 ) k_853 k_810 k_811 k_106 k_812 (by decide +kernel) ⟨Nat.le_of_ble_eq_true rfl, Nat.le_of_ble_eq_true rfl⟩ 22 1 rfl rfl (rfl) hl.1 rfl (Nat.le_of_ble_eq_true rfl) dX1_fittedMen_19 (fun r7 u H locs hw hP hD hS => ?_)
        refine cbVi (n := 2) (rest := []) hx hb hml hown hts hE hP hD hS hA (sX_X1_fits_1 l dC dI cy x0 x l2_1 r7 v1 f1 hIv1 ) k_817 k_818 k_819 k_106 k_820 (by decide +kernel) ⟨Nat.le_of_ble_eq_true rfl, Nat.le_of_ble_eq_true rfl⟩ 22 1 rfl rfl (rfl) hl.1 rfl (Nat.le_of_ble_eq_true rfl) dX1_fittedMen_22 (fun r8 u H locs hw hP hD hS => ?_)
        obtain ⟨v9, f10⟩ := u
        obtain ⟨kV_v9, kF_f10, hIv9, hk0_v9, hk1_v9, hk7_v9, hk8_v9, hk9_v9, hk10_v9, hk31_v9, hk32_v9, hw⟩ := hw
        have hM_v9 : KV [] v9 v := KV.tr kV_v9 hM_v1 rfl
        have hA_f10 : KF [13, 14] f10 f := KF.tr kF_f10 hA_f1 rfl
        have hP : va_P (dC, dI) vwCl (XW cy x0 x v9 f10) H := hP
        have hD : va_D A (XW cy x0 x v9 f10) := hD
        have hq0_v9 : v9 0 = (v 0) := hk0_v9.trans hq0_v1
        have hq1_v9 : v9 1 = (v 1) := hk1_v9.trans hq1_v1
        have hq7_v9 : v9 7 = (v 7) := hk7_v9.trans hq7_v1
        have hq8_v9 : v9 8 = (v 8) := hk8_v9.trans hq8_v1
        have hq9_v9 : v9 9 = (v 9) := hk9_v9.trans hq9_v1
        have hq10_v9 : v9 10 = (v 10) := hk10_v9.trans hq10_v1
        have hq31_v9 : v9 31 = (v 31) := hk31_v9.trans hq31_v1
        have hq32_v9 : v9 32 = (v 32) := hk32_v9.trans hq32_v1
        rcases hw with ⟨g11⟩ | ⟨g11⟩
        · skip
          subst g11
          refine lv_if_eq (tgt := 34) hx hb dX1_fittedMen_25 rfl (fun c0 => absurd c0 (by decide)) (fun _ => ?_)
          refine lv_iload_n hx hb dX1_fittedMen_28 rfl (lv_at hl 1 rfl) ?_
          refine lv_iconst (v := 1) hx hb dX1_fittedMen_29 rfl ?_
          refine lv_iload_n hx hb dX1_fittedMen_30 rfl (lv_at hl 0 rfl) ?_
          refine lv_ishl hx hb dX1_fittedMen_31 ?_
          refine lv_topi (fun t12 et12 => ?_)
          have zt12 : 1 ≤ t12.toInt ∧ t12.toInt ≤ 32 := by rw [et12]; exact shl1_rng (by omega) (by omega)
          refine lv_ior hx hb dX1_fittedMen_32 ?_
          refine lv_topi (fun t13 et13 => ?_)
          refine lv_istore_n (lv' := [(1, .int t13), (2, .int l2_1), (0, .ref (x 21))]) hx hb dX1_fittedMen_33 rfl hl (Nat.le_of_ble_eq_true rfl) rfl (fun ls hl => ?_)
          obtain ⟨t14, et14⟩ : ∃ y : Int32, y = l2_1 + 1 := ⟨_, rfl⟩
          have zt14 : t14.toInt = l2_1.toInt + 1 := by rw [et14]; exact add_i rfl (by decide) (by omega) (by omega)
          refine lv_iinc (v := t14) (lv' := [(2, .int t14), (1, .int t13), (0, .ref (x 21))]) hx hb dX1_fittedMen_34 hl (k := 1) rfl (by rw [et14]; rfl) (by decide) rfl (fun ls hl => ?_)
          refine lv_goto (tgt := 4) hx hb dX1_fittedMen_37 rfl ?_
          have rg15 := fb_rng t14
          exact ih1 t13 t14 v9 f10 hIv9 hq0_v9 hq1_v9 hq7_v9 hq8_v9 hq9_v9 hq10_v9 hq31_v9 hq32_v9 ⟨show (0 : Int) ≤ t14.toInt by omega, show t14.toInt ≤ (2147483647 : Int) by omega⟩ hM_v9 hA_f10 (by show (2147483647 - t14.toInt).toNat < n1; omega) _ _ _ hP hD hS (lv_sub hl [0, 1, 2] rfl)
        · skip
          subst g11
          refine lv_if_eq (tgt := 34) hx hb dX1_fittedMen_25 rfl (fun _ => ?_) (fun c0 => absurd (by decide) c0)
          obtain ⟨t16, et16⟩ : ∃ y : Int32, y = l2_1 + 1 := ⟨_, rfl⟩
          have zt16 : t16.toInt = l2_1.toInt + 1 := by rw [et16]; exact add_i rfl (by decide) (by omega) (by omega)
          refine lv_iinc (v := t16) (lv' := [(2, .int t16), (1, .int l1_1), (0, .ref (x 21))]) hx hb dX1_fittedMen_34 hl (k := 0) rfl (by rw [et16]; rfl) (by decide) rfl (fun ls hl => ?_)
          refine lv_goto (tgt := 4) hx hb dX1_fittedMen_37 rfl ?_
          have rg17 := fb_rng t16
          exact ih1 l1_1 t16 v9 f10 hIv9 hq0_v9 hq1_v9 hq7_v9 hq8_v9 hq9_v9 hq10_v9 hq31_v9 hq32_v9 ⟨show (0 : Int) ≤ t16.toInt by omega, show t16.toInt ≤ (2147483647 : Int) by omega⟩ hM_v9 hA_f10 (by show (2147483647 - t16.toInt).toNat < n1; omega) _ _ _ hP hD hS (lv_sub hl [0, 1, 2] rfl)
  exact lp1 _ 0 0 v f hIv rfl rfl rfl rfl rfl rfl rfl rfl ⟨by decide, by decide⟩ hM_v hA_f (Nat.lt_succ_self _) _ _ _ hP hD hS (lv_sub hl [0, 1, 2] rfl)
set_option maxHeartbeats 4000000 in
set_option maxRecDepth 100000 in
theorem sX_X10_fitted_1 (l : Launch) (dC : Nat → ClassId) (dI : Nat → Nat → Nat) (cy : Nat → ClassId) (x0 : Nat) (x : Nat → Nat)  (v : Nat → Int32) (f : Nat → Nat → Int32) (hIv : XI v)  : ctI l (dC, dI) cy yX10_fitted cX10_fitted 1 .int 6 177 0 0 ((Nat → Int32) × (Nat → Nat → Int32)) [.ref x0] (XW cy x0 x v f) (fun r u => KV [] u.1 v ∧ KF [13, 14] u.2 f ∧ XI u.1 ∧ u.1 0 = v 0 ∧ u.1 1 = v 1 ∧ u.1 7 = v 7 ∧ u.1 8 = v 8 ∧ u.1 9 = v 9 ∧ u.1 10 = v 10 ∧ u.1 31 = v 31 ∧ u.1 32 = v 32) (fun u => XW cy x0 x u.1 u.2) := by
  refine ctI_of (by decide) (Nat.le_of_ble_eq_true rfl) (fun p e s m below meth c A ls Q hx hb hml hts hown hE hP hD hA hl ret => ?_)
  have hM_v : KV [] v v := fun _ _ => rfl
  have hA_f : KF [13, 14] f f := fun _ _ => rfl
  have hown : s.vm.findClass RX10 = some m.cls := hown
  have hS : va_S A s.heap s.heap [] := va_S.rf
  have hl : lv_has ls 1 [(0, .ref x0)] := hl
  refine lv_aload_n hx hb dX10_fitted_0 rfl (lv_at hl 0 rfl) ?_
  refine va_get (D := (dC, dI)) (ci := 10) (v := .ref (x 21)) (C := RX10) (T := TX10) (N := 10) hx hb hts inB_10 hown hE.1 hP 0 rfl rfl 3 (Nat.le_of_ble_eq_true rfl) (hts _ k_494) (fun _ h9 => h9) rfl dX10_fitted_1 ?_
  refine cbVi (n := 0) (rest := []) hx hb hml hown hts hE hP hD hS hA (sX_X1_fittedMen_1 l dC dI cy x0 x  v f hIv ) k_963 k_964 k_965 k_106 k_966 (by decide +kernel) ⟨Nat.le_of_ble_eq_true rfl, Nat.le_of_ble_eq_true rfl⟩ 22 1 rfl rfl (rfl) hl.1 rfl (Nat.le_of_ble_eq_true rfl) dX10_fitted_4 (fun r1 u H locs hw hP hD hS => ?_)
  obtain ⟨v2, f3⟩ := u
  obtain ⟨kV_v2, kF_f3, hIv2, hk0_v2, hk1_v2, hk7_v2, hk8_v2, hk9_v2, hk10_v2, hk31_v2, hk32_v2⟩ := hw
  have hM_v2 : KV [] v2 v := KV.tr kV_v2 hM_v rfl
  have hA_f3 : KF [13, 14] f3 f := KF.tr kF_f3 hA_f rfl
  have hP : va_P (dC, dI) vwCl (XW cy x0 x v2 f3) H := hP
  have hD : va_D A (XW cy x0 x v2 f3) := hD
  have hq0_v2 : v2 0 = (v 0) := hk0_v2
  have hq1_v2 : v2 1 = (v 1) := hk1_v2
  have hq7_v2 : v2 7 = (v 7) := hk7_v2
  have hq8_v2 : v2 8 = (v 8) := hk8_v2
  have hq9_v2 : v2 9 = (v 9) := hk9_v2
  have hq10_v2 : v2 10 = (v 10) := hk10_v2
  have hq31_v2 : v2 31 = (v 31) := hk31_v2
  have hq32_v2 : v2 32 = (v 32) := hk32_v2
  exact ret r1 (v2, f3) _ _ _ _ _ _ rfl ⟨hM_v2, hA_f3, hIv2, hk0_v2, hk1_v2, hk7_v2, hk8_v2, hk9_v2, hk10_v2, hk31_v2, hk32_v2⟩ hP hD hS dX10_fitted_7 (Nat.le_refl _) (Nat.le_refl _)
set_option maxHeartbeats 4000000 in
set_option maxRecDepth 100000 in
theorem sX_X0_reckonGains_1 (l : Launch) (dC : Nat → ClassId) (dI : Nat → Nat → Nat) (cy : Nat → ClassId) (x0 : Nat) (x : Nat → Nat)  (v : Nat → Int32) (f : Nat → Nat → Int32) (hIv : XI v)  : ctV l (dC, dI) cy yX0_reckonGains cX0_reckonGains 4 4 133 0 0 ((Nat → Int32) × (Nat → Nat → Int32)) [.ref (x 31)] (XW cy x0 x v f) (fun u => KV [] u.1 v ∧ KF [13, 14, 22] u.2 f ∧ XI u.1 ∧ u.1 0 = v 0 ∧ u.1 1 = v 1 ∧ u.1 7 = v 7 ∧ u.1 8 = v 8 ∧ u.1 9 = v 9 ∧ u.1 10 = v 10 ∧ u.1 31 = v 31 ∧ u.1 32 = v 32) (fun u => XW cy x0 x u.1 u.2) := by
  refine ctV_of (by decide) (Nat.le_of_ble_eq_true rfl) (fun p e s m below meth c A ls Q hx hb hml hts hown hnm hE hP hD hA hl ret => ?_)
  have hM_v : KV [] v v := fun _ _ => rfl
  have hA_f : KF [13, 14, 22] f f := fun _ _ => rfl
  have hown : s.vm.findClass RX0 = some m.cls := hown
  have hS : va_S A s.heap s.heap [] := va_S.rf
  have hl : lv_has ls 4 [(0, .ref (x 31))] := hl
  refine lv_iconst (v := 0) hx hb dX0_reckonGains_0 rfl ?_
  refine lv_istore_n (lv' := [(1, .int 0), (0, .ref (x 31))]) hx hb dX0_reckonGains_1 rfl hl (Nat.le_of_ble_eq_true rfl) rfl (fun ls hl => ?_)
  have lp1 : ∀ (n1 : Nat) (l1_1 : Int32) (v1 : Nat → Int32) (f1 : Nat → Nat → Int32), XI v1 → v1 0 = (v 0) → v1 1 = (v 1) → v1 7 = (v 7) → v1 8 = (v 8) → v1 9 = (v 9) → v1 10 = (v 10) → v1 31 = (v 31) → v1 32 = (v 32) → ((0 : Int) ≤ l1_1.toInt ∧ l1_1.toInt ≤ 2147483647) → KV [] v1 v → KF [13, 14, 22] f1 f → (2147483647 - l1_1.toInt).toNat < n1 → ∀ (H : Heap) (locs : List Loc) (ls : Array Slot), va_P (dC, dI) vwCl (XW cy x0 x v1 f1) H → va_D A (XW cy x0 x v1 f1) → va_S A s.heap H locs → lv_has ls 4 [(1, .int l1_1), (0, .ref (x 31))] → W p l e { frames := 4, cells := 0, slots := 0, locals := 133 } s m ([.ref (x 31)] : List Value).toArray below meth c H locs 0 0 Q (F0 m 2 ls []) := by
    intro n1
    induction n1 with
    | zero => intro l1_1 v1 f1 hIv1 hq0_v1 hq1_v1 hq7_v1 hq8_v1 hq9_v1 hq10_v1 hq31_v1 hq32_v1 hr1_1 hM_v1 hA_f1 hm; exact absurd hm (Nat.not_lt_zero _)
    | succ n1 ih1 =>
      intro l1_1 v1 f1 hIv1 hq0_v1 hq1_v1 hq7_v1 hq8_v1 hq9_v1 hq10_v1 hq31_v1 hq32_v1 hr1_1 hM_v1 hA_f1 hm1 H locs ls hP hD hS hl
      refine lv_iload_n hx hb dX0_reckonGains_2 rfl (lv_at hl 0 rfl) ?_
      refine lv_aload_n hx hb dX0_reckonGains_3 rfl (lv_at hl 1 rfl) ?_
      refine va_get (D := (dC, dI)) (ci := 0) (v := .ref (x 26)) (C := RX0) (T := TX0) (N := 8) hx hb hts inB_0 hown hE.1 hP 32 rfl rfl 0 (Nat.le_of_ble_eq_true rfl) (hts _ k_430) (fun _ h9 => h9) rfl dX0_reckonGains_4 ?_
      refine va_getN (D := (dC, dI)) (ci := 7) (v := .int (v1 31)) (C := RX7) (T := TX7) (N := 10) hx hb hts inB_7 hown hE.1 hP 27 rfl rfl 3 (Nat.le_of_ble_eq_true rfl) (va_Nw.use rfl (hE.2 _ k_216)) (fun _ h9 => h9) rfl dX0_reckonGains_7 ?_
      refine tI (y := (v 31)) hq31_v1 ?_
      have b31_v : 0 ≤ (v 31).toInt ∧ (v 31).toInt ≤ 6 := XI.b hIv 31 (by decide)
      refine lv_icmp_ge (tgt := 79) hx hb dX0_reckonGains_10 rfl (fun c2 => ?_) (fun c2 => ?_)
      · skip
        have zc2 : (v 31).toInt ≤ l1_1.toInt := by rw [fa_le] at c2; exact c2
        have rg3 := fb_rng l1_1
        have rg4 := fb_rng (v 31)
        exact ret (v1, f1) _ _ _ _ _ _ ⟨hM_v1, hA_f1, hIv1, (show v1 0 = v 0 from hq0_v1), (show v1 1 = v 1 from hq1_v1), (show v1 7 = v 7 from hq7_v1), (show v1 8 = v 8 from hq8_v1), (show v1 9 = v 9 from hq9_v1), (show v1 10 = v 10 from hq10_v1), (show v1 31 = v 31 from hq31_v1), (show v1 32 = v 32 from hq32_v1)⟩ hP hD hS dX0_reckonGains_79 (Nat.le_refl _) (Nat.le_refl _)
      · skip
        have zc2 : ¬ ((v 31).toInt ≤ l1_1.toInt) := by rw [fa_le] at c2; exact c2
        have rg5 := fb_rng l1_1
        have rg6 := fb_rng (v 31)
        refine lv_iconst (v := 0) hx hb dX0_reckonGains_13 rfl ?_
        refine lv_istore_n (lv' := [(2, .int 0), (1, .int l1_1), (0, .ref (x 31))]) hx hb dX0_reckonGains_14 rfl hl (Nat.le_of_ble_eq_true rfl) rfl (fun ls hl => ?_)
        have lp7 : ∀ (n7 : Nat) (l2_7 : Int32) (v7 : Nat → Int32) (f7 : Nat → Nat → Int32), XI v7 → v7 0 = (v 0) → v7 1 = (v 1) → v7 7 = (v 7) → v7 8 = (v 8) → v7 9 = (v 9) → v7 10 = (v 10) → v7 31 = (v 31) → v7 32 = (v 32) → ((0 : Int) ≤ l2_7.toInt ∧ l2_7.toInt ≤ 2147483647) → KV [] v7 v → KF [13, 14, 22] f7 f → (2147483647 - l2_7.toInt).toNat < n7 → ∀ (H : Heap) (locs : List Loc) (ls : Array Slot), va_P (dC, dI) vwCl (XW cy x0 x v7 f7) H → va_D A (XW cy x0 x v7 f7) → va_S A s.heap H locs → lv_has ls 4 [(2, .int l2_7), (1, .int l1_1), (0, .ref (x 31))] → W p l e { frames := 4, cells := 0, slots := 0, locals := 133 } s m ([.ref (x 31)] : List Value).toArray below meth c H locs 0 0 Q (F0 m 15 ls []) := by
          intro n7
          induction n7 with
          | zero => intro l2_7 v7 f7 hIv7 hq0_v7 hq1_v7 hq7_v7 hq8_v7 hq9_v7 hq10_v7 hq31_v7 hq32_v7 hr2_7 hM_v7 hA_f7 hm; exact absurd hm (Nat.not_lt_zero _)
          | succ n7 ih7 =>
            intro l2_7 v7 f7 hIv7 hq0_v7 hq1_v7 hq7_v7 hq8_v7 hq9_v7 hq10_v7 hq31_v7 hq32_v7 hr2_7 hM_v7 hA_f7 hm7 H locs ls hP hD hS hl
            refine lv_iload_n hx hb dX0_reckonGains_15 rfl (lv_at hl 0 rfl) ?_
            refine lv_aload_n hx hb dX0_reckonGains_16 rfl (lv_at hl 2 rfl) ?_
            refine va_get (D := (dC, dI)) (ci := 0) (v := .ref (x 26)) (C := RX0) (T := TX0) (N := 8) hx hb hts inB_0 hown hE.1 hP 32 rfl rfl 0 (Nat.le_of_ble_eq_true rfl) (hts _ k_430) (fun _ h9 => h9) rfl dX0_reckonGains_17 ?_
            refine va_getN (D := (dC, dI)) (ci := 7) (v := .int (v7 32)) (C := RX7) (T := TX7) (N := 10) hx hb hts inB_7 hown hE.1 hP 27 rfl rfl 4 (Nat.le_of_ble_eq_true rfl) (va_Nw.use rfl (hE.2 _ k_222)) (fun _ h9 => h9) rfl dX0_reckonGains_20 ?_
            refine tI (y := (v 32)) hq32_v7 ?_
            have b32_v : 0 ≤ (v 32).toInt ∧ (v 32).toInt ≤ 6 := XI.b hIv 32 (by decide)
            refine lv_icmp_ge (tgt := 73) hx hb dX0_reckonGains_23 rfl (fun c8 => ?_) (fun c8 => ?_)
            · skip
              have zc8 : (v 32).toInt ≤ l2_7.toInt := by rw [fa_le] at c8; exact c8
              have rg9 := fb_rng l2_7
              have rg10 := fb_rng (v 32)
              obtain ⟨t11, et11⟩ : ∃ y : Int32, y = l1_1 + 1 := ⟨_, rfl⟩
              have zt11 : t11.toInt = l1_1.toInt + 1 := by rw [et11]; exact add_i rfl (by decide) (by omega) (by omega)
              refine lv_iinc (v := t11) (lv' := [(1, .int t11), (2, .int l2_7), (0, .ref (x 31))]) hx hb dX0_reckonGains_73 hl (k := 1) rfl (by rw [et11]; rfl) (by decide) rfl (fun ls hl => ?_)
              refine lv_goto (tgt := 2) hx hb dX0_reckonGains_76 rfl ?_
              have rg12 := fb_rng t11
              exact ih1 t11 v7 f7 hIv7 hq0_v7 hq1_v7 hq7_v7 hq8_v7 hq9_v7 hq10_v7 hq31_v7 hq32_v7 ⟨show (0 : Int) ≤ t11.toInt by omega, show t11.toInt ≤ (2147483647 : Int) by omega⟩ hM_v7 hA_f7 (by show (2147483647 - t11.toInt).toNat < n1; omega) _ _ _ hP hD hS (lv_sub hl [0, 2] rfl)
            · skip
              have zc8 : ¬ ((v 32).toInt ≤ l2_7.toInt) := by rw [fa_le] at c8; exact c8
              have rg13 := fb_rng l2_7
              have rg14 := fb_rng (v 32)
              refine lv_aload_n hx hb dX0_reckonGains_26 rfl (lv_at hl 2 rfl) ?_
              refine va_get (D := (dC, dI)) (ci := 0) (v := .ref (x 21)) (C := RX0) (T := TX0) (N := 8) hx hb hts inB_0 hown hE.1 hP 32 rfl rfl 1 (Nat.le_of_ble_eq_true rfl) (hts _ k_431) (fun _ h9 => h9) rfl dX0_reckonGains_27 ?_
              refine lv_iload_n hx hb dX0_reckonGains_30 rfl (lv_at hl 1 rfl) ?_
              refine lv_iload_n hx hb dX0_reckonGains_31 rfl (lv_at hl 0 rfl) ?_
              refine cbVi (n := 2) (rest := []) hx hb hml hown hts hE hP hD hS hA (sX_X1_illness_1 l dC dI cy x0 x l1_1 l2_7 v7 f7 hIv7 ) k_979 k_823 k_824 k_106 k_825 (by decide +kernel) ⟨Nat.le_of_ble_eq_true rfl, Nat.le_of_ble_eq_true rfl⟩ 22 1 rfl rfl (rfl) hl.1 rfl (Nat.le_of_ble_eq_true rfl) dX0_reckonGains_32 (fun r15 u H locs hw hP hD hS => ?_)
              obtain ⟨v16, f17⟩ := u
              obtain ⟨kV_v16, kF_f17, hIv16, hk0_v16, hk1_v16, hk7_v16, hk8_v16, hk9_v16, hk10_v16, hk31_v16, hk32_v16⟩ := hw
              have hM_v16 : KV [] v16 v := KV.tr kV_v16 hM_v7 rfl
              have hA_f17 : KF [13, 14, 22] f17 f := KF.tr kF_f17 hA_f7 rfl
              have hP : va_P (dC, dI) vwCl (XW cy x0 x v16 f17) H := hP
              have hD : va_D A (XW cy x0 x v16 f17) := hD
              have hq0_v16 : v16 0 = (v 0) := hk0_v16.trans hq0_v7
              have hq1_v16 : v16 1 = (v 1) := hk1_v16.trans hq1_v7
              have hq7_v16 : v16 7 = (v 7) := hk7_v16.trans hq7_v7
              have hq8_v16 : v16 8 = (v 8) := hk8_v16.trans hq8_v7
              have hq9_v16 : v16 9 = (v 9) := hk9_v16.trans hq9_v7
              have hq10_v16 : v16 10 = (v 10) := hk10_v16.trans hq10_v7
              have hq31_v16 : v16 31 = (v 31) := hk31_v16.trans hq31_v7
              have hq32_v16 : v16 32 = (v 32) := hk32_v16.trans hq32_v7
              refine lv_istore_n (lv' := [(3, .int r15), (2, .int l2_7), (1, .int l1_1), (0, .ref (x 31))]) hx hb dX0_reckonGains_35 rfl hl (Nat.le_of_ble_eq_true rfl) rfl (fun ls hl => ?_)
              refine lv_aload_n hx hb dX0_reckonGains_36 rfl (lv_at hl 3 rfl) ?_
              refine va_get (D := (dC, dI)) (ci := 0) (v := .ref (x 34)) (C := RX0) (T := TX0) (N := 8) hx hb hts inB_0 hown hE.1 hP 32 rfl rfl 5 (Nat.le_of_ble_eq_true rfl) (hts _ k_436) (fun _ h9 => h9) rfl dX0_reckonGains_37 ?_
              refine lv_iload_n hx hb dX0_reckonGains_40 rfl (lv_at hl 2 rfl) ?_
              refine lv_bipush (v := 6) hx hb dX0_reckonGains_41 rfl ?_
              refine lv_imul hx hb dX0_reckonGains_43 ?_
              refine lv_topi (fun t18 et18 => ?_)
              have zt18 : t18.toInt = l1_1.toInt * 6 := by rw [et18]; exact mul_i rfl (by decide) (by omega) (by omega)
              refine lv_iload_n hx hb dX0_reckonGains_44 rfl (lv_at hl 1 rfl) ?_
              refine lv_iadd hx hb dX0_reckonGains_45 ?_
              refine lv_topi (fun t19 et19 => ?_)
              have rg20 := fb_rng t18
              have zt19 : t19.toInt = t18.toInt + l2_7.toInt := by rw [et19]; exact add_i rfl rfl (by omega) (by omega)
              refine lv_iload_n hx hb dX0_reckonGains_46 rfl (lv_at hl 0 rfl) ?_
              refine lv_aload_n hx hb dX0_reckonGains_47 rfl (lv_at hl 3 rfl) ?_
              refine va_get (D := (dC, dI)) (ci := 0) (v := .ref (x 26)) (C := RX0) (T := TX0) (N := 8) hx hb hts inB_0 hown hE.1 hP 32 rfl rfl 0 (Nat.le_of_ble_eq_true rfl) (hts _ k_430) (fun _ h9 => h9) rfl dX0_reckonGains_48 ?_
              refine va_getN (D := (dC, dI)) (ci := 7) (v := .int (v16 33)) (C := RX7) (T := TX7) (N := 10) hx hb hts inB_7 hown hE.1 hP 27 rfl rfl 5 (Nat.le_of_ble_eq_true rfl) (va_Nw.use rfl (hE.2 _ k_229)) (fun _ h9 => h9) rfl dX0_reckonGains_51 ?_
              refine lv_icmp_gt (tgt := 65) hx hb dX0_reckonGains_54 rfl (fun c21 => ?_) (fun c21 => ?_)
              · skip
                have zc21 : (v16 33).toInt < r15.toInt := by rw [fa_lt] at c21; exact c21
                have rg22 := fb_rng r15
                have rg23 := fb_rng (v16 33)
                refine lv_iconst (v := (-1)) hx hb dX0_reckonGains_65 rfl ?_
                refine stI hx hb hE hP hD hS 35 rfl (vp_in_iff.mpr ⟨by omega, by omega⟩) rfl dX0_reckonGains_66 (fun H locs hP hD hS => ?_)
                obtain ⟨f24, ef24, hP, hD⟩ : ∃ fz9, fz9 = upd2 f17 22 (upd (f17 22) t19.toNatClampNeg (-1)) ∧ va_P (dC, dI) vwCl (XW cy x0 x v16 fz9) H ∧ va_D A (XW cy x0 x v16 fz9) := ⟨_, rfl, hP, hD⟩
                have hA_f24 : KF [13, 14, 22] f24 f := by rw [ef24]; exact KF.up hA_f17 rfl
                obtain ⟨t25, et25⟩ : ∃ y : Int32, y = l2_7 + 1 := ⟨_, rfl⟩
                have zt25 : t25.toInt = l2_7.toInt + 1 := by rw [et25]; exact add_i rfl (by decide) (by omega) (by omega)
                refine lv_iinc (v := t25) (lv' := [(2, .int t25), (3, .int r15), (1, .int l1_1), (0, .ref (x 31))]) hx hb dX0_reckonGains_67 hl (k := 1) rfl (by rw [et25]; rfl) (by decide) rfl (fun ls hl => ?_)
                refine lv_goto (tgt := 15) hx hb dX0_reckonGains_70 rfl ?_
                have rg26 := fb_rng t25
                exact ih7 t25 v16 f24 hIv16 hq0_v16 hq1_v16 hq7_v16 hq8_v16 hq9_v16 hq10_v16 hq31_v16 hq32_v16 ⟨show (0 : Int) ≤ t25.toInt by omega, show t25.toInt ≤ (2147483647 : Int) by omega⟩ hM_v16 hA_f24 (by show (2147483647 - t25.toInt).toNat < n7; omega) _ _ _ hP hD hS (lv_sub hl [0, 2, 3] rfl)
              · skip
                have zc21 : ¬ ((v16 33).toInt < r15.toInt) := by rw [fa_lt] at c21; exact c21
                have rg27 := fb_rng r15
                have rg28 := fb_rng (v16 33)
                refine lv_sipush (v := 10000) hx hb dX0_reckonGains_57 rfl ?_
                refine lv_iload_n hx hb dX0_reckonGains_60 rfl (lv_at hl 0 rfl) ?_
                refine lv_isub hx hb dX0_reckonGains_61 ?_
                refine lv_topi (fun t29 et29 => ?_)
                refine lv_goto (tgt := 66) hx hb dX0_reckonGains_62 rfl ?_
                refine stI hx hb hE hP hD hS 35 rfl (vp_in_iff.mpr ⟨by omega, by omega⟩) rfl dX0_reckonGains_66 (fun H locs hP hD hS => ?_)
                obtain ⟨f30, ef30, hP, hD⟩ : ∃ fz9, fz9 = upd2 f17 22 (upd (f17 22) t19.toNatClampNeg t29) ∧ va_P (dC, dI) vwCl (XW cy x0 x v16 fz9) H ∧ va_D A (XW cy x0 x v16 fz9) := ⟨_, rfl, hP, hD⟩
                have hA_f30 : KF [13, 14, 22] f30 f := by rw [ef30]; exact KF.up hA_f17 rfl
                obtain ⟨t31, et31⟩ : ∃ y : Int32, y = l2_7 + 1 := ⟨_, rfl⟩
                have zt31 : t31.toInt = l2_7.toInt + 1 := by rw [et31]; exact add_i rfl (by decide) (by omega) (by omega)
                refine lv_iinc (v := t31) (lv' := [(2, .int t31), (3, .int r15), (1, .int l1_1), (0, .ref (x 31))]) hx hb dX0_reckonGains_67 hl (k := 1) rfl (by rw [et31]; rfl) (by decide) rfl (fun ls hl => ?_)
                refine lv_goto (tgt := 15) hx hb dX0_reckonGains_70 rfl ?_
                have rg32 := fb_rng t31
                exact ih7 t31 v16 f30 hIv16 hq0_v16 hq1_v16 hq7_v16 hq8_v16 hq9_v16 hq10_v16 hq31_v16 hq32_v16 ⟨show (0 : Int) ≤ t31.toInt by omega, show t31.toInt ≤ (2147483647 : Int) by omega⟩ hM_v16 hA_f30 (by show (2147483647 - t31.toInt).toNat < n7; omega) _ _ _ hP hD hS (lv_sub hl [0, 2, 3] rfl)
        exact lp7 _ 0 v1 f1 hIv1 hq0_v1 hq1_v1 hq7_v1 hq8_v1 hq9_v1 hq10_v1 hq31_v1 hq32_v1 ⟨by decide, by decide⟩ hM_v1 hA_f1 (Nat.lt_succ_self _) _ _ _ hP hD hS (lv_sub hl [0, 1, 2] rfl)
  exact lp1 _ 0 v f hIv rfl rfl rfl rfl rfl rfl rfl rfl ⟨by decide, by decide⟩ hM_v hA_f (Nat.lt_succ_self _) _ _ _ hP hD hS (lv_sub hl [0, 1] rfl)
def gsX_J7_fill_53178_2_L1 (NF : Nat) (p1 : Int32) : Nat → (Int32) → (Nat → Int32) → (Nat → Nat → Int32) → (Nat → Int32) × (Nat → Nat → Int32)
  | 0, _, _, _ => ((fun _ => 0), (fun _ _ => 0))
  | n1 + 1, l2_1, v1, f1 =>
    if 448 ≤ l2_1 then
      (v1, f1)
    else
      let f3 : Nat → Nat → Int32 := upd2 f1 21 (upd (f1 21) l2_1.toNatClampNeg p1)
      let t4 : Int32 := l2_1 + 1
      gsX_J7_fill_53178_2_L1 NF p1 n1 t4 v1 f3
def gsX_J7_fill_53178_2 (NF : Nat) (p1 : Int32) (v : Nat → Int32) (f : Nat → Nat → Int32) : (Nat → Int32) × (Nat → Nat → Int32) :=
  gsX_J7_fill_53178_2_L1 NF p1 (4294967296 + NF) 0 v f
theorem gsX_J7_fill_53178_2_q2 {NF : Nat} {p1 : Int32} {v : Nat → Int32} {f : Nat → Nat → Int32}  : gsX_J7_fill_53178_2 NF p1 v f = gsX_J7_fill_53178_2_L1 NF p1 (4294967296 + NF) 0 v f := by
  simp only [gsX_J7_fill_53178_2]
theorem gsX_J7_fill_53178_2_q0 {NF : Nat} {p1 : Int32} {n1 : Nat} {l2_1 : Int32} {v1 : Nat → Int32} {f1 : Nat → Nat → Int32} (h0 : (448 ≤ l2_1)) : gsX_J7_fill_53178_2_L1 NF p1 (n1 + 1) l2_1 v1 f1 = (v1, f1) := by
  simp only [gsX_J7_fill_53178_2_L1, if_pos h0]
theorem gsX_J7_fill_53178_2_q1 {NF : Nat} {p1 : Int32} {n1 : Nat} {l2_1 : Int32} {v1 : Nat → Int32} {f1 : Nat → Nat → Int32} {f3 : Nat → Nat → Int32} {t4 : Int32} (h0 : ¬ (448 ≤ l2_1)) (h1 : f3 = upd2 f1 21 (upd (f1 21) l2_1.toNatClampNeg p1)) (h2 : t4 = l2_1 + 1) : gsX_J7_fill_53178_2_L1 NF p1 (n1 + 1) l2_1 v1 f1 = gsX_J7_fill_53178_2_L1 NF p1 n1 t4 v1 f3 := by
  subst h1 h2
  simp only [gsX_J7_fill_53178_2_L1, if_neg h0]
set_option maxHeartbeats 4000000 in
set_option maxRecDepth 100000 in
theorem sX_J7_fill_53178_2 (NF : Nat) (l : Launch) (dC : Nat → ClassId) (dI : Nat → Nat → Nat) (cy : Nat → ClassId) (x0 : Nat) (x : Nat → Nat) (p1 : Int32) (v : Nat → Int32) (f : Nat → Nat → Int32) (hIv : XI v)  : ctV l (dC, dI) cy yJ7_fill_53178 cJ7_fill_53178 4 1 60 0 0 ((Nat → Int32) × (Nat → Nat → Int32)) [.ref (x 33), .int p1] (XW cy x0 x v f) (fun u => gsX_J7_fill_53178_2 NF p1 v f = u ∧ KV [] u.1 v ∧ KF [21] u.2 f ∧ XI u.1 ∧ u.1 0 = v 0 ∧ u.1 1 = v 1 ∧ u.1 7 = v 7 ∧ u.1 8 = v 8 ∧ u.1 9 = v 9 ∧ u.1 10 = v 10 ∧ u.1 31 = v 31 ∧ u.1 32 = v 32) (fun u => XW cy x0 x u.1 u.2) := by
  refine ctV_of (by decide) (Nat.le_of_ble_eq_true rfl) (fun p e s m below meth c A ls Q hx hb hml hts hown hnm hE hP hD hA hl ret => ?_)
  have hM_v : KV [] v v := fun _ _ => rfl
  have hA_f : KF [21] f f := fun _ _ => rfl
  have hown : s.vm.findClass RJ7 = some m.cls := hown
  have hS : va_S A s.heap s.heap [] := va_S.rf
  have hl : lv_has ls 4 [(0, .ref (x 33)), (1, .int p1)] := hl
  refine lv_iconst (v := 0) hx hb dJ7_fill_53178_0 rfl ?_
  refine lv_istore_n (lv' := [(2, .int 0), (0, .ref (x 33)), (1, .int p1)]) hx hb dJ7_fill_53178_1 rfl hl (Nat.le_of_ble_eq_true rfl) rfl (fun ls hl => ?_)
  refine lv_aload_n hx hb dJ7_fill_53178_2 rfl (lv_at hl 1 rfl) ?_
  refine va_alen (v := 448) hx hb hE.1 hP 34 1 rfl rfl rfl dJ7_fill_53178_3 ?_
  refine lv_istore_n (lv' := [(3, .int 448), (2, .int 0), (0, .ref (x 33)), (1, .int p1)]) hx hb dJ7_fill_53178_4 rfl hl (Nat.le_of_ble_eq_true rfl) rfl (fun ls hl => ?_)
  have lp1 : ∀ (n1 : Nat) (l2_1 : Int32) (v1 : Nat → Int32) (f1 : Nat → Nat → Int32), XI v1 → v1 0 = (v 0) → v1 1 = (v 1) → v1 7 = (v 7) → v1 8 = (v 8) → v1 9 = (v 9) → v1 10 = (v 10) → v1 31 = (v 31) → v1 32 = (v 32) → gsX_J7_fill_53178_2_L1 NF p1 n1 l2_1 v1 f1 = (gsX_J7_fill_53178_2 NF p1 v f) → ((0 : Int) ≤ l2_1.toInt ∧ l2_1.toInt ≤ 2147483647) → KV [] v1 v → KF [21] f1 f → (2147483647 - l2_1.toInt).toNat < n1 → ∀ (H : Heap) (locs : List Loc) (ls : Array Slot), va_P (dC, dI) vwCl (XW cy x0 x v1 f1) H → va_D A (XW cy x0 x v1 f1) → va_S A s.heap H locs → lv_has ls 4 [(3, .int 448), (2, .int l2_1), (0, .ref (x 33)), (1, .int p1)] → W p l e { frames := 1, cells := 0, slots := 0, locals := 60 } s m ([.ref (x 33), .int p1] : List Value).toArray below meth c H locs 0 0 Q (F0 m 5 ls []) := by
    intro n1
    induction n1 with
    | zero => intro l2_1 v1 f1 hIv1 hq0_v1 hq1_v1 hq7_v1 hq8_v1 hq9_v1 hq10_v1 hq31_v1 hq32_v1 hT1 hr2_1 hM_v1 hA_f1 hm; exact absurd hm (Nat.not_lt_zero _)
    | succ n1 ih1 =>
      intro l2_1 v1 f1 hIv1 hq0_v1 hq1_v1 hq7_v1 hq8_v1 hq9_v1 hq10_v1 hq31_v1 hq32_v1 hT1 hr2_1 hM_v1 hA_f1 hm1 H locs ls hP hD hS hl
      refine lv_iload_n hx hb dJ7_fill_53178_5 rfl (lv_at hl 1 rfl) ?_
      refine lv_iload_n hx hb dJ7_fill_53178_6 rfl (lv_at hl 0 rfl) ?_
      refine lv_icmp_ge (tgt := 20) hx hb dJ7_fill_53178_7 rfl (fun c2 => ?_) (fun c2 => ?_)
      · skip
        have zc2 : 448 ≤ l2_1.toInt := by rw [fa_le, show (448 : Int32).toInt = 448 from by decide] at c2; exact c2
        exact ret (v1, f1) _ _ _ _ _ _ ⟨(hT1.symm.trans (gsX_J7_fill_53178_2_q0 c2)), hM_v1, hA_f1, hIv1, (show v1 0 = v 0 from hq0_v1), (show v1 1 = v 1 from hq1_v1), (show v1 7 = v 7 from hq7_v1), (show v1 8 = v 8 from hq8_v1), (show v1 9 = v 9 from hq9_v1), (show v1 10 = v 10 from hq10_v1), (show v1 31 = v 31 from hq31_v1), (show v1 32 = v 32 from hq32_v1)⟩ hP hD hS dJ7_fill_53178_20 (Nat.le_refl _) (Nat.le_refl _)
      · skip
        have zc2 : ¬ (448 ≤ l2_1.toInt) := by rw [fa_le, show (448 : Int32).toInt = 448 from by decide] at c2; exact c2
        refine lv_aload_n hx hb dJ7_fill_53178_10 rfl (lv_at hl 2 rfl) ?_
        refine lv_iload_n hx hb dJ7_fill_53178_11 rfl (lv_at hl 1 rfl) ?_
        refine lv_iload_n hx hb dJ7_fill_53178_12 rfl (lv_at hl 3 rfl) ?_
        refine stI hx hb hE hP hD hS 34 rfl (vp_in_iff.mpr ⟨by omega, by omega⟩) rfl dJ7_fill_53178_13 (fun H locs hP hD hS => ?_)
        obtain ⟨f3, ef3, hP, hD⟩ : ∃ fz9, fz9 = upd2 f1 21 (upd (f1 21) l2_1.toNatClampNeg p1) ∧ va_P (dC, dI) vwCl (XW cy x0 x v1 fz9) H ∧ va_D A (XW cy x0 x v1 fz9) := ⟨_, rfl, hP, hD⟩
        have hA_f3 : KF [21] f3 f := by rw [ef3]; exact KF.up hA_f1 rfl
        obtain ⟨t4, et4⟩ : ∃ y : Int32, y = l2_1 + 1 := ⟨_, rfl⟩
        have rg5 := fb_rng l2_1
        have zt4 : t4.toInt = l2_1.toInt + 1 := by rw [et4]; exact add_i rfl (by decide) (by omega) (by omega)
        refine lv_iinc (v := t4) (lv' := [(2, .int t4), (3, .int 448), (0, .ref (x 33)), (1, .int p1)]) hx hb dJ7_fill_53178_14 hl (k := 1) rfl (by rw [et4]; rfl) (by decide) rfl (fun ls hl => ?_)
        refine lv_goto (tgt := 5) hx hb dJ7_fill_53178_17 rfl ?_
        have rg6 := fb_rng t4
        exact ih1 t4 v1 f3 hIv1 hq0_v1 hq1_v1 hq7_v1 hq8_v1 hq9_v1 hq10_v1 hq31_v1 hq32_v1 ((gsX_J7_fill_53178_2_q1 c2 ef3 et4).symm.trans hT1) ⟨show (0 : Int) ≤ t4.toInt by omega, show t4.toInt ≤ (2147483647 : Int) by omega⟩ hM_v1 hA_f3 (by show (2147483647 - t4.toInt).toNat < n1; omega) _ _ _ hP hD hS (lv_sub hl [1, 0, 2, 3] rfl)
  exact lp1 (4294967296 + NF) 0 v f hIv rfl rfl rfl rfl rfl rfl rfl rfl gsX_J7_fill_53178_2_q2.symm ⟨by decide, by decide⟩ hM_v hA_f (by have q3 : (448 : Int32).toInt = 448 := (by decide); have q2 : (0 : Int32).toInt = 0 := (by decide); show (2147483647 - (0 : Int32).toInt).toNat < 4294967296 + NF; omega) _ _ _ hP hD hS (lv_sub hl [0, 1, 2, 3] rfl)
set_option maxHeartbeats 4000000 in
set_option maxRecDepth 100000 in
theorem sX_X0_worthOf_1 (l : Launch) (dC : Nat → ClassId) (dI : Nat → Nat → Nat) (cy : Nat → ClassId) (x0 : Nat) (x : Nat → Nat) (p1 : Int32) (p2 : Int32) (p3 : Int32) (v : Nat → Int32) (f : Nat → Nat → Int32) (hIv : XI v) (hp1 : (0 : Int) ≤ p1.toInt ∧ p1.toInt ≤ 5) (hp2 : (0 : Int) ≤ p2.toInt ∧ p2.toInt ≤ 5) (hp3 : (0 : Int) ≤ p3.toInt ∧ p3.toInt ≤ 63) : ctI l (dC, dI) cy yX0_worthOf cX0_worthOf 5 .int 1 60 0 0 Unit [.ref (x 31), .int p1, .int p2, .int p3] (XW cy x0 x v f) (fun r u => True) (fun u => XW cy x0 x v f) := by
  refine ctI_of (by decide) (Nat.le_of_ble_eq_true rfl) (fun p e s m below meth c A ls Q hx hb hml hts hown hE hP hD hA hl ret => ?_)
  have hown : s.vm.findClass RX0 = some m.cls := hown
  have hS : va_S A s.heap s.heap [] := va_S.rf
  have hl : lv_has ls 5 [(0, .ref (x 31)), (1, .int p1), (2, .int p2), (3, .int p3)] := hl
  refine lv_aload_n hx hb dX0_worthOf_0 rfl (lv_at hl 0 rfl) ?_
  refine va_get (D := (dC, dI)) (ci := 0) (v := .ref (x 34)) (C := RX0) (T := TX0) (N := 8) hx hb hts inB_0 hown hE.1 hP 32 rfl rfl 5 (Nat.le_of_ble_eq_true rfl) (hts _ k_436) (fun _ h9 => h9) rfl dX0_worthOf_1 ?_
  refine lv_iload_n hx hb dX0_worthOf_4 rfl (lv_at hl 1 rfl) ?_
  refine lv_bipush (v := 6) hx hb dX0_worthOf_5 rfl ?_
  refine lv_imul hx hb dX0_worthOf_7 ?_
  refine lv_topi (fun t1 et1 => ?_)
  have rg2 := fb_rng p1
  have zt1 : t1.toInt = p1.toInt * 6 := by rw [et1]; exact mul_i rfl (by decide) (by omega) (by omega)
  refine lv_iload_n hx hb dX0_worthOf_8 rfl (lv_at hl 2 rfl) ?_
  refine lv_iadd hx hb dX0_worthOf_9 ?_
  refine lv_topi (fun t3 et3 => ?_)
  have rg4 := fb_rng t1
  have rg5 := fb_rng p2
  have zt3 : t3.toInt = t1.toInt + p2.toInt := by rw [et3]; exact add_i rfl rfl (by omega) (by omega)
  refine ldI hx hb hE hP 35 rfl (vp_in_iff.mpr ⟨by omega, by omega⟩) rfl rfl dX0_worthOf_10 ?_
  refine lv_topi (fun t6 et6 => ?_)
  refine lv_istore (lv' := [(4, .int t6), (0, .ref (x 31)), (1, .int p1), (2, .int p2), (3, .int p3)]) hx hb dX0_worthOf_11 hl (Nat.le_of_ble_eq_true rfl) rfl (fun ls hl => ?_)
  refine lv_iload hx hb dX0_worthOf_13 (lv_at hl 0 rfl) ?_
  refine lv_iconst (v := (-1)) hx hb dX0_worthOf_15 rfl ?_
  refine lv_icmp_eq (tgt := 27) hx hb dX0_worthOf_16 rfl (fun c7 => ?_) (fun c7 => ?_)
  · skip
    have zc7 : t6.toInt = (-1) := by rw [fa_eq, show ((-1) : Int32).toInt = -1 from by decide] at c7; exact c7
    refine lv_iconst (v := (-1)) hx hb dX0_worthOf_27 rfl ?_
    exact ret (-1) () _ _ _ _ _ _ rfl trivial hP hD hS dX0_worthOf_28 (Nat.le_refl _) (Nat.le_refl _)
  · skip
    have zc7 : ¬ (t6.toInt = (-1)) := by rw [fa_eq, show ((-1) : Int32).toInt = -1 from by decide] at c7; exact c7
    refine lv_iload_n hx hb dX0_worthOf_19 rfl (lv_at hl 4 rfl) ?_
    refine lv_iload_n hx hb dX0_worthOf_20 rfl (lv_at hl 3 rfl) ?_
    refine lv_ishr hx hb dX0_worthOf_21 ?_
    refine lv_topi (fun t8 et8 => ?_)
    refine lv_iconst (v := 1) hx hb dX0_worthOf_22 rfl ?_
    refine lv_iand hx hb dX0_worthOf_23 ?_
    refine lv_topi (fun t9 et9 => ?_)
    have zt9 : 0 ≤ t9.toInt ∧ t9.toInt < 2 := by rw [et9]; exact and_rng _ (k := 1) (by decide) (by decide)
    refine lv_if_eq (tgt := 29) hx hb dX0_worthOf_24 rfl (fun c10 => ?_) (fun c10 => ?_)
    · skip
      have zc10 : t9.toInt = 0 := by rw [fa_eq, show (0 : Int32).toInt = 0 from by decide] at c10; exact c10
      refine lv_iload hx hb dX0_worthOf_29 (lv_at hl 0 rfl) ?_
      refine lv_aload_n hx hb dX0_worthOf_31 rfl (lv_at hl 1 rfl) ?_
      refine va_get (D := (dC, dI)) (ci := 0) (v := .ref (x 33)) (C := RX0) (T := TX0) (N := 8) hx hb hts inB_0 hown hE.1 hP 32 rfl rfl 4 (Nat.le_of_ble_eq_true rfl) (hts _ k_435) (fun _ h9 => h9) rfl dX0_worthOf_32 ?_
      refine lv_iload_n hx hb dX0_worthOf_35 rfl (lv_at hl 2 rfl) ?_
      refine lv_iconst (v := 1) hx hb dX0_worthOf_36 rfl ?_
      refine lv_iadd hx hb dX0_worthOf_37 ?_
      refine lv_topi (fun t11 et11 => ?_)
      have zt11 : t11.toInt = p1.toInt + 1 := by rw [et11]; exact add_i rfl (by decide) (by omega) (by omega)
      refine lv_bipush (v := 64) hx hb dX0_worthOf_38 rfl ?_
      refine lv_imul hx hb dX0_worthOf_40 ?_
      refine lv_topi (fun t12 et12 => ?_)
      have rg13 := fb_rng t11
      have zt12 : t12.toInt = t11.toInt * 64 := by rw [et12]; exact mul_i rfl (by decide) (by omega) (by omega)
      refine lv_iload_n hx hb dX0_worthOf_41 rfl (lv_at hl 4 rfl) ?_
      refine lv_iconst (v := 1) hx hb dX0_worthOf_42 rfl ?_
      refine lv_iload_n hx hb dX0_worthOf_43 rfl (lv_at hl 3 rfl) ?_
      refine lv_ishl hx hb dX0_worthOf_44 ?_
      refine lv_topi (fun t14 et14 => ?_)
      have zt14 : 1 ≤ t14.toInt ∧ t14.toInt ≤ 32 := by rw [et14]; exact shl1_rng (by omega) (by omega)
      refine lv_ior hx hb dX0_worthOf_45 ?_
      refine lv_topi (fun t15 et15 => ?_)
      have zt15 : 0 ≤ t15.toInt ∧ t15.toInt ≤ 63 := by rw [et15]; exact or_rng (by omega) (by omega) (by omega) (by omega)
      refine lv_iadd hx hb dX0_worthOf_46 ?_
      refine lv_topi (fun t16 et16 => ?_)
      have rg17 := fb_rng t12
      have rg18 := fb_rng t15
      have zt16 : t16.toInt = t12.toInt + t15.toInt := by rw [et16]; exact add_i rfl rfl (by omega) (by omega)
      refine ldI hx hb hE hP 34 rfl (vp_in_iff.mpr ⟨by omega, by omega⟩) rfl rfl dX0_worthOf_47 ?_
      refine lv_topi (fun t19 et19 => ?_)
      refine lv_iadd hx hb dX0_worthOf_48 ?_
      refine lv_topi (fun t20 et20 => ?_)
      exact ret t20 () _ _ _ _ _ _ rfl trivial hP hD hS dX0_worthOf_49 (Nat.le_refl _) (Nat.le_refl _)
    · skip
      have zc10 : ¬ (t9.toInt = 0) := by rw [fa_eq, show (0 : Int32).toInt = 0 from by decide] at c10; exact c10
      refine lv_iconst (v := (-1)) hx hb dX0_worthOf_27 rfl ?_
      exact ret (-1) () _ _ _ _ _ _ rfl trivial hP hD hS dX0_worthOf_28 (Nat.le_refl _) (Nat.le_refl _)
set_option maxHeartbeats 4000000 in
set_option maxRecDepth 100000 in
theorem sX_X0_reckonBest_1 (l : Launch) (dC : Nat → ClassId) (dI : Nat → Nat → Nat) (cy : Nat → ClassId) (x0 : Nat) (x : Nat → Nat)  (v : Nat → Int32) (f : Nat → Nat → Int32) (hIv : XI v)  : ctV l (dC, dI) cy yX0_reckonBest cX0_reckonBest 5 2 84 0 0 ((Nat → Int32) × (Nat → Nat → Int32)) [.ref (x 31)] (XW cy x0 x v f) (fun u => KV [] u.1 v ∧ KF [21] u.2 f ∧ XI u.1 ∧ u.1 0 = v 0 ∧ u.1 1 = v 1 ∧ u.1 7 = v 7 ∧ u.1 8 = v 8 ∧ u.1 9 = v 9 ∧ u.1 10 = v 10 ∧ u.1 31 = v 31 ∧ u.1 32 = v 32) (fun u => XW cy x0 x u.1 u.2) := by
  refine ctV_of (by decide) (Nat.le_of_ble_eq_true rfl) (fun p e s m below meth c A ls Q hx hb hml hts hown hnm hE hP hD hA hl ret => ?_)
  have hM_v : KV [] v v := fun _ _ => rfl
  have hA_f : KF [21] f f := fun _ _ => rfl
  have hown : s.vm.findClass RX0 = some m.cls := hown
  have hS : va_S A s.heap s.heap [] := va_S.rf
  have hl : lv_has ls 5 [(0, .ref (x 31))] := hl
  refine lv_aload_n hx hb dX0_reckonBest_0 rfl (lv_at hl 0 rfl) ?_
  refine va_get (D := (dC, dI)) (ci := 0) (v := .ref (x 33)) (C := RX0) (T := TX0) (N := 8) hx hb hts inB_0 hown hE.1 hP 32 rfl rfl 4 (Nat.le_of_ble_eq_true rfl) (hts _ k_435) (fun _ h9 => h9) rfl dX0_reckonBest_1 ?_
  refine lv_iconst (v := 0) hx hb dX0_reckonBest_4 rfl ?_
  refine cbSv (n := 2) (rest := []) hx hb hml hown hts hE hP hD hS hA (sX_J7_fill_53178_2 0 l dC dI cy x0 x 0 v f hIv ) k_984 k_465 k_113 k_466 (by decide +kernel) ⟨Nat.le_of_ble_eq_true rfl, Nat.le_of_ble_eq_true rfl⟩ (rfl) hl.1 rfl (Nat.le_of_ble_eq_true rfl) dX0_reckonBest_5 (fun u H locs hw hP hD hS => ?_)
  obtain ⟨hG1, hw⟩ := hw
  obtain ⟨v2, f3⟩ := u
  obtain ⟨kV_v2, kF_f3, hIv2, hk0_v2, hk1_v2, hk7_v2, hk8_v2, hk9_v2, hk10_v2, hk31_v2, hk32_v2⟩ := hw
  have hM_v2 : KV [] v2 v := KV.tr kV_v2 hM_v rfl
  have hA_f3 : KF [21] f3 f := KF.tr kF_f3 hA_f rfl
  have hP : va_P (dC, dI) vwCl (XW cy x0 x v2 f3) H := hP
  have hD : va_D A (XW cy x0 x v2 f3) := hD
  have hq0_v2 : v2 0 = (v 0) := hk0_v2
  have hq1_v2 : v2 1 = (v 1) := hk1_v2
  have hq7_v2 : v2 7 = (v 7) := hk7_v2
  have hq8_v2 : v2 8 = (v 8) := hk8_v2
  have hq9_v2 : v2 9 = (v 9) := hk9_v2
  have hq10_v2 : v2 10 = (v 10) := hk10_v2
  have hq31_v2 : v2 31 = (v 31) := hk31_v2
  have hq32_v2 : v2 32 = (v 32) := hk32_v2
  refine lv_aload_n hx hb dX0_reckonBest_8 rfl (lv_at hl 0 rfl) ?_
  refine va_get (D := (dC, dI)) (ci := 0) (v := .ref (x 26)) (C := RX0) (T := TX0) (N := 8) hx hb hts inB_0 hown hE.1 hP 32 rfl rfl 0 (Nat.le_of_ble_eq_true rfl) (hts _ k_430) (fun _ h9 => h9) rfl dX0_reckonBest_9 ?_
  refine va_getN (D := (dC, dI)) (ci := 7) (v := .int (v2 31)) (C := RX7) (T := TX7) (N := 10) hx hb hts inB_7 hown hE.1 hP 27 rfl rfl 3 (Nat.le_of_ble_eq_true rfl) (va_Nw.use rfl (hE.2 _ k_216)) (fun _ h9 => h9) rfl dX0_reckonBest_12 ?_
  refine tI (y := (v 31)) hq31_v2 ?_
  have b31_v : 0 ≤ (v 31).toInt ∧ (v 31).toInt ≤ 6 := XI.b hIv 31 (by decide)
  refine lv_iconst (v := 1) hx hb dX0_reckonBest_15 rfl ?_
  refine lv_isub hx hb dX0_reckonBest_16 ?_
  refine lv_topi (fun t4 et4 => ?_)
  have rg5 := fb_rng (v 31)
  have zt4 : t4.toInt = (v 31).toInt - 1 := by rw [et4]; exact sub_i rfl (by decide) (by omega) (by omega)
  refine lv_istore_n (lv' := [(1, .int t4), (0, .ref (x 31))]) hx hb dX0_reckonBest_17 rfl hl (Nat.le_of_ble_eq_true rfl) rfl (fun ls hl => ?_)
  have lp6 : ∀ (n6 : Nat) (l1_6 : Int32) (v6 : Nat → Int32) (f6 : Nat → Nat → Int32), XI v6 → v6 0 = (v 0) → v6 1 = (v 1) → v6 7 = (v 7) → v6 8 = (v 8) → v6 9 = (v 9) → v6 10 = (v 10) → v6 31 = (v 31) → v6 32 = (v 32) → ((-2147483648 : Int) ≤ l1_6.toInt ∧ l1_6.toInt ≤ 5) → KV [] v6 v → KF [21] f6 f → (l1_6.toInt + 2147483648).toNat < n6 → ∀ (H : Heap) (locs : List Loc) (ls : Array Slot), va_P (dC, dI) vwCl (XW cy x0 x v6 f6) H → va_D A (XW cy x0 x v6 f6) → va_S A s.heap H locs → lv_has ls 5 [(1, .int l1_6), (0, .ref (x 31))] → W p l e { frames := 2, cells := 0, slots := 0, locals := 84 } s m ([.ref (x 31)] : List Value).toArray below meth c H locs 0 0 Q (F0 m 18 ls []) := by
    intro n6
    induction n6 with
    | zero => intro l1_6 v6 f6 hIv6 hq0_v6 hq1_v6 hq7_v6 hq8_v6 hq9_v6 hq10_v6 hq31_v6 hq32_v6 hr1_6 hM_v6 hA_f6 hm; exact absurd hm (Nat.not_lt_zero _)
    | succ n6 ih6 =>
      intro l1_6 v6 f6 hIv6 hq0_v6 hq1_v6 hq7_v6 hq8_v6 hq9_v6 hq10_v6 hq31_v6 hq32_v6 hr1_6 hM_v6 hA_f6 hm6 H locs ls hP hD hS hl
      refine lv_iload_n hx hb dX0_reckonBest_18 rfl (lv_at hl 0 rfl) ?_
      refine lv_if_lt (tgt := 102) hx hb dX0_reckonBest_19 rfl (fun c7 => ?_) (fun c7 => ?_)
      · skip
        have zc7 : l1_6.toInt < 0 := by rw [fa_lt, show (0 : Int32).toInt = 0 from by decide] at c7; exact c7
        exact ret (v6, f6) _ _ _ _ _ _ ⟨hM_v6, hA_f6, hIv6, hq0_v6, hq1_v6, hq7_v6, hq8_v6, hq9_v6, hq10_v6, hq31_v6, hq32_v6⟩ hP hD hS dX0_reckonBest_102 (Nat.le_refl _) (Nat.le_refl _)
      · skip
        have zc7 : ¬ (l1_6.toInt < 0) := by rw [fa_lt, show (0 : Int32).toInt = 0 from by decide] at c7; exact c7
        refine lv_iconst (v := 0) hx hb dX0_reckonBest_22 rfl ?_
        refine lv_istore_n (lv' := [(2, .int 0), (1, .int l1_6), (0, .ref (x 31))]) hx hb dX0_reckonBest_23 rfl hl (Nat.le_of_ble_eq_true rfl) rfl (fun ls hl => ?_)
        have lp8 : ∀ (n8 : Nat) (l2_8 : Int32) (v8 : Nat → Int32) (f8 : Nat → Nat → Int32), XI v8 → v8 0 = (v 0) → v8 1 = (v 1) → v8 7 = (v 7) → v8 8 = (v 8) → v8 9 = (v 9) → v8 10 = (v 10) → v8 31 = (v 31) → v8 32 = (v 32) → ((0 : Int) ≤ l2_8.toInt ∧ l2_8.toInt ≤ 2147483647) → KV [] v8 v → KF [21] f8 f → (2147483647 - l2_8.toInt).toNat < n8 → ∀ (H : Heap) (locs : List Loc) (ls : Array Slot), va_P (dC, dI) vwCl (XW cy x0 x v8 f8) H → va_D A (XW cy x0 x v8 f8) → va_S A s.heap H locs → lv_has ls 5 [(2, .int l2_8), (1, .int l1_6), (0, .ref (x 31))] → W p l e { frames := 2, cells := 0, slots := 0, locals := 84 } s m ([.ref (x 31)] : List Value).toArray below meth c H locs 0 0 Q (F0 m 24 ls []) := by
          intro n8
          induction n8 with
          | zero => intro l2_8 v8 f8 hIv8 hq0_v8 hq1_v8 hq7_v8 hq8_v8 hq9_v8 hq10_v8 hq31_v8 hq32_v8 hr2_8 hM_v8 hA_f8 hm; exact absurd hm (Nat.not_lt_zero _)
          | succ n8 ih8 =>
            intro l2_8 v8 f8 hIv8 hq0_v8 hq1_v8 hq7_v8 hq8_v8 hq9_v8 hq10_v8 hq31_v8 hq32_v8 hr2_8 hM_v8 hA_f8 hm8 H locs ls hP hD hS hl
            refine lv_iload_n hx hb dX0_reckonBest_24 rfl (lv_at hl 0 rfl) ?_
            refine lv_bipush (v := 64) hx hb dX0_reckonBest_25 rfl ?_
            refine lv_icmp_ge (tgt := 96) hx hb dX0_reckonBest_27 rfl (fun c9 => ?_) (fun c9 => ?_)
            · skip
              have zc9 : 64 ≤ l2_8.toInt := by rw [fa_le, show (64 : Int32).toInt = 64 from by decide] at c9; exact c9
              obtain ⟨t10, et10⟩ : ∃ y : Int32, y = l1_6 + (-1) := ⟨_, rfl⟩
              have rg11 := fb_rng l1_6
              have zt10 : t10.toInt = l1_6.toInt + (-1) := by rw [et10]; exact add_i rfl (by decide) (by omega) (by omega)
              refine lv_iinc (v := t10) (lv' := [(1, .int t10), (2, .int l2_8), (0, .ref (x 31))]) hx hb dX0_reckonBest_96 hl (k := 1) rfl (by rw [et10]; rfl) (by decide) rfl (fun ls hl => ?_)
              refine lv_goto (tgt := 18) hx hb dX0_reckonBest_99 rfl ?_
              have rg12 := fb_rng t10
              exact ih6 t10 v8 f8 hIv8 hq0_v8 hq1_v8 hq7_v8 hq8_v8 hq9_v8 hq10_v8 hq31_v8 hq32_v8 ⟨show (-2147483648 : Int) ≤ t10.toInt by omega, show t10.toInt ≤ (5 : Int) by omega⟩ hM_v8 hA_f8 (by show (t10.toInt + 2147483648).toNat < n6; omega) _ _ _ hP hD hS (lv_sub hl [0, 2] rfl)
            · skip
              have zc9 : ¬ (64 ≤ l2_8.toInt) := by rw [fa_le, show (64 : Int32).toInt = 64 from by decide] at c9; exact c9
              refine lv_aload_n hx hb dX0_reckonBest_30 rfl (lv_at hl 2 rfl) ?_
              refine va_get (D := (dC, dI)) (ci := 0) (v := .ref (x 33)) (C := RX0) (T := TX0) (N := 8) hx hb hts inB_0 hown hE.1 hP 32 rfl rfl 4 (Nat.le_of_ble_eq_true rfl) (hts _ k_435) (fun _ h9 => h9) rfl dX0_reckonBest_31 ?_
              refine lv_iload_n hx hb dX0_reckonBest_34 rfl (lv_at hl 1 rfl) ?_
              refine lv_iconst (v := 1) hx hb dX0_reckonBest_35 rfl ?_
              refine lv_iadd hx hb dX0_reckonBest_36 ?_
              refine lv_topi (fun t13 et13 => ?_)
              have rg14 := fb_rng l1_6
              have zt13 : t13.toInt = l1_6.toInt + 1 := by rw [et13]; exact add_i rfl (by decide) (by omega) (by omega)
              refine lv_bipush (v := 64) hx hb dX0_reckonBest_37 rfl ?_
              refine lv_imul hx hb dX0_reckonBest_39 ?_
              refine lv_topi (fun t15 et15 => ?_)
              have rg16 := fb_rng t13
              have zt15 : t15.toInt = t13.toInt * 64 := by rw [et15]; exact mul_i rfl (by decide) (by omega) (by omega)
              refine lv_iload_n hx hb dX0_reckonBest_40 rfl (lv_at hl 0 rfl) ?_
              refine lv_iadd hx hb dX0_reckonBest_41 ?_
              refine lv_topi (fun t17 et17 => ?_)
              have rg18 := fb_rng t15
              have rg19 := fb_rng l2_8
              have zt17 : t17.toInt = t15.toInt + l2_8.toInt := by rw [et17]; exact add_i rfl rfl (by omega) (by omega)
              refine ldI hx hb hE hP 34 rfl (vp_in_iff.mpr ⟨by omega, by omega⟩) rfl rfl dX0_reckonBest_42 ?_
              refine lv_topi (fun t20 et20 => ?_)
              refine lv_istore_n (lv' := [(3, .int t20), (2, .int l2_8), (1, .int l1_6), (0, .ref (x 31))]) hx hb dX0_reckonBest_43 rfl hl (Nat.le_of_ble_eq_true rfl) rfl (fun ls hl => ?_)
              refine lv_iconst (v := 0) hx hb dX0_reckonBest_44 rfl ?_
              refine lv_istore (lv' := [(4, .int 0), (3, .int t20), (2, .int l2_8), (1, .int l1_6), (0, .ref (x 31))]) hx hb dX0_reckonBest_45 hl (Nat.le_of_ble_eq_true rfl) rfl (fun ls hl => ?_)
              have lp21 : ∀ (n21 : Nat) (l3_21 : Int32) (l4_21 : Int32), ((0 : Int) ≤ l4_21.toInt ∧ l4_21.toInt ≤ 2147483647) → (2147483647 - l4_21.toInt).toNat < n21 → ∀ (H : Heap) (locs : List Loc) (ls : Array Slot), va_P (dC, dI) vwCl (XW cy x0 x v8 f8) H → va_D A (XW cy x0 x v8 f8) → va_S A s.heap H locs → lv_has ls 5 [(4, .int l4_21), (3, .int l3_21), (2, .int l2_8), (1, .int l1_6), (0, .ref (x 31))] → W p l e { frames := 2, cells := 0, slots := 0, locals := 84 } s m ([.ref (x 31)] : List Value).toArray below meth c H locs 0 0 Q (F0 m 47 ls []) := by
                intro n21
                induction n21 with
                | zero => intro l3_21 l4_21 hr4_21 hm; exact absurd hm (Nat.not_lt_zero _)
                | succ n21 ih21 =>
                  intro l3_21 l4_21 hr4_21 hm21 H locs ls hP hD hS hl
                  refine lv_iload hx hb dX0_reckonBest_47 (lv_at hl 0 rfl) ?_
                  refine lv_aload_n hx hb dX0_reckonBest_49 rfl (lv_at hl 4 rfl) ?_
                  refine va_get (D := (dC, dI)) (ci := 0) (v := .ref (x 26)) (C := RX0) (T := TX0) (N := 8) hx hb hts inB_0 hown hE.1 hP 32 rfl rfl 0 (Nat.le_of_ble_eq_true rfl) (hts _ k_430) (fun _ h9 => h9) rfl dX0_reckonBest_50 ?_
                  refine va_getN (D := (dC, dI)) (ci := 7) (v := .int (v8 32)) (C := RX7) (T := TX7) (N := 10) hx hb hts inB_7 hown hE.1 hP 27 rfl rfl 4 (Nat.le_of_ble_eq_true rfl) (va_Nw.use rfl (hE.2 _ k_222)) (fun _ h9 => h9) rfl dX0_reckonBest_53 ?_
                  refine tI (y := (v 32)) hq32_v8 ?_
                  have b32_v : 0 ≤ (v 32).toInt ∧ (v 32).toInt ≤ 6 := XI.b hIv 32 (by decide)
                  refine lv_icmp_ge (tgt := 78) hx hb dX0_reckonBest_56 rfl (fun c22 => ?_) (fun c22 => ?_)
                  · skip
                    have zc22 : (v 32).toInt ≤ l4_21.toInt := by rw [fa_le] at c22; exact c22
                    have rg23 := fb_rng l4_21
                    have rg24 := fb_rng (v 32)
                    refine lv_aload_n hx hb dX0_reckonBest_78 rfl (lv_at hl 4 rfl) ?_
                    refine va_get (D := (dC, dI)) (ci := 0) (v := .ref (x 33)) (C := RX0) (T := TX0) (N := 8) hx hb hts inB_0 hown hE.1 hP 32 rfl rfl 4 (Nat.le_of_ble_eq_true rfl) (hts _ k_435) (fun _ h9 => h9) rfl dX0_reckonBest_79 ?_
                    refine lv_iload_n hx hb dX0_reckonBest_82 rfl (lv_at hl 3 rfl) ?_
                    refine lv_bipush (v := 64) hx hb dX0_reckonBest_83 rfl ?_
                    refine lv_imul hx hb dX0_reckonBest_85 ?_
                    refine lv_topi (fun t25 et25 => ?_)
                    have zt25 : t25.toInt = l1_6.toInt * 64 := by rw [et25]; exact mul_i rfl (by decide) (by omega) (by omega)
                    refine lv_iload_n hx hb dX0_reckonBest_86 rfl (lv_at hl 2 rfl) ?_
                    refine lv_iadd hx hb dX0_reckonBest_87 ?_
                    refine lv_topi (fun t26 et26 => ?_)
                    have rg27 := fb_rng t25
                    have zt26 : t26.toInt = t25.toInt + l2_8.toInt := by rw [et26]; exact add_i rfl rfl (by omega) (by omega)
                    refine lv_iload_n hx hb dX0_reckonBest_88 rfl (lv_at hl 1 rfl) ?_
                    refine stI hx hb hE hP hD hS 34 rfl (vp_in_iff.mpr ⟨by omega, by omega⟩) rfl dX0_reckonBest_89 (fun H locs hP hD hS => ?_)
                    obtain ⟨f28, ef28, hP, hD⟩ : ∃ fz9, fz9 = upd2 f8 21 (upd (f8 21) t26.toNatClampNeg l3_21) ∧ va_P (dC, dI) vwCl (XW cy x0 x v8 fz9) H ∧ va_D A (XW cy x0 x v8 fz9) := ⟨_, rfl, hP, hD⟩
                    have hA_f28 : KF [21] f28 f := by rw [ef28]; exact KF.up hA_f8 rfl
                    obtain ⟨t29, et29⟩ : ∃ y : Int32, y = l2_8 + 1 := ⟨_, rfl⟩
                    have zt29 : t29.toInt = l2_8.toInt + 1 := by rw [et29]; exact add_i rfl (by decide) (by omega) (by omega)
                    refine lv_iinc (v := t29) (lv' := [(2, .int t29), (4, .int l4_21), (3, .int l3_21), (1, .int l1_6), (0, .ref (x 31))]) hx hb dX0_reckonBest_90 hl (k := 2) rfl (by rw [et29]; rfl) (by decide) rfl (fun ls hl => ?_)
                    refine lv_goto (tgt := 24) hx hb dX0_reckonBest_93 rfl ?_
                    have rg30 := fb_rng t29
                    exact ih8 t29 v8 f28 hIv8 hq0_v8 hq1_v8 hq7_v8 hq8_v8 hq9_v8 hq10_v8 hq31_v8 hq32_v8 ⟨show (0 : Int) ≤ t29.toInt by omega, show t29.toInt ≤ (2147483647 : Int) by omega⟩ hM_v8 hA_f28 (by show (2147483647 - t29.toInt).toNat < n8; omega) _ _ _ hP hD hS (lv_sub hl [0, 3, 4] rfl)
                  · skip
                    have zc22 : ¬ ((v 32).toInt ≤ l4_21.toInt) := by rw [fa_le] at c22; exact c22
                    have rg31 := fb_rng l4_21
                    have rg32 := fb_rng (v 32)
                    refine lv_iload_n hx hb dX0_reckonBest_59 rfl (lv_at hl 1 rfl) ?_
                    refine lv_aload_n hx hb dX0_reckonBest_60 rfl (lv_at hl 4 rfl) ?_
                    refine lv_iload_n hx hb dX0_reckonBest_61 rfl (lv_at hl 3 rfl) ?_
                    refine lv_iload hx hb dX0_reckonBest_62 (lv_at hl 0 rfl) ?_
                    refine lv_iload_n hx hb dX0_reckonBest_64 rfl (lv_at hl 2 rfl) ?_
                    refine cbVi (n := 3) (rest := [.int l3_21]) hx hb hml hown hts hE hP hD hS hA (sX_X0_worthOf_1 l dC dI cy x0 x l1_6 l4_21 l2_8 v8 f8 hIv8 ⟨show (0 : Int) ≤ l1_6.toInt by omega, show l1_6.toInt ≤ (5 : Int) by omega⟩ ⟨show (0 : Int) ≤ l4_21.toInt by omega, show l4_21.toInt ≤ (5 : Int) by omega⟩ ⟨show (0 : Int) ≤ l2_8.toInt by omega, show l2_8.toInt ≤ (63 : Int) by omega⟩) k_985 k_987 k_24 k_111 k_988 (by decide +kernel) ⟨Nat.le_of_ble_eq_true rfl, Nat.le_of_ble_eq_true rfl⟩ 32 0 rfl rfl (rfl) hl.1 rfl (Nat.le_of_ble_eq_true rfl) dX0_reckonBest_65 (fun r33 u H locs hw hP hD hS => ?_)
                    refine va_mmax hx hb (by rw [hml]; exact hl.1.symm) hown (hts _ k_989) (hts _ k_640) (hts _ k_119) (hts _ k_641) (Nat.le_of_ble_eq_true rfl) (Nat.le_of_ble_eq_true rfl) (Nat.le_of_ble_eq_true rfl) (Nat.le_of_ble_eq_true rfl) dX0_reckonBest_68 ?_
                    refine lv_topi (fun t34 et34 => ?_)
                    have zt34 : t34.toInt = max (l3_21.toInt) (r33.toInt) := by rw [et34]; exact mmax_i rfl rfl
                    refine lv_istore_n (lv' := [(3, .int t34), (4, .int l4_21), (2, .int l2_8), (1, .int l1_6), (0, .ref (x 31))]) hx hb dX0_reckonBest_71 rfl hl (Nat.le_of_ble_eq_true rfl) rfl (fun ls hl => ?_)
                    obtain ⟨t35, et35⟩ : ∃ y : Int32, y = l4_21 + 1 := ⟨_, rfl⟩
                    have zt35 : t35.toInt = l4_21.toInt + 1 := by rw [et35]; exact add_i rfl (by decide) (by omega) (by omega)
                    refine lv_iinc (v := t35) (lv' := [(4, .int t35), (3, .int t34), (2, .int l2_8), (1, .int l1_6), (0, .ref (x 31))]) hx hb dX0_reckonBest_72 hl (k := 1) rfl (by rw [et35]; rfl) (by decide) rfl (fun ls hl => ?_)
                    refine lv_goto (tgt := 47) hx hb dX0_reckonBest_75 rfl ?_
                    have rg36 := fb_rng t35
                    exact ih21 t34 t35 ⟨show (0 : Int) ≤ t35.toInt by omega, show t35.toInt ≤ (2147483647 : Int) by omega⟩ (by show (2147483647 - t35.toInt).toNat < n21; omega) _ _ _ hP hD hS (lv_sub hl [0, 1, 2, 3, 4] rfl)
              exact lp21 _ t20 0 ⟨by decide, by decide⟩ (Nat.lt_succ_self _) _ _ _ hP hD hS (lv_sub hl [0, 1, 2, 3, 4] rfl)
        exact lp8 _ 0 v6 f6 hIv6 hq0_v6 hq1_v6 hq7_v6 hq8_v6 hq9_v6 hq10_v6 hq31_v6 hq32_v6 ⟨by decide, by decide⟩ hM_v6 hA_f6 (Nat.lt_succ_self _) _ _ _ hP hD hS (lv_sub hl [0, 1, 2] rfl)
  have rg37 := fb_rng t4
  exact lp6 _ t4 v2 f3 hIv2 hq0_v2 hq1_v2 hq7_v2 hq8_v2 hq9_v2 hq10_v2 hq31_v2 hq32_v2 ⟨show (-2147483648 : Int) ≤ t4.toInt by omega, show t4.toInt ≤ (5 : Int) by omega⟩ hM_v2 hA_f3 (Nat.lt_succ_self _) _ _ _ hP hD hS (lv_sub hl [0, 1] rfl)
set_option maxHeartbeats 4000000 in
set_option maxRecDepth 100000 in
theorem sX_X0_firstBest_1 (l : Launch) (dC : Nat → ClassId) (dI : Nat → Nat → Nat) (cy : Nat → ClassId) (x0 : Nat) (x : Nat → Nat) (p1 : Int32) (p2 : Int32) (v : Nat → Int32) (f : Nat → Nat → Int32) (hIv : XI v) (hp1 : (0 : Int) ≤ p1.toInt ∧ p1.toInt ≤ 5) (hp2 : (0 : Int) ≤ p2.toInt ∧ p2.toInt ≤ 63) : ctI l (dC, dI) cy yX0_firstBest cX0_firstBest 4 .int 2 84 0 0 Unit [.ref (x 31), .int p1, .int p2] (XW cy x0 x v f) (fun r u => ((-1 : Int) ≤ r.toInt ∧ r.toInt ≤ 5)) (fun u => XW cy x0 x v f) := by
  refine ctI_of (by decide) (Nat.le_of_ble_eq_true rfl) (fun p e s m below meth c A ls Q hx hb hml hts hown hE hP hD hA hl ret => ?_)
  have hown : s.vm.findClass RX0 = some m.cls := hown
  have hS : va_S A s.heap s.heap [] := va_S.rf
  have hl : lv_has ls 4 [(0, .ref (x 31)), (1, .int p1), (2, .int p2)] := hl
  refine lv_iconst (v := 0) hx hb dX0_firstBest_0 rfl ?_
  refine lv_istore_n (lv' := [(3, .int 0), (0, .ref (x 31)), (1, .int p1), (2, .int p2)]) hx hb dX0_firstBest_1 rfl hl (Nat.le_of_ble_eq_true rfl) rfl (fun ls hl => ?_)
  have lp1 : ∀ (n1 : Nat) (l3_1 : Int32), ((0 : Int) ≤ l3_1.toInt ∧ l3_1.toInt ≤ 2147483647) → (2147483647 - l3_1.toInt).toNat < n1 → ∀ (H : Heap) (locs : List Loc) (ls : Array Slot), va_P (dC, dI) vwCl (XW cy x0 x v f) H → va_D A (XW cy x0 x v f) → va_S A s.heap H locs → lv_has ls 4 [(3, .int l3_1), (0, .ref (x 31)), (1, .int p1), (2, .int p2)] → W p l e { frames := 2, cells := 0, slots := 0, locals := 84 } s m ([.ref (x 31), .int p1, .int p2] : List Value).toArray below meth c H locs 0 0 Q (F0 m 2 ls []) := by
    intro n1
    induction n1 with
    | zero => intro l3_1 hr3_1 hm; exact absurd hm (Nat.not_lt_zero _)
    | succ n1 ih1 =>
      intro l3_1 hr3_1 hm1 H locs ls hP hD hS hl
      refine lv_iload_n hx hb dX0_firstBest_2 rfl (lv_at hl 0 rfl) ?_
      refine lv_aload_n hx hb dX0_firstBest_3 rfl (lv_at hl 1 rfl) ?_
      refine va_get (D := (dC, dI)) (ci := 0) (v := .ref (x 26)) (C := RX0) (T := TX0) (N := 8) hx hb hts inB_0 hown hE.1 hP 32 rfl rfl 0 (Nat.le_of_ble_eq_true rfl) (hts _ k_430) (fun _ h9 => h9) rfl dX0_firstBest_4 ?_
      refine va_getN (D := (dC, dI)) (ci := 7) (v := .int (v 32)) (C := RX7) (T := TX7) (N := 10) hx hb hts inB_7 hown hE.1 hP 27 rfl rfl 4 (Nat.le_of_ble_eq_true rfl) (va_Nw.use rfl (hE.2 _ k_222)) (fun _ h9 => h9) rfl dX0_firstBest_7 ?_
      have b32_v : 0 ≤ (v 32).toInt ∧ (v 32).toInt ≤ 6 := XI.b hIv 32 (by decide)
      refine lv_icmp_ge (tgt := 42) hx hb dX0_firstBest_10 rfl (fun c2 => ?_) (fun c2 => ?_)
      · skip
        have zc2 : (v 32).toInt ≤ l3_1.toInt := by rw [fa_le] at c2; exact c2
        have rg3 := fb_rng l3_1
        have rg4 := fb_rng (v 32)
        refine lv_iconst (v := (-1)) hx hb dX0_firstBest_42 rfl ?_
        exact ret (-1) () _ _ _ _ _ _ rfl ⟨by decide, by decide⟩ hP hD hS dX0_firstBest_43 (Nat.le_refl _) (Nat.le_refl _)
      · skip
        have zc2 : ¬ ((v 32).toInt ≤ l3_1.toInt) := by rw [fa_le] at c2; exact c2
        have rg5 := fb_rng l3_1
        have rg6 := fb_rng (v 32)
        refine lv_aload_n hx hb dX0_firstBest_13 rfl (lv_at hl 1 rfl) ?_
        refine lv_iload_n hx hb dX0_firstBest_14 rfl (lv_at hl 2 rfl) ?_
        refine lv_iload_n hx hb dX0_firstBest_15 rfl (lv_at hl 0 rfl) ?_
        refine lv_iload_n hx hb dX0_firstBest_16 rfl (lv_at hl 3 rfl) ?_
        refine cbVi (n := 3) (rest := []) hx hb hml hown hts hE hP hD hS hA (sX_X0_worthOf_1 l dC dI cy x0 x p1 l3_1 p2 v f hIv ⟨show (0 : Int) ≤ p1.toInt by omega, show p1.toInt ≤ (5 : Int) by omega⟩ ⟨show (0 : Int) ≤ l3_1.toInt by omega, show l3_1.toInt ≤ (5 : Int) by omega⟩ ⟨show (0 : Int) ≤ p2.toInt by omega, show p2.toInt ≤ (63 : Int) by omega⟩) k_985 k_987 k_24 k_111 k_988 (by decide +kernel) ⟨Nat.le_of_ble_eq_true rfl, Nat.le_of_ble_eq_true rfl⟩ 32 0 rfl rfl (rfl) hl.1 rfl (Nat.le_of_ble_eq_true rfl) dX0_firstBest_17 (fun r7 u H locs hw hP hD hS => ?_)
        refine lv_aload_n hx hb dX0_firstBest_20 rfl (lv_at hl 1 rfl) ?_
        refine va_get (D := (dC, dI)) (ci := 0) (v := .ref (x 33)) (C := RX0) (T := TX0) (N := 8) hx hb hts inB_0 hown hE.1 hP 32 rfl rfl 4 (Nat.le_of_ble_eq_true rfl) (hts _ k_435) (fun _ h9 => h9) rfl dX0_firstBest_21 ?_
        refine lv_iload_n hx hb dX0_firstBest_24 rfl (lv_at hl 2 rfl) ?_
        refine lv_bipush (v := 64) hx hb dX0_firstBest_25 rfl ?_
        refine lv_imul hx hb dX0_firstBest_27 ?_
        refine lv_topi (fun t8 et8 => ?_)
        have rg9 := fb_rng p1
        have zt8 : t8.toInt = p1.toInt * 64 := by rw [et8]; exact mul_i rfl (by decide) (by omega) (by omega)
        refine lv_iload_n hx hb dX0_firstBest_28 rfl (lv_at hl 3 rfl) ?_
        refine lv_iadd hx hb dX0_firstBest_29 ?_
        refine lv_topi (fun t10 et10 => ?_)
        have rg11 := fb_rng t8
        have rg12 := fb_rng p2
        have zt10 : t10.toInt = t8.toInt + p2.toInt := by rw [et10]; exact add_i rfl rfl (by omega) (by omega)
        refine ldI hx hb hE hP 34 rfl (vp_in_iff.mpr ⟨by omega, by omega⟩) rfl rfl dX0_firstBest_30 ?_
        refine lv_topi (fun t13 et13 => ?_)
        refine lv_icmp_ne (tgt := 36) hx hb dX0_firstBest_31 rfl (fun c14 => ?_) (fun c14 => ?_)
        · skip
          have zc14 : ¬ (r7.toInt = t13.toInt) := by rw [fa_eq] at c14; exact c14
          have rg15 := fb_rng r7
          have rg16 := fb_rng t13
          obtain ⟨t17, et17⟩ : ∃ y : Int32, y = l3_1 + 1 := ⟨_, rfl⟩
          have zt17 : t17.toInt = l3_1.toInt + 1 := by rw [et17]; exact add_i rfl (by decide) (by omega) (by omega)
          refine lv_iinc (v := t17) (lv' := [(3, .int t17), (0, .ref (x 31)), (1, .int p1), (2, .int p2)]) hx hb dX0_firstBest_36 hl (k := 0) rfl (by rw [et17]; rfl) (by decide) rfl (fun ls hl => ?_)
          refine lv_goto (tgt := 2) hx hb dX0_firstBest_39 rfl ?_
          have rg18 := fb_rng t17
          exact ih1 t17 ⟨show (0 : Int) ≤ t17.toInt by omega, show t17.toInt ≤ (2147483647 : Int) by omega⟩ (by show (2147483647 - t17.toInt).toNat < n1; omega) _ _ _ hP hD hS (lv_sub hl [0, 1, 2, 3] rfl)
        · skip
          have zc14 : r7.toInt = t13.toInt := by rw [fa_eq] at c14; exact c14
          have rg19 := fb_rng r7
          have rg20 := fb_rng t13
          refine lv_iload_n hx hb dX0_firstBest_34 rfl (lv_at hl 0 rfl) ?_
          exact ret l3_1 () _ _ _ _ _ _ rfl ⟨by omega, by omega⟩ hP hD hS dX0_firstBest_35 (Nat.le_refl _) (Nat.le_refl _)
  exact lp1 _ 0 ⟨by decide, by decide⟩ (Nat.lt_succ_self _) _ _ _ hP hD hS (lv_sub hl [0, 1, 2, 3] rfl)
set_option maxHeartbeats 4000000 in
set_option maxRecDepth 100000 in
theorem sX_X0_lay_1 (l : Launch) (dC : Nat → ClassId) (dI : Nat → Nat → Nat) (cy : Nat → ClassId) (x0 : Nat) (x : Nat → Nat) (p1 : Int32) (v : Nat → Int32) (f : Nat → Nat → Int32) (hIv : XI v)  : ctV l (dC, dI) cy yX0_lay cX0_lay 2 1 60 0 0 ((Nat → Int32) × (Nat → Nat → Int32)) [.ref (x 31), .int p1] (XW cy x0 x v f) (fun u => KV [38] u.1 v ∧ KF [20] u.2 f ∧ XI u.1 ∧ u.1 0 = v 0 ∧ u.1 1 = v 1 ∧ u.1 7 = v 7 ∧ u.1 8 = v 8 ∧ u.1 9 = v 9 ∧ u.1 10 = v 10 ∧ u.1 31 = v 31 ∧ u.1 32 = v 32) (fun u => XW cy x0 x u.1 u.2) := by
  refine ctV_of (by decide) (Nat.le_of_ble_eq_true rfl) (fun p e s m below meth c A ls Q hx hb hml hts hown hnm hE hP hD hA hl ret => ?_)
  have hM_v : KV [38] v v := fun _ _ => rfl
  have hA_f : KF [20] f f := fun _ _ => rfl
  have hown : s.vm.findClass RX0 = some m.cls := hown
  have hS : va_S A s.heap s.heap [] := va_S.rf
  have hl : lv_has ls 2 [(0, .ref (x 31)), (1, .int p1)] := hl
  refine lv_aload_n hx hb dX0_lay_0 rfl (lv_at hl 0 rfl) ?_
  refine va_get (D := (dC, dI)) (ci := 0) (v := .int (v 38)) (C := RX0) (T := TX0) (N := 8) hx hb hts inB_0 hown hE.1 hP 32 rfl rfl 3 (Nat.le_of_ble_eq_true rfl) (hts _ k_433) (fun _ h9 => h9) rfl dX0_lay_1 ?_
  have b38_v : 0 ≤ (v 38).toInt ∧ (v 38).toInt ≤ 6 := XI.b hIv 38 (by decide)
  refine lv_aload_n hx hb dX0_lay_4 rfl (lv_at hl 0 rfl) ?_
  refine va_get (D := (dC, dI)) (ci := 0) (v := .ref (x 32)) (C := RX0) (T := TX0) (N := 8) hx hb hts inB_0 hown hE.1 hP 32 rfl rfl 2 (Nat.le_of_ble_eq_true rfl) (hts _ k_432) (fun _ h9 => h9) rfl dX0_lay_5 ?_
  refine va_alen (v := 6) hx hb hE.1 hP 33 1 rfl rfl rfl dX0_lay_8 ?_
  refine lv_icmp_ge (tgt := 32) hx hb dX0_lay_9 rfl (fun c1 => ?_) (fun c1 => ?_)
  · skip
    have zc1 : 6 ≤ (v 38).toInt := by rw [fa_le, show (6 : Int32).toInt = 6 from by decide] at c1; exact c1
    exact ret (v, f) _ _ _ _ _ _ ⟨hM_v, hA_f, hIv, rfl, rfl, rfl, rfl, rfl, rfl, rfl, rfl⟩ hP hD hS dX0_lay_32 (Nat.le_refl _) (Nat.le_refl _)
  · skip
    have zc1 : ¬ (6 ≤ (v 38).toInt) := by rw [fa_le, show (6 : Int32).toInt = 6 from by decide] at c1; exact c1
    refine lv_aload_n hx hb dX0_lay_12 rfl (lv_at hl 0 rfl) ?_
    refine va_get (D := (dC, dI)) (ci := 0) (v := .ref (x 32)) (C := RX0) (T := TX0) (N := 8) hx hb hts inB_0 hown hE.1 hP 32 rfl rfl 2 (Nat.le_of_ble_eq_true rfl) (hts _ k_432) (fun _ h9 => h9) rfl dX0_lay_13 ?_
    refine lv_aload_n hx hb dX0_lay_16 rfl (lv_at hl 0 rfl) ?_
    refine va_get (D := (dC, dI)) (ci := 0) (v := .int (v 38)) (C := RX0) (T := TX0) (N := 8) hx hb hts inB_0 hown hE.1 hP 32 rfl rfl 3 (Nat.le_of_ble_eq_true rfl) (hts _ k_433) (fun _ h9 => h9) rfl dX0_lay_17 ?_
    refine lv_iload_n hx hb dX0_lay_20 rfl (lv_at hl 1 rfl) ?_
    refine stI hx hb hE hP hD hS 33 rfl (vp_in_iff.mpr ⟨by omega, by omega⟩) rfl dX0_lay_21 (fun H locs hP hD hS => ?_)
    obtain ⟨f2, ef2, hP, hD⟩ : ∃ fz9, fz9 = upd2 f 20 (upd (f 20) (v 38).toNatClampNeg p1) ∧ va_P (dC, dI) vwCl (XW cy x0 x v fz9) H ∧ va_D A (XW cy x0 x v fz9) := ⟨_, rfl, hP, hD⟩
    have hA_f2 : KF [20] f2 f := by rw [ef2]; exact KF.up hA_f rfl
    refine lv_aload_n hx hb dX0_lay_22 rfl (lv_at hl 0 rfl) ?_
    refine lv_dup hx hb dX0_lay_23 rfl ?_
    refine va_get (D := (dC, dI)) (ci := 0) (v := .int (v 38)) (C := RX0) (T := TX0) (N := 8) hx hb hts inB_0 hown hE.1 hP 32 rfl rfl 3 (Nat.le_of_ble_eq_true rfl) (hts _ k_433) (fun _ h9 => h9) rfl dX0_lay_24 ?_
    refine lv_iconst (v := 1) hx hb dX0_lay_27 rfl ?_
    refine lv_iadd hx hb dX0_lay_28 ?_
    refine lv_topi (fun t3 et3 => ?_)
    have rg4 := fb_rng (v 38)
    have zt3 : t3.toInt = (v 38).toInt + 1 := by rw [et3]; exact add_i rfl (by decide) (by omega) (by omega)
    refine va_put (D := (dC, dI)) (ci := 0) (v := .int t3) (ty := tyX0 3) (C := RX0) (T := TX0) (N := 8) hx hb hts inB_0 tyX0 tyX0_ok nmX0 hown hE.1 hP hD hS 32 rfl rfl 3 (Nat.le_of_ble_eq_true rfl) (hts _ k_433) (fun _ h9 => h9) rfl (tyX0_ok 3 (by decide)) rfl rfl (Nat.le_of_ble_eq_true rfl) dX0_lay_29 (fun H locs hP hD hS => ?_)
    have hP : va_P (dC, dI) vwCl (XW cy x0 x (upd v 38 t3) f2) H := hP
    have hD : va_D A (XW cy x0 x (upd v 38 t3) f2) := hD
    exact ret ((upd v 38 t3), f2) _ _ _ _ _ _ ⟨(KV.up (j := 38) (x := t3) hM_v rfl), hA_f2, (XI.upd (j := 38) (x := t3) hIv (show (0 : Int) ≤ t3.toInt by omega) (show t3.toInt ≤ (6 : Int) by omega)), rfl, rfl, rfl, rfl, rfl, rfl, rfl, rfl⟩ hP hD hS dX0_lay_32 (Nat.le_refl _) (Nat.le_refl _)
set_option maxHeartbeats 4000000 in
set_option maxRecDepth 100000 in
theorem sX_X0_layDressing_1 (l : Launch) (dC : Nat → ClassId) (dI : Nat → Nat → Nat) (cy : Nat → ClassId) (x0 : Nat) (x : Nat → Nat)  (v : Nat → Int32) (f : Nat → Nat → Int32) (hIv : XI v)  : ctV l (dC, dI) cy yX0_layDressing cX0_layDressing 4 5 156 0 0 ((Nat → Int32) × (Nat → Nat → Int32)) [.ref (x 31)] (XW cy x0 x v f) (fun u => KV [38, 39, 40] u.1 v ∧ KF [13, 14, 20, 21, 22] u.2 f ∧ XI u.1 ∧ u.1 0 = v 0 ∧ u.1 1 = v 1 ∧ u.1 7 = v 7 ∧ u.1 8 = v 8 ∧ u.1 9 = v 9 ∧ u.1 10 = v 10 ∧ u.1 31 = v 31 ∧ u.1 32 = v 32) (fun u => XW cy x0 x u.1 u.2) := by
  refine ctV_of (by decide) (Nat.le_of_ble_eq_true rfl) (fun p e s m below meth c A ls Q hx hb hml hts hown hnm hE hP hD hA hl ret => ?_)
  have hM_v : KV [38, 39, 40] v v := fun _ _ => rfl
  have hA_f : KF [13, 14, 20, 21, 22] f f := fun _ _ => rfl
  have hown : s.vm.findClass RX0 = some m.cls := hown
  have hS : va_S A s.heap s.heap [] := va_S.rf
  have hl : lv_has ls 4 [(0, .ref (x 31))] := hl
  refine lv_aload_n hx hb dX0_layDressing_0 rfl (lv_at hl 0 rfl) ?_
  refine cbVv (n := 0) (rest := []) hx hb hml hown hts hE hP hD hS hA (sX_X0_reckonGains_1 l dC dI cy x0 x  v f hIv ) k_975 k_977 k_22 k_111 k_978 (by decide +kernel) ⟨Nat.le_of_ble_eq_true rfl, Nat.le_of_ble_eq_true rfl⟩ 32 0 rfl rfl (rfl) hl.1 rfl (Nat.le_of_ble_eq_true rfl) dX0_layDressing_1 (fun u H locs hw hP hD hS => ?_)
  obtain ⟨v1, f2⟩ := u
  obtain ⟨kV_v1, kF_f2, hIv1, hk0_v1, hk1_v1, hk7_v1, hk8_v1, hk9_v1, hk10_v1, hk31_v1, hk32_v1⟩ := hw
  have hM_v1 : KV [38, 39, 40] v1 v := KV.tr kV_v1 hM_v rfl
  have hA_f2 : KF [13, 14, 20, 21, 22] f2 f := KF.tr kF_f2 hA_f rfl
  have hP : va_P (dC, dI) vwCl (XW cy x0 x v1 f2) H := hP
  have hD : va_D A (XW cy x0 x v1 f2) := hD
  have hq0_v1 : v1 0 = (v 0) := hk0_v1
  have hq1_v1 : v1 1 = (v 1) := hk1_v1
  have hq7_v1 : v1 7 = (v 7) := hk7_v1
  have hq8_v1 : v1 8 = (v 8) := hk8_v1
  have hq9_v1 : v1 9 = (v 9) := hk9_v1
  have hq10_v1 : v1 10 = (v 10) := hk10_v1
  have hq31_v1 : v1 31 = (v 31) := hk31_v1
  have hq32_v1 : v1 32 = (v 32) := hk32_v1
  refine lv_aload_n hx hb dX0_layDressing_4 rfl (lv_at hl 0 rfl) ?_
  refine cbVv (n := 0) (rest := []) hx hb hml hown hts hE hP hD hS hA (sX_X0_reckonBest_1 l dC dI cy x0 x  v1 f2 hIv1 ) k_980 k_982 k_23 k_111 k_983 (by decide +kernel) ⟨Nat.le_of_ble_eq_true rfl, Nat.le_of_ble_eq_true rfl⟩ 32 0 rfl rfl (rfl) hl.1 rfl (Nat.le_of_ble_eq_true rfl) dX0_layDressing_5 (fun u H locs hw hP hD hS => ?_)
  obtain ⟨v3, f4⟩ := u
  obtain ⟨kV_v3, kF_f4, hIv3, hk0_v3, hk1_v3, hk7_v3, hk8_v3, hk9_v3, hk10_v3, hk31_v3, hk32_v3⟩ := hw
  have hM_v3 : KV [38, 39, 40] v3 v := KV.tr kV_v3 hM_v1 rfl
  have hA_f4 : KF [13, 14, 20, 21, 22] f4 f := KF.tr kF_f4 hA_f2 rfl
  have hP : va_P (dC, dI) vwCl (XW cy x0 x v3 f4) H := hP
  have hD : va_D A (XW cy x0 x v3 f4) := hD
  have hq0_v3 : v3 0 = (v 0) := hk0_v3.trans hq0_v1
  have hq1_v3 : v3 1 = (v 1) := hk1_v3.trans hq1_v1
  have hq7_v3 : v3 7 = (v 7) := hk7_v3.trans hq7_v1
  have hq8_v3 : v3 8 = (v 8) := hk8_v3.trans hq8_v1
  have hq9_v3 : v3 9 = (v 9) := hk9_v3.trans hq9_v1
  have hq10_v3 : v3 10 = (v 10) := hk10_v3.trans hq10_v1
  have hq31_v3 : v3 31 = (v 31) := hk31_v3.trans hq31_v1
  have hq32_v3 : v3 32 = (v 32) := hk32_v3.trans hq32_v1
  refine lv_aload_n hx hb dX0_layDressing_8 rfl (lv_at hl 0 rfl) ?_
  refine cbVv (n := 0) (rest := []) hx hb hml hown hts hE hP hD hS hA (sX_X0_clear_1 0 l dC dI cy x0 x  v3 f4 hIv3 ) k_990 k_787 k_788 k_111 k_789 (by decide +kernel) ⟨Nat.le_of_ble_eq_true rfl, Nat.le_of_ble_eq_true rfl⟩ 32 0 rfl rfl (rfl) hl.1 rfl (Nat.le_of_ble_eq_true rfl) dX0_layDressing_9 (fun u H locs hw hP hD hS => ?_)
  obtain ⟨hG5, hw⟩ := hw
  obtain ⟨v6, f7⟩ := u
  obtain ⟨kV_v6, kF_f7, hIv6, hk0_v6, hk1_v6, hk7_v6, hk8_v6, hk9_v6, hk10_v6, hk31_v6, hk32_v6⟩ := hw
  have hM_v6 : KV [38, 39, 40] v6 v := KV.tr kV_v6 hM_v3 rfl
  have hA_f7 : KF [13, 14, 20, 21, 22] f7 f := KF.tr kF_f7 hA_f4 rfl
  have hP : va_P (dC, dI) vwCl (XW cy x0 x v6 f7) H := hP
  have hD : va_D A (XW cy x0 x v6 f7) := hD
  have hq0_v6 : v6 0 = (v 0) := hk0_v6.trans hq0_v3
  have hq1_v6 : v6 1 = (v 1) := hk1_v6.trans hq1_v3
  have hq7_v6 : v6 7 = (v 7) := hk7_v6.trans hq7_v3
  have hq8_v6 : v6 8 = (v 8) := hk8_v6.trans hq8_v3
  have hq9_v6 : v6 9 = (v 9) := hk9_v6.trans hq9_v3
  have hq10_v6 : v6 10 = (v 10) := hk10_v6.trans hq10_v3
  have hq31_v6 : v6 31 = (v 31) := hk31_v6.trans hq31_v3
  have hq32_v6 : v6 32 = (v 32) := hk32_v6.trans hq32_v3
  refine lv_aload_n hx hb dX0_layDressing_12 rfl (lv_at hl 0 rfl) ?_
  refine lv_iconst (v := 0) hx hb dX0_layDressing_13 rfl ?_
  refine va_put (D := (dC, dI)) (ci := 0) (v := .int 0) (ty := tyX0 6) (C := RX0) (T := TX0) (N := 8) hx hb hts inB_0 tyX0 tyX0_ok nmX0 hown hE.1 hP hD hS 32 rfl rfl 6 (Nat.le_of_ble_eq_true rfl) (hts _ k_437) (fun _ h9 => h9) rfl (tyX0_ok 6 (by decide)) rfl rfl (Nat.le_of_ble_eq_true rfl) dX0_layDressing_14 (fun H locs hP hD hS => ?_)
  have hP : va_P (dC, dI) vwCl (XW cy x0 x (upd v6 39 0) f7) H := hP
  have hD : va_D A (XW cy x0 x (upd v6 39 0) f7) := hD
  refine lv_aload_n hx hb dX0_layDressing_17 rfl (lv_at hl 0 rfl) ?_
  refine lv_iconst (v := 0) hx hb dX0_layDressing_18 rfl ?_
  refine va_put (D := (dC, dI)) (ci := 0) (v := .int 0) (ty := tyX0 7) (C := RX0) (T := TX0) (N := 8) hx hb hts inB_0 tyX0 tyX0_ok nmX0 hown hE.1 hP hD hS 32 rfl rfl 7 (Nat.le_of_ble_eq_true rfl) (hts _ k_439) (fun _ h9 => h9) rfl (tyX0_ok 7 (by decide)) rfl rfl (Nat.le_of_ble_eq_true rfl) dX0_layDressing_19 (fun H locs hP hD hS => ?_)
  have hP : va_P (dC, dI) vwCl (XW cy x0 x (upd (upd v6 39 0) 40 0) f7) H := hP
  have hD : va_D A (XW cy x0 x (upd (upd v6 39 0) 40 0) f7) := hD
  refine lv_iconst (v := 0) hx hb dX0_layDressing_22 rfl ?_
  refine lv_istore_n (lv' := [(1, .int 0), (0, .ref (x 31))]) hx hb dX0_layDressing_23 rfl hl (Nat.le_of_ble_eq_true rfl) rfl (fun ls hl => ?_)
  refine lv_iconst (v := 0) hx hb dX0_layDressing_24 rfl ?_
  refine lv_istore_n (lv' := [(2, .int 0), (1, .int 0), (0, .ref (x 31))]) hx hb dX0_layDressing_25 rfl hl (Nat.le_of_ble_eq_true rfl) rfl (fun ls hl => ?_)
  have lp8 : ∀ (n8 : Nat) (l1_8 : Int32) (l2_8 : Int32) (v8 : Nat → Int32) (f8 : Nat → Nat → Int32), XI v8 → v8 0 = (v 0) → v8 1 = (v 1) → v8 7 = (v 7) → v8 8 = (v 8) → v8 9 = (v 9) → v8 10 = (v 10) → v8 31 = (v 31) → v8 32 = (v 32) → ((0 : Int) ≤ l1_8.toInt ∧ l1_8.toInt ≤ 63) → ((0 : Int) ≤ l2_8.toInt ∧ l2_8.toInt ≤ 2147483647) → KV [38, 39, 40] v8 v → KF [13, 14, 20, 21, 22] f8 f → (2147483647 - l2_8.toInt).toNat < n8 → ∀ (H : Heap) (locs : List Loc) (ls : Array Slot), va_P (dC, dI) vwCl (XW cy x0 x v8 f8) H → va_D A (XW cy x0 x v8 f8) → va_S A s.heap H locs → lv_has ls 4 [(2, .int l2_8), (1, .int l1_8), (0, .ref (x 31))] → W p l e { frames := 5, cells := 0, slots := 0, locals := 156 } s m ([.ref (x 31)] : List Value).toArray below meth c H locs 0 0 Q (F0 m 26 ls []) := by
    intro n8
    induction n8 with
    | zero => intro l1_8 l2_8 v8 f8 hIv8 hq0_v8 hq1_v8 hq7_v8 hq8_v8 hq9_v8 hq10_v8 hq31_v8 hq32_v8 hr1_8 hr2_8 hM_v8 hA_f8 hm; exact absurd hm (Nat.not_lt_zero _)
    | succ n8 ih8 =>
      intro l1_8 l2_8 v8 f8 hIv8 hq0_v8 hq1_v8 hq7_v8 hq8_v8 hq9_v8 hq10_v8 hq31_v8 hq32_v8 hr1_8 hr2_8 hM_v8 hA_f8 hm8 H locs ls hP hD hS hl
      refine lv_iload_n hx hb dX0_layDressing_26 rfl (lv_at hl 0 rfl) ?_
      refine lv_aload_n hx hb dX0_layDressing_27 rfl (lv_at hl 2 rfl) ?_
      refine va_get (D := (dC, dI)) (ci := 0) (v := .ref (x 26)) (C := RX0) (T := TX0) (N := 8) hx hb hts inB_0 hown hE.1 hP 32 rfl rfl 0 (Nat.le_of_ble_eq_true rfl) (hts _ k_430) (fun _ h9 => h9) rfl dX0_layDressing_28 ?_
      refine va_getN (D := (dC, dI)) (ci := 7) (v := .int (v8 31)) (C := RX7) (T := TX7) (N := 10) hx hb hts inB_7 hown hE.1 hP 27 rfl rfl 3 (Nat.le_of_ble_eq_true rfl) (va_Nw.use rfl (hE.2 _ k_216)) (fun _ h9 => h9) rfl dX0_layDressing_31 ?_
      refine tI (y := (v 31)) hq31_v8 ?_
      have b31_v : 0 ≤ (v 31).toInt ∧ (v 31).toInt ≤ 6 := XI.b hIv 31 (by decide)
      refine lv_icmp_ge (tgt := 94) hx hb dX0_layDressing_34 rfl (fun c9 => ?_) (fun c9 => ?_)
      · skip
        have zc9 : (v 31).toInt ≤ l2_8.toInt := by rw [fa_le] at c9; exact c9
        have rg10 := fb_rng l2_8
        have rg11 := fb_rng (v 31)
        exact ret (v8, f8) _ _ _ _ _ _ ⟨hM_v8, hA_f8, hIv8, hq0_v8, hq1_v8, hq7_v8, hq8_v8, hq9_v8, hq10_v8, hq31_v8, hq32_v8⟩ hP hD hS dX0_layDressing_94 (Nat.le_refl _) (Nat.le_refl _)
      · skip
        have zc9 : ¬ ((v 31).toInt ≤ l2_8.toInt) := by rw [fa_le] at c9; exact c9
        have rg12 := fb_rng l2_8
        have rg13 := fb_rng (v 31)
        refine lv_aload_n hx hb dX0_layDressing_37 rfl (lv_at hl 2 rfl) ?_
        refine lv_iload_n hx hb dX0_layDressing_38 rfl (lv_at hl 0 rfl) ?_
        refine lv_iload_n hx hb dX0_layDressing_39 rfl (lv_at hl 1 rfl) ?_
        refine cbVi (n := 2) (rest := []) hx hb hml hown hts hE hP hD hS hA (sX_X0_firstBest_1 l dC dI cy x0 x l2_8 l1_8 v8 f8 hIv8 ⟨show (0 : Int) ≤ l2_8.toInt by omega, show l2_8.toInt ≤ (5 : Int) by omega⟩ ⟨show (0 : Int) ≤ l1_8.toInt by omega, show l1_8.toInt ≤ (63 : Int) by omega⟩) k_991 k_993 k_25 k_111 k_994 (by decide +kernel) ⟨Nat.le_of_ble_eq_true rfl, Nat.le_of_ble_eq_true rfl⟩ 32 0 rfl rfl (rfl) hl.1 rfl (Nat.le_of_ble_eq_true rfl) dX0_layDressing_40 (fun r14 u H locs hw hP hD hS => ?_)
        refine lv_istore_n (lv' := [(3, .int r14), (2, .int l2_8), (1, .int l1_8), (0, .ref (x 31))]) hx hb dX0_layDressing_43 rfl hl (Nat.le_of_ble_eq_true rfl) rfl (fun ls hl => ?_)
        refine lv_aload_n hx hb dX0_layDressing_44 rfl (lv_at hl 3 rfl) ?_
        refine lv_iload_n hx hb dX0_layDressing_45 rfl (lv_at hl 0 rfl) ?_
        refine cbVv (n := 1) (rest := []) hx hb hml hown hts hE hP hD hS hA (sX_X0_lay_1 l dC dI cy x0 x r14 v8 f8 hIv8 ) k_995 k_997 k_26 k_111 k_998 (by decide +kernel) ⟨Nat.le_of_ble_eq_true rfl, Nat.le_of_ble_eq_true rfl⟩ 32 0 rfl rfl (rfl) hl.1 rfl (Nat.le_of_ble_eq_true rfl) dX0_layDressing_46 (fun u H locs hw hP hD hS => ?_)
        obtain ⟨v15, f16⟩ := u
        obtain ⟨kV_v15, kF_f16, hIv15, hk0_v15, hk1_v15, hk7_v15, hk8_v15, hk9_v15, hk10_v15, hk31_v15, hk32_v15⟩ := hw
        have hM_v15 : KV [38, 39, 40] v15 v := KV.tr kV_v15 hM_v8 rfl
        have hA_f16 : KF [13, 14, 20, 21, 22] f16 f := KF.tr kF_f16 hA_f8 rfl
        have hP : va_P (dC, dI) vwCl (XW cy x0 x v15 f16) H := hP
        have hD : va_D A (XW cy x0 x v15 f16) := hD
        have hq0_v15 : v15 0 = (v 0) := hk0_v15.trans hq0_v8
        have hq1_v15 : v15 1 = (v 1) := hk1_v15.trans hq1_v8
        have hq7_v15 : v15 7 = (v 7) := hk7_v15.trans hq7_v8
        have hq8_v15 : v15 8 = (v 8) := hk8_v15.trans hq8_v8
        have hq9_v15 : v15 9 = (v 9) := hk9_v15.trans hq9_v8
        have hq10_v15 : v15 10 = (v 10) := hk10_v15.trans hq10_v8
        have hq31_v15 : v15 31 = (v 31) := hk31_v15.trans hq31_v8
        have hq32_v15 : v15 32 = (v 32) := hk32_v15.trans hq32_v8
        refine lv_iload_n hx hb dX0_layDressing_49 rfl (lv_at hl 0 rfl) ?_
        refine lv_iconst (v := (-1)) hx hb dX0_layDressing_50 rfl ?_
        refine lv_icmp_eq (tgt := 88) hx hb dX0_layDressing_51 rfl (fun c17 => ?_) (fun c17 => ?_)
        · skip
          have zc17 : r14.toInt = (-1) := by rw [fa_eq, show ((-1) : Int32).toInt = -1 from by decide] at c17; exact c17
          obtain ⟨t18, et18⟩ : ∃ y : Int32, y = l2_8 + 1 := ⟨_, rfl⟩
          have zt18 : t18.toInt = l2_8.toInt + 1 := by rw [et18]; exact add_i rfl (by decide) (by omega) (by omega)
          refine lv_iinc (v := t18) (lv' := [(2, .int t18), (3, .int r14), (1, .int l1_8), (0, .ref (x 31))]) hx hb dX0_layDressing_88 hl (k := 1) rfl (by rw [et18]; rfl) (by decide) rfl (fun ls hl => ?_)
          refine lv_goto (tgt := 26) hx hb dX0_layDressing_91 rfl ?_
          have rg19 := fb_rng l1_8
          have rg20 := fb_rng t18
          exact ih8 l1_8 t18 v15 f16 hIv15 hq0_v15 hq1_v15 hq7_v15 hq8_v15 hq9_v15 hq10_v15 hq31_v15 hq32_v15 ⟨show (0 : Int) ≤ l1_8.toInt by omega, show l1_8.toInt ≤ (63 : Int) by omega⟩ ⟨show (0 : Int) ≤ t18.toInt by omega, show t18.toInt ≤ (2147483647 : Int) by omega⟩ hM_v15 hA_f16 (by show (2147483647 - t18.toInt).toNat < n8; omega) _ _ _ hP hD hS (lv_sub hl [0, 2, 3] rfl)
        · skip
          have zc17 : ¬ (r14.toInt = (-1)) := by rw [fa_eq, show ((-1) : Int32).toInt = -1 from by decide] at c17; exact c17
          refine lv_iload_n hx hb dX0_layDressing_54 rfl (lv_at hl 2 rfl) ?_
          refine lv_iconst (v := 1) hx hb dX0_layDressing_55 rfl ?_
          refine lv_iload_n hx hb dX0_layDressing_56 rfl (lv_at hl 0 rfl) ?_
          refine lv_ishl hx hb dX0_layDressing_57 ?_
          refine lv_topi (fun t21 et21 => ?_)
          have zt21 : 1 ≤ t21.toInt ∧ t21.toInt ≤ 32 := by rw [et21]; exact shl1_rng (by omega) (by omega)
          refine lv_ior hx hb dX0_layDressing_58 ?_
          refine lv_topi (fun t22 et22 => ?_)
          have zt22 : 0 ≤ t22.toInt ∧ t22.toInt ≤ 63 := by rw [et22]; exact or_rng (by omega) (by omega) (by omega) (by omega)
          refine lv_istore_n (lv' := [(1, .int t22), (3, .int r14), (2, .int l2_8), (0, .ref (x 31))]) hx hb dX0_layDressing_59 rfl hl (Nat.le_of_ble_eq_true rfl) rfl (fun ls hl => ?_)
          refine lv_aload_n hx hb dX0_layDressing_60 rfl (lv_at hl 3 rfl) ?_
          refine lv_dup hx hb dX0_layDressing_61 rfl ?_
          refine va_get (D := (dC, dI)) (ci := 0) (v := .int (v15 39)) (C := RX0) (T := TX0) (N := 8) hx hb hts inB_0 hown hE.1 hP 32 rfl rfl 6 (Nat.le_of_ble_eq_true rfl) (hts _ k_437) (fun _ h9 => h9) rfl dX0_layDressing_62 ?_
          refine lv_iconst (v := 1) hx hb dX0_layDressing_65 rfl ?_
          refine lv_iadd hx hb dX0_layDressing_66 ?_
          refine lv_topi (fun t23 et23 => ?_)
          refine va_put (D := (dC, dI)) (ci := 0) (v := .int t23) (ty := tyX0 6) (C := RX0) (T := TX0) (N := 8) hx hb hts inB_0 tyX0 tyX0_ok nmX0 hown hE.1 hP hD hS 32 rfl rfl 6 (Nat.le_of_ble_eq_true rfl) (hts _ k_437) (fun _ h9 => h9) rfl (tyX0_ok 6 (by decide)) rfl rfl (Nat.le_of_ble_eq_true rfl) dX0_layDressing_67 (fun H locs hP hD hS => ?_)
          have hP : va_P (dC, dI) vwCl (XW cy x0 x (upd v15 39 t23) f16) H := hP
          have hD : va_D A (XW cy x0 x (upd v15 39 t23) f16) := hD
          refine lv_aload_n hx hb dX0_layDressing_70 rfl (lv_at hl 3 rfl) ?_
          refine lv_dup hx hb dX0_layDressing_71 rfl ?_
          refine va_get (D := (dC, dI)) (ci := 0) (v := .int (v15 40)) (C := RX0) (T := TX0) (N := 8) hx hb hts inB_0 hown hE.1 hP 32 rfl rfl 7 (Nat.le_of_ble_eq_true rfl) (hts _ k_439) (fun _ h9 => h9) rfl dX0_layDressing_72 ?_
          refine lv_aload_n hx hb dX0_layDressing_75 rfl (lv_at hl 3 rfl) ?_
          refine va_get (D := (dC, dI)) (ci := 0) (v := .ref (x 21)) (C := RX0) (T := TX0) (N := 8) hx hb hts inB_0 hown hE.1 hP 32 rfl rfl 1 (Nat.le_of_ble_eq_true rfl) (hts _ k_431) (fun _ h9 => h9) rfl dX0_layDressing_76 ?_
          refine lv_iload_n hx hb dX0_layDressing_79 rfl (lv_at hl 2 rfl) ?_
          refine lv_iload_n hx hb dX0_layDressing_80 rfl (lv_at hl 1 rfl) ?_
          refine cbVi (n := 2) (rest := [.int (v15 40), .ref (x 31)]) hx hb hml hown hts hE hP hD hS hA (sX_X1_illness_1 l dC dI cy x0 x l2_8 r14 (upd v15 39 t23) f16 (XI.upd (j := 39) (x := t23) hIv15 (rlo _) (rhi _)) ) k_979 k_823 k_824 k_106 k_825 (by decide +kernel) ⟨Nat.le_of_ble_eq_true rfl, Nat.le_of_ble_eq_true rfl⟩ 22 1 rfl rfl (rfl) hl.1 rfl (Nat.le_of_ble_eq_true rfl) dX0_layDressing_81 (fun r24 u H locs hw hP hD hS => ?_)
          obtain ⟨v25, f26⟩ := u
          obtain ⟨kV_v25, kF_f26, hIv25, hk0_v25, hk1_v25, hk7_v25, hk8_v25, hk9_v25, hk10_v25, hk31_v25, hk32_v25⟩ := hw
          have hM_v25 : KV [38, 39, 40] v25 v := KV.tr kV_v25 (KV.up (j := 39) (x := t23) hM_v15 rfl) rfl
          have hA_f26 : KF [13, 14, 20, 21, 22] f26 f := KF.tr kF_f26 hA_f16 rfl
          have hP : va_P (dC, dI) vwCl (XW cy x0 x v25 f26) H := hP
          have hD : va_D A (XW cy x0 x v25 f26) := hD
          have hq0_v25 : v25 0 = (v 0) := hk0_v25.trans hq0_v15
          have hq1_v25 : v25 1 = (v 1) := hk1_v25.trans hq1_v15
          have hq7_v25 : v25 7 = (v 7) := hk7_v25.trans hq7_v15
          have hq8_v25 : v25 8 = (v 8) := hk8_v25.trans hq8_v15
          have hq9_v25 : v25 9 = (v 9) := hk9_v25.trans hq9_v15
          have hq10_v25 : v25 10 = (v 10) := hk10_v25.trans hq10_v15
          have hq31_v25 : v25 31 = (v 31) := hk31_v25.trans hq31_v15
          have hq32_v25 : v25 32 = (v 32) := hk32_v25.trans hq32_v15
          refine lv_iadd hx hb dX0_layDressing_84 ?_
          refine lv_topi (fun t27 et27 => ?_)
          refine va_put (D := (dC, dI)) (ci := 0) (v := .int t27) (ty := tyX0 7) (C := RX0) (T := TX0) (N := 8) hx hb hts inB_0 tyX0 tyX0_ok nmX0 hown hE.1 hP hD hS 32 rfl rfl 7 (Nat.le_of_ble_eq_true rfl) (hts _ k_439) (fun _ h9 => h9) rfl (tyX0_ok 7 (by decide)) rfl rfl (Nat.le_of_ble_eq_true rfl) dX0_layDressing_85 (fun H locs hP hD hS => ?_)
          have hP : va_P (dC, dI) vwCl (XW cy x0 x (upd v25 40 t27) f26) H := hP
          have hD : va_D A (XW cy x0 x (upd v25 40 t27) f26) := hD
          obtain ⟨t28, et28⟩ : ∃ y : Int32, y = l2_8 + 1 := ⟨_, rfl⟩
          have zt28 : t28.toInt = l2_8.toInt + 1 := by rw [et28]; exact add_i rfl (by decide) (by omega) (by omega)
          refine lv_iinc (v := t28) (lv' := [(2, .int t28), (1, .int t22), (3, .int r14), (0, .ref (x 31))]) hx hb dX0_layDressing_88 hl (k := 2) rfl (by rw [et28]; rfl) (by decide) rfl (fun ls hl => ?_)
          refine lv_goto (tgt := 26) hx hb dX0_layDressing_91 rfl ?_
          have rg29 := fb_rng t22
          have rg30 := fb_rng t28
          exact ih8 t22 t28 (upd v25 40 t27) f26 (XI.upd (j := 40) (x := t27) hIv25 (rlo _) (rhi _)) hq0_v25 hq1_v25 hq7_v25 hq8_v25 hq9_v25 hq10_v25 hq31_v25 hq32_v25 ⟨show (0 : Int) ≤ t22.toInt by omega, show t22.toInt ≤ (63 : Int) by omega⟩ ⟨show (0 : Int) ≤ t28.toInt by omega, show t28.toInt ≤ (2147483647 : Int) by omega⟩ (KV.up (j := 40) (x := t27) hM_v25 rfl) hA_f26 (by show (2147483647 - t28.toInt).toNat < n8; omega) _ _ _ hP hD hS (lv_sub hl [0, 1, 3] rfl)
  exact lp8 _ 0 0 (upd (upd v6 39 0) 40 0) f7 (XI.upd (j := 40) (x := 0) (XI.upd (j := 39) (x := 0) hIv6 (rlo _) (rhi _)) (rlo _) (rhi _)) hq0_v6 hq1_v6 hq7_v6 hq8_v6 hq9_v6 hq10_v6 hq31_v6 hq32_v6 ⟨by decide, by decide⟩ ⟨by decide, by decide⟩ (KV.up (j := 40) (x := 0) (KV.up (j := 39) (x := 0) hM_v6 rfl) rfl) hA_f7 (Nat.lt_succ_self _) _ _ _ hP hD hS (lv_sub hl [0, 1, 2] rfl)
set_option maxHeartbeats 4000000 in
set_option maxRecDepth 100000 in
theorem sX_X10_dress_1 (l : Launch) (dC : Nat → ClassId) (dI : Nat → Nat → Nat) (cy : Nat → ClassId) (x0 : Nat) (x : Nat → Nat) (p1 : Int32) (v : Nat → Int32) (f : Nat → Nat → Int32) (hIv : XI v)  : ctI l (dC, dI) cy yX10_dress cX10_dress 2 .int 6 179 0 0 ((Nat → Int32) × (Nat → Nat → Int32)) [.ref x0, .int p1] (XW cy x0 x v f) (fun r u => KV [38, 39, 40] u.1 v ∧ KF [13, 14, 20, 21, 22] u.2 f ∧ XI u.1 ∧ u.1 0 = v 0 ∧ u.1 1 = v 1 ∧ u.1 7 = v 7 ∧ u.1 8 = v 8 ∧ u.1 9 = v 9 ∧ u.1 10 = v 10 ∧ u.1 31 = v 31 ∧ u.1 32 = v 32) (fun u => XW cy x0 x u.1 u.2) := by
  refine ctI_of (by decide) (Nat.le_of_ble_eq_true rfl) (fun p e s m below meth c A ls Q hx hb hml hts hown hE hP hD hA hl ret => ?_)
  have hM_v : KV [38, 39, 40] v v := fun _ _ => rfl
  have hA_f : KF [13, 14, 20, 21, 22] f f := fun _ _ => rfl
  have hown : s.vm.findClass RX10 = some m.cls := hown
  have hS : va_S A s.heap s.heap [] := va_S.rf
  have hl : lv_has ls 2 [(0, .ref x0), (1, .int p1)] := hl
  refine lv_aload_n hx hb dX10_dress_0 rfl (lv_at hl 0 rfl) ?_
  refine va_get (D := (dC, dI)) (ci := 10) (v := .ref (x 31)) (C := RX10) (T := TX10) (N := 10) hx hb hts inB_10 hown hE.1 hP 0 rfl rfl 7 (Nat.le_of_ble_eq_true rfl) (hts _ k_498) (fun _ h9 => h9) rfl dX10_dress_1 ?_
  refine cbVv (n := 0) (rest := []) hx hb hml hown hts hE hP hD hS hA (sX_X0_layDressing_1 l dC dI cy x0 x  v f hIv ) k_971 k_972 k_973 k_111 k_974 (by decide +kernel) ⟨Nat.le_of_ble_eq_true rfl, Nat.le_of_ble_eq_true rfl⟩ 32 0 rfl rfl (rfl) hl.1 rfl (Nat.le_of_ble_eq_true rfl) dX10_dress_4 (fun u H locs hw hP hD hS => ?_)
  obtain ⟨v1, f2⟩ := u
  obtain ⟨kV_v1, kF_f2, hIv1, hk0_v1, hk1_v1, hk7_v1, hk8_v1, hk9_v1, hk10_v1, hk31_v1, hk32_v1⟩ := hw
  have hM_v1 : KV [38, 39, 40] v1 v := KV.tr kV_v1 hM_v rfl
  have hA_f2 : KF [13, 14, 20, 21, 22] f2 f := KF.tr kF_f2 hA_f rfl
  have hP : va_P (dC, dI) vwCl (XW cy x0 x v1 f2) H := hP
  have hD : va_D A (XW cy x0 x v1 f2) := hD
  have hq0_v1 : v1 0 = (v 0) := hk0_v1
  have hq1_v1 : v1 1 = (v 1) := hk1_v1
  have hq7_v1 : v1 7 = (v 7) := hk7_v1
  have hq8_v1 : v1 8 = (v 8) := hk8_v1
  have hq9_v1 : v1 9 = (v 9) := hk9_v1
  have hq10_v1 : v1 10 = (v 10) := hk10_v1
  have hq31_v1 : v1 31 = (v 31) := hk31_v1
  have hq32_v1 : v1 32 = (v 32) := hk32_v1
  refine lv_iload_n hx hb dX10_dress_7 rfl (lv_at hl 1 rfl) ?_
  refine lv_if_ne (tgt := 21) hx hb dX10_dress_8 rfl (fun c3 => ?_) (fun c3 => ?_)
  · skip
    have zc3 : ¬ (p1.toInt = 0) := by rw [fa_eq, show (0 : Int32).toInt = 0 from by decide] at c3; exact c3
    refine lv_iload_n hx hb dX10_dress_21 rfl (lv_at hl 1 rfl) ?_
    refine lv_iconst (v := 1) hx hb dX10_dress_22 rfl ?_
    refine lv_icmp_ne (tgt := 36) hx hb dX10_dress_23 rfl (fun c4 => ?_) (fun c4 => ?_)
    · skip
      have zc4 : ¬ (p1.toInt = 1) := by rw [fa_eq, show (1 : Int32).toInt = 1 from by decide] at c4; exact c4
      refine lv_iconst (v := (-1)) hx hb dX10_dress_36 rfl ?_
      exact ret (-1) (v1, f2) _ _ _ _ _ _ rfl ⟨hM_v1, hA_f2, hIv1, hk0_v1, hk1_v1, hk7_v1, hk8_v1, hk9_v1, hk10_v1, hk31_v1, hk32_v1⟩ hP hD hS dX10_dress_37 (Nat.le_refl _) (Nat.le_refl _)
    · skip
      have zc4 : p1.toInt = 1 := by rw [fa_eq, show (1 : Int32).toInt = 1 from by decide] at c4; exact c4
      refine lv_aload_n hx hb dX10_dress_26 rfl (lv_at hl 0 rfl) ?_
      refine va_get (D := (dC, dI)) (ci := 10) (v := .ref (x 31)) (C := RX10) (T := TX10) (N := 10) hx hb hts inB_10 hown hE.1 hP 0 rfl rfl 7 (Nat.le_of_ble_eq_true rfl) (hts _ k_498) (fun _ h9 => h9) rfl dX10_dress_27 ?_
      refine va_getN (D := (dC, dI)) (ci := 0) (v := .int (v1 40)) (C := RX0) (T := TX0) (N := 8) hx hb hts inB_0 hown hE.1 hP 32 rfl rfl 7 (Nat.le_of_ble_eq_true rfl) (va_Nw.use rfl (hE.2 _ k_440)) (fun _ h9 => h9) rfl dX10_dress_30 ?_
      refine lv_goto (tgt := 37) hx hb dX10_dress_33 rfl ?_
      exact ret (v1 40) (v1, f2) _ _ _ _ _ _ rfl ⟨hM_v1, hA_f2, hIv1, hk0_v1, hk1_v1, hk7_v1, hk8_v1, hk9_v1, hk10_v1, hk31_v1, hk32_v1⟩ hP hD hS dX10_dress_37 (Nat.le_refl _) (Nat.le_refl _)
  · skip
    have zc3 : p1.toInt = 0 := by rw [fa_eq, show (0 : Int32).toInt = 0 from by decide] at c3; exact c3
    refine lv_aload_n hx hb dX10_dress_11 rfl (lv_at hl 0 rfl) ?_
    refine va_get (D := (dC, dI)) (ci := 10) (v := .ref (x 31)) (C := RX10) (T := TX10) (N := 10) hx hb hts inB_10 hown hE.1 hP 0 rfl rfl 7 (Nat.le_of_ble_eq_true rfl) (hts _ k_498) (fun _ h9 => h9) rfl dX10_dress_12 ?_
    refine va_getN (D := (dC, dI)) (ci := 0) (v := .int (v1 39)) (C := RX0) (T := TX0) (N := 8) hx hb hts inB_0 hown hE.1 hP 32 rfl rfl 6 (Nat.le_of_ble_eq_true rfl) (va_Nw.use rfl (hE.2 _ k_438)) (fun _ h9 => h9) rfl dX10_dress_15 ?_
    refine lv_goto (tgt := 37) hx hb dX10_dress_18 rfl ?_
    exact ret (v1 39) (v1, f2) _ _ _ _ _ _ rfl ⟨hM_v1, hA_f2, hIv1, hk0_v1, hk1_v1, hk7_v1, hk8_v1, hk9_v1, hk10_v1, hk31_v1, hk32_v1⟩ hP hD hS dX10_dress_37 (Nat.le_refl _) (Nat.le_refl _)
set_option maxHeartbeats 4000000 in
set_option maxRecDepth 100000 in
theorem sX_X3_sewnFits_1 (l : Launch) (dC : Nat → ClassId) (dI : Nat → Nat → Nat) (cy : Nat → ClassId) (x0 : Nat) (x : Nat → Nat) (p1 : Int32) (p2 : Int32) (p3 : Int32) (p4 : Int32) (v : Nat → Int32) (f : Nat → Nat → Int32) (hIv : XI v)  : ctI l (dC, dI) cy yX3_sewnFits cX3_sewnFits 7 .boolean 3 111 0 0 ((Nat → Int32) × (Nat → Nat → Int32)) [.ref (x 25), .int p1, .int p2, .int p3, .int p4] (XW cy x0 x v f) (fun r u => KV [24, 25] u.1 v ∧ KF [13, 14] u.2 f ∧ XI u.1 ∧ u.1 0 = v 0 ∧ u.1 1 = v 1 ∧ u.1 7 = v 7 ∧ u.1 8 = v 8 ∧ u.1 9 = v 9 ∧ u.1 10 = v 10 ∧ u.1 31 = v 31 ∧ u.1 32 = v 32 ∧ ((r = 1) ∨ (r = 0))) (fun u => XW cy x0 x u.1 u.2) := by
  refine ctI_of (by decide) (Nat.le_of_ble_eq_true rfl) (fun p e s m below meth c A ls Q hx hb hml hts hown hE hP hD hA hl ret => ?_)
  have hM_v : KV [24, 25] v v := fun _ _ => rfl
  have hA_f : KF [13, 14] f f := fun _ _ => rfl
  have hown : s.vm.findClass RX3 = some m.cls := hown
  have hS : va_S A s.heap s.heap [] := va_S.rf
  have hl : lv_has ls 7 [(0, .ref (x 25)), (1, .int p1), (2, .int p2), (3, .int p3), (4, .int p4)] := hl
  refine lv_aload_n hx hb dX3_sewnFits_0 rfl (lv_at hl 0 rfl) ?_
  refine va_get (D := (dC, dI)) (ci := 3) (v := .ref (x 21)) (C := RX3) (T := TX3) (N := 10) hx hb hts inB_3 hown hE.1 hP 26 rfl rfl 1 (Nat.le_of_ble_eq_true rfl) (hts _ k_371) (fun _ h9 => h9) rfl dX3_sewnFits_1 ?_
  refine lv_iconst (v := 0) hx hb dX3_sewnFits_4 rfl ?_
  refine lv_iload_n hx hb dX3_sewnFits_5 rfl (lv_at hl 1 rfl) ?_
  refine cbVi (n := 2) (rest := []) hx hb hml hown hts hE hP hD hS hA (sX_X1_part_1 l dC dI cy x0 x 0 p1 v f hIv ) k_1012 k_828 k_829 k_106 k_830 (by decide +kernel) ⟨Nat.le_of_ble_eq_true rfl, Nat.le_of_ble_eq_true rfl⟩ 22 1 rfl rfl (rfl) hl.1 rfl (Nat.le_of_ble_eq_true rfl) dX3_sewnFits_6 (fun r1 u H locs hw hP hD hS => ?_)
  refine lv_iload_n hx hb dX3_sewnFits_9 rfl (lv_at hl 3 rfl) ?_
  refine lv_isub hx hb dX3_sewnFits_10 ?_
  refine lv_topi (fun t2 et2 => ?_)
  refine lv_istore (lv' := [(5, .int t2), (0, .ref (x 25)), (1, .int p1), (2, .int p2), (3, .int p3), (4, .int p4)]) hx hb dX3_sewnFits_11 hl (Nat.le_of_ble_eq_true rfl) rfl (fun ls hl => ?_)
  refine lv_aload_n hx hb dX3_sewnFits_13 rfl (lv_at hl 1 rfl) ?_
  refine va_get (D := (dC, dI)) (ci := 3) (v := .ref (x 21)) (C := RX3) (T := TX3) (N := 10) hx hb hts inB_3 hown hE.1 hP 26 rfl rfl 1 (Nat.le_of_ble_eq_true rfl) (hts _ k_371) (fun _ h9 => h9) rfl dX3_sewnFits_14 ?_
  refine lv_iconst (v := 1) hx hb dX3_sewnFits_17 rfl ?_
  refine lv_iload_n hx hb dX3_sewnFits_18 rfl (lv_at hl 2 rfl) ?_
  refine cbVi (n := 2) (rest := []) hx hb hml hown hts hE hP hD hS hA (sX_X1_part_1 l dC dI cy x0 x 1 p1 v f hIv ) k_1012 k_828 k_829 k_106 k_830 (by decide +kernel) ⟨Nat.le_of_ble_eq_true rfl, Nat.le_of_ble_eq_true rfl⟩ 22 1 rfl rfl (rfl) hl.1 rfl (Nat.le_of_ble_eq_true rfl) dX3_sewnFits_19 (fun r3 u H locs hw hP hD hS => ?_)
  refine lv_iload hx hb dX3_sewnFits_22 (lv_at hl 5 rfl) ?_
  refine lv_isub hx hb dX3_sewnFits_24 ?_
  refine lv_topi (fun t4 et4 => ?_)
  refine lv_istore (lv' := [(6, .int t4), (5, .int t2), (0, .ref (x 25)), (1, .int p1), (2, .int p2), (3, .int p3), (4, .int p4)]) hx hb dX3_sewnFits_25 hl (Nat.le_of_ble_eq_true rfl) rfl (fun ls hl => ?_)
  refine lv_iload hx hb dX3_sewnFits_27 (lv_at hl 1 rfl) ?_
  refine lv_if_lt (tgt := 59) hx hb dX3_sewnFits_29 rfl (fun c5 => ?_) (fun c5 => ?_)
  · skip
    have zc5 : t2.toInt < 0 := by rw [fa_lt, show (0 : Int32).toInt = 0 from by decide] at c5; exact c5
    refine lv_iconst (v := 0) hx hb dX3_sewnFits_59 rfl ?_
    exact ret 0 (v, f) _ _ _ _ _ _ rfl ⟨hM_v, hA_f, hIv, rfl, rfl, rfl, rfl, rfl, rfl, rfl, rfl, (Or.inr rfl)⟩ hP hD hS dX3_sewnFits_60 (Nat.le_refl _) (Nat.le_refl _)
  · skip
    have zc5 : ¬ (t2.toInt < 0) := by rw [fa_lt, show (0 : Int32).toInt = 0 from by decide] at c5; exact c5
    refine lv_iload hx hb dX3_sewnFits_32 (lv_at hl 0 rfl) ?_
    refine lv_if_lt (tgt := 59) hx hb dX3_sewnFits_34 rfl (fun c6 => ?_) (fun c6 => ?_)
    · skip
      have zc6 : t4.toInt < 0 := by rw [fa_lt, show (0 : Int32).toInt = 0 from by decide] at c6; exact c6
      refine lv_iconst (v := 0) hx hb dX3_sewnFits_59 rfl ?_
      exact ret 0 (v, f) _ _ _ _ _ _ rfl ⟨hM_v, hA_f, hIv, rfl, rfl, rfl, rfl, rfl, rfl, rfl, rfl, (Or.inr rfl)⟩ hP hD hS dX3_sewnFits_60 (Nat.le_refl _) (Nat.le_refl _)
    · skip
      have zc6 : ¬ (t4.toInt < 0) := by rw [fa_lt, show (0 : Int32).toInt = 0 from by decide] at c6; exact c6
      refine lv_iload hx hb dX3_sewnFits_37 (lv_at hl 0 rfl) ?_
      refine lv_bipush (v := 99) hx hb dX3_sewnFits_39 rfl ?_
      refine lv_icmp_gt (tgt := 59) hx hb dX3_sewnFits_41 rfl (fun c7 => ?_) (fun c7 => ?_)
      · skip
        have zc7 : 99 < t4.toInt := by rw [fa_lt, show (99 : Int32).toInt = 99 from by decide] at c7; exact c7
        refine lv_iconst (v := 0) hx hb dX3_sewnFits_59 rfl ?_
        exact ret 0 (v, f) _ _ _ _ _ _ rfl ⟨hM_v, hA_f, hIv, rfl, rfl, rfl, rfl, rfl, rfl, rfl, rfl, (Or.inr rfl)⟩ hP hD hS dX3_sewnFits_60 (Nat.le_refl _) (Nat.le_refl _)
      · skip
        have zc7 : ¬ (99 < t4.toInt) := by rw [fa_lt, show (99 : Int32).toInt = 99 from by decide] at c7; exact c7
        refine lv_iload hx hb dX3_sewnFits_44 (lv_at hl 6 rfl) ?_
        refine lv_ineg hx hb dX3_sewnFits_46 ?_
        refine lv_topi (fun t8 et8 => ?_)
        refine lv_aload_n hx hb dX3_sewnFits_47 rfl (lv_at hl 2 rfl) ?_
        refine va_get (D := (dC, dI)) (ci := 3) (v := .ref (x 21)) (C := RX3) (T := TX3) (N := 10) hx hb hts inB_3 hown hE.1 hP 26 rfl rfl 1 (Nat.le_of_ble_eq_true rfl) (hts _ k_371) (fun _ h9 => h9) rfl dX3_sewnFits_48 ?_
        refine lv_iconst (v := 2) hx hb dX3_sewnFits_51 rfl ?_
        refine lv_iload_n hx hb dX3_sewnFits_52 rfl (lv_at hl 3 rfl) ?_
        refine cbVi (n := 2) (rest := [.int t8]) hx hb hml hown hts hE hP hD hS hA (sX_X1_part_1 l dC dI cy x0 x 2 p1 v f hIv ) k_1012 k_828 k_829 k_106 k_830 (by decide +kernel) ⟨Nat.le_of_ble_eq_true rfl, Nat.le_of_ble_eq_true rfl⟩ 22 1 rfl rfl (rfl) hl.1 rfl (Nat.le_of_ble_eq_true rfl) dX3_sewnFits_53 (fun r9 u H locs hw hP hD hS => ?_)
        refine lv_icmp_le (tgt := 61) hx hb dX3_sewnFits_56 rfl (fun c10 => ?_) (fun c10 => ?_)
        · skip
          have zc10 : t8.toInt ≤ r9.toInt := by rw [fa_le] at c10; exact c10
          have rg11 := fb_rng t8
          have rg12 := fb_rng r9
          refine lv_aload_n hx hb dX3_sewnFits_61 rfl (lv_at hl 2 rfl) ?_
          refine lv_iload_n hx hb dX3_sewnFits_62 rfl (lv_at hl 5 rfl) ?_
          refine va_put (D := (dC, dI)) (ci := 3) (v := .int p3) (ty := tyX3 3) (C := RX3) (T := TX3) (N := 10) hx hb hts inB_3 tyX3 tyX3_ok nmX3 hown hE.1 hP hD hS 26 rfl rfl 3 (Nat.le_of_ble_eq_true rfl) (hts _ k_373) (fun _ h9 => h9) rfl (tyX3_ok 3 (by decide)) rfl rfl (Nat.le_of_ble_eq_true rfl) dX3_sewnFits_63 (fun H locs hP hD hS => ?_)
          have hP : va_P (dC, dI) vwCl (XW cy x0 x (upd v 24 p3) f) H := hP
          have hD : va_D A (XW cy x0 x (upd v 24 p3) f) := hD
          refine lv_aload_n hx hb dX3_sewnFits_66 rfl (lv_at hl 2 rfl) ?_
          refine lv_iload hx hb dX3_sewnFits_67 (lv_at hl 6 rfl) ?_
          refine va_put (D := (dC, dI)) (ci := 3) (v := .int p4) (ty := tyX3 4) (C := RX3) (T := TX3) (N := 10) hx hb hts inB_3 tyX3 tyX3_ok nmX3 hown hE.1 hP hD hS 26 rfl rfl 4 (Nat.le_of_ble_eq_true rfl) (hts _ k_375) (fun _ h9 => h9) rfl (tyX3_ok 4 (by decide)) rfl rfl (Nat.le_of_ble_eq_true rfl) dX3_sewnFits_69 (fun H locs hP hD hS => ?_)
          have hP : va_P (dC, dI) vwCl (XW cy x0 x (upd (upd v 24 p3) 25 p4) f) H := hP
          have hD : va_D A (XW cy x0 x (upd (upd v 24 p3) 25 p4) f) := hD
          refine lv_aload_n hx hb dX3_sewnFits_72 rfl (lv_at hl 2 rfl) ?_
          refine va_get (D := (dC, dI)) (ci := 3) (v := .ref (x 26)) (C := RX3) (T := TX3) (N := 10) hx hb hts inB_3 hown hE.1 hP 26 rfl rfl 0 (Nat.le_of_ble_eq_true rfl) (hts _ k_370) (fun _ h9 => h9) rfl dX3_sewnFits_73 ?_
          refine va_getN (D := (dC, dI)) (ci := 7) (v := .ref (x 15)) (C := RX7) (T := TX7) (N := 10) hx hb hts inB_7 hown hE.1 hP 27 rfl rfl 2 (Nat.le_of_ble_eq_true rfl) (va_Nw.use rfl (hE.2 _ k_207)) (fun _ h9 => h9) rfl dX3_sewnFits_76 ?_
          refine lv_aload_n hx hb dX3_sewnFits_79 rfl (lv_at hl 2 rfl) ?_
          refine va_get (D := (dC, dI)) (ci := 3) (v := .ref (x 26)) (C := RX3) (T := TX3) (N := 10) hx hb hts inB_3 hown hE.1 hP 26 rfl rfl 0 (Nat.le_of_ble_eq_true rfl) (hts _ k_370) (fun _ h9 => h9) rfl dX3_sewnFits_80 ?_
          refine lv_iconst (v := 0) hx hb dX3_sewnFits_83 rfl ?_
          refine lv_iload_n hx hb dX3_sewnFits_84 rfl (lv_at hl 4 rfl) ?_
          refine cbVi (n := 2) (rest := [.ref (x 15)]) hx hb hml hown hts hE hP hD hS hA (sX_X7_manPart_1 0 l dC dI cy x0 x 0 p2 (upd (upd v 24 p3) 25 p4) f (XI.upd (j := 25) (x := p4) (XI.upd (j := 24) (x := p3) hIv (rlo _) (rhi _)) (rlo _) (rhi _)) ) k_1013 k_303 k_304 k_104 k_305 (by decide +kernel) ⟨Nat.le_of_ble_eq_true rfl, Nat.le_of_ble_eq_true rfl⟩ 27 7 rfl rfl (rfl) hl.1 rfl (Nat.le_of_ble_eq_true rfl) dX3_sewnFits_85 (fun r13 u H locs hw hP hD hS => ?_)
          have hG14 := hw
          refine lv_aload_n hx hb dX3_sewnFits_88 rfl (lv_at hl 2 rfl) ?_
          refine va_get (D := (dC, dI)) (ci := 3) (v := .ref (x 21)) (C := RX3) (T := TX3) (N := 10) hx hb hts inB_3 hown hE.1 hP 26 rfl rfl 1 (Nat.le_of_ble_eq_true rfl) (hts _ k_371) (fun _ h9 => h9) rfl dX3_sewnFits_89 ?_
          refine lv_iload_n hx hb dX3_sewnFits_92 rfl (lv_at hl 4 rfl) ?_
          refine cbVi (n := 1) (rest := [.int r13, .ref (x 15)]) hx hb hml hown hts hE hP hD hS hA (sX_X1_manWide_1 l dC dI cy x0 x p2 (upd (upd v 24 p3) 25 p4) f (XI.upd (j := 25) (x := p4) (XI.upd (j := 24) (x := p3) hIv (rlo _) (rhi _)) (rlo _) (rhi _)) ) k_1014 k_805 k_806 k_106 k_807 (by decide +kernel) ⟨Nat.le_of_ble_eq_true rfl, Nat.le_of_ble_eq_true rfl⟩ 22 1 rfl rfl (rfl) hl.1 rfl (Nat.le_of_ble_eq_true rfl) dX3_sewnFits_93 (fun r15 u H locs hw hP hD hS => ?_)
          refine lv_iload hx hb dX3_sewnFits_96 (lv_at hl 1 rfl) ?_
          refine lv_iload hx hb dX3_sewnFits_98 (lv_at hl 0 rfl) ?_
          refine lv_aload_n hx hb dX3_sewnFits_100 rfl (lv_at hl 2 rfl) ?_
          refine va_get (D := (dC, dI)) (ci := 3) (v := .ref (x 21)) (C := RX3) (T := TX3) (N := 10) hx hb hts inB_3 hown hE.1 hP 26 rfl rfl 1 (Nat.le_of_ble_eq_true rfl) (hts _ k_371) (fun _ h9 => h9) rfl dX3_sewnFits_101 ?_
          refine lv_iconst (v := 3) hx hb dX3_sewnFits_104 rfl ?_
          refine lv_iload_n hx hb dX3_sewnFits_105 rfl (lv_at hl 3 rfl) ?_
          refine cbVi (n := 2) (rest := [.int t4, .int t2, .int r15, .int r13, .ref (x 15)]) hx hb hml hown hts hE hP hD hS hA (sX_X1_part_1 l dC dI cy x0 x 3 p1 (upd (upd v 24 p3) 25 p4) f (XI.upd (j := 25) (x := p4) (XI.upd (j := 24) (x := p3) hIv (rlo _) (rhi _)) (rlo _) (rhi _)) ) k_1012 k_828 k_829 k_106 k_830 (by decide +kernel) ⟨Nat.le_of_ble_eq_true rfl, Nat.le_of_ble_eq_true rfl⟩ 22 1 rfl rfl (rfl) hl.1 rfl (Nat.le_of_ble_eq_true rfl) dX3_sewnFits_106 (fun r16 u H locs hw hP hD hS => ?_)
          refine lv_aload_n hx hb dX3_sewnFits_109 rfl (lv_at hl 2 rfl) ?_
          refine va_get (D := (dC, dI)) (ci := 3) (v := .ref (x 21)) (C := RX3) (T := TX3) (N := 10) hx hb hts inB_3 hown hE.1 hP 26 rfl rfl 1 (Nat.le_of_ble_eq_true rfl) (hts _ k_371) (fun _ h9 => h9) rfl dX3_sewnFits_110 ?_
          refine cbVi (n := 0) (rest := [.int r16, .int t4, .int t2, .int r15, .int r13, .ref (x 15)]) hx hb hml hown hts hE hP hD hS hA (sX_X1_today_1 l dC dI cy x0 x  (upd (upd v 24 p3) 25 p4) f (XI.upd (j := 25) (x := p4) (XI.upd (j := 24) (x := p3) hIv (rlo _) (rhi _)) (rlo _) (rhi _)) ) k_1015 k_832 k_833 k_106 k_834 (by decide +kernel) ⟨Nat.le_of_ble_eq_true rfl, Nat.le_of_ble_eq_true rfl⟩ 22 1 rfl rfl (rfl) hl.1 rfl (Nat.le_of_ble_eq_true rfl) dX3_sewnFits_113 (fun r17 u H locs hw hP hD hS => ?_)
          refine cbVi (n := 6) (rest := []) hx hb hml hown hts hE hP hD hS hA (sX_X4_worth_1 l dC dI cy x0 x r13 r15 t2 t4 r16 r17 (upd (upd v 24 p3) 25 p4) f (XI.upd (j := 25) (x := p4) (XI.upd (j := 24) (x := p3) hIv (rlo _) (rhi _)) (rlo _) (rhi _)) ) k_1016 k_836 k_837 k_105 k_838 (by decide +kernel) ⟨Nat.le_of_ble_eq_true rfl, Nat.le_of_ble_eq_true rfl⟩ 16 4 rfl rfl (rfl) hl.1 rfl (Nat.le_of_ble_eq_true rfl) dX3_sewnFits_116 (fun r18 u H locs hw hP hD hS => ?_)
          obtain ⟨v19, f20⟩ := u
          obtain ⟨kV_v19, kF_f20, hIv19, hk0_v19, hk1_v19, hk7_v19, hk8_v19, hk9_v19, hk10_v19, hk31_v19, hk32_v19⟩ := hw
          have hM_v19 : KV [24, 25] v19 v := KV.tr kV_v19 (KV.up (j := 25) (x := p4) (KV.up (j := 24) (x := p3) hM_v rfl) rfl) rfl
          have hA_f20 : KF [13, 14] f20 f := KF.tr kF_f20 hA_f rfl
          have hP : va_P (dC, dI) vwCl (XW cy x0 x v19 f20) H := hP
          have hD : va_D A (XW cy x0 x v19 f20) := hD
          have hq0_v19 : v19 0 = (v 0) := hk0_v19
          have hq1_v19 : v19 1 = (v 1) := hk1_v19
          have hq7_v19 : v19 7 = (v 7) := hk7_v19
          have hq8_v19 : v19 8 = (v 8) := hk8_v19
          have hq9_v19 : v19 9 = (v 9) := hk9_v19
          have hq10_v19 : v19 10 = (v 10) := hk10_v19
          have hq31_v19 : v19 31 = (v 31) := hk31_v19
          have hq32_v19 : v19 32 = (v 32) := hk32_v19
          refine lv_aload_n hx hb dX3_sewnFits_119 rfl (lv_at hl 2 rfl) ?_
          refine va_get (D := (dC, dI)) (ci := 3) (v := .ref (x 26)) (C := RX3) (T := TX3) (N := 10) hx hb hts inB_3 hown hE.1 hP 26 rfl rfl 0 (Nat.le_of_ble_eq_true rfl) (hts _ k_370) (fun _ h9 => h9) rfl dX3_sewnFits_120 ?_
          refine va_getN (D := (dC, dI)) (ci := 7) (v := .int (v19 33)) (C := RX7) (T := TX7) (N := 10) hx hb hts inB_7 hown hE.1 hP 27 rfl rfl 5 (Nat.le_of_ble_eq_true rfl) (va_Nw.use rfl (hE.2 _ k_230)) (fun _ h9 => h9) rfl dX3_sewnFits_123 ?_
          refine lv_icmp_gt (tgt := 133) hx hb dX3_sewnFits_126 rfl (fun c21 => ?_) (fun c21 => ?_)
          · skip
            have zc21 : (v19 33).toInt < r18.toInt := by rw [fa_lt] at c21; exact c21
            have rg22 := fb_rng r18
            have rg23 := fb_rng (v19 33)
            refine lv_iconst (v := 0) hx hb dX3_sewnFits_133 rfl ?_
            exact ret 0 (v19, f20) _ _ _ _ _ _ rfl ⟨hM_v19, hA_f20, hIv19, hk0_v19, hk1_v19, hk7_v19, hk8_v19, hk9_v19, hk10_v19, hk31_v19, hk32_v19, (Or.inr rfl)⟩ hP hD hS dX3_sewnFits_134 (Nat.le_refl _) (Nat.le_refl _)
          · skip
            have zc21 : ¬ ((v19 33).toInt < r18.toInt) := by rw [fa_lt] at c21; exact c21
            have rg24 := fb_rng r18
            have rg25 := fb_rng (v19 33)
            refine lv_iconst (v := 1) hx hb dX3_sewnFits_129 rfl ?_
            refine lv_goto (tgt := 134) hx hb dX3_sewnFits_130 rfl ?_
            exact ret 1 (v19, f20) _ _ _ _ _ _ rfl ⟨hM_v19, hA_f20, hIv19, hk0_v19, hk1_v19, hk7_v19, hk8_v19, hk9_v19, hk10_v19, hk31_v19, hk32_v19, (Or.inl rfl)⟩ hP hD hS dX3_sewnFits_134 (Nat.le_refl _) (Nat.le_refl _)
        · skip
          have zc10 : ¬ (t8.toInt ≤ r9.toInt) := by rw [fa_le] at c10; exact c10
          have rg26 := fb_rng t8
          have rg27 := fb_rng r9
          refine lv_iconst (v := 0) hx hb dX3_sewnFits_59 rfl ?_
          exact ret 0 (v, f) _ _ _ _ _ _ rfl ⟨hM_v, hA_f, hIv, rfl, rfl, rfl, rfl, rfl, rfl, rfl, rfl, (Or.inr rfl)⟩ hP hD hS dX3_sewnFits_60 (Nat.le_refl _) (Nat.le_refl _)
set_option maxHeartbeats 4000000 in
set_option maxRecDepth 100000 in
theorem sX_X3_findSewing_1 (l : Launch) (dC : Nat → ClassId) (dI : Nat → Nat → Nat) (cy : Nat → ClassId) (x0 : Nat) (x : Nat → Nat) (p1 : Int32) (p2 : Int32) (v : Nat → Int32) (f : Nat → Nat → Int32) (hIv : XI v)  : ctI l (dC, dI) cy yX3_findSewing cX3_findSewing 6 .boolean 4 137 0 0 ((Nat → Int32) × (Nat → Nat → Int32)) [.ref (x 25), .int p1, .int p2] (XW cy x0 x v f) (fun r u => KV [24, 25] u.1 v ∧ KF [13, 14] u.2 f ∧ XI u.1 ∧ u.1 0 = v 0 ∧ u.1 1 = v 1 ∧ u.1 7 = v 7 ∧ u.1 8 = v 8 ∧ u.1 9 = v 9 ∧ u.1 10 = v 10 ∧ u.1 31 = v 31 ∧ u.1 32 = v 32 ∧ ((r = 1) ∨ (r = 0))) (fun u => XW cy x0 x u.1 u.2) := by
  refine ctI_of (by decide) (Nat.le_of_ble_eq_true rfl) (fun p e s m below meth c A ls Q hx hb hml hts hown hE hP hD hA hl ret => ?_)
  have hM_v : KV [24, 25] v v := fun _ _ => rfl
  have hA_f : KF [13, 14] f f := fun _ _ => rfl
  have hown : s.vm.findClass RX3 = some m.cls := hown
  have hS : va_S A s.heap s.heap [] := va_S.rf
  have hl : lv_has ls 6 [(0, .ref (x 25)), (1, .int p1), (2, .int p2)] := hl
  refine lv_iconst (v := 0) hx hb dX3_findSewing_0 rfl ?_
  refine lv_istore_n (lv' := [(3, .int 0), (0, .ref (x 25)), (1, .int p1), (2, .int p2)]) hx hb dX3_findSewing_1 rfl hl (Nat.le_of_ble_eq_true rfl) rfl (fun ls hl => ?_)
  have lp1 : ∀ (n1 : Nat) (l3_1 : Int32) (v1 : Nat → Int32) (f1 : Nat → Nat → Int32), XI v1 → v1 0 = (v 0) → v1 1 = (v 1) → v1 7 = (v 7) → v1 8 = (v 8) → v1 9 = (v 9) → v1 10 = (v 10) → v1 31 = (v 31) → v1 32 = (v 32) → ((0 : Int) ≤ l3_1.toInt ∧ l3_1.toInt ≤ 2147483647) → KV [24, 25] v1 v → KF [13, 14] f1 f → (2147483647 - l3_1.toInt).toNat < n1 → ∀ (H : Heap) (locs : List Loc) (ls : Array Slot), va_P (dC, dI) vwCl (XW cy x0 x v1 f1) H → va_D A (XW cy x0 x v1 f1) → va_S A s.heap H locs → lv_has ls 6 [(3, .int l3_1), (0, .ref (x 25)), (1, .int p1), (2, .int p2)] → W p l e { frames := 4, cells := 0, slots := 0, locals := 137 } s m ([.ref (x 25), .int p1, .int p2] : List Value).toArray below meth c H locs 0 0 Q (F0 m 2 ls []) := by
    intro n1
    induction n1 with
    | zero => intro l3_1 v1 f1 hIv1 hq0_v1 hq1_v1 hq7_v1 hq8_v1 hq9_v1 hq10_v1 hq31_v1 hq32_v1 hr3_1 hM_v1 hA_f1 hm; exact absurd hm (Nat.not_lt_zero _)
    | succ n1 ih1 =>
      intro l3_1 v1 f1 hIv1 hq0_v1 hq1_v1 hq7_v1 hq8_v1 hq9_v1 hq10_v1 hq31_v1 hq32_v1 hr3_1 hM_v1 hA_f1 hm1 H locs ls hP hD hS hl
      refine lv_iload_n hx hb dX3_findSewing_2 rfl (lv_at hl 0 rfl) ?_
      refine lv_bipush (v := 40) hx hb dX3_findSewing_3 rfl ?_
      refine lv_icmp_gt (tgt := 78) hx hb dX3_findSewing_5 rfl (fun c2 => ?_) (fun c2 => ?_)
      · skip
        have zc2 : 40 < l3_1.toInt := by rw [fa_lt, show (40 : Int32).toInt = 40 from by decide] at c2; exact c2
        refine lv_iconst (v := 0) hx hb dX3_findSewing_78 rfl ?_
        exact ret 0 (v1, f1) _ _ _ _ _ _ rfl ⟨hM_v1, hA_f1, hIv1, (show v1 0 = v 0 from hq0_v1), (show v1 1 = v 1 from hq1_v1), (show v1 7 = v 7 from hq7_v1), (show v1 8 = v 8 from hq8_v1), (show v1 9 = v 9 from hq9_v1), (show v1 10 = v 10 from hq10_v1), (show v1 31 = v 31 from hq31_v1), (show v1 32 = v 32 from hq32_v1), (Or.inr rfl)⟩ hP hD hS dX3_findSewing_79 (Nat.le_refl _) (Nat.le_refl _)
      · skip
        have zc2 : ¬ (40 < l3_1.toInt) := by rw [fa_lt, show (40 : Int32).toInt = 40 from by decide] at c2; exact c2
        refine lv_iconst (v := 0) hx hb dX3_findSewing_8 rfl ?_
        refine lv_iload_n hx hb dX3_findSewing_9 rfl (lv_at hl 0 rfl) ?_
        refine lv_bipush (v := 20) hx hb dX3_findSewing_10 rfl ?_
        refine lv_isub hx hb dX3_findSewing_12 ?_
        refine lv_topi (fun t3 et3 => ?_)
        have rg4 := fb_rng l3_1
        have zt3 : t3.toInt = l3_1.toInt - 20 := by rw [et3]; exact sub_i rfl (by decide) (by omega) (by omega)
        refine va_mmax hx hb (by rw [hml]; exact hl.1.symm) hown (hts _ k_1007) (hts _ k_640) (hts _ k_119) (hts _ k_641) (Nat.le_of_ble_eq_true rfl) (Nat.le_of_ble_eq_true rfl) (Nat.le_of_ble_eq_true rfl) (Nat.le_of_ble_eq_true rfl) dX3_findSewing_13 ?_
        refine lv_topi (fun t5 et5 => ?_)
        have zt5 : t5.toInt = max (0) (t3.toInt) := by rw [et5]; exact mmax_i (by decide) rfl
        refine lv_istore (lv' := [(4, .int t5), (3, .int l3_1), (0, .ref (x 25)), (1, .int p1), (2, .int p2)]) hx hb dX3_findSewing_16 hl (Nat.le_of_ble_eq_true rfl) rfl (fun ls hl => ?_)
        have lp6 : ∀ (n6 : Nat) (l4_6 : Int32) (v6 : Nat → Int32) (f6 : Nat → Nat → Int32), XI v6 → v6 0 = (v 0) → v6 1 = (v 1) → v6 7 = (v 7) → v6 8 = (v 8) → v6 9 = (v 9) → v6 10 = (v 10) → v6 31 = (v 31) → v6 32 = (v 32) → ((0 : Int) ≤ l4_6.toInt ∧ l4_6.toInt ≤ 2147483647) → KV [24, 25] v6 v → KF [13, 14] f6 f → (2147483647 - l4_6.toInt).toNat < n6 → ∀ (H : Heap) (locs : List Loc) (ls : Array Slot), va_P (dC, dI) vwCl (XW cy x0 x v6 f6) H → va_D A (XW cy x0 x v6 f6) → va_S A s.heap H locs → lv_has ls 6 [(4, .int l4_6), (3, .int l3_1), (0, .ref (x 25)), (1, .int p1), (2, .int p2)] → W p l e { frames := 4, cells := 0, slots := 0, locals := 137 } s m ([.ref (x 25), .int p1, .int p2] : List Value).toArray below meth c H locs 0 0 Q (F0 m 18 ls []) := by
          intro n6
          induction n6 with
          | zero => intro l4_6 v6 f6 hIv6 hq0_v6 hq1_v6 hq7_v6 hq8_v6 hq9_v6 hq10_v6 hq31_v6 hq32_v6 hr4_6 hM_v6 hA_f6 hm; exact absurd hm (Nat.not_lt_zero _)
          | succ n6 ih6 =>
            intro l4_6 v6 f6 hIv6 hq0_v6 hq1_v6 hq7_v6 hq8_v6 hq9_v6 hq10_v6 hq31_v6 hq32_v6 hr4_6 hM_v6 hA_f6 hm6 H locs ls hP hD hS hl
            refine lv_iload hx hb dX3_findSewing_18 (lv_at hl 0 rfl) ?_
            refine lv_iload_n hx hb dX3_findSewing_20 rfl (lv_at hl 1 rfl) ?_
            refine lv_icmp_gt (tgt := 72) hx hb dX3_findSewing_21 rfl (fun c7 => ?_) (fun c7 => ?_)
            · skip
              have zc7 : l3_1.toInt < l4_6.toInt := by rw [fa_lt] at c7; exact c7
              have rg8 := fb_rng l4_6
              obtain ⟨t9, et9⟩ : ∃ y : Int32, y = l3_1 + 1 := ⟨_, rfl⟩
              have zt9 : t9.toInt = l3_1.toInt + 1 := by rw [et9]; exact add_i rfl (by decide) (by omega) (by omega)
              refine lv_iinc (v := t9) (lv' := [(3, .int t9), (4, .int l4_6), (0, .ref (x 25)), (1, .int p1), (2, .int p2)]) hx hb dX3_findSewing_72 hl (k := 1) rfl (by rw [et9]; rfl) (by decide) rfl (fun ls hl => ?_)
              refine lv_goto (tgt := 2) hx hb dX3_findSewing_75 rfl ?_
              have rg10 := fb_rng t9
              exact ih1 t9 v6 f6 hIv6 hq0_v6 hq1_v6 hq7_v6 hq8_v6 hq9_v6 hq10_v6 hq31_v6 hq32_v6 ⟨show (0 : Int) ≤ t9.toInt by omega, show t9.toInt ≤ (2147483647 : Int) by omega⟩ hM_v6 hA_f6 (by show (2147483647 - t9.toInt).toNat < n1; omega) _ _ _ hP hD hS (lv_sub hl [0, 2, 3, 4] rfl)
            · skip
              have zc7 : ¬ (l3_1.toInt < l4_6.toInt) := by rw [fa_lt] at c7; exact c7
              have rg11 := fb_rng l4_6
              refine lv_iload hx hb dX3_findSewing_24 (lv_at hl 0 rfl) ?_
              refine lv_bipush (v := 20) hx hb dX3_findSewing_26 rfl ?_
              refine lv_icmp_gt (tgt := 72) hx hb dX3_findSewing_28 rfl (fun c12 => ?_) (fun c12 => ?_)
              · skip
                have zc12 : 20 < l4_6.toInt := by rw [fa_lt, show (20 : Int32).toInt = 20 from by decide] at c12; exact c12
                obtain ⟨t13, et13⟩ : ∃ y : Int32, y = l3_1 + 1 := ⟨_, rfl⟩
                have zt13 : t13.toInt = l3_1.toInt + 1 := by rw [et13]; exact add_i rfl (by decide) (by omega) (by omega)
                refine lv_iinc (v := t13) (lv' := [(3, .int t13), (4, .int l4_6), (0, .ref (x 25)), (1, .int p1), (2, .int p2)]) hx hb dX3_findSewing_72 hl (k := 1) rfl (by rw [et13]; rfl) (by decide) rfl (fun ls hl => ?_)
                refine lv_goto (tgt := 2) hx hb dX3_findSewing_75 rfl ?_
                have rg14 := fb_rng t13
                exact ih1 t13 v6 f6 hIv6 hq0_v6 hq1_v6 hq7_v6 hq8_v6 hq9_v6 hq10_v6 hq31_v6 hq32_v6 ⟨show (0 : Int) ≤ t13.toInt by omega, show t13.toInt ≤ (2147483647 : Int) by omega⟩ hM_v6 hA_f6 (by show (2147483647 - t13.toInt).toNat < n1; omega) _ _ _ hP hD hS (lv_sub hl [0, 2, 3, 4] rfl)
              · skip
                have zc12 : ¬ (20 < l4_6.toInt) := by rw [fa_lt, show (20 : Int32).toInt = 20 from by decide] at c12; exact c12
                refine lv_iload_n hx hb dX3_findSewing_31 rfl (lv_at hl 1 rfl) ?_
                refine lv_iload hx hb dX3_findSewing_32 (lv_at hl 0 rfl) ?_
                refine lv_isub hx hb dX3_findSewing_34 ?_
                refine lv_topi (fun t15 et15 => ?_)
                have zt15 : t15.toInt = l3_1.toInt - l4_6.toInt := by rw [et15]; exact sub_i rfl rfl (by omega) (by omega)
                refine lv_istore (lv' := [(5, .int t15), (4, .int l4_6), (3, .int l3_1), (0, .ref (x 25)), (1, .int p1), (2, .int p2)]) hx hb dX3_findSewing_35 hl (Nat.le_of_ble_eq_true rfl) rfl (fun ls hl => ?_)
                refine lv_aload_n hx hb dX3_findSewing_37 rfl (lv_at hl 3 rfl) ?_
                refine lv_iload_n hx hb dX3_findSewing_38 rfl (lv_at hl 4 rfl) ?_
                refine lv_iload_n hx hb dX3_findSewing_39 rfl (lv_at hl 5 rfl) ?_
                refine lv_iload hx hb dX3_findSewing_40 (lv_at hl 1 rfl) ?_
                refine lv_iload hx hb dX3_findSewing_42 (lv_at hl 0 rfl) ?_
                refine cbVi (n := 4) (rest := []) hx hb hml hown hts hE hP hD hS hA (sX_X3_sewnFits_1 l dC dI cy x0 x p1 p2 l4_6 t15 v6 f6 hIv6 ) k_1008 k_1010 k_27 k_109 k_1011 (by decide +kernel) ⟨Nat.le_of_ble_eq_true rfl, Nat.le_of_ble_eq_true rfl⟩ 26 3 rfl rfl (rfl) hl.1 rfl (Nat.le_of_ble_eq_true rfl) dX3_findSewing_44 (fun r16 u H locs hw hP hD hS => ?_)
                obtain ⟨v17, f18⟩ := u
                obtain ⟨kV_v17, kF_f18, hIv17, hk0_v17, hk1_v17, hk7_v17, hk8_v17, hk9_v17, hk10_v17, hk31_v17, hk32_v17, hw⟩ := hw
                have hM_v17 : KV [24, 25] v17 v := KV.tr kV_v17 hM_v6 rfl
                have hA_f18 : KF [13, 14] f18 f := KF.tr kF_f18 hA_f6 rfl
                have hP : va_P (dC, dI) vwCl (XW cy x0 x v17 f18) H := hP
                have hD : va_D A (XW cy x0 x v17 f18) := hD
                have hq0_v17 : v17 0 = (v 0) := hk0_v17.trans hq0_v6
                have hq1_v17 : v17 1 = (v 1) := hk1_v17.trans hq1_v6
                have hq7_v17 : v17 7 = (v 7) := hk7_v17.trans hq7_v6
                have hq8_v17 : v17 8 = (v 8) := hk8_v17.trans hq8_v6
                have hq9_v17 : v17 9 = (v 9) := hk9_v17.trans hq9_v6
                have hq10_v17 : v17 10 = (v 10) := hk10_v17.trans hq10_v6
                have hq31_v17 : v17 31 = (v 31) := hk31_v17.trans hq31_v6
                have hq32_v17 : v17 32 = (v 32) := hk32_v17.trans hq32_v6
                rcases hw with ⟨g19⟩ | ⟨g19⟩
                · skip
                  subst g19
                  refine lv_if_ne (tgt := 64) hx hb dX3_findSewing_47 rfl (fun _ => ?_) (fun c0 => absurd c0 (by decide))
                  refine lv_iconst (v := 1) hx hb dX3_findSewing_64 rfl ?_
                  exact ret 1 (v17, f18) _ _ _ _ _ _ rfl ⟨hM_v17, hA_f18, hIv17, (hk0_v17.trans hq0_v6), (hk1_v17.trans hq1_v6), (hk7_v17.trans hq7_v6), (hk8_v17.trans hq8_v6), (hk9_v17.trans hq9_v6), (hk10_v17.trans hq10_v6), (hk31_v17.trans hq31_v6), (hk32_v17.trans hq32_v6), (Or.inl rfl)⟩ hP hD hS dX3_findSewing_65 (Nat.le_refl _) (Nat.le_refl _)
                · skip
                  subst g19
                  refine lv_if_ne (tgt := 64) hx hb dX3_findSewing_47 rfl (fun c0 => absurd (by decide) c0) (fun _ => ?_)
                  refine lv_aload_n hx hb dX3_findSewing_50 rfl (lv_at hl 3 rfl) ?_
                  refine lv_iload_n hx hb dX3_findSewing_51 rfl (lv_at hl 4 rfl) ?_
                  refine lv_iload_n hx hb dX3_findSewing_52 rfl (lv_at hl 5 rfl) ?_
                  refine lv_iload hx hb dX3_findSewing_53 (lv_at hl 1 rfl) ?_
                  refine lv_iload hx hb dX3_findSewing_55 (lv_at hl 0 rfl) ?_
                  refine lv_ineg hx hb dX3_findSewing_57 ?_
                  refine lv_topi (fun t20 et20 => ?_)
                  refine cbVi (n := 4) (rest := []) hx hb hml hown hts hE hP hD hS hA (sX_X3_sewnFits_1 l dC dI cy x0 x p1 p2 l4_6 t20 v17 f18 hIv17 ) k_1008 k_1010 k_27 k_109 k_1011 (by decide +kernel) ⟨Nat.le_of_ble_eq_true rfl, Nat.le_of_ble_eq_true rfl⟩ 26 3 rfl rfl (rfl) hl.1 rfl (Nat.le_of_ble_eq_true rfl) dX3_findSewing_58 (fun r21 u H locs hw hP hD hS => ?_)
                  obtain ⟨v22, f23⟩ := u
                  obtain ⟨kV_v22, kF_f23, hIv22, hk0_v22, hk1_v22, hk7_v22, hk8_v22, hk9_v22, hk10_v22, hk31_v22, hk32_v22, hw⟩ := hw
                  have hM_v22 : KV [24, 25] v22 v := KV.tr kV_v22 hM_v17 rfl
                  have hA_f23 : KF [13, 14] f23 f := KF.tr kF_f23 hA_f18 rfl
                  have hP : va_P (dC, dI) vwCl (XW cy x0 x v22 f23) H := hP
                  have hD : va_D A (XW cy x0 x v22 f23) := hD
                  have hq0_v22 : v22 0 = (v 0) := hk0_v22.trans hq0_v17
                  have hq1_v22 : v22 1 = (v 1) := hk1_v22.trans hq1_v17
                  have hq7_v22 : v22 7 = (v 7) := hk7_v22.trans hq7_v17
                  have hq8_v22 : v22 8 = (v 8) := hk8_v22.trans hq8_v17
                  have hq9_v22 : v22 9 = (v 9) := hk9_v22.trans hq9_v17
                  have hq10_v22 : v22 10 = (v 10) := hk10_v22.trans hq10_v17
                  have hq31_v22 : v22 31 = (v 31) := hk31_v22.trans hq31_v17
                  have hq32_v22 : v22 32 = (v 32) := hk32_v22.trans hq32_v17
                  rcases hw with ⟨g24⟩ | ⟨g24⟩
                  · skip
                    subst g24
                    refine lv_if_eq (tgt := 66) hx hb dX3_findSewing_61 rfl (fun c0 => absurd c0 (by decide)) (fun _ => ?_)
                    refine lv_iconst (v := 1) hx hb dX3_findSewing_64 rfl ?_
                    exact ret 1 (v22, f23) _ _ _ _ _ _ rfl ⟨hM_v22, hA_f23, hIv22, (hk0_v22.trans (hk0_v17.trans hq0_v6)), (hk1_v22.trans (hk1_v17.trans hq1_v6)), (hk7_v22.trans (hk7_v17.trans hq7_v6)), (hk8_v22.trans (hk8_v17.trans hq8_v6)), (hk9_v22.trans (hk9_v17.trans hq9_v6)), (hk10_v22.trans (hk10_v17.trans hq10_v6)), (hk31_v22.trans (hk31_v17.trans hq31_v6)), (hk32_v22.trans (hk32_v17.trans hq32_v6)), (Or.inl rfl)⟩ hP hD hS dX3_findSewing_65 (Nat.le_refl _) (Nat.le_refl _)
                  · skip
                    subst g24
                    refine lv_if_eq (tgt := 66) hx hb dX3_findSewing_61 rfl (fun _ => ?_) (fun c0 => absurd (by decide) c0)
                    obtain ⟨t25, et25⟩ : ∃ y : Int32, y = l4_6 + 1 := ⟨_, rfl⟩
                    have zt25 : t25.toInt = l4_6.toInt + 1 := by rw [et25]; exact add_i rfl (by decide) (by omega) (by omega)
                    refine lv_iinc (v := t25) (lv' := [(4, .int t25), (5, .int t15), (3, .int l3_1), (0, .ref (x 25)), (1, .int p1), (2, .int p2)]) hx hb dX3_findSewing_66 hl (k := 1) rfl (by rw [et25]; rfl) (by decide) rfl (fun ls hl => ?_)
                    refine lv_goto (tgt := 18) hx hb dX3_findSewing_69 rfl ?_
                    have rg26 := fb_rng t25
                    exact ih6 t25 v22 f23 hIv22 hq0_v22 hq1_v22 hq7_v22 hq8_v22 hq9_v22 hq10_v22 hq31_v22 hq32_v22 ⟨show (0 : Int) ≤ t25.toInt by omega, show t25.toInt ≤ (2147483647 : Int) by omega⟩ hM_v22 hA_f23 (by show (2147483647 - t25.toInt).toNat < n6; omega) _ _ _ hP hD hS (lv_sub hl [0, 2, 3, 4, 5] rfl)
        have rg27 := fb_rng t5
        exact lp6 _ t5 v1 f1 hIv1 hq0_v1 hq1_v1 hq7_v1 hq8_v1 hq9_v1 hq10_v1 hq31_v1 hq32_v1 ⟨show (0 : Int) ≤ t5.toInt by omega, show t5.toInt ≤ (2147483647 : Int) by omega⟩ hM_v1 hA_f1 (Nat.lt_succ_self _) _ _ _ hP hD hS (lv_sub hl [0, 1, 2, 3, 4] rfl)
  exact lp1 _ 0 v f hIv rfl rfl rfl rfl rfl rfl rfl rfl ⟨by decide, by decide⟩ hM_v hA_f (Nat.lt_succ_self _) _ _ _ hP hD hS (lv_sub hl [0, 1, 2, 3] rfl)
set_option maxHeartbeats 4000000 in
set_option maxRecDepth 100000 in
theorem sX_X10_sewing_1 (l : Launch) (dC : Nat → ClassId) (dI : Nat → Nat → Nat) (cy : Nat → ClassId) (x0 : Nat) (x : Nat → Nat) (p1 : Int32) (p2 : Int32) (p3 : Int32) (v : Nat → Int32) (f : Nat → Nat → Int32) (hIv : XI v)  : ctI l (dC, dI) cy yX10_sewing cX10_sewing 4 .int 5 162 0 0 ((Nat → Int32) × (Nat → Nat → Int32)) [.ref x0, .int p1, .int p2, .int p3] (XW cy x0 x v f) (fun r u => KV [24, 25] u.1 v ∧ KF [13, 14] u.2 f ∧ XI u.1 ∧ u.1 0 = v 0 ∧ u.1 1 = v 1 ∧ u.1 7 = v 7 ∧ u.1 8 = v 8 ∧ u.1 9 = v 9 ∧ u.1 10 = v 10 ∧ u.1 31 = v 31 ∧ u.1 32 = v 32) (fun u => XW cy x0 x u.1 u.2) := by
  refine ctI_of (by decide) (Nat.le_of_ble_eq_true rfl) (fun p e s m below meth c A ls Q hx hb hml hts hown hE hP hD hA hl ret => ?_)
  have hM_v : KV [24, 25] v v := fun _ _ => rfl
  have hA_f : KF [13, 14] f f := fun _ _ => rfl
  have hown : s.vm.findClass RX10 = some m.cls := hown
  have hS : va_S A s.heap s.heap [] := va_S.rf
  have hl : lv_has ls 4 [(0, .ref x0), (1, .int p1), (2, .int p2), (3, .int p3)] := hl
  refine lv_aload_n hx hb dX10_sewing_0 rfl (lv_at hl 0 rfl) ?_
  refine va_get (D := (dC, dI)) (ci := 10) (v := .ref (x 26)) (C := RX10) (T := TX10) (N := 10) hx hb hts inB_10 hown hE.1 hP 0 rfl rfl 2 (Nat.le_of_ble_eq_true rfl) (hts _ k_493) (fun _ h9 => h9) rfl dX10_sewing_1 ?_
  refine lv_iload_n hx hb dX10_sewing_4 rfl (lv_at hl 1 rfl) ?_
  refine cbVi (n := 1) (rest := []) hx hb hml hown hts hE hP hD hS hA (sX_X7_hasCoat_1 0 l dC dI cy x0 x p1 v f hIv ) k_848 k_315 k_316 k_104 k_317 (by decide +kernel) ⟨Nat.le_of_ble_eq_true rfl, Nat.le_of_ble_eq_true rfl⟩ 27 7 rfl rfl (rfl) hl.1 rfl (Nat.le_of_ble_eq_true rfl) dX10_sewing_5 (fun r1 u H locs hw hP hD hS => ?_)
  obtain ⟨hG2, hw⟩ := hw
  rcases hw with ⟨g3, g3_0, g3_1, g3_2⟩ | ⟨g3⟩
  · skip
    subst g3
    refine lv_if_eq (tgt := 31) hx hb dX10_sewing_8 rfl (fun c0 => absurd c0 (by decide)) (fun _ => ?_)
    refine lv_aload_n hx hb dX10_sewing_11 rfl (lv_at hl 0 rfl) ?_
    refine va_get (D := (dC, dI)) (ci := 10) (v := .ref (x 26)) (C := RX10) (T := TX10) (N := 10) hx hb hts inB_10 hown hE.1 hP 0 rfl rfl 2 (Nat.le_of_ble_eq_true rfl) (hts _ k_493) (fun _ h9 => h9) rfl dX10_sewing_12 ?_
    refine lv_iload_n hx hb dX10_sewing_15 rfl (lv_at hl 2 rfl) ?_
    refine cbVi (n := 1) (rest := []) hx hb hml hown hts hE hP hD hS hA (sX_X7_hasMan_1 0 l dC dI cy x0 x p2 v f hIv ) k_802 k_307 k_308 k_104 k_309 (by decide +kernel) ⟨Nat.le_of_ble_eq_true rfl, Nat.le_of_ble_eq_true rfl⟩ 27 7 rfl rfl (rfl) hl.1 rfl (Nat.le_of_ble_eq_true rfl) dX10_sewing_16 (fun r4 u H locs hw hP hD hS => ?_)
    obtain ⟨hG5, hw⟩ := hw
    rcases hw with ⟨g6, g6_0, g6_1, g6_2⟩ | ⟨g6⟩
    · skip
      subst g6
      refine lv_if_eq (tgt := 31) hx hb dX10_sewing_19 rfl (fun c0 => absurd c0 (by decide)) (fun _ => ?_)
      refine lv_iload_n hx hb dX10_sewing_22 rfl (lv_at hl 3 rfl) ?_
      refine lv_if_lt (tgt := 31) hx hb dX10_sewing_23 rfl (fun c7 => ?_) (fun c7 => ?_)
      · skip
        have zc7 : p3.toInt < 0 := by rw [fa_lt, show (0 : Int32).toInt = 0 from by decide] at c7; exact c7
        refine lv_bipush (v := (-100)) hx hb dX10_sewing_31 rfl ?_
        exact ret (-100) (v, f) _ _ _ _ _ _ rfl ⟨hM_v, hA_f, hIv, rfl, rfl, rfl, rfl, rfl, rfl, rfl, rfl⟩ hP hD hS dX10_sewing_33 (Nat.le_refl _) (Nat.le_refl _)
      · skip
        have zc7 : ¬ (p3.toInt < 0) := by rw [fa_lt, show (0 : Int32).toInt = 0 from by decide] at c7; exact c7
        refine lv_iload_n hx hb dX10_sewing_26 rfl (lv_at hl 3 rfl) ?_
        refine lv_iconst (v := 2) hx hb dX10_sewing_27 rfl ?_
        refine lv_icmp_le (tgt := 34) hx hb dX10_sewing_28 rfl (fun c8 => ?_) (fun c8 => ?_)
        · skip
          have zc8 : p3.toInt ≤ 2 := by rw [fa_le, show (2 : Int32).toInt = 2 from by decide] at c8; exact c8
          refine lv_aload_n hx hb dX10_sewing_34 rfl (lv_at hl 0 rfl) ?_
          refine va_get (D := (dC, dI)) (ci := 10) (v := .ref (x 25)) (C := RX10) (T := TX10) (N := 10) hx hb hts inB_10 hown hE.1 hP 0 rfl rfl 5 (Nat.le_of_ble_eq_true rfl) (hts _ k_496) (fun _ h9 => h9) rfl dX10_sewing_35 ?_
          refine lv_iload_n hx hb dX10_sewing_38 rfl (lv_at hl 1 rfl) ?_
          refine lv_iload_n hx hb dX10_sewing_39 rfl (lv_at hl 2 rfl) ?_
          refine cbVi (n := 2) (rest := []) hx hb hml hown hts hE hP hD hS hA (sX_X3_findSewing_1 l dC dI cy x0 x p1 p2 v f hIv ) k_1003 k_1004 k_1005 k_109 k_1006 (by decide +kernel) ⟨Nat.le_of_ble_eq_true rfl, Nat.le_of_ble_eq_true rfl⟩ 26 3 rfl rfl (rfl) hl.1 rfl (Nat.le_of_ble_eq_true rfl) dX10_sewing_40 (fun r9 u H locs hw hP hD hS => ?_)
          obtain ⟨v10, f11⟩ := u
          obtain ⟨kV_v10, kF_f11, hIv10, hk0_v10, hk1_v10, hk7_v10, hk8_v10, hk9_v10, hk10_v10, hk31_v10, hk32_v10, hw⟩ := hw
          have hM_v10 : KV [24, 25] v10 v := KV.tr kV_v10 hM_v rfl
          have hA_f11 : KF [13, 14] f11 f := KF.tr kF_f11 hA_f rfl
          have hP : va_P (dC, dI) vwCl (XW cy x0 x v10 f11) H := hP
          have hD : va_D A (XW cy x0 x v10 f11) := hD
          have hq0_v10 : v10 0 = (v 0) := hk0_v10
          have hq1_v10 : v10 1 = (v 1) := hk1_v10
          have hq7_v10 : v10 7 = (v 7) := hk7_v10
          have hq8_v10 : v10 8 = (v 8) := hk8_v10
          have hq9_v10 : v10 9 = (v 9) := hk9_v10
          have hq10_v10 : v10 10 = (v 10) := hk10_v10
          have hq31_v10 : v10 31 = (v 31) := hk31_v10
          have hq32_v10 : v10 32 = (v 32) := hk32_v10
          rcases hw with ⟨g12⟩ | ⟨g12⟩
          · skip
            subst g12
            refine lv_if_ne (tgt := 49) hx hb dX10_sewing_43 rfl (fun _ => ?_) (fun c0 => absurd c0 (by decide))
            refine lv_iload_n hx hb dX10_sewing_49 rfl (lv_at hl 3 rfl) ?_
            refine lv_if_ne (tgt := 72) hx hb dX10_sewing_50 rfl (fun c13 => ?_) (fun c13 => ?_)
            · skip
              have zc13 : ¬ (p3.toInt = 0) := by rw [fa_eq, show (0 : Int32).toInt = 0 from by decide] at c13; exact c13
              refine lv_iload_n hx hb dX10_sewing_72 rfl (lv_at hl 3 rfl) ?_
              refine lv_iconst (v := 1) hx hb dX10_sewing_73 rfl ?_
              refine lv_icmp_ne (tgt := 87) hx hb dX10_sewing_74 rfl (fun c14 => ?_) (fun c14 => ?_)
              · skip
                have zc14 : ¬ (p3.toInt = 1) := by rw [fa_eq, show (1 : Int32).toInt = 1 from by decide] at c14; exact c14
                refine lv_aload_n hx hb dX10_sewing_87 rfl (lv_at hl 0 rfl) ?_
                refine va_get (D := (dC, dI)) (ci := 10) (v := .ref (x 25)) (C := RX10) (T := TX10) (N := 10) hx hb hts inB_10 hown hE.1 hP 0 rfl rfl 5 (Nat.le_of_ble_eq_true rfl) (hts _ k_496) (fun _ h9 => h9) rfl dX10_sewing_88 ?_
                refine va_getN (D := (dC, dI)) (ci := 3) (v := .int (v10 25)) (C := RX3) (T := TX3) (N := 10) hx hb hts inB_3 hown hE.1 hP 26 rfl rfl 4 (Nat.le_of_ble_eq_true rfl) (va_Nw.use rfl (hE.2 _ k_376)) (fun _ h9 => h9) rfl dX10_sewing_91 ?_
                exact ret (v10 25) (v10, f11) _ _ _ _ _ _ rfl ⟨hM_v10, hA_f11, hIv10, hk0_v10, hk1_v10, hk7_v10, hk8_v10, hk9_v10, hk10_v10, hk31_v10, hk32_v10⟩ hP hD hS dX10_sewing_94 (Nat.le_refl _) (Nat.le_refl _)
              · skip
                have zc14 : p3.toInt = 1 := by rw [fa_eq, show (1 : Int32).toInt = 1 from by decide] at c14; exact c14
                refine lv_aload_n hx hb dX10_sewing_77 rfl (lv_at hl 0 rfl) ?_
                refine va_get (D := (dC, dI)) (ci := 10) (v := .ref (x 25)) (C := RX10) (T := TX10) (N := 10) hx hb hts inB_10 hown hE.1 hP 0 rfl rfl 5 (Nat.le_of_ble_eq_true rfl) (hts _ k_496) (fun _ h9 => h9) rfl dX10_sewing_78 ?_
                refine va_getN (D := (dC, dI)) (ci := 3) (v := .int (v10 24)) (C := RX3) (T := TX3) (N := 10) hx hb hts inB_3 hown hE.1 hP 26 rfl rfl 3 (Nat.le_of_ble_eq_true rfl) (va_Nw.use rfl (hE.2 _ k_374)) (fun _ h9 => h9) rfl dX10_sewing_81 ?_
                refine lv_goto (tgt := 94) hx hb dX10_sewing_84 rfl ?_
                exact ret (v10 24) (v10, f11) _ _ _ _ _ _ rfl ⟨hM_v10, hA_f11, hIv10, hk0_v10, hk1_v10, hk7_v10, hk8_v10, hk9_v10, hk10_v10, hk31_v10, hk32_v10⟩ hP hD hS dX10_sewing_94 (Nat.le_refl _) (Nat.le_refl _)
            · skip
              have zc13 : p3.toInt = 0 := by rw [fa_eq, show (0 : Int32).toInt = 0 from by decide] at c13; exact c13
              refine lv_aload_n hx hb dX10_sewing_53 rfl (lv_at hl 0 rfl) ?_
              refine va_get (D := (dC, dI)) (ci := 10) (v := .ref (x 25)) (C := RX10) (T := TX10) (N := 10) hx hb hts inB_10 hown hE.1 hP 0 rfl rfl 5 (Nat.le_of_ble_eq_true rfl) (hts _ k_496) (fun _ h9 => h9) rfl dX10_sewing_54 ?_
              refine va_getN (D := (dC, dI)) (ci := 3) (v := .int (v10 24)) (C := RX3) (T := TX3) (N := 10) hx hb hts inB_3 hown hE.1 hP 26 rfl rfl 3 (Nat.le_of_ble_eq_true rfl) (va_Nw.use rfl (hE.2 _ k_374)) (fun _ h9 => h9) rfl dX10_sewing_57 ?_
              refine lv_aload_n hx hb dX10_sewing_60 rfl (lv_at hl 0 rfl) ?_
              refine va_get (D := (dC, dI)) (ci := 10) (v := .ref (x 25)) (C := RX10) (T := TX10) (N := 10) hx hb hts inB_10 hown hE.1 hP 0 rfl rfl 5 (Nat.le_of_ble_eq_true rfl) (hts _ k_496) (fun _ h9 => h9) rfl dX10_sewing_61 ?_
              refine va_getN (D := (dC, dI)) (ci := 3) (v := .int (v10 25)) (C := RX3) (T := TX3) (N := 10) hx hb hts inB_3 hown hE.1 hP 26 rfl rfl 4 (Nat.le_of_ble_eq_true rfl) (va_Nw.use rfl (hE.2 _ k_376)) (fun _ h9 => h9) rfl dX10_sewing_64 ?_
              refine va_mabs hx hb (by rw [hml]; exact hl.1.symm) hown (hts _ k_1017) (hts _ k_1018) (hts _ k_119) (hts _ k_1019) (Nat.le_of_ble_eq_true rfl) (Nat.le_of_ble_eq_true rfl) (Nat.le_of_ble_eq_true rfl) (Nat.le_of_ble_eq_true rfl) dX10_sewing_67 ?_
              refine lv_topi (fun t15 et15 => ?_)
              refine lv_iadd hx hb dX10_sewing_70 ?_
              refine lv_topi (fun t16 et16 => ?_)
              exact ret t16 (v10, f11) _ _ _ _ _ _ rfl ⟨hM_v10, hA_f11, hIv10, hk0_v10, hk1_v10, hk7_v10, hk8_v10, hk9_v10, hk10_v10, hk31_v10, hk32_v10⟩ hP hD hS dX10_sewing_71 (Nat.le_refl _) (Nat.le_refl _)
          · skip
            subst g12
            refine lv_if_ne (tgt := 49) hx hb dX10_sewing_43 rfl (fun c0 => absurd (by decide) c0) (fun _ => ?_)
            refine lv_bipush (v := (-100)) hx hb dX10_sewing_46 rfl ?_
            exact ret (-100) (v10, f11) _ _ _ _ _ _ rfl ⟨hM_v10, hA_f11, hIv10, hk0_v10, hk1_v10, hk7_v10, hk8_v10, hk9_v10, hk10_v10, hk31_v10, hk32_v10⟩ hP hD hS dX10_sewing_48 (Nat.le_refl _) (Nat.le_refl _)
        · skip
          have zc8 : ¬ (p3.toInt ≤ 2) := by rw [fa_le, show (2 : Int32).toInt = 2 from by decide] at c8; exact c8
          refine lv_bipush (v := (-100)) hx hb dX10_sewing_31 rfl ?_
          exact ret (-100) (v, f) _ _ _ _ _ _ rfl ⟨hM_v, hA_f, hIv, rfl, rfl, rfl, rfl, rfl, rfl, rfl, rfl⟩ hP hD hS dX10_sewing_33 (Nat.le_refl _) (Nat.le_refl _)
    · skip
      subst g6
      refine lv_if_eq (tgt := 31) hx hb dX10_sewing_19 rfl (fun _ => ?_) (fun c0 => absurd (by decide) c0)
      refine lv_bipush (v := (-100)) hx hb dX10_sewing_31 rfl ?_
      exact ret (-100) (v, f) _ _ _ _ _ _ rfl ⟨hM_v, hA_f, hIv, rfl, rfl, rfl, rfl, rfl, rfl, rfl, rfl⟩ hP hD hS dX10_sewing_33 (Nat.le_refl _) (Nat.le_refl _)
  · skip
    subst g3
    refine lv_if_eq (tgt := 31) hx hb dX10_sewing_8 rfl (fun _ => ?_) (fun c0 => absurd (by decide) c0)
    refine lv_bipush (v := (-100)) hx hb dX10_sewing_31 rfl ?_
    exact ret (-100) (v, f) _ _ _ _ _ _ rfl ⟨hM_v, hA_f, hIv, rfl, rfl, rfl, rfl, rfl, rfl, rfl, rfl⟩ hP hD hS dX10_sewing_33 (Nat.le_refl _) (Nat.le_refl _)
set_option maxHeartbeats 4000000 in
set_option maxRecDepth 100000 in
theorem sX_X3_rotaCount_1 (l : Launch) (dC : Nat → ClassId) (dI : Nat → Nat → Nat) (cy : Nat → ClassId) (x0 : Nat) (x : Nat → Nat) (p1 : Int32) (v : Nat → Int32) (f : Nat → Nat → Int32) (hIv : XI v)  : ctI l (dC, dI) cy yX3_rotaCount cX3_rotaCount 5 .int 5 155 0 0 ((Nat → Int32) × (Nat → Nat → Int32)) [.ref (x 25), .int p1] (XW cy x0 x v f) (fun r u => KV [] u.1 v ∧ KF [13, 14] u.2 f ∧ XI u.1 ∧ u.1 0 = v 0 ∧ u.1 1 = v 1 ∧ u.1 7 = v 7 ∧ u.1 8 = v 8 ∧ u.1 9 = v 9 ∧ u.1 10 = v 10 ∧ u.1 31 = v 31 ∧ u.1 32 = v 32) (fun u => XW cy x0 x u.1 u.2) := by
  refine ctI_of (by decide) (Nat.le_of_ble_eq_true rfl) (fun p e s m below meth c A ls Q hx hb hml hts hown hE hP hD hA hl ret => ?_)
  have hM_v : KV [] v v := fun _ _ => rfl
  have hA_f : KF [13, 14] f f := fun _ _ => rfl
  have hown : s.vm.findClass RX3 = some m.cls := hown
  have hS : va_S A s.heap s.heap [] := va_S.rf
  have hl : lv_has ls 5 [(0, .ref (x 25)), (1, .int p1)] := hl
  refine lv_iconst (v := 0) hx hb dX3_rotaCount_0 rfl ?_
  refine lv_istore_n (lv' := [(2, .int 0), (0, .ref (x 25)), (1, .int p1)]) hx hb dX3_rotaCount_1 rfl hl (Nat.le_of_ble_eq_true rfl) rfl (fun ls hl => ?_)
  refine lv_iconst (v := 0) hx hb dX3_rotaCount_2 rfl ?_
  refine lv_istore_n (lv' := [(3, .int 0), (2, .int 0), (0, .ref (x 25)), (1, .int p1)]) hx hb dX3_rotaCount_3 rfl hl (Nat.le_of_ble_eq_true rfl) rfl (fun ls hl => ?_)
  have lp1 : ∀ (n1 : Nat) (l2_1 : Int32) (l3_1 : Int32) (v1 : Nat → Int32) (f1 : Nat → Nat → Int32), XI v1 → v1 0 = (v 0) → v1 1 = (v 1) → v1 7 = (v 7) → v1 8 = (v 8) → v1 9 = (v 9) → v1 10 = (v 10) → v1 31 = (v 31) → v1 32 = (v 32) → ((0 : Int) ≤ l3_1.toInt ∧ l3_1.toInt ≤ 2147483647) → KV [] v1 v → KF [13, 14] f1 f → (2147483647 - l3_1.toInt).toNat < n1 → ∀ (H : Heap) (locs : List Loc) (ls : Array Slot), va_P (dC, dI) vwCl (XW cy x0 x v1 f1) H → va_D A (XW cy x0 x v1 f1) → va_S A s.heap H locs → lv_has ls 5 [(3, .int l3_1), (2, .int l2_1), (0, .ref (x 25)), (1, .int p1)] → W p l e { frames := 5, cells := 0, slots := 0, locals := 155 } s m ([.ref (x 25), .int p1] : List Value).toArray below meth c H locs 0 0 Q (F0 m 4 ls []) := by
    intro n1
    induction n1 with
    | zero => intro l2_1 l3_1 v1 f1 hIv1 hq0_v1 hq1_v1 hq7_v1 hq8_v1 hq9_v1 hq10_v1 hq31_v1 hq32_v1 hr3_1 hM_v1 hA_f1 hm; exact absurd hm (Nat.not_lt_zero _)
    | succ n1 ih1 =>
      intro l2_1 l3_1 v1 f1 hIv1 hq0_v1 hq1_v1 hq7_v1 hq8_v1 hq9_v1 hq10_v1 hq31_v1 hq32_v1 hr3_1 hM_v1 hA_f1 hm1 H locs ls hP hD hS hl
      refine lv_iload_n hx hb dX3_rotaCount_4 rfl (lv_at hl 0 rfl) ?_
      refine lv_aload_n hx hb dX3_rotaCount_5 rfl (lv_at hl 2 rfl) ?_
      refine va_get (D := (dC, dI)) (ci := 3) (v := .ref (x 26)) (C := RX3) (T := TX3) (N := 10) hx hb hts inB_3 hown hE.1 hP 26 rfl rfl 0 (Nat.le_of_ble_eq_true rfl) (hts _ k_370) (fun _ h9 => h9) rfl dX3_rotaCount_6 ?_
      refine va_getN (D := (dC, dI)) (ci := 7) (v := .int (v1 31)) (C := RX7) (T := TX7) (N := 10) hx hb hts inB_7 hown hE.1 hP 27 rfl rfl 3 (Nat.le_of_ble_eq_true rfl) (va_Nw.use rfl (hE.2 _ k_217)) (fun _ h9 => h9) rfl dX3_rotaCount_9 ?_
      refine tI (y := (v 31)) hq31_v1 ?_
      have b31_v : 0 ≤ (v 31).toInt ∧ (v 31).toInt ≤ 6 := XI.b hIv 31 (by decide)
      refine lv_icmp_ge (tgt := 76) hx hb dX3_rotaCount_12 rfl (fun c2 => ?_) (fun c2 => ?_)
      · skip
        have zc2 : (v 31).toInt ≤ l3_1.toInt := by rw [fa_le] at c2; exact c2
        have rg3 := fb_rng l3_1
        have rg4 := fb_rng (v 31)
        refine lv_iload_n hx hb dX3_rotaCount_76 rfl (lv_at hl 1 rfl) ?_
        exact ret l2_1 (v1, f1) _ _ _ _ _ _ rfl ⟨hM_v1, hA_f1, hIv1, (show v1 0 = v 0 from hq0_v1), (show v1 1 = v 1 from hq1_v1), (show v1 7 = v 7 from hq7_v1), (show v1 8 = v 8 from hq8_v1), (show v1 9 = v 9 from hq9_v1), (show v1 10 = v 10 from hq10_v1), (show v1 31 = v 31 from hq31_v1), (show v1 32 = v 32 from hq32_v1)⟩ hP hD hS dX3_rotaCount_77 (Nat.le_refl _) (Nat.le_refl _)
      · skip
        have zc2 : ¬ ((v 31).toInt ≤ l3_1.toInt) := by rw [fa_le] at c2; exact c2
        have rg5 := fb_rng l3_1
        have rg6 := fb_rng (v 31)
        refine lv_iload_n hx hb dX3_rotaCount_15 rfl (lv_at hl 0 rfl) ?_
        refine lv_iload_n hx hb dX3_rotaCount_16 rfl (lv_at hl 3 rfl) ?_
        refine lv_iadd hx hb dX3_rotaCount_17 ?_
        refine lv_topi (fun t7 et7 => ?_)
        refine lv_aload_n hx hb dX3_rotaCount_18 rfl (lv_at hl 2 rfl) ?_
        refine va_get (D := (dC, dI)) (ci := 3) (v := .ref (x 26)) (C := RX3) (T := TX3) (N := 10) hx hb hts inB_3 hown hE.1 hP 26 rfl rfl 0 (Nat.le_of_ble_eq_true rfl) (hts _ k_370) (fun _ h9 => h9) rfl dX3_rotaCount_19 ?_
        refine va_getN (D := (dC, dI)) (ci := 7) (v := .int (v1 31)) (C := RX7) (T := TX7) (N := 10) hx hb hts inB_7 hown hE.1 hP 27 rfl rfl 3 (Nat.le_of_ble_eq_true rfl) (va_Nw.use rfl (hE.2 _ k_217)) (fun _ h9 => h9) rfl dX3_rotaCount_22 ?_
        refine tI (y := (v 31)) hq31_v1 ?_
        refine lv_icmp_ge (tgt := 34) hx hb dX3_rotaCount_25 rfl (fun c8 => ?_) (fun c8 => ?_)
        · skip
          have zc8 : (v 31).toInt ≤ t7.toInt := by rw [fa_le] at c8; exact c8
          have rg9 := fb_rng t7
          refine lv_iload_n hx hb dX3_rotaCount_34 rfl (lv_at hl 0 rfl) ?_
          refine lv_iload_n hx hb dX3_rotaCount_35 rfl (lv_at hl 3 rfl) ?_
          refine lv_iadd hx hb dX3_rotaCount_36 ?_
          refine tI (y := t7) et7.symm ?_
          refine lv_aload_n hx hb dX3_rotaCount_37 rfl (lv_at hl 2 rfl) ?_
          refine va_get (D := (dC, dI)) (ci := 3) (v := .ref (x 26)) (C := RX3) (T := TX3) (N := 10) hx hb hts inB_3 hown hE.1 hP 26 rfl rfl 0 (Nat.le_of_ble_eq_true rfl) (hts _ k_370) (fun _ h9 => h9) rfl dX3_rotaCount_38 ?_
          refine va_getN (D := (dC, dI)) (ci := 7) (v := .int (v1 31)) (C := RX7) (T := TX7) (N := 10) hx hb hts inB_7 hown hE.1 hP 27 rfl rfl 3 (Nat.le_of_ble_eq_true rfl) (va_Nw.use rfl (hE.2 _ k_217)) (fun _ h9 => h9) rfl dX3_rotaCount_41 ?_
          refine tI (y := (v 31)) hq31_v1 ?_
          refine lv_isub hx hb dX3_rotaCount_44 ?_
          refine lv_topi (fun t10 et10 => ?_)
          have zt10 : t10.toInt = t7.toInt - (v 31).toInt := by rw [et10]; exact sub_i rfl rfl (by omega) (by omega)
          refine lv_istore (lv' := [(4, .int t10), (3, .int l3_1), (2, .int l2_1), (0, .ref (x 25)), (1, .int p1)]) hx hb dX3_rotaCount_45 hl (Nat.le_of_ble_eq_true rfl) rfl (fun ls hl => ?_)
          refine lv_aload_n hx hb dX3_rotaCount_47 rfl (lv_at hl 3 rfl) ?_
          refine va_get (D := (dC, dI)) (ci := 3) (v := .ref (x 21)) (C := RX3) (T := TX3) (N := 10) hx hb hts inB_3 hown hE.1 hP 26 rfl rfl 1 (Nat.le_of_ble_eq_true rfl) (hts _ k_371) (fun _ h9 => h9) rfl dX3_rotaCount_48 ?_
          refine lv_iload_n hx hb dX3_rotaCount_51 rfl (lv_at hl 1 rfl) ?_
          refine lv_aload_n hx hb dX3_rotaCount_52 rfl (lv_at hl 3 rfl) ?_
          refine va_get (D := (dC, dI)) (ci := 3) (v := .ref (x 21)) (C := RX3) (T := TX3) (N := 10) hx hb hts inB_3 hown hE.1 hP 26 rfl rfl 1 (Nat.le_of_ble_eq_true rfl) (hts _ k_371) (fun _ h9 => h9) rfl dX3_rotaCount_53 ?_
          refine lv_iload hx hb dX3_rotaCount_56 (lv_at hl 0 rfl) ?_
          refine cbVi (n := 1) (rest := [.int l3_1, .ref (x 21)]) hx hb hml hown hts hE hP hD hS hA (sX_X1_wears_1 l dC dI cy x0 x t10 v1 f1 hIv1 ) k_950 k_810 k_811 k_106 k_812 (by decide +kernel) ⟨Nat.le_of_ble_eq_true rfl, Nat.le_of_ble_eq_true rfl⟩ 22 1 rfl rfl (rfl) hl.1 rfl (Nat.le_of_ble_eq_true rfl) dX3_rotaCount_58 (fun r11 u H locs hw hP hD hS => ?_)
          refine cbVi (n := 2) (rest := []) hx hb hml hown hts hE hP hD hS hA (sX_X1_fits_1 l dC dI cy x0 x l3_1 r11 v1 f1 hIv1 ) k_1032 k_818 k_819 k_106 k_820 (by decide +kernel) ⟨Nat.le_of_ble_eq_true rfl, Nat.le_of_ble_eq_true rfl⟩ 22 1 rfl rfl (rfl) hl.1 rfl (Nat.le_of_ble_eq_true rfl) dX3_rotaCount_61 (fun r12 u H locs hw hP hD hS => ?_)
          obtain ⟨v13, f14⟩ := u
          obtain ⟨kV_v13, kF_f14, hIv13, hk0_v13, hk1_v13, hk7_v13, hk8_v13, hk9_v13, hk10_v13, hk31_v13, hk32_v13, hw⟩ := hw
          have hM_v13 : KV [] v13 v := KV.tr kV_v13 hM_v1 rfl
          have hA_f14 : KF [13, 14] f14 f := KF.tr kF_f14 hA_f1 rfl
          have hP : va_P (dC, dI) vwCl (XW cy x0 x v13 f14) H := hP
          have hD : va_D A (XW cy x0 x v13 f14) := hD
          have hq0_v13 : v13 0 = (v 0) := hk0_v13.trans hq0_v1
          have hq1_v13 : v13 1 = (v 1) := hk1_v13.trans hq1_v1
          have hq7_v13 : v13 7 = (v 7) := hk7_v13.trans hq7_v1
          have hq8_v13 : v13 8 = (v 8) := hk8_v13.trans hq8_v1
          have hq9_v13 : v13 9 = (v 9) := hk9_v13.trans hq9_v1
          have hq10_v13 : v13 10 = (v 10) := hk10_v13.trans hq10_v1
          have hq31_v13 : v13 31 = (v 31) := hk31_v13.trans hq31_v1
          have hq32_v13 : v13 32 = (v 32) := hk32_v13.trans hq32_v1
          rcases hw with ⟨g15⟩ | ⟨g15⟩
          · skip
            subst g15
            refine lv_if_eq (tgt := 70) hx hb dX3_rotaCount_64 rfl (fun c0 => absurd c0 (by decide)) (fun _ => ?_)
            obtain ⟨t16, et16⟩ : ∃ y : Int32, y = l2_1 + 1 := ⟨_, rfl⟩
            refine lv_iinc (v := t16) (lv' := [(2, .int t16), (4, .int t10), (3, .int l3_1), (0, .ref (x 25)), (1, .int p1)]) hx hb dX3_rotaCount_67 hl (k := 2) rfl (by rw [et16]; rfl) (by decide) rfl (fun ls hl => ?_)
            obtain ⟨t17, et17⟩ : ∃ y : Int32, y = l3_1 + 1 := ⟨_, rfl⟩
            have zt17 : t17.toInt = l3_1.toInt + 1 := by rw [et17]; exact add_i rfl (by decide) (by omega) (by omega)
            refine lv_iinc (v := t17) (lv' := [(3, .int t17), (2, .int t16), (4, .int t10), (0, .ref (x 25)), (1, .int p1)]) hx hb dX3_rotaCount_70 hl (k := 2) rfl (by rw [et17]; rfl) (by decide) rfl (fun ls hl => ?_)
            refine lv_goto (tgt := 4) hx hb dX3_rotaCount_73 rfl ?_
            have rg18 := fb_rng t17
            exact ih1 t16 t17 v13 f14 hIv13 hq0_v13 hq1_v13 hq7_v13 hq8_v13 hq9_v13 hq10_v13 hq31_v13 hq32_v13 ⟨show (0 : Int) ≤ t17.toInt by omega, show t17.toInt ≤ (2147483647 : Int) by omega⟩ hM_v13 hA_f14 (by show (2147483647 - t17.toInt).toNat < n1; omega) _ _ _ hP hD hS (lv_sub hl [0, 1, 3, 4] rfl)
          · skip
            subst g15
            refine lv_if_eq (tgt := 70) hx hb dX3_rotaCount_64 rfl (fun _ => ?_) (fun c0 => absurd (by decide) c0)
            obtain ⟨t19, et19⟩ : ∃ y : Int32, y = l3_1 + 1 := ⟨_, rfl⟩
            have zt19 : t19.toInt = l3_1.toInt + 1 := by rw [et19]; exact add_i rfl (by decide) (by omega) (by omega)
            refine lv_iinc (v := t19) (lv' := [(3, .int t19), (4, .int t10), (2, .int l2_1), (0, .ref (x 25)), (1, .int p1)]) hx hb dX3_rotaCount_70 hl (k := 1) rfl (by rw [et19]; rfl) (by decide) rfl (fun ls hl => ?_)
            refine lv_goto (tgt := 4) hx hb dX3_rotaCount_73 rfl ?_
            have rg20 := fb_rng t19
            exact ih1 l2_1 t19 v13 f14 hIv13 hq0_v13 hq1_v13 hq7_v13 hq8_v13 hq9_v13 hq10_v13 hq31_v13 hq32_v13 ⟨show (0 : Int) ≤ t19.toInt by omega, show t19.toInt ≤ (2147483647 : Int) by omega⟩ hM_v13 hA_f14 (by show (2147483647 - t19.toInt).toNat < n1; omega) _ _ _ hP hD hS (lv_sub hl [0, 2, 3, 4] rfl)
        · skip
          have zc8 : ¬ ((v 31).toInt ≤ t7.toInt) := by rw [fa_le] at c8; exact c8
          have rg21 := fb_rng t7
          refine lv_iload_n hx hb dX3_rotaCount_28 rfl (lv_at hl 0 rfl) ?_
          refine lv_iload_n hx hb dX3_rotaCount_29 rfl (lv_at hl 3 rfl) ?_
          refine lv_iadd hx hb dX3_rotaCount_30 ?_
          refine tI (y := t7) et7.symm ?_
          refine lv_goto (tgt := 45) hx hb dX3_rotaCount_31 rfl ?_
          refine lv_istore (lv' := [(4, .int t7), (3, .int l3_1), (2, .int l2_1), (0, .ref (x 25)), (1, .int p1)]) hx hb dX3_rotaCount_45 hl (Nat.le_of_ble_eq_true rfl) rfl (fun ls hl => ?_)
          refine lv_aload_n hx hb dX3_rotaCount_47 rfl (lv_at hl 3 rfl) ?_
          refine va_get (D := (dC, dI)) (ci := 3) (v := .ref (x 21)) (C := RX3) (T := TX3) (N := 10) hx hb hts inB_3 hown hE.1 hP 26 rfl rfl 1 (Nat.le_of_ble_eq_true rfl) (hts _ k_371) (fun _ h9 => h9) rfl dX3_rotaCount_48 ?_
          refine lv_iload_n hx hb dX3_rotaCount_51 rfl (lv_at hl 1 rfl) ?_
          refine lv_aload_n hx hb dX3_rotaCount_52 rfl (lv_at hl 3 rfl) ?_
          refine va_get (D := (dC, dI)) (ci := 3) (v := .ref (x 21)) (C := RX3) (T := TX3) (N := 10) hx hb hts inB_3 hown hE.1 hP 26 rfl rfl 1 (Nat.le_of_ble_eq_true rfl) (hts _ k_371) (fun _ h9 => h9) rfl dX3_rotaCount_53 ?_
          refine lv_iload hx hb dX3_rotaCount_56 (lv_at hl 0 rfl) ?_
          refine cbVi (n := 1) (rest := [.int l3_1, .ref (x 21)]) hx hb hml hown hts hE hP hD hS hA (sX_X1_wears_1 l dC dI cy x0 x t7 v1 f1 hIv1 ) k_950 k_810 k_811 k_106 k_812 (by decide +kernel) ⟨Nat.le_of_ble_eq_true rfl, Nat.le_of_ble_eq_true rfl⟩ 22 1 rfl rfl (rfl) hl.1 rfl (Nat.le_of_ble_eq_true rfl) dX3_rotaCount_58 (fun r22 u H locs hw hP hD hS => ?_)
          refine cbVi (n := 2) (rest := []) hx hb hml hown hts hE hP hD hS hA (sX_X1_fits_1 l dC dI cy x0 x l3_1 r22 v1 f1 hIv1 ) k_1032 k_818 k_819 k_106 k_820 (by decide +kernel) ⟨Nat.le_of_ble_eq_true rfl, Nat.le_of_ble_eq_true rfl⟩ 22 1 rfl rfl (rfl) hl.1 rfl (Nat.le_of_ble_eq_true rfl) dX3_rotaCount_61 (fun r23 u H locs hw hP hD hS => ?_)
          obtain ⟨v24, f25⟩ := u
          obtain ⟨kV_v24, kF_f25, hIv24, hk0_v24, hk1_v24, hk7_v24, hk8_v24, hk9_v24, hk10_v24, hk31_v24, hk32_v24, hw⟩ := hw
          have hM_v24 : KV [] v24 v := KV.tr kV_v24 hM_v1 rfl
          have hA_f25 : KF [13, 14] f25 f := KF.tr kF_f25 hA_f1 rfl
          have hP : va_P (dC, dI) vwCl (XW cy x0 x v24 f25) H := hP
          have hD : va_D A (XW cy x0 x v24 f25) := hD
          have hq0_v24 : v24 0 = (v 0) := hk0_v24.trans hq0_v1
          have hq1_v24 : v24 1 = (v 1) := hk1_v24.trans hq1_v1
          have hq7_v24 : v24 7 = (v 7) := hk7_v24.trans hq7_v1
          have hq8_v24 : v24 8 = (v 8) := hk8_v24.trans hq8_v1
          have hq9_v24 : v24 9 = (v 9) := hk9_v24.trans hq9_v1
          have hq10_v24 : v24 10 = (v 10) := hk10_v24.trans hq10_v1
          have hq31_v24 : v24 31 = (v 31) := hk31_v24.trans hq31_v1
          have hq32_v24 : v24 32 = (v 32) := hk32_v24.trans hq32_v1
          rcases hw with ⟨g26⟩ | ⟨g26⟩
          · skip
            subst g26
            refine lv_if_eq (tgt := 70) hx hb dX3_rotaCount_64 rfl (fun c0 => absurd c0 (by decide)) (fun _ => ?_)
            obtain ⟨t27, et27⟩ : ∃ y : Int32, y = l2_1 + 1 := ⟨_, rfl⟩
            refine lv_iinc (v := t27) (lv' := [(2, .int t27), (4, .int t7), (3, .int l3_1), (0, .ref (x 25)), (1, .int p1)]) hx hb dX3_rotaCount_67 hl (k := 2) rfl (by rw [et27]; rfl) (by decide) rfl (fun ls hl => ?_)
            obtain ⟨t28, et28⟩ : ∃ y : Int32, y = l3_1 + 1 := ⟨_, rfl⟩
            have zt28 : t28.toInt = l3_1.toInt + 1 := by rw [et28]; exact add_i rfl (by decide) (by omega) (by omega)
            refine lv_iinc (v := t28) (lv' := [(3, .int t28), (2, .int t27), (4, .int t7), (0, .ref (x 25)), (1, .int p1)]) hx hb dX3_rotaCount_70 hl (k := 2) rfl (by rw [et28]; rfl) (by decide) rfl (fun ls hl => ?_)
            refine lv_goto (tgt := 4) hx hb dX3_rotaCount_73 rfl ?_
            have rg29 := fb_rng t28
            exact ih1 t27 t28 v24 f25 hIv24 hq0_v24 hq1_v24 hq7_v24 hq8_v24 hq9_v24 hq10_v24 hq31_v24 hq32_v24 ⟨show (0 : Int) ≤ t28.toInt by omega, show t28.toInt ≤ (2147483647 : Int) by omega⟩ hM_v24 hA_f25 (by show (2147483647 - t28.toInt).toNat < n1; omega) _ _ _ hP hD hS (lv_sub hl [0, 1, 3, 4] rfl)
          · skip
            subst g26
            refine lv_if_eq (tgt := 70) hx hb dX3_rotaCount_64 rfl (fun _ => ?_) (fun c0 => absurd (by decide) c0)
            obtain ⟨t30, et30⟩ : ∃ y : Int32, y = l3_1 + 1 := ⟨_, rfl⟩
            have zt30 : t30.toInt = l3_1.toInt + 1 := by rw [et30]; exact add_i rfl (by decide) (by omega) (by omega)
            refine lv_iinc (v := t30) (lv' := [(3, .int t30), (4, .int t7), (2, .int l2_1), (0, .ref (x 25)), (1, .int p1)]) hx hb dX3_rotaCount_70 hl (k := 1) rfl (by rw [et30]; rfl) (by decide) rfl (fun ls hl => ?_)
            refine lv_goto (tgt := 4) hx hb dX3_rotaCount_73 rfl ?_
            have rg31 := fb_rng t30
            exact ih1 l2_1 t30 v24 f25 hIv24 hq0_v24 hq1_v24 hq7_v24 hq8_v24 hq9_v24 hq10_v24 hq31_v24 hq32_v24 ⟨show (0 : Int) ≤ t30.toInt by omega, show t30.toInt ≤ (2147483647 : Int) by omega⟩ hM_v24 hA_f25 (by show (2147483647 - t30.toInt).toNat < n1; omega) _ _ _ hP hD hS (lv_sub hl [0, 2, 3, 4] rfl)
  exact lp1 _ 0 0 v f hIv rfl rfl rfl rfl rfl rfl rfl rfl ⟨by decide, by decide⟩ hM_v hA_f (Nat.lt_succ_self _) _ _ _ hP hD hS (lv_sub hl [0, 1, 2, 3] rfl)
set_option maxHeartbeats 4000000 in
set_option maxRecDepth 100000 in
theorem sX_X3_findRota_1 (l : Launch) (dC : Nat → ClassId) (dI : Nat → Nat → Nat) (cy : Nat → ClassId) (x0 : Nat) (x : Nat → Nat)  (v : Nat → Int32) (f : Nat → Nat → Int32) (hIv : XI v)  : ctV l (dC, dI) cy yX3_findRota cX3_findRota 3 6 179 0 0 ((Nat → Int32) × (Nat → Nat → Int32)) [.ref (x 25)] (XW cy x0 x v f) (fun u => KV [26, 27] u.1 v ∧ KF [13, 14] u.2 f ∧ XI u.1 ∧ u.1 0 = v 0 ∧ u.1 1 = v 1 ∧ u.1 7 = v 7 ∧ u.1 8 = v 8 ∧ u.1 9 = v 9 ∧ u.1 10 = v 10 ∧ u.1 31 = v 31 ∧ u.1 32 = v 32) (fun u => XW cy x0 x u.1 u.2) := by
  refine ctV_of (by decide) (Nat.le_of_ble_eq_true rfl) (fun p e s m below meth c A ls Q hx hb hml hts hown hnm hE hP hD hA hl ret => ?_)
  have hM_v : KV [26, 27] v v := fun _ _ => rfl
  have hA_f : KF [13, 14] f f := fun _ _ => rfl
  have hown : s.vm.findClass RX3 = some m.cls := hown
  have hS : va_S A s.heap s.heap [] := va_S.rf
  have hl : lv_has ls 3 [(0, .ref (x 25))] := hl
  refine lv_aload_n hx hb dX3_findRota_0 rfl (lv_at hl 0 rfl) ?_
  refine lv_iconst (v := 0) hx hb dX3_findRota_1 rfl ?_
  refine va_put (D := (dC, dI)) (ci := 3) (v := .int 0) (ty := tyX3 5) (C := RX3) (T := TX3) (N := 10) hx hb hts inB_3 tyX3 tyX3_ok nmX3 hown hE.1 hP hD hS 26 rfl rfl 5 (Nat.le_of_ble_eq_true rfl) (hts _ k_377) (fun _ h9 => h9) rfl (tyX3_ok 5 (by decide)) rfl rfl (Nat.le_of_ble_eq_true rfl) dX3_findRota_2 (fun H locs hP hD hS => ?_)
  have hP : va_P (dC, dI) vwCl (XW cy x0 x (upd v 26 0) f) H := hP
  have hD : va_D A (XW cy x0 x (upd v 26 0) f) := hD
  refine lv_aload_n hx hb dX3_findRota_5 rfl (lv_at hl 0 rfl) ?_
  refine lv_iconst (v := (-1)) hx hb dX3_findRota_6 rfl ?_
  refine va_put (D := (dC, dI)) (ci := 3) (v := .int (-1)) (ty := tyX3 6) (C := RX3) (T := TX3) (N := 10) hx hb hts inB_3 tyX3 tyX3_ok nmX3 hown hE.1 hP hD hS 26 rfl rfl 6 (Nat.le_of_ble_eq_true rfl) (hts _ k_379) (fun _ h9 => h9) rfl (tyX3_ok 6 (by decide)) rfl rfl (Nat.le_of_ble_eq_true rfl) dX3_findRota_7 (fun H locs hP hD hS => ?_)
  have hP : va_P (dC, dI) vwCl (XW cy x0 x (upd (upd v 26 0) 27 (-1)) f) H := hP
  have hD : va_D A (XW cy x0 x (upd (upd v 26 0) 27 (-1)) f) := hD
  refine lv_iconst (v := 0) hx hb dX3_findRota_10 rfl ?_
  refine lv_istore_n (lv' := [(1, .int 0), (0, .ref (x 25))]) hx hb dX3_findRota_11 rfl hl (Nat.le_of_ble_eq_true rfl) rfl (fun ls hl => ?_)
  have lp1 : ∀ (n1 : Nat) (l1_1 : Int32) (v1 : Nat → Int32) (f1 : Nat → Nat → Int32), XI v1 → v1 0 = (v 0) → v1 1 = (v 1) → v1 7 = (v 7) → v1 8 = (v 8) → v1 9 = (v 9) → v1 10 = (v 10) → v1 31 = (v 31) → v1 32 = (v 32) → ((0 : Int) ≤ l1_1.toInt ∧ l1_1.toInt ≤ 2147483647) → KV [26, 27] v1 v → KF [13, 14] f1 f → (2147483647 - l1_1.toInt).toNat < n1 → ∀ (H : Heap) (locs : List Loc) (ls : Array Slot), va_P (dC, dI) vwCl (XW cy x0 x v1 f1) H → va_D A (XW cy x0 x v1 f1) → va_S A s.heap H locs → lv_has ls 3 [(1, .int l1_1), (0, .ref (x 25))] → W p l e { frames := 6, cells := 0, slots := 0, locals := 179 } s m ([.ref (x 25)] : List Value).toArray below meth c H locs 0 0 Q (F0 m 12 ls []) := by
    intro n1
    induction n1 with
    | zero => intro l1_1 v1 f1 hIv1 hq0_v1 hq1_v1 hq7_v1 hq8_v1 hq9_v1 hq10_v1 hq31_v1 hq32_v1 hr1_1 hM_v1 hA_f1 hm; exact absurd hm (Nat.not_lt_zero _)
    | succ n1 ih1 =>
      intro l1_1 v1 f1 hIv1 hq0_v1 hq1_v1 hq7_v1 hq8_v1 hq9_v1 hq10_v1 hq31_v1 hq32_v1 hr1_1 hM_v1 hA_f1 hm1 H locs ls hP hD hS hl
      refine lv_iload_n hx hb dX3_findRota_12 rfl (lv_at hl 0 rfl) ?_
      refine lv_aload_n hx hb dX3_findRota_13 rfl (lv_at hl 1 rfl) ?_
      refine va_get (D := (dC, dI)) (ci := 3) (v := .ref (x 26)) (C := RX3) (T := TX3) (N := 10) hx hb hts inB_3 hown hE.1 hP 26 rfl rfl 0 (Nat.le_of_ble_eq_true rfl) (hts _ k_370) (fun _ h9 => h9) rfl dX3_findRota_14 ?_
      refine va_getN (D := (dC, dI)) (ci := 7) (v := .int (v1 31)) (C := RX7) (T := TX7) (N := 10) hx hb hts inB_7 hown hE.1 hP 27 rfl rfl 3 (Nat.le_of_ble_eq_true rfl) (va_Nw.use rfl (hE.2 _ k_217)) (fun _ h9 => h9) rfl dX3_findRota_17 ?_
      refine tI (y := (v 31)) hq31_v1 ?_
      have b31_v : 0 ≤ (v 31).toInt ∧ (v 31).toInt ≤ 6 := XI.b hIv 31 (by decide)
      refine lv_icmp_ge (tgt := 53) hx hb dX3_findRota_20 rfl (fun c2 => ?_) (fun c2 => ?_)
      · skip
        have zc2 : (v 31).toInt ≤ l1_1.toInt := by rw [fa_le] at c2; exact c2
        have rg3 := fb_rng l1_1
        have rg4 := fb_rng (v 31)
        exact ret (v1, f1) _ _ _ _ _ _ ⟨hM_v1, hA_f1, hIv1, (show v1 0 = v 0 from hq0_v1), (show v1 1 = v 1 from hq1_v1), (show v1 7 = v 7 from hq7_v1), (show v1 8 = v 8 from hq8_v1), (show v1 9 = v 9 from hq9_v1), (show v1 10 = v 10 from hq10_v1), (show v1 31 = v 31 from hq31_v1), (show v1 32 = v 32 from hq32_v1)⟩ hP hD hS dX3_findRota_53 (Nat.le_refl _) (Nat.le_refl _)
      · skip
        have zc2 : ¬ ((v 31).toInt ≤ l1_1.toInt) := by rw [fa_le] at c2; exact c2
        have rg5 := fb_rng l1_1
        have rg6 := fb_rng (v 31)
        refine lv_aload_n hx hb dX3_findRota_23 rfl (lv_at hl 1 rfl) ?_
        refine lv_iload_n hx hb dX3_findRota_24 rfl (lv_at hl 0 rfl) ?_
        refine cbVi (n := 1) (rest := []) hx hb hml hown hts hE hP hD hS hA (sX_X3_rotaCount_1 l dC dI cy x0 x l1_1 v1 f1 hIv1 ) k_1028 k_1030 k_28 k_109 k_1031 (by decide +kernel) ⟨Nat.le_of_ble_eq_true rfl, Nat.le_of_ble_eq_true rfl⟩ 26 3 rfl rfl (rfl) hl.1 rfl (Nat.le_of_ble_eq_true rfl) dX3_findRota_25 (fun r7 u H locs hw hP hD hS => ?_)
        obtain ⟨v8, f9⟩ := u
        obtain ⟨kV_v8, kF_f9, hIv8, hk0_v8, hk1_v8, hk7_v8, hk8_v8, hk9_v8, hk10_v8, hk31_v8, hk32_v8⟩ := hw
        have hM_v8 : KV [26, 27] v8 v := KV.tr kV_v8 hM_v1 rfl
        have hA_f9 : KF [13, 14] f9 f := KF.tr kF_f9 hA_f1 rfl
        have hP : va_P (dC, dI) vwCl (XW cy x0 x v8 f9) H := hP
        have hD : va_D A (XW cy x0 x v8 f9) := hD
        have hq0_v8 : v8 0 = (v 0) := hk0_v8.trans hq0_v1
        have hq1_v8 : v8 1 = (v 1) := hk1_v8.trans hq1_v1
        have hq7_v8 : v8 7 = (v 7) := hk7_v8.trans hq7_v1
        have hq8_v8 : v8 8 = (v 8) := hk8_v8.trans hq8_v1
        have hq9_v8 : v8 9 = (v 9) := hk9_v8.trans hq9_v1
        have hq10_v8 : v8 10 = (v 10) := hk10_v8.trans hq10_v1
        have hq31_v8 : v8 31 = (v 31) := hk31_v8.trans hq31_v1
        have hq32_v8 : v8 32 = (v 32) := hk32_v8.trans hq32_v1
        refine lv_istore_n (lv' := [(2, .int r7), (1, .int l1_1), (0, .ref (x 25))]) hx hb dX3_findRota_28 rfl hl (Nat.le_of_ble_eq_true rfl) rfl (fun ls hl => ?_)
        refine lv_iload_n hx hb dX3_findRota_29 rfl (lv_at hl 0 rfl) ?_
        refine lv_aload_n hx hb dX3_findRota_30 rfl (lv_at hl 2 rfl) ?_
        refine va_get (D := (dC, dI)) (ci := 3) (v := .int (v8 27)) (C := RX3) (T := TX3) (N := 10) hx hb hts inB_3 hown hE.1 hP 26 rfl rfl 6 (Nat.le_of_ble_eq_true rfl) (hts _ k_379) (fun _ h9 => h9) rfl dX3_findRota_31 ?_
        refine lv_icmp_le (tgt := 47) hx hb dX3_findRota_34 rfl (fun c10 => ?_) (fun c10 => ?_)
        · skip
          have zc10 : r7.toInt ≤ (v8 27).toInt := by rw [fa_le] at c10; exact c10
          have rg11 := fb_rng r7
          have rg12 := fb_rng (v8 27)
          obtain ⟨t13, et13⟩ : ∃ y : Int32, y = l1_1 + 1 := ⟨_, rfl⟩
          have zt13 : t13.toInt = l1_1.toInt + 1 := by rw [et13]; exact add_i rfl (by decide) (by omega) (by omega)
          refine lv_iinc (v := t13) (lv' := [(1, .int t13), (2, .int r7), (0, .ref (x 25))]) hx hb dX3_findRota_47 hl (k := 1) rfl (by rw [et13]; rfl) (by decide) rfl (fun ls hl => ?_)
          refine lv_goto (tgt := 12) hx hb dX3_findRota_50 rfl ?_
          have rg14 := fb_rng t13
          exact ih1 t13 v8 f9 hIv8 hq0_v8 hq1_v8 hq7_v8 hq8_v8 hq9_v8 hq10_v8 hq31_v8 hq32_v8 ⟨show (0 : Int) ≤ t13.toInt by omega, show t13.toInt ≤ (2147483647 : Int) by omega⟩ hM_v8 hA_f9 (by show (2147483647 - t13.toInt).toNat < n1; omega) _ _ _ hP hD hS (lv_sub hl [0, 2] rfl)
        · skip
          have zc10 : ¬ (r7.toInt ≤ (v8 27).toInt) := by rw [fa_le] at c10; exact c10
          have rg15 := fb_rng r7
          have rg16 := fb_rng (v8 27)
          refine lv_aload_n hx hb dX3_findRota_37 rfl (lv_at hl 2 rfl) ?_
          refine lv_iload_n hx hb dX3_findRota_38 rfl (lv_at hl 1 rfl) ?_
          refine va_put (D := (dC, dI)) (ci := 3) (v := .int l1_1) (ty := tyX3 5) (C := RX3) (T := TX3) (N := 10) hx hb hts inB_3 tyX3 tyX3_ok nmX3 hown hE.1 hP hD hS 26 rfl rfl 5 (Nat.le_of_ble_eq_true rfl) (hts _ k_377) (fun _ h9 => h9) rfl (tyX3_ok 5 (by decide)) rfl rfl (Nat.le_of_ble_eq_true rfl) dX3_findRota_39 (fun H locs hP hD hS => ?_)
          have hP : va_P (dC, dI) vwCl (XW cy x0 x (upd v8 26 l1_1) f9) H := hP
          have hD : va_D A (XW cy x0 x (upd v8 26 l1_1) f9) := hD
          refine lv_aload_n hx hb dX3_findRota_42 rfl (lv_at hl 2 rfl) ?_
          refine lv_iload_n hx hb dX3_findRota_43 rfl (lv_at hl 0 rfl) ?_
          refine va_put (D := (dC, dI)) (ci := 3) (v := .int r7) (ty := tyX3 6) (C := RX3) (T := TX3) (N := 10) hx hb hts inB_3 tyX3 tyX3_ok nmX3 hown hE.1 hP hD hS 26 rfl rfl 6 (Nat.le_of_ble_eq_true rfl) (hts _ k_379) (fun _ h9 => h9) rfl (tyX3_ok 6 (by decide)) rfl rfl (Nat.le_of_ble_eq_true rfl) dX3_findRota_44 (fun H locs hP hD hS => ?_)
          have hP : va_P (dC, dI) vwCl (XW cy x0 x (upd (upd v8 26 l1_1) 27 r7) f9) H := hP
          have hD : va_D A (XW cy x0 x (upd (upd v8 26 l1_1) 27 r7) f9) := hD
          obtain ⟨t17, et17⟩ : ∃ y : Int32, y = l1_1 + 1 := ⟨_, rfl⟩
          have zt17 : t17.toInt = l1_1.toInt + 1 := by rw [et17]; exact add_i rfl (by decide) (by omega) (by omega)
          refine lv_iinc (v := t17) (lv' := [(1, .int t17), (2, .int r7), (0, .ref (x 25))]) hx hb dX3_findRota_47 hl (k := 1) rfl (by rw [et17]; rfl) (by decide) rfl (fun ls hl => ?_)
          refine lv_goto (tgt := 12) hx hb dX3_findRota_50 rfl ?_
          have rg18 := fb_rng t17
          exact ih1 t17 (upd (upd v8 26 l1_1) 27 r7) f9 (XI.upd (j := 27) (x := r7) (XI.upd (j := 26) (x := l1_1) hIv8 (rlo _) (rhi _)) (rlo _) (rhi _)) hq0_v8 hq1_v8 hq7_v8 hq8_v8 hq9_v8 hq10_v8 hq31_v8 hq32_v8 ⟨show (0 : Int) ≤ t17.toInt by omega, show t17.toInt ≤ (2147483647 : Int) by omega⟩ (KV.up (j := 27) (x := r7) (KV.up (j := 26) (x := l1_1) hM_v8 rfl) rfl) hA_f9 (by show (2147483647 - t17.toInt).toNat < n1; omega) _ _ _ hP hD hS (lv_sub hl [0, 2] rfl)
  exact lp1 _ 0 (upd (upd v 26 0) 27 (-1)) f (XI.upd (j := 27) (x := (-1)) (XI.upd (j := 26) (x := 0) hIv (rlo _) (rhi _)) (rlo _) (rhi _)) rfl rfl rfl rfl rfl rfl rfl rfl ⟨by decide, by decide⟩ (KV.up (j := 27) (x := (-1)) (KV.up (j := 26) (x := 0) hM_v rfl) rfl) hA_f (Nat.lt_succ_self _) _ _ _ hP hD hS (lv_sub hl [0, 1] rfl)
set_option maxHeartbeats 4000000 in
set_option maxRecDepth 100000 in
theorem sX_X10_rota_1 (l : Launch) (dC : Nat → ClassId) (dI : Nat → Nat → Nat) (cy : Nat → ClassId) (x0 : Nat) (x : Nat → Nat) (p1 : Int32) (v : Nat → Int32) (f : Nat → Nat → Int32) (hIv : XI v)  : ctI l (dC, dI) cy yX10_rota cX10_rota 2 .int 7 201 0 0 ((Nat → Int32) × (Nat → Nat → Int32)) [.ref x0, .int p1] (XW cy x0 x v f) (fun r u => KV [26, 27] u.1 v ∧ KF [13, 14] u.2 f ∧ XI u.1 ∧ u.1 0 = v 0 ∧ u.1 1 = v 1 ∧ u.1 7 = v 7 ∧ u.1 8 = v 8 ∧ u.1 9 = v 9 ∧ u.1 10 = v 10 ∧ u.1 31 = v 31 ∧ u.1 32 = v 32) (fun u => XW cy x0 x u.1 u.2) := by
  refine ctI_of (by decide) (Nat.le_of_ble_eq_true rfl) (fun p e s m below meth c A ls Q hx hb hml hts hown hE hP hD hA hl ret => ?_)
  have hM_v : KV [26, 27] v v := fun _ _ => rfl
  have hA_f : KF [13, 14] f f := fun _ _ => rfl
  have hown : s.vm.findClass RX10 = some m.cls := hown
  have hS : va_S A s.heap s.heap [] := va_S.rf
  have hl : lv_has ls 2 [(0, .ref x0), (1, .int p1)] := hl
  refine lv_aload_n hx hb dX10_rota_0 rfl (lv_at hl 0 rfl) ?_
  refine va_get (D := (dC, dI)) (ci := 10) (v := .ref (x 26)) (C := RX10) (T := TX10) (N := 10) hx hb hts inB_10 hown hE.1 hP 0 rfl rfl 2 (Nat.le_of_ble_eq_true rfl) (hts _ k_493) (fun _ h9 => h9) rfl dX10_rota_1 ?_
  refine va_getN (D := (dC, dI)) (ci := 7) (v := .int (v 31)) (C := RX7) (T := TX7) (N := 10) hx hb hts inB_7 hown hE.1 hP 27 rfl rfl 3 (Nat.le_of_ble_eq_true rfl) (va_Nw.use rfl (hE.2 _ k_214)) (fun _ h9 => h9) rfl dX10_rota_4 ?_
  have b31_v : 0 ≤ (v 31).toInt ∧ (v 31).toInt ≤ 6 := XI.b hIv 31 (by decide)
  refine lv_if_eq (tgt := 19) hx hb dX10_rota_7 rfl (fun c1 => ?_) (fun c1 => ?_)
  · skip
    have zc1 : (v 31).toInt = 0 := by rw [fa_eq, show (0 : Int32).toInt = 0 from by decide] at c1; exact c1
    refine lv_iconst (v := (-1)) hx hb dX10_rota_19 rfl ?_
    exact ret (-1) (v, f) _ _ _ _ _ _ rfl ⟨hM_v, hA_f, hIv, rfl, rfl, rfl, rfl, rfl, rfl, rfl, rfl⟩ hP hD hS dX10_rota_20 (Nat.le_refl _) (Nat.le_refl _)
  · skip
    have zc1 : ¬ ((v 31).toInt = 0) := by rw [fa_eq, show (0 : Int32).toInt = 0 from by decide] at c1; exact c1
    refine lv_iload_n hx hb dX10_rota_10 rfl (lv_at hl 1 rfl) ?_
    refine lv_if_lt (tgt := 19) hx hb dX10_rota_11 rfl (fun c2 => ?_) (fun c2 => ?_)
    · skip
      have zc2 : p1.toInt < 0 := by rw [fa_lt, show (0 : Int32).toInt = 0 from by decide] at c2; exact c2
      refine lv_iconst (v := (-1)) hx hb dX10_rota_19 rfl ?_
      exact ret (-1) (v, f) _ _ _ _ _ _ rfl ⟨hM_v, hA_f, hIv, rfl, rfl, rfl, rfl, rfl, rfl, rfl, rfl⟩ hP hD hS dX10_rota_20 (Nat.le_refl _) (Nat.le_refl _)
    · skip
      have zc2 : ¬ (p1.toInt < 0) := by rw [fa_lt, show (0 : Int32).toInt = 0 from by decide] at c2; exact c2
      refine lv_iload_n hx hb dX10_rota_14 rfl (lv_at hl 1 rfl) ?_
      refine lv_iconst (v := 1) hx hb dX10_rota_15 rfl ?_
      refine lv_icmp_le (tgt := 21) hx hb dX10_rota_16 rfl (fun c3 => ?_) (fun c3 => ?_)
      · skip
        have zc3 : p1.toInt ≤ 1 := by rw [fa_le, show (1 : Int32).toInt = 1 from by decide] at c3; exact c3
        refine lv_aload_n hx hb dX10_rota_21 rfl (lv_at hl 0 rfl) ?_
        refine va_get (D := (dC, dI)) (ci := 10) (v := .ref (x 25)) (C := RX10) (T := TX10) (N := 10) hx hb hts inB_10 hown hE.1 hP 0 rfl rfl 5 (Nat.le_of_ble_eq_true rfl) (hts _ k_496) (fun _ h9 => h9) rfl dX10_rota_22 ?_
        refine cbVv (n := 0) (rest := []) hx hb hml hown hts hE hP hD hS hA (sX_X3_findRota_1 l dC dI cy x0 x  v f hIv ) k_1024 k_1025 k_1026 k_109 k_1027 (by decide +kernel) ⟨Nat.le_of_ble_eq_true rfl, Nat.le_of_ble_eq_true rfl⟩ 26 3 rfl rfl (rfl) hl.1 rfl (Nat.le_of_ble_eq_true rfl) dX10_rota_25 (fun u H locs hw hP hD hS => ?_)
        obtain ⟨v4, f5⟩ := u
        obtain ⟨kV_v4, kF_f5, hIv4, hk0_v4, hk1_v4, hk7_v4, hk8_v4, hk9_v4, hk10_v4, hk31_v4, hk32_v4⟩ := hw
        have hM_v4 : KV [26, 27] v4 v := KV.tr kV_v4 hM_v rfl
        have hA_f5 : KF [13, 14] f5 f := KF.tr kF_f5 hA_f rfl
        have hP : va_P (dC, dI) vwCl (XW cy x0 x v4 f5) H := hP
        have hD : va_D A (XW cy x0 x v4 f5) := hD
        have hq0_v4 : v4 0 = (v 0) := hk0_v4
        have hq1_v4 : v4 1 = (v 1) := hk1_v4
        have hq7_v4 : v4 7 = (v 7) := hk7_v4
        have hq8_v4 : v4 8 = (v 8) := hk8_v4
        have hq9_v4 : v4 9 = (v 9) := hk9_v4
        have hq10_v4 : v4 10 = (v 10) := hk10_v4
        have hq31_v4 : v4 31 = (v 31) := hk31_v4
        have hq32_v4 : v4 32 = (v 32) := hk32_v4
        refine lv_iload_n hx hb dX10_rota_28 rfl (lv_at hl 1 rfl) ?_
        refine lv_if_ne (tgt := 42) hx hb dX10_rota_29 rfl (fun c6 => ?_) (fun c6 => ?_)
        · skip
          have zc6 : ¬ (p1.toInt = 0) := by rw [fa_eq, show (0 : Int32).toInt = 0 from by decide] at c6; exact c6
          refine lv_aload_n hx hb dX10_rota_42 rfl (lv_at hl 0 rfl) ?_
          refine va_get (D := (dC, dI)) (ci := 10) (v := .ref (x 25)) (C := RX10) (T := TX10) (N := 10) hx hb hts inB_10 hown hE.1 hP 0 rfl rfl 5 (Nat.le_of_ble_eq_true rfl) (hts _ k_496) (fun _ h9 => h9) rfl dX10_rota_43 ?_
          refine va_getN (D := (dC, dI)) (ci := 3) (v := .int (v4 27)) (C := RX3) (T := TX3) (N := 10) hx hb hts inB_3 hown hE.1 hP 26 rfl rfl 6 (Nat.le_of_ble_eq_true rfl) (va_Nw.use rfl (hE.2 _ k_380)) (fun _ h9 => h9) rfl dX10_rota_46 ?_
          exact ret (v4 27) (v4, f5) _ _ _ _ _ _ rfl ⟨hM_v4, hA_f5, hIv4, hk0_v4, hk1_v4, hk7_v4, hk8_v4, hk9_v4, hk10_v4, hk31_v4, hk32_v4⟩ hP hD hS dX10_rota_49 (Nat.le_refl _) (Nat.le_refl _)
        · skip
          have zc6 : p1.toInt = 0 := by rw [fa_eq, show (0 : Int32).toInt = 0 from by decide] at c6; exact c6
          refine lv_aload_n hx hb dX10_rota_32 rfl (lv_at hl 0 rfl) ?_
          refine va_get (D := (dC, dI)) (ci := 10) (v := .ref (x 25)) (C := RX10) (T := TX10) (N := 10) hx hb hts inB_10 hown hE.1 hP 0 rfl rfl 5 (Nat.le_of_ble_eq_true rfl) (hts _ k_496) (fun _ h9 => h9) rfl dX10_rota_33 ?_
          refine va_getN (D := (dC, dI)) (ci := 3) (v := .int (v4 26)) (C := RX3) (T := TX3) (N := 10) hx hb hts inB_3 hown hE.1 hP 26 rfl rfl 5 (Nat.le_of_ble_eq_true rfl) (va_Nw.use rfl (hE.2 _ k_378)) (fun _ h9 => h9) rfl dX10_rota_36 ?_
          refine lv_goto (tgt := 49) hx hb dX10_rota_39 rfl ?_
          exact ret (v4 26) (v4, f5) _ _ _ _ _ _ rfl ⟨hM_v4, hA_f5, hIv4, hk0_v4, hk1_v4, hk7_v4, hk8_v4, hk9_v4, hk10_v4, hk31_v4, hk32_v4⟩ hP hD hS dX10_rota_49 (Nat.le_refl _) (Nat.le_refl _)
      · skip
        have zc3 : ¬ (p1.toInt ≤ 1) := by rw [fa_le, show (1 : Int32).toInt = 1 from by decide] at c3; exact c3
        refine lv_iconst (v := (-1)) hx hb dX10_rota_19 rfl ?_
        exact ret (-1) (v, f) _ _ _ _ _ _ rfl ⟨hM_v, hA_f, hIv, rfl, rfl, rfl, rfl, rfl, rfl, rfl, rfl⟩ hP hD hS dX10_rota_20 (Nat.le_refl _) (Nat.le_refl _)
set_option maxHeartbeats 4000000 in
set_option maxRecDepth 100000 in
theorem sX_J6_bitCount_0f7a4_1 (l : Launch) (dC : Nat → ClassId) (dI : Nat → Nat → Nat) (cy : Nat → ClassId) (x0 : Nat) (x : Nat → Nat) (p0 : Int32) (v : Nat → Int32) (f : Nat → Nat → Int32) (hIv : XI v)  : ctI l (dC, dI) cy yJ6_bitCount_0f7a4 cJ6_bitCount_0f7a4 1 .int 1 60 0 0 Unit [.int p0] (XW cy x0 x v f) (fun r u => True) (fun u => XW cy x0 x v f) := by
  refine ctI_of (by decide) (Nat.le_of_ble_eq_true rfl) (fun p e s m below meth c A ls Q hx hb hml hts hown hE hP hD hA hl ret => ?_)
  have hown : s.vm.findClass RJ6 = some m.cls := hown
  have hS : va_S A s.heap s.heap [] := va_S.rf
  have hl : lv_has ls 1 [(0, .int p0)] := hl
  refine lv_iload_n hx hb dJ6_bitCount_0f7a4_0 rfl (lv_at hl 0 rfl) ?_
  refine lv_iload_n hx hb dJ6_bitCount_0f7a4_1 rfl (lv_at hl 0 rfl) ?_
  refine lv_iconst (v := 1) hx hb dJ6_bitCount_0f7a4_2 rfl ?_
  refine lv_iushr hx hb dJ6_bitCount_0f7a4_3 rfl ?_
  refine lv_topi (fun t1 et1 => ?_)
  refine lv_ldcw (v := 1431655765) hx hb hown (hts _ k_1045) dJ6_bitCount_0f7a4_4 ?_
  refine lv_iand hx hb dJ6_bitCount_0f7a4_7 ?_
  refine lv_topi (fun t2 et2 => ?_)
  refine lv_isub hx hb dJ6_bitCount_0f7a4_8 ?_
  refine lv_topi (fun t3 et3 => ?_)
  refine lv_istore_n (lv' := [(0, .int t3)]) hx hb dJ6_bitCount_0f7a4_9 rfl hl (Nat.le_of_ble_eq_true rfl) rfl (fun ls hl => ?_)
  refine lv_iload_n hx hb dJ6_bitCount_0f7a4_10 rfl (lv_at hl 0 rfl) ?_
  refine lv_ldcw (v := 858993459) hx hb hown (hts _ k_1046) dJ6_bitCount_0f7a4_11 ?_
  refine lv_iand hx hb dJ6_bitCount_0f7a4_14 ?_
  refine lv_topi (fun t4 et4 => ?_)
  refine lv_iload_n hx hb dJ6_bitCount_0f7a4_15 rfl (lv_at hl 0 rfl) ?_
  refine lv_iconst (v := 2) hx hb dJ6_bitCount_0f7a4_16 rfl ?_
  refine lv_iushr hx hb dJ6_bitCount_0f7a4_17 rfl ?_
  refine lv_topi (fun t5 et5 => ?_)
  refine lv_ldcw (v := 858993459) hx hb hown (hts _ k_1046) dJ6_bitCount_0f7a4_18 ?_
  refine lv_iand hx hb dJ6_bitCount_0f7a4_21 ?_
  refine lv_topi (fun t6 et6 => ?_)
  refine lv_iadd hx hb dJ6_bitCount_0f7a4_22 ?_
  refine lv_topi (fun t7 et7 => ?_)
  refine lv_istore_n (lv' := [(0, .int t7)]) hx hb dJ6_bitCount_0f7a4_23 rfl hl (Nat.le_of_ble_eq_true rfl) rfl (fun ls hl => ?_)
  refine lv_iload_n hx hb dJ6_bitCount_0f7a4_24 rfl (lv_at hl 0 rfl) ?_
  refine lv_iload_n hx hb dJ6_bitCount_0f7a4_25 rfl (lv_at hl 0 rfl) ?_
  refine lv_iconst (v := 4) hx hb dJ6_bitCount_0f7a4_26 rfl ?_
  refine lv_iushr hx hb dJ6_bitCount_0f7a4_27 rfl ?_
  refine lv_topi (fun t8 et8 => ?_)
  refine lv_iadd hx hb dJ6_bitCount_0f7a4_28 ?_
  refine lv_topi (fun t9 et9 => ?_)
  refine lv_ldcw (v := 252645135) hx hb hown (hts _ k_1047) dJ6_bitCount_0f7a4_29 ?_
  refine lv_iand hx hb dJ6_bitCount_0f7a4_32 ?_
  refine lv_topi (fun t10 et10 => ?_)
  refine lv_istore_n (lv' := [(0, .int t10)]) hx hb dJ6_bitCount_0f7a4_33 rfl hl (Nat.le_of_ble_eq_true rfl) rfl (fun ls hl => ?_)
  refine lv_iload_n hx hb dJ6_bitCount_0f7a4_34 rfl (lv_at hl 0 rfl) ?_
  refine lv_iload_n hx hb dJ6_bitCount_0f7a4_35 rfl (lv_at hl 0 rfl) ?_
  refine lv_bipush (v := 8) hx hb dJ6_bitCount_0f7a4_36 rfl ?_
  refine lv_iushr hx hb dJ6_bitCount_0f7a4_38 rfl ?_
  refine lv_topi (fun t11 et11 => ?_)
  refine lv_iadd hx hb dJ6_bitCount_0f7a4_39 ?_
  refine lv_topi (fun t12 et12 => ?_)
  refine lv_istore_n (lv' := [(0, .int t12)]) hx hb dJ6_bitCount_0f7a4_40 rfl hl (Nat.le_of_ble_eq_true rfl) rfl (fun ls hl => ?_)
  refine lv_iload_n hx hb dJ6_bitCount_0f7a4_41 rfl (lv_at hl 0 rfl) ?_
  refine lv_iload_n hx hb dJ6_bitCount_0f7a4_42 rfl (lv_at hl 0 rfl) ?_
  refine lv_bipush (v := 16) hx hb dJ6_bitCount_0f7a4_43 rfl ?_
  refine lv_iushr hx hb dJ6_bitCount_0f7a4_45 rfl ?_
  refine lv_topi (fun t13 et13 => ?_)
  refine lv_iadd hx hb dJ6_bitCount_0f7a4_46 ?_
  refine lv_topi (fun t14 et14 => ?_)
  refine lv_istore_n (lv' := [(0, .int t14)]) hx hb dJ6_bitCount_0f7a4_47 rfl hl (Nat.le_of_ble_eq_true rfl) rfl (fun ls hl => ?_)
  refine lv_iload_n hx hb dJ6_bitCount_0f7a4_48 rfl (lv_at hl 0 rfl) ?_
  refine lv_bipush (v := 63) hx hb dJ6_bitCount_0f7a4_49 rfl ?_
  refine lv_iand hx hb dJ6_bitCount_0f7a4_51 ?_
  refine lv_topi (fun t15 et15 => ?_)
  have zt15 : 0 ≤ t15.toInt ∧ t15.toInt < 64 := by rw [et15]; exact and_rng _ (k := 6) (by decide) (by decide)
  exact ret t15 () _ _ _ _ _ _ rfl trivial hP hD hS dJ6_bitCount_0f7a4_52 (Nat.le_refl _) (Nat.le_refl _)
set_option maxHeartbeats 4000000 in
set_option maxRecDepth 100000 in
theorem sX_X3_changedCount_1 (l : Launch) (dC : Nat → ClassId) (dI : Nat → Nat → Nat) (cy : Nat → ClassId) (x0 : Nat) (x : Nat → Nat) (p1 : Int32) (p2 : Int32) (v : Nat → Int32) (f : Nat → Nat → Int32) (hIv : XI v)  : ctI l (dC, dI) cy yX3_changedCount cX3_changedCount 6 .int 5 155 0 0 ((Nat → Int32) × (Nat → Nat → Int32)) [.ref (x 25), .int p1, .int p2] (XW cy x0 x v f) (fun r u => KV [] u.1 v ∧ KF [13, 14] u.2 f ∧ XI u.1 ∧ u.1 0 = v 0 ∧ u.1 1 = v 1 ∧ u.1 7 = v 7 ∧ u.1 8 = v 8 ∧ u.1 9 = v 9 ∧ u.1 10 = v 10 ∧ u.1 31 = v 31 ∧ u.1 32 = v 32) (fun u => XW cy x0 x u.1 u.2) := by
  refine ctI_of (by decide) (Nat.le_of_ble_eq_true rfl) (fun p e s m below meth c A ls Q hx hb hml hts hown hE hP hD hA hl ret => ?_)
  have hM_v : KV [] v v := fun _ _ => rfl
  have hA_f : KF [13, 14] f f := fun _ _ => rfl
  have hown : s.vm.findClass RX3 = some m.cls := hown
  have hS : va_S A s.heap s.heap [] := va_S.rf
  have hl : lv_has ls 6 [(0, .ref (x 25)), (1, .int p1), (2, .int p2)] := hl
  refine lv_iconst (v := 0) hx hb dX3_changedCount_0 rfl ?_
  refine lv_istore_n (lv' := [(3, .int 0), (0, .ref (x 25)), (1, .int p1), (2, .int p2)]) hx hb dX3_changedCount_1 rfl hl (Nat.le_of_ble_eq_true rfl) rfl (fun ls hl => ?_)
  refine lv_iconst (v := 0) hx hb dX3_changedCount_2 rfl ?_
  refine lv_istore (lv' := [(4, .int 0), (3, .int 0), (0, .ref (x 25)), (1, .int p1), (2, .int p2)]) hx hb dX3_changedCount_3 hl (Nat.le_of_ble_eq_true rfl) rfl (fun ls hl => ?_)
  have lp1 : ∀ (n1 : Nat) (l3_1 : Int32) (l4_1 : Int32) (v1 : Nat → Int32) (f1 : Nat → Nat → Int32), XI v1 → v1 0 = (v 0) → v1 1 = (v 1) → v1 7 = (v 7) → v1 8 = (v 8) → v1 9 = (v 9) → v1 10 = (v 10) → v1 31 = (v 31) → v1 32 = (v 32) → ((0 : Int) ≤ l4_1.toInt ∧ l4_1.toInt ≤ 2147483647) → KV [] v1 v → KF [13, 14] f1 f → (2147483647 - l4_1.toInt).toNat < n1 → ∀ (H : Heap) (locs : List Loc) (ls : Array Slot), va_P (dC, dI) vwCl (XW cy x0 x v1 f1) H → va_D A (XW cy x0 x v1 f1) → va_S A s.heap H locs → lv_has ls 6 [(4, .int l4_1), (3, .int l3_1), (0, .ref (x 25)), (1, .int p1), (2, .int p2)] → W p l e { frames := 5, cells := 0, slots := 0, locals := 155 } s m ([.ref (x 25), .int p1, .int p2] : List Value).toArray below meth c H locs 0 0 Q (F0 m 5 ls []) := by
    intro n1
    induction n1 with
    | zero => intro l3_1 l4_1 v1 f1 hIv1 hq0_v1 hq1_v1 hq7_v1 hq8_v1 hq9_v1 hq10_v1 hq31_v1 hq32_v1 hr4_1 hM_v1 hA_f1 hm; exact absurd hm (Nat.not_lt_zero _)
    | succ n1 ih1 =>
      intro l3_1 l4_1 v1 f1 hIv1 hq0_v1 hq1_v1 hq7_v1 hq8_v1 hq9_v1 hq10_v1 hq31_v1 hq32_v1 hr4_1 hM_v1 hA_f1 hm1 H locs ls hP hD hS hl
      refine lv_iload hx hb dX3_changedCount_5 (lv_at hl 0 rfl) ?_
      refine lv_aload_n hx hb dX3_changedCount_7 rfl (lv_at hl 2 rfl) ?_
      refine va_get (D := (dC, dI)) (ci := 3) (v := .ref (x 26)) (C := RX3) (T := TX3) (N := 10) hx hb hts inB_3 hown hE.1 hP 26 rfl rfl 0 (Nat.le_of_ble_eq_true rfl) (hts _ k_370) (fun _ h9 => h9) rfl dX3_changedCount_8 ?_
      refine va_getN (D := (dC, dI)) (ci := 7) (v := .int (v1 31)) (C := RX7) (T := TX7) (N := 10) hx hb hts inB_7 hown hE.1 hP 27 rfl rfl 3 (Nat.le_of_ble_eq_true rfl) (va_Nw.use rfl (hE.2 _ k_217)) (fun _ h9 => h9) rfl dX3_changedCount_11 ?_
      refine tI (y := (v 31)) hq31_v1 ?_
      have b31_v : 0 ≤ (v 31).toInt ∧ (v 31).toInt ≤ 6 := XI.b hIv 31 (by decide)
      refine lv_icmp_ge (tgt := 71) hx hb dX3_changedCount_14 rfl (fun c2 => ?_) (fun c2 => ?_)
      · skip
        have zc2 : (v 31).toInt ≤ l4_1.toInt := by rw [fa_le] at c2; exact c2
        have rg3 := fb_rng l4_1
        have rg4 := fb_rng (v 31)
        refine lv_iload_n hx hb dX3_changedCount_71 rfl (lv_at hl 1 rfl) ?_
        exact ret l3_1 (v1, f1) _ _ _ _ _ _ rfl ⟨hM_v1, hA_f1, hIv1, (show v1 0 = v 0 from hq0_v1), (show v1 1 = v 1 from hq1_v1), (show v1 7 = v 7 from hq7_v1), (show v1 8 = v 8 from hq8_v1), (show v1 9 = v 9 from hq9_v1), (show v1 10 = v 10 from hq10_v1), (show v1 31 = v 31 from hq31_v1), (show v1 32 = v 32 from hq32_v1)⟩ hP hD hS dX3_changedCount_72 (Nat.le_refl _) (Nat.le_refl _)
      · skip
        have zc2 : ¬ ((v 31).toInt ≤ l4_1.toInt) := by rw [fa_le] at c2; exact c2
        have rg5 := fb_rng l4_1
        have rg6 := fb_rng (v 31)
        refine lv_iload hx hb dX3_changedCount_17 (lv_at hl 0 rfl) ?_
        refine lv_iload_n hx hb dX3_changedCount_19 rfl (lv_at hl 3 rfl) ?_
        refine lv_icmp_ne (tgt := 27) hx hb dX3_changedCount_20 rfl (fun c7 => ?_) (fun c7 => ?_)
        · skip
          have zc7 : ¬ (l4_1.toInt = p1.toInt) := by rw [fa_eq] at c7; exact c7
          have rg8 := fb_rng p1
          refine lv_iload hx hb dX3_changedCount_27 (lv_at hl 0 rfl) ?_
          refine lv_iload_n hx hb dX3_changedCount_29 rfl (lv_at hl 4 rfl) ?_
          refine lv_icmp_ne (tgt := 37) hx hb dX3_changedCount_30 rfl (fun c9 => ?_) (fun c9 => ?_)
          · skip
            have zc9 : ¬ (l4_1.toInt = p2.toInt) := by rw [fa_eq] at c9; exact c9
            have rg10 := fb_rng p2
            refine lv_iload hx hb dX3_changedCount_37 (lv_at hl 0 rfl) ?_
            refine lv_istore (lv' := [(5, .int l4_1), (4, .int l4_1), (3, .int l3_1), (0, .ref (x 25)), (1, .int p1), (2, .int p2)]) hx hb dX3_changedCount_39 hl (Nat.le_of_ble_eq_true rfl) rfl (fun ls hl => ?_)
            refine lv_aload_n hx hb dX3_changedCount_41 rfl (lv_at hl 3 rfl) ?_
            refine va_get (D := (dC, dI)) (ci := 3) (v := .ref (x 21)) (C := RX3) (T := TX3) (N := 10) hx hb hts inB_3 hown hE.1 hP 26 rfl rfl 1 (Nat.le_of_ble_eq_true rfl) (hts _ k_371) (fun _ h9 => h9) rfl dX3_changedCount_42 ?_
            refine lv_iload hx hb dX3_changedCount_45 (lv_at hl 1 rfl) ?_
            refine lv_aload_n hx hb dX3_changedCount_47 rfl (lv_at hl 3 rfl) ?_
            refine va_get (D := (dC, dI)) (ci := 3) (v := .ref (x 21)) (C := RX3) (T := TX3) (N := 10) hx hb hts inB_3 hown hE.1 hP 26 rfl rfl 1 (Nat.le_of_ble_eq_true rfl) (hts _ k_371) (fun _ h9 => h9) rfl dX3_changedCount_48 ?_
            refine lv_iload hx hb dX3_changedCount_51 (lv_at hl 0 rfl) ?_
            refine cbVi (n := 1) (rest := [.int l4_1, .ref (x 21)]) hx hb hml hown hts hE hP hD hS hA (sX_X1_wears_1 l dC dI cy x0 x l4_1 v1 f1 hIv1 ) k_950 k_810 k_811 k_106 k_812 (by decide +kernel) ⟨Nat.le_of_ble_eq_true rfl, Nat.le_of_ble_eq_true rfl⟩ 22 1 rfl rfl (rfl) hl.1 rfl (Nat.le_of_ble_eq_true rfl) dX3_changedCount_53 (fun r11 u H locs hw hP hD hS => ?_)
            refine cbVi (n := 2) (rest := []) hx hb hml hown hts hE hP hD hS hA (sX_X1_fits_1 l dC dI cy x0 x l4_1 r11 v1 f1 hIv1 ) k_1032 k_818 k_819 k_106 k_820 (by decide +kernel) ⟨Nat.le_of_ble_eq_true rfl, Nat.le_of_ble_eq_true rfl⟩ 22 1 rfl rfl (rfl) hl.1 rfl (Nat.le_of_ble_eq_true rfl) dX3_changedCount_56 (fun r12 u H locs hw hP hD hS => ?_)
            obtain ⟨v13, f14⟩ := u
            obtain ⟨kV_v13, kF_f14, hIv13, hk0_v13, hk1_v13, hk7_v13, hk8_v13, hk9_v13, hk10_v13, hk31_v13, hk32_v13, hw⟩ := hw
            have hM_v13 : KV [] v13 v := KV.tr kV_v13 hM_v1 rfl
            have hA_f14 : KF [13, 14] f14 f := KF.tr kF_f14 hA_f1 rfl
            have hP : va_P (dC, dI) vwCl (XW cy x0 x v13 f14) H := hP
            have hD : va_D A (XW cy x0 x v13 f14) := hD
            have hq0_v13 : v13 0 = (v 0) := hk0_v13.trans hq0_v1
            have hq1_v13 : v13 1 = (v 1) := hk1_v13.trans hq1_v1
            have hq7_v13 : v13 7 = (v 7) := hk7_v13.trans hq7_v1
            have hq8_v13 : v13 8 = (v 8) := hk8_v13.trans hq8_v1
            have hq9_v13 : v13 9 = (v 9) := hk9_v13.trans hq9_v1
            have hq10_v13 : v13 10 = (v 10) := hk10_v13.trans hq10_v1
            have hq31_v13 : v13 31 = (v 31) := hk31_v13.trans hq31_v1
            have hq32_v13 : v13 32 = (v 32) := hk32_v13.trans hq32_v1
            rcases hw with ⟨g15⟩ | ⟨g15⟩
            · skip
              subst g15
              refine lv_if_eq (tgt := 65) hx hb dX3_changedCount_59 rfl (fun c0 => absurd c0 (by decide)) (fun _ => ?_)
              obtain ⟨t16, et16⟩ : ∃ y : Int32, y = l3_1 + 1 := ⟨_, rfl⟩
              refine lv_iinc (v := t16) (lv' := [(3, .int t16), (5, .int l4_1), (4, .int l4_1), (0, .ref (x 25)), (1, .int p1), (2, .int p2)]) hx hb dX3_changedCount_62 hl (k := 2) rfl (by rw [et16]; rfl) (by decide) rfl (fun ls hl => ?_)
              obtain ⟨t17, et17⟩ : ∃ y : Int32, y = l4_1 + 1 := ⟨_, rfl⟩
              have zt17 : t17.toInt = l4_1.toInt + 1 := by rw [et17]; exact add_i rfl (by decide) (by omega) (by omega)
              refine lv_iinc (v := t17) (lv' := [(4, .int t17), (3, .int t16), (5, .int l4_1), (0, .ref (x 25)), (1, .int p1), (2, .int p2)]) hx hb dX3_changedCount_65 hl (k := 2) rfl (by rw [et17]; rfl) (by decide) rfl (fun ls hl => ?_)
              refine lv_goto (tgt := 5) hx hb dX3_changedCount_68 rfl ?_
              have rg18 := fb_rng t17
              exact ih1 t16 t17 v13 f14 hIv13 hq0_v13 hq1_v13 hq7_v13 hq8_v13 hq9_v13 hq10_v13 hq31_v13 hq32_v13 ⟨show (0 : Int) ≤ t17.toInt by omega, show t17.toInt ≤ (2147483647 : Int) by omega⟩ hM_v13 hA_f14 (by show (2147483647 - t17.toInt).toNat < n1; omega) _ _ _ hP hD hS (lv_sub hl [0, 1, 3, 4, 5] rfl)
            · skip
              subst g15
              refine lv_if_eq (tgt := 65) hx hb dX3_changedCount_59 rfl (fun _ => ?_) (fun c0 => absurd (by decide) c0)
              obtain ⟨t19, et19⟩ : ∃ y : Int32, y = l4_1 + 1 := ⟨_, rfl⟩
              have zt19 : t19.toInt = l4_1.toInt + 1 := by rw [et19]; exact add_i rfl (by decide) (by omega) (by omega)
              refine lv_iinc (v := t19) (lv' := [(4, .int t19), (5, .int l4_1), (3, .int l3_1), (0, .ref (x 25)), (1, .int p1), (2, .int p2)]) hx hb dX3_changedCount_65 hl (k := 1) rfl (by rw [et19]; rfl) (by decide) rfl (fun ls hl => ?_)
              refine lv_goto (tgt := 5) hx hb dX3_changedCount_68 rfl ?_
              have rg20 := fb_rng t19
              exact ih1 l3_1 t19 v13 f14 hIv13 hq0_v13 hq1_v13 hq7_v13 hq8_v13 hq9_v13 hq10_v13 hq31_v13 hq32_v13 ⟨show (0 : Int) ≤ t19.toInt by omega, show t19.toInt ≤ (2147483647 : Int) by omega⟩ hM_v13 hA_f14 (by show (2147483647 - t19.toInt).toNat < n1; omega) _ _ _ hP hD hS (lv_sub hl [0, 2, 3, 4, 5] rfl)
          · skip
            have zc9 : l4_1.toInt = p2.toInt := by rw [fa_eq] at c9; exact c9
            have rg21 := fb_rng p2
            refine lv_iload_n hx hb dX3_changedCount_33 rfl (lv_at hl 3 rfl) ?_
            refine lv_goto (tgt := 39) hx hb dX3_changedCount_34 rfl ?_
            refine lv_istore (lv' := [(5, .int p1), (4, .int l4_1), (3, .int l3_1), (0, .ref (x 25)), (1, .int p1), (2, .int p2)]) hx hb dX3_changedCount_39 hl (Nat.le_of_ble_eq_true rfl) rfl (fun ls hl => ?_)
            refine lv_aload_n hx hb dX3_changedCount_41 rfl (lv_at hl 3 rfl) ?_
            refine va_get (D := (dC, dI)) (ci := 3) (v := .ref (x 21)) (C := RX3) (T := TX3) (N := 10) hx hb hts inB_3 hown hE.1 hP 26 rfl rfl 1 (Nat.le_of_ble_eq_true rfl) (hts _ k_371) (fun _ h9 => h9) rfl dX3_changedCount_42 ?_
            refine lv_iload hx hb dX3_changedCount_45 (lv_at hl 1 rfl) ?_
            refine lv_aload_n hx hb dX3_changedCount_47 rfl (lv_at hl 3 rfl) ?_
            refine va_get (D := (dC, dI)) (ci := 3) (v := .ref (x 21)) (C := RX3) (T := TX3) (N := 10) hx hb hts inB_3 hown hE.1 hP 26 rfl rfl 1 (Nat.le_of_ble_eq_true rfl) (hts _ k_371) (fun _ h9 => h9) rfl dX3_changedCount_48 ?_
            refine lv_iload hx hb dX3_changedCount_51 (lv_at hl 0 rfl) ?_
            refine cbVi (n := 1) (rest := [.int l4_1, .ref (x 21)]) hx hb hml hown hts hE hP hD hS hA (sX_X1_wears_1 l dC dI cy x0 x p1 v1 f1 hIv1 ) k_950 k_810 k_811 k_106 k_812 (by decide +kernel) ⟨Nat.le_of_ble_eq_true rfl, Nat.le_of_ble_eq_true rfl⟩ 22 1 rfl rfl (rfl) hl.1 rfl (Nat.le_of_ble_eq_true rfl) dX3_changedCount_53 (fun r22 u H locs hw hP hD hS => ?_)
            refine cbVi (n := 2) (rest := []) hx hb hml hown hts hE hP hD hS hA (sX_X1_fits_1 l dC dI cy x0 x l4_1 r22 v1 f1 hIv1 ) k_1032 k_818 k_819 k_106 k_820 (by decide +kernel) ⟨Nat.le_of_ble_eq_true rfl, Nat.le_of_ble_eq_true rfl⟩ 22 1 rfl rfl (rfl) hl.1 rfl (Nat.le_of_ble_eq_true rfl) dX3_changedCount_56 (fun r23 u H locs hw hP hD hS => ?_)
            obtain ⟨v24, f25⟩ := u
            obtain ⟨kV_v24, kF_f25, hIv24, hk0_v24, hk1_v24, hk7_v24, hk8_v24, hk9_v24, hk10_v24, hk31_v24, hk32_v24, hw⟩ := hw
            have hM_v24 : KV [] v24 v := KV.tr kV_v24 hM_v1 rfl
            have hA_f25 : KF [13, 14] f25 f := KF.tr kF_f25 hA_f1 rfl
            have hP : va_P (dC, dI) vwCl (XW cy x0 x v24 f25) H := hP
            have hD : va_D A (XW cy x0 x v24 f25) := hD
            have hq0_v24 : v24 0 = (v 0) := hk0_v24.trans hq0_v1
            have hq1_v24 : v24 1 = (v 1) := hk1_v24.trans hq1_v1
            have hq7_v24 : v24 7 = (v 7) := hk7_v24.trans hq7_v1
            have hq8_v24 : v24 8 = (v 8) := hk8_v24.trans hq8_v1
            have hq9_v24 : v24 9 = (v 9) := hk9_v24.trans hq9_v1
            have hq10_v24 : v24 10 = (v 10) := hk10_v24.trans hq10_v1
            have hq31_v24 : v24 31 = (v 31) := hk31_v24.trans hq31_v1
            have hq32_v24 : v24 32 = (v 32) := hk32_v24.trans hq32_v1
            rcases hw with ⟨g26⟩ | ⟨g26⟩
            · skip
              subst g26
              refine lv_if_eq (tgt := 65) hx hb dX3_changedCount_59 rfl (fun c0 => absurd c0 (by decide)) (fun _ => ?_)
              obtain ⟨t27, et27⟩ : ∃ y : Int32, y = l3_1 + 1 := ⟨_, rfl⟩
              refine lv_iinc (v := t27) (lv' := [(3, .int t27), (5, .int p1), (4, .int l4_1), (0, .ref (x 25)), (1, .int p1), (2, .int p2)]) hx hb dX3_changedCount_62 hl (k := 2) rfl (by rw [et27]; rfl) (by decide) rfl (fun ls hl => ?_)
              obtain ⟨t28, et28⟩ : ∃ y : Int32, y = l4_1 + 1 := ⟨_, rfl⟩
              have zt28 : t28.toInt = l4_1.toInt + 1 := by rw [et28]; exact add_i rfl (by decide) (by omega) (by omega)
              refine lv_iinc (v := t28) (lv' := [(4, .int t28), (3, .int t27), (5, .int p1), (0, .ref (x 25)), (1, .int p1), (2, .int p2)]) hx hb dX3_changedCount_65 hl (k := 2) rfl (by rw [et28]; rfl) (by decide) rfl (fun ls hl => ?_)
              refine lv_goto (tgt := 5) hx hb dX3_changedCount_68 rfl ?_
              have rg29 := fb_rng t28
              exact ih1 t27 t28 v24 f25 hIv24 hq0_v24 hq1_v24 hq7_v24 hq8_v24 hq9_v24 hq10_v24 hq31_v24 hq32_v24 ⟨show (0 : Int) ≤ t28.toInt by omega, show t28.toInt ≤ (2147483647 : Int) by omega⟩ hM_v24 hA_f25 (by show (2147483647 - t28.toInt).toNat < n1; omega) _ _ _ hP hD hS (lv_sub hl [0, 1, 3, 4, 5] rfl)
            · skip
              subst g26
              refine lv_if_eq (tgt := 65) hx hb dX3_changedCount_59 rfl (fun _ => ?_) (fun c0 => absurd (by decide) c0)
              obtain ⟨t30, et30⟩ : ∃ y : Int32, y = l4_1 + 1 := ⟨_, rfl⟩
              have zt30 : t30.toInt = l4_1.toInt + 1 := by rw [et30]; exact add_i rfl (by decide) (by omega) (by omega)
              refine lv_iinc (v := t30) (lv' := [(4, .int t30), (5, .int p1), (3, .int l3_1), (0, .ref (x 25)), (1, .int p1), (2, .int p2)]) hx hb dX3_changedCount_65 hl (k := 1) rfl (by rw [et30]; rfl) (by decide) rfl (fun ls hl => ?_)
              refine lv_goto (tgt := 5) hx hb dX3_changedCount_68 rfl ?_
              have rg31 := fb_rng t30
              exact ih1 l3_1 t30 v24 f25 hIv24 hq0_v24 hq1_v24 hq7_v24 hq8_v24 hq9_v24 hq10_v24 hq31_v24 hq32_v24 ⟨show (0 : Int) ≤ t30.toInt by omega, show t30.toInt ≤ (2147483647 : Int) by omega⟩ hM_v24 hA_f25 (by show (2147483647 - t30.toInt).toNat < n1; omega) _ _ _ hP hD hS (lv_sub hl [0, 2, 3, 4, 5] rfl)
        · skip
          have zc7 : l4_1.toInt = p1.toInt := by rw [fa_eq] at c7; exact c7
          have rg32 := fb_rng p1
          refine lv_iload_n hx hb dX3_changedCount_23 rfl (lv_at hl 4 rfl) ?_
          refine lv_goto (tgt := 39) hx hb dX3_changedCount_24 rfl ?_
          refine lv_istore (lv' := [(5, .int p2), (4, .int l4_1), (3, .int l3_1), (0, .ref (x 25)), (1, .int p1), (2, .int p2)]) hx hb dX3_changedCount_39 hl (Nat.le_of_ble_eq_true rfl) rfl (fun ls hl => ?_)
          refine lv_aload_n hx hb dX3_changedCount_41 rfl (lv_at hl 3 rfl) ?_
          refine va_get (D := (dC, dI)) (ci := 3) (v := .ref (x 21)) (C := RX3) (T := TX3) (N := 10) hx hb hts inB_3 hown hE.1 hP 26 rfl rfl 1 (Nat.le_of_ble_eq_true rfl) (hts _ k_371) (fun _ h9 => h9) rfl dX3_changedCount_42 ?_
          refine lv_iload hx hb dX3_changedCount_45 (lv_at hl 1 rfl) ?_
          refine lv_aload_n hx hb dX3_changedCount_47 rfl (lv_at hl 3 rfl) ?_
          refine va_get (D := (dC, dI)) (ci := 3) (v := .ref (x 21)) (C := RX3) (T := TX3) (N := 10) hx hb hts inB_3 hown hE.1 hP 26 rfl rfl 1 (Nat.le_of_ble_eq_true rfl) (hts _ k_371) (fun _ h9 => h9) rfl dX3_changedCount_48 ?_
          refine lv_iload hx hb dX3_changedCount_51 (lv_at hl 0 rfl) ?_
          refine cbVi (n := 1) (rest := [.int l4_1, .ref (x 21)]) hx hb hml hown hts hE hP hD hS hA (sX_X1_wears_1 l dC dI cy x0 x p2 v1 f1 hIv1 ) k_950 k_810 k_811 k_106 k_812 (by decide +kernel) ⟨Nat.le_of_ble_eq_true rfl, Nat.le_of_ble_eq_true rfl⟩ 22 1 rfl rfl (rfl) hl.1 rfl (Nat.le_of_ble_eq_true rfl) dX3_changedCount_53 (fun r33 u H locs hw hP hD hS => ?_)
          refine cbVi (n := 2) (rest := []) hx hb hml hown hts hE hP hD hS hA (sX_X1_fits_1 l dC dI cy x0 x l4_1 r33 v1 f1 hIv1 ) k_1032 k_818 k_819 k_106 k_820 (by decide +kernel) ⟨Nat.le_of_ble_eq_true rfl, Nat.le_of_ble_eq_true rfl⟩ 22 1 rfl rfl (rfl) hl.1 rfl (Nat.le_of_ble_eq_true rfl) dX3_changedCount_56 (fun r34 u H locs hw hP hD hS => ?_)
          obtain ⟨v35, f36⟩ := u
          obtain ⟨kV_v35, kF_f36, hIv35, hk0_v35, hk1_v35, hk7_v35, hk8_v35, hk9_v35, hk10_v35, hk31_v35, hk32_v35, hw⟩ := hw
          have hM_v35 : KV [] v35 v := KV.tr kV_v35 hM_v1 rfl
          have hA_f36 : KF [13, 14] f36 f := KF.tr kF_f36 hA_f1 rfl
          have hP : va_P (dC, dI) vwCl (XW cy x0 x v35 f36) H := hP
          have hD : va_D A (XW cy x0 x v35 f36) := hD
          have hq0_v35 : v35 0 = (v 0) := hk0_v35.trans hq0_v1
          have hq1_v35 : v35 1 = (v 1) := hk1_v35.trans hq1_v1
          have hq7_v35 : v35 7 = (v 7) := hk7_v35.trans hq7_v1
          have hq8_v35 : v35 8 = (v 8) := hk8_v35.trans hq8_v1
          have hq9_v35 : v35 9 = (v 9) := hk9_v35.trans hq9_v1
          have hq10_v35 : v35 10 = (v 10) := hk10_v35.trans hq10_v1
          have hq31_v35 : v35 31 = (v 31) := hk31_v35.trans hq31_v1
          have hq32_v35 : v35 32 = (v 32) := hk32_v35.trans hq32_v1
          rcases hw with ⟨g37⟩ | ⟨g37⟩
          · skip
            subst g37
            refine lv_if_eq (tgt := 65) hx hb dX3_changedCount_59 rfl (fun c0 => absurd c0 (by decide)) (fun _ => ?_)
            obtain ⟨t38, et38⟩ : ∃ y : Int32, y = l3_1 + 1 := ⟨_, rfl⟩
            refine lv_iinc (v := t38) (lv' := [(3, .int t38), (5, .int p2), (4, .int l4_1), (0, .ref (x 25)), (1, .int p1), (2, .int p2)]) hx hb dX3_changedCount_62 hl (k := 2) rfl (by rw [et38]; rfl) (by decide) rfl (fun ls hl => ?_)
            obtain ⟨t39, et39⟩ : ∃ y : Int32, y = l4_1 + 1 := ⟨_, rfl⟩
            have zt39 : t39.toInt = l4_1.toInt + 1 := by rw [et39]; exact add_i rfl (by decide) (by omega) (by omega)
            refine lv_iinc (v := t39) (lv' := [(4, .int t39), (3, .int t38), (5, .int p2), (0, .ref (x 25)), (1, .int p1), (2, .int p2)]) hx hb dX3_changedCount_65 hl (k := 2) rfl (by rw [et39]; rfl) (by decide) rfl (fun ls hl => ?_)
            refine lv_goto (tgt := 5) hx hb dX3_changedCount_68 rfl ?_
            have rg40 := fb_rng t39
            exact ih1 t38 t39 v35 f36 hIv35 hq0_v35 hq1_v35 hq7_v35 hq8_v35 hq9_v35 hq10_v35 hq31_v35 hq32_v35 ⟨show (0 : Int) ≤ t39.toInt by omega, show t39.toInt ≤ (2147483647 : Int) by omega⟩ hM_v35 hA_f36 (by show (2147483647 - t39.toInt).toNat < n1; omega) _ _ _ hP hD hS (lv_sub hl [0, 1, 3, 4, 5] rfl)
          · skip
            subst g37
            refine lv_if_eq (tgt := 65) hx hb dX3_changedCount_59 rfl (fun _ => ?_) (fun c0 => absurd (by decide) c0)
            obtain ⟨t41, et41⟩ : ∃ y : Int32, y = l4_1 + 1 := ⟨_, rfl⟩
            have zt41 : t41.toInt = l4_1.toInt + 1 := by rw [et41]; exact add_i rfl (by decide) (by omega) (by omega)
            refine lv_iinc (v := t41) (lv' := [(4, .int t41), (5, .int p2), (3, .int l3_1), (0, .ref (x 25)), (1, .int p1), (2, .int p2)]) hx hb dX3_changedCount_65 hl (k := 1) rfl (by rw [et41]; rfl) (by decide) rfl (fun ls hl => ?_)
            refine lv_goto (tgt := 5) hx hb dX3_changedCount_68 rfl ?_
            have rg42 := fb_rng t41
            exact ih1 l3_1 t41 v35 f36 hIv35 hq0_v35 hq1_v35 hq7_v35 hq8_v35 hq9_v35 hq10_v35 hq31_v35 hq32_v35 ⟨show (0 : Int) ≤ t41.toInt by omega, show t41.toInt ≤ (2147483647 : Int) by omega⟩ hM_v35 hA_f36 (by show (2147483647 - t41.toInt).toNat < n1; omega) _ _ _ hP hD hS (lv_sub hl [0, 2, 3, 4, 5] rfl)
  exact lp1 _ 0 0 v f hIv rfl rfl rfl rfl rfl rfl rfl rfl ⟨by decide, by decide⟩ hM_v hA_f (Nat.lt_succ_self _) _ _ _ hP hD hS (lv_sub hl [0, 1, 2, 3, 4] rfl)
set_option maxHeartbeats 4000000 in
set_option maxRecDepth 100000 in
theorem sX_X3_findChange_1 (l : Launch) (dC : Nat → ClassId) (dI : Nat → Nat → Nat) (cy : Nat → ClassId) (x0 : Nat) (x : Nat → Nat)  (v : Nat → Int32) (f : Nat → Nat → Int32) (hIv : XI v)  : ctI l (dC, dI) cy yX3_findChange cX3_findChange 5 .boolean 6 180 0 0 ((Nat → Int32) × (Nat → Nat → Int32)) [.ref (x 25)] (XW cy x0 x v f) (fun r u => KV [28, 29, 30] u.1 v ∧ KF [13, 14] u.2 f ∧ XI u.1 ∧ u.1 0 = v 0 ∧ u.1 1 = v 1 ∧ u.1 7 = v 7 ∧ u.1 8 = v 8 ∧ u.1 9 = v 9 ∧ u.1 10 = v 10 ∧ u.1 31 = v 31 ∧ u.1 32 = v 32 ∧ ((r = 1) ∨ (r = 0))) (fun u => XW cy x0 x u.1 u.2) := by
  refine ctI_of (by decide) (Nat.le_of_ble_eq_true rfl) (fun p e s m below meth c A ls Q hx hb hml hts hown hE hP hD hA hl ret => ?_)
  have hM_v : KV [28, 29, 30] v v := fun _ _ => rfl
  have hA_f : KF [13, 14] f f := fun _ _ => rfl
  have hown : s.vm.findClass RX3 = some m.cls := hown
  have hS : va_S A s.heap s.heap [] := va_S.rf
  have hl : lv_has ls 5 [(0, .ref (x 25))] := hl
  refine lv_aload_n hx hb dX3_findChange_0 rfl (lv_at hl 0 rfl) ?_
  refine va_get (D := (dC, dI)) (ci := 3) (v := .ref (x 21)) (C := RX3) (T := TX3) (N := 10) hx hb hts inB_3 hown hE.1 hP 26 rfl rfl 1 (Nat.le_of_ble_eq_true rfl) (hts _ k_371) (fun _ h9 => h9) rfl dX3_findChange_1 ?_
  refine cbVi (n := 0) (rest := []) hx hb hml hown hts hE hP hD hS hA (sX_X1_fittedMen_1 l dC dI cy x0 x  v f hIv ) k_1041 k_964 k_965 k_106 k_966 (by decide +kernel) ⟨Nat.le_of_ble_eq_true rfl, Nat.le_of_ble_eq_true rfl⟩ 22 1 rfl rfl (rfl) hl.1 rfl (Nat.le_of_ble_eq_true rfl) dX3_findChange_4 (fun r1 u H locs hw hP hD hS => ?_)
  obtain ⟨v2, f3⟩ := u
  obtain ⟨kV_v2, kF_f3, hIv2, hk0_v2, hk1_v2, hk7_v2, hk8_v2, hk9_v2, hk10_v2, hk31_v2, hk32_v2⟩ := hw
  have hM_v2 : KV [28, 29, 30] v2 v := KV.tr kV_v2 hM_v rfl
  have hA_f3 : KF [13, 14] f3 f := KF.tr kF_f3 hA_f rfl
  have hP : va_P (dC, dI) vwCl (XW cy x0 x v2 f3) H := hP
  have hD : va_D A (XW cy x0 x v2 f3) := hD
  have hq0_v2 : v2 0 = (v 0) := hk0_v2
  have hq1_v2 : v2 1 = (v 1) := hk1_v2
  have hq7_v2 : v2 7 = (v 7) := hk7_v2
  have hq8_v2 : v2 8 = (v 8) := hk8_v2
  have hq9_v2 : v2 9 = (v 9) := hk9_v2
  have hq10_v2 : v2 10 = (v 10) := hk10_v2
  have hq31_v2 : v2 31 = (v 31) := hk31_v2
  have hq32_v2 : v2 32 = (v 32) := hk32_v2
  refine cbSi (n := 1) (rest := []) hx hb hml hown hts hE hP hD hS hA (sX_J6_bitCount_0f7a4_1 l dC dI cy x0 x r1 v2 f3 hIv2 ) k_1042 k_1043 k_121 k_1044 (by decide +kernel) ⟨Nat.le_of_ble_eq_true rfl, Nat.le_of_ble_eq_true rfl⟩ (rfl) hl.1 rfl (Nat.le_of_ble_eq_true rfl) dX3_findChange_7 (fun r4 u H locs hw hP hD hS => ?_)
  refine lv_istore_n (lv' := [(1, .int r4), (0, .ref (x 25))]) hx hb dX3_findChange_10 rfl hl (Nat.le_of_ble_eq_true rfl) rfl (fun ls hl => ?_)
  refine lv_aload_n hx hb dX3_findChange_11 rfl (lv_at hl 1 rfl) ?_
  refine lv_iload_n hx hb dX3_findChange_12 rfl (lv_at hl 0 rfl) ?_
  refine va_put (D := (dC, dI)) (ci := 3) (v := .int r4) (ty := tyX3 9) (C := RX3) (T := TX3) (N := 10) hx hb hts inB_3 tyX3 tyX3_ok nmX3 hown hE.1 hP hD hS 26 rfl rfl 9 (Nat.le_of_ble_eq_true rfl) (hts _ k_385) (fun _ h9 => h9) rfl (tyX3_ok 9 (by decide)) rfl rfl (Nat.le_of_ble_eq_true rfl) dX3_findChange_13 (fun H locs hP hD hS => ?_)
  have hP : va_P (dC, dI) vwCl (XW cy x0 x (upd v2 30 r4) f3) H := hP
  have hD : va_D A (XW cy x0 x (upd v2 30 r4) f3) := hD
  refine lv_iconst (v := 0) hx hb dX3_findChange_16 rfl ?_
  refine lv_istore_n (lv' := [(2, .int 0), (1, .int r4), (0, .ref (x 25))]) hx hb dX3_findChange_17 rfl hl (Nat.le_of_ble_eq_true rfl) rfl (fun ls hl => ?_)
  have lp5 : ∀ (n5 : Nat) (l2_5 : Int32) (v5 : Nat → Int32) (f5 : Nat → Nat → Int32), XI v5 → v5 0 = (v 0) → v5 1 = (v 1) → v5 7 = (v 7) → v5 8 = (v 8) → v5 9 = (v 9) → v5 10 = (v 10) → v5 31 = (v 31) → v5 32 = (v 32) → ((0 : Int) ≤ l2_5.toInt ∧ l2_5.toInt ≤ 2147483647) → KV [28, 29, 30] v5 v → KF [13, 14] f5 f → (2147483647 - l2_5.toInt).toNat < n5 → ∀ (H : Heap) (locs : List Loc) (ls : Array Slot), va_P (dC, dI) vwCl (XW cy x0 x v5 f5) H → va_D A (XW cy x0 x v5 f5) → va_S A s.heap H locs → lv_has ls 5 [(2, .int l2_5), (1, .int r4), (0, .ref (x 25))] → W p l e { frames := 6, cells := 0, slots := 0, locals := 180 } s m ([.ref (x 25)] : List Value).toArray below meth c H locs 0 0 Q (F0 m 18 ls []) := by
    intro n5
    induction n5 with
    | zero => intro l2_5 v5 f5 hIv5 hq0_v5 hq1_v5 hq7_v5 hq8_v5 hq9_v5 hq10_v5 hq31_v5 hq32_v5 hr2_5 hM_v5 hA_f5 hm; exact absurd hm (Nat.not_lt_zero _)
    | succ n5 ih5 =>
      intro l2_5 v5 f5 hIv5 hq0_v5 hq1_v5 hq7_v5 hq8_v5 hq9_v5 hq10_v5 hq31_v5 hq32_v5 hr2_5 hM_v5 hA_f5 hm5 H locs ls hP hD hS hl
      refine lv_iload_n hx hb dX3_findChange_18 rfl (lv_at hl 0 rfl) ?_
      refine lv_aload_n hx hb dX3_findChange_19 rfl (lv_at hl 2 rfl) ?_
      refine va_get (D := (dC, dI)) (ci := 3) (v := .ref (x 26)) (C := RX3) (T := TX3) (N := 10) hx hb hts inB_3 hown hE.1 hP 26 rfl rfl 0 (Nat.le_of_ble_eq_true rfl) (hts _ k_370) (fun _ h9 => h9) rfl dX3_findChange_20 ?_
      refine va_getN (D := (dC, dI)) (ci := 7) (v := .int (v5 31)) (C := RX7) (T := TX7) (N := 10) hx hb hts inB_7 hown hE.1 hP 27 rfl rfl 3 (Nat.le_of_ble_eq_true rfl) (va_Nw.use rfl (hE.2 _ k_217)) (fun _ h9 => h9) rfl dX3_findChange_23 ?_
      refine tI (y := (v 31)) hq31_v5 ?_
      have b31_v : 0 ≤ (v 31).toInt ∧ (v 31).toInt ≤ 6 := XI.b hIv 31 (by decide)
      refine lv_icmp_ge (tgt := 89) hx hb dX3_findChange_26 rfl (fun c6 => ?_) (fun c6 => ?_)
      · skip
        have zc6 : (v 31).toInt ≤ l2_5.toInt := by rw [fa_le] at c6; exact c6
        have rg7 := fb_rng l2_5
        have rg8 := fb_rng (v 31)
        refine lv_aload_n hx hb dX3_findChange_89 rfl (lv_at hl 2 rfl) ?_
        refine va_get (D := (dC, dI)) (ci := 3) (v := .int (v5 30)) (C := RX3) (T := TX3) (N := 10) hx hb hts inB_3 hown hE.1 hP 26 rfl rfl 9 (Nat.le_of_ble_eq_true rfl) (hts _ k_385) (fun _ h9 => h9) rfl dX3_findChange_90 ?_
        refine lv_iload_n hx hb dX3_findChange_93 rfl (lv_at hl 1 rfl) ?_
        refine lv_icmp_le (tgt := 101) hx hb dX3_findChange_94 rfl (fun c9 => ?_) (fun c9 => ?_)
        · skip
          have zc9 : (v5 30).toInt ≤ r4.toInt := by rw [fa_le] at c9; exact c9
          have rg10 := fb_rng (v5 30)
          have rg11 := fb_rng r4
          refine lv_iconst (v := 0) hx hb dX3_findChange_101 rfl ?_
          exact ret 0 (v5, f5) _ _ _ _ _ _ rfl ⟨hM_v5, hA_f5, hIv5, hq0_v5, hq1_v5, hq7_v5, hq8_v5, hq9_v5, hq10_v5, hq31_v5, hq32_v5, (Or.inr rfl)⟩ hP hD hS dX3_findChange_102 (Nat.le_refl _) (Nat.le_refl _)
        · skip
          have zc9 : ¬ ((v5 30).toInt ≤ r4.toInt) := by rw [fa_le] at c9; exact c9
          have rg12 := fb_rng (v5 30)
          have rg13 := fb_rng r4
          refine lv_iconst (v := 1) hx hb dX3_findChange_97 rfl ?_
          refine lv_goto (tgt := 102) hx hb dX3_findChange_98 rfl ?_
          exact ret 1 (v5, f5) _ _ _ _ _ _ rfl ⟨hM_v5, hA_f5, hIv5, hq0_v5, hq1_v5, hq7_v5, hq8_v5, hq9_v5, hq10_v5, hq31_v5, hq32_v5, (Or.inl rfl)⟩ hP hD hS dX3_findChange_102 (Nat.le_refl _) (Nat.le_refl _)
      · skip
        have zc6 : ¬ ((v 31).toInt ≤ l2_5.toInt) := by rw [fa_le] at c6; exact c6
        have rg14 := fb_rng l2_5
        have rg15 := fb_rng (v 31)
        refine lv_iload_n hx hb dX3_findChange_29 rfl (lv_at hl 0 rfl) ?_
        refine lv_iconst (v := 1) hx hb dX3_findChange_30 rfl ?_
        refine lv_iadd hx hb dX3_findChange_31 ?_
        refine lv_topi (fun t16 et16 => ?_)
        have zt16 : t16.toInt = l2_5.toInt + 1 := by rw [et16]; exact add_i rfl (by decide) (by omega) (by omega)
        refine lv_istore_n (lv' := [(3, .int t16), (2, .int l2_5), (1, .int r4), (0, .ref (x 25))]) hx hb dX3_findChange_32 rfl hl (Nat.le_of_ble_eq_true rfl) rfl (fun ls hl => ?_)
        have lp17 : ∀ (n17 : Nat) (l3_17 : Int32) (v17 : Nat → Int32) (f17 : Nat → Nat → Int32), XI v17 → v17 0 = (v 0) → v17 1 = (v 1) → v17 7 = (v 7) → v17 8 = (v 8) → v17 9 = (v 9) → v17 10 = (v 10) → v17 31 = (v 31) → v17 32 = (v 32) → ((1 : Int) ≤ l3_17.toInt ∧ l3_17.toInt ≤ 2147483647) → KV [28, 29, 30] v17 v → KF [13, 14] f17 f → (2147483647 - l3_17.toInt).toNat < n17 → ∀ (H : Heap) (locs : List Loc) (ls : Array Slot), va_P (dC, dI) vwCl (XW cy x0 x v17 f17) H → va_D A (XW cy x0 x v17 f17) → va_S A s.heap H locs → lv_has ls 5 [(3, .int l3_17), (2, .int l2_5), (1, .int r4), (0, .ref (x 25))] → W p l e { frames := 6, cells := 0, slots := 0, locals := 180 } s m ([.ref (x 25)] : List Value).toArray below meth c H locs 0 0 Q (F0 m 33 ls []) := by
          intro n17
          induction n17 with
          | zero => intro l3_17 v17 f17 hIv17 hq0_v17 hq1_v17 hq7_v17 hq8_v17 hq9_v17 hq10_v17 hq31_v17 hq32_v17 hr3_17 hM_v17 hA_f17 hm; exact absurd hm (Nat.not_lt_zero _)
          | succ n17 ih17 =>
            intro l3_17 v17 f17 hIv17 hq0_v17 hq1_v17 hq7_v17 hq8_v17 hq9_v17 hq10_v17 hq31_v17 hq32_v17 hr3_17 hM_v17 hA_f17 hm17 H locs ls hP hD hS hl
            refine lv_iload_n hx hb dX3_findChange_33 rfl (lv_at hl 0 rfl) ?_
            refine lv_aload_n hx hb dX3_findChange_34 rfl (lv_at hl 3 rfl) ?_
            refine va_get (D := (dC, dI)) (ci := 3) (v := .ref (x 26)) (C := RX3) (T := TX3) (N := 10) hx hb hts inB_3 hown hE.1 hP 26 rfl rfl 0 (Nat.le_of_ble_eq_true rfl) (hts _ k_370) (fun _ h9 => h9) rfl dX3_findChange_35 ?_
            refine va_getN (D := (dC, dI)) (ci := 7) (v := .int (v17 31)) (C := RX7) (T := TX7) (N := 10) hx hb hts inB_7 hown hE.1 hP 27 rfl rfl 3 (Nat.le_of_ble_eq_true rfl) (va_Nw.use rfl (hE.2 _ k_217)) (fun _ h9 => h9) rfl dX3_findChange_38 ?_
            refine tI (y := (v 31)) hq31_v17 ?_
            have b31_v : 0 ≤ (v 31).toInt ∧ (v 31).toInt ≤ 6 := XI.b hIv 31 (by decide)
            refine lv_icmp_ge (tgt := 83) hx hb dX3_findChange_41 rfl (fun c18 => ?_) (fun c18 => ?_)
            · skip
              have zc18 : (v 31).toInt ≤ l3_17.toInt := by rw [fa_le] at c18; exact c18
              have rg19 := fb_rng l3_17
              obtain ⟨t20, et20⟩ : ∃ y : Int32, y = l2_5 + 1 := ⟨_, rfl⟩
              have zt20 : t20.toInt = l2_5.toInt + 1 := by rw [et20]; exact add_i rfl (by decide) (by omega) (by omega)
              refine lv_iinc (v := t20) (lv' := [(2, .int t20), (3, .int l3_17), (1, .int r4), (0, .ref (x 25))]) hx hb dX3_findChange_83 hl (k := 1) rfl (by rw [et20]; rfl) (by decide) rfl (fun ls hl => ?_)
              refine lv_goto (tgt := 18) hx hb dX3_findChange_86 rfl ?_
              have rg21 := fb_rng t20
              exact ih5 t20 v17 f17 hIv17 hq0_v17 hq1_v17 hq7_v17 hq8_v17 hq9_v17 hq10_v17 hq31_v17 hq32_v17 ⟨show (0 : Int) ≤ t20.toInt by omega, show t20.toInt ≤ (2147483647 : Int) by omega⟩ hM_v17 hA_f17 (by show (2147483647 - t20.toInt).toNat < n5; omega) _ _ _ hP hD hS (lv_sub hl [0, 2, 3] rfl)
            · skip
              have zc18 : ¬ ((v 31).toInt ≤ l3_17.toInt) := by rw [fa_le] at c18; exact c18
              have rg22 := fb_rng l3_17
              refine lv_aload_n hx hb dX3_findChange_44 rfl (lv_at hl 3 rfl) ?_
              refine lv_iload_n hx hb dX3_findChange_45 rfl (lv_at hl 1 rfl) ?_
              refine lv_iload_n hx hb dX3_findChange_46 rfl (lv_at hl 0 rfl) ?_
              refine cbVi (n := 2) (rest := []) hx hb hml hown hts hE hP hD hS hA (sX_X3_changedCount_1 l dC dI cy x0 x l2_5 l3_17 v17 f17 hIv17 ) k_1048 k_1050 k_29 k_109 k_1051 (by decide +kernel) ⟨Nat.le_of_ble_eq_true rfl, Nat.le_of_ble_eq_true rfl⟩ 26 3 rfl rfl (rfl) hl.1 rfl (Nat.le_of_ble_eq_true rfl) dX3_findChange_47 (fun r23 u H locs hw hP hD hS => ?_)
              obtain ⟨v24, f25⟩ := u
              obtain ⟨kV_v24, kF_f25, hIv24, hk0_v24, hk1_v24, hk7_v24, hk8_v24, hk9_v24, hk10_v24, hk31_v24, hk32_v24⟩ := hw
              have hM_v24 : KV [28, 29, 30] v24 v := KV.tr kV_v24 hM_v17 rfl
              have hA_f25 : KF [13, 14] f25 f := KF.tr kF_f25 hA_f17 rfl
              have hP : va_P (dC, dI) vwCl (XW cy x0 x v24 f25) H := hP
              have hD : va_D A (XW cy x0 x v24 f25) := hD
              have hq0_v24 : v24 0 = (v 0) := hk0_v24.trans hq0_v17
              have hq1_v24 : v24 1 = (v 1) := hk1_v24.trans hq1_v17
              have hq7_v24 : v24 7 = (v 7) := hk7_v24.trans hq7_v17
              have hq8_v24 : v24 8 = (v 8) := hk8_v24.trans hq8_v17
              have hq9_v24 : v24 9 = (v 9) := hk9_v24.trans hq9_v17
              have hq10_v24 : v24 10 = (v 10) := hk10_v24.trans hq10_v17
              have hq31_v24 : v24 31 = (v 31) := hk31_v24.trans hq31_v17
              have hq32_v24 : v24 32 = (v 32) := hk32_v24.trans hq32_v17
              refine lv_istore (lv' := [(4, .int r23), (3, .int l3_17), (2, .int l2_5), (1, .int r4), (0, .ref (x 25))]) hx hb dX3_findChange_50 hl (Nat.le_of_ble_eq_true rfl) rfl (fun ls hl => ?_)
              refine lv_iload hx hb dX3_findChange_52 (lv_at hl 0 rfl) ?_
              refine lv_aload_n hx hb dX3_findChange_54 rfl (lv_at hl 4 rfl) ?_
              refine va_get (D := (dC, dI)) (ci := 3) (v := .int (v24 30)) (C := RX3) (T := TX3) (N := 10) hx hb hts inB_3 hown hE.1 hP 26 rfl rfl 9 (Nat.le_of_ble_eq_true rfl) (hts _ k_385) (fun _ h9 => h9) rfl dX3_findChange_55 ?_
              refine lv_icmp_le (tgt := 77) hx hb dX3_findChange_58 rfl (fun c26 => ?_) (fun c26 => ?_)
              · skip
                have zc26 : r23.toInt ≤ (v24 30).toInt := by rw [fa_le] at c26; exact c26
                have rg27 := fb_rng r23
                have rg28 := fb_rng (v24 30)
                obtain ⟨t29, et29⟩ : ∃ y : Int32, y = l3_17 + 1 := ⟨_, rfl⟩
                have zt29 : t29.toInt = l3_17.toInt + 1 := by rw [et29]; exact add_i rfl (by decide) (by omega) (by omega)
                refine lv_iinc (v := t29) (lv' := [(3, .int t29), (4, .int r23), (2, .int l2_5), (1, .int r4), (0, .ref (x 25))]) hx hb dX3_findChange_77 hl (k := 1) rfl (by rw [et29]; rfl) (by decide) rfl (fun ls hl => ?_)
                refine lv_goto (tgt := 33) hx hb dX3_findChange_80 rfl ?_
                have rg30 := fb_rng t29
                exact ih17 t29 v24 f25 hIv24 hq0_v24 hq1_v24 hq7_v24 hq8_v24 hq9_v24 hq10_v24 hq31_v24 hq32_v24 ⟨show (1 : Int) ≤ t29.toInt by omega, show t29.toInt ≤ (2147483647 : Int) by omega⟩ hM_v24 hA_f25 (by show (2147483647 - t29.toInt).toNat < n17; omega) _ _ _ hP hD hS (lv_sub hl [0, 2, 3, 4] rfl)
              · skip
                have zc26 : ¬ (r23.toInt ≤ (v24 30).toInt) := by rw [fa_le] at c26; exact c26
                have rg31 := fb_rng r23
                have rg32 := fb_rng (v24 30)
                refine lv_aload_n hx hb dX3_findChange_61 rfl (lv_at hl 4 rfl) ?_
                refine lv_iload_n hx hb dX3_findChange_62 rfl (lv_at hl 2 rfl) ?_
                refine va_put (D := (dC, dI)) (ci := 3) (v := .int l2_5) (ty := tyX3 7) (C := RX3) (T := TX3) (N := 10) hx hb hts inB_3 tyX3 tyX3_ok nmX3 hown hE.1 hP hD hS 26 rfl rfl 7 (Nat.le_of_ble_eq_true rfl) (hts _ k_381) (fun _ h9 => h9) rfl (tyX3_ok 7 (by decide)) rfl rfl (Nat.le_of_ble_eq_true rfl) dX3_findChange_63 (fun H locs hP hD hS => ?_)
                have hP : va_P (dC, dI) vwCl (XW cy x0 x (upd v24 28 l2_5) f25) H := hP
                have hD : va_D A (XW cy x0 x (upd v24 28 l2_5) f25) := hD
                refine lv_aload_n hx hb dX3_findChange_66 rfl (lv_at hl 4 rfl) ?_
                refine lv_iload_n hx hb dX3_findChange_67 rfl (lv_at hl 1 rfl) ?_
                refine va_put (D := (dC, dI)) (ci := 3) (v := .int l3_17) (ty := tyX3 8) (C := RX3) (T := TX3) (N := 10) hx hb hts inB_3 tyX3 tyX3_ok nmX3 hown hE.1 hP hD hS 26 rfl rfl 8 (Nat.le_of_ble_eq_true rfl) (hts _ k_383) (fun _ h9 => h9) rfl (tyX3_ok 8 (by decide)) rfl rfl (Nat.le_of_ble_eq_true rfl) dX3_findChange_68 (fun H locs hP hD hS => ?_)
                have hP : va_P (dC, dI) vwCl (XW cy x0 x (upd (upd v24 28 l2_5) 29 l3_17) f25) H := hP
                have hD : va_D A (XW cy x0 x (upd (upd v24 28 l2_5) 29 l3_17) f25) := hD
                refine lv_aload_n hx hb dX3_findChange_71 rfl (lv_at hl 4 rfl) ?_
                refine lv_iload hx hb dX3_findChange_72 (lv_at hl 0 rfl) ?_
                refine va_put (D := (dC, dI)) (ci := 3) (v := .int r23) (ty := tyX3 9) (C := RX3) (T := TX3) (N := 10) hx hb hts inB_3 tyX3 tyX3_ok nmX3 hown hE.1 hP hD hS 26 rfl rfl 9 (Nat.le_of_ble_eq_true rfl) (hts _ k_385) (fun _ h9 => h9) rfl (tyX3_ok 9 (by decide)) rfl rfl (Nat.le_of_ble_eq_true rfl) dX3_findChange_74 (fun H locs hP hD hS => ?_)
                have hP : va_P (dC, dI) vwCl (XW cy x0 x (upd (upd (upd v24 28 l2_5) 29 l3_17) 30 r23) f25) H := hP
                have hD : va_D A (XW cy x0 x (upd (upd (upd v24 28 l2_5) 29 l3_17) 30 r23) f25) := hD
                obtain ⟨t33, et33⟩ : ∃ y : Int32, y = l3_17 + 1 := ⟨_, rfl⟩
                have zt33 : t33.toInt = l3_17.toInt + 1 := by rw [et33]; exact add_i rfl (by decide) (by omega) (by omega)
                refine lv_iinc (v := t33) (lv' := [(3, .int t33), (4, .int r23), (2, .int l2_5), (1, .int r4), (0, .ref (x 25))]) hx hb dX3_findChange_77 hl (k := 1) rfl (by rw [et33]; rfl) (by decide) rfl (fun ls hl => ?_)
                refine lv_goto (tgt := 33) hx hb dX3_findChange_80 rfl ?_
                have rg34 := fb_rng t33
                exact ih17 t33 (upd (upd (upd v24 28 l2_5) 29 l3_17) 30 r23) f25 (XI.upd (j := 30) (x := r23) (XI.upd (j := 29) (x := l3_17) (XI.upd (j := 28) (x := l2_5) hIv24 (rlo _) (rhi _)) (rlo _) (rhi _)) (rlo _) (rhi _)) hq0_v24 hq1_v24 hq7_v24 hq8_v24 hq9_v24 hq10_v24 hq31_v24 hq32_v24 ⟨show (1 : Int) ≤ t33.toInt by omega, show t33.toInt ≤ (2147483647 : Int) by omega⟩ (KV.up (j := 30) (x := r23) (KV.up (j := 29) (x := l3_17) (KV.up (j := 28) (x := l2_5) hM_v24 rfl) rfl) rfl) hA_f25 (by show (2147483647 - t33.toInt).toNat < n17; omega) _ _ _ hP hD hS (lv_sub hl [0, 2, 3, 4] rfl)
        have rg35 := fb_rng t16
        exact lp17 _ t16 v5 f5 hIv5 hq0_v5 hq1_v5 hq7_v5 hq8_v5 hq9_v5 hq10_v5 hq31_v5 hq32_v5 ⟨show (1 : Int) ≤ t16.toInt by omega, show t16.toInt ≤ (2147483647 : Int) by omega⟩ hM_v5 hA_f5 (Nat.lt_succ_self _) _ _ _ hP hD hS (lv_sub hl [0, 1, 2, 3] rfl)
  exact lp5 _ 0 (upd v2 30 r4) f3 (XI.upd (j := 30) (x := r4) hIv2 (rlo _) (rhi _)) hq0_v2 hq1_v2 hq7_v2 hq8_v2 hq9_v2 hq10_v2 hq31_v2 hq32_v2 ⟨by decide, by decide⟩ (KV.up (j := 30) (x := r4) hM_v2 rfl) hA_f3 (Nat.lt_succ_self _) _ _ _ hP hD hS (lv_sub hl [0, 1, 2] rfl)
set_option maxHeartbeats 4000000 in
set_option maxRecDepth 100000 in
theorem sX_X10_change_1 (l : Launch) (dC : Nat → ClassId) (dI : Nat → Nat → Nat) (cy : Nat → ClassId) (x0 : Nat) (x : Nat → Nat) (p1 : Int32) (v : Nat → Int32) (f : Nat → Nat → Int32) (hIv : XI v)  : ctI l (dC, dI) cy yX10_change cX10_change 2 .int 7 204 0 0 ((Nat → Int32) × (Nat → Nat → Int32)) [.ref x0, .int p1] (XW cy x0 x v f) (fun r u => KV [28, 29, 30] u.1 v ∧ KF [13, 14] u.2 f ∧ XI u.1 ∧ u.1 0 = v 0 ∧ u.1 1 = v 1 ∧ u.1 7 = v 7 ∧ u.1 8 = v 8 ∧ u.1 9 = v 9 ∧ u.1 10 = v 10 ∧ u.1 31 = v 31 ∧ u.1 32 = v 32) (fun u => XW cy x0 x u.1 u.2) := by
  refine ctI_of (by decide) (Nat.le_of_ble_eq_true rfl) (fun p e s m below meth c A ls Q hx hb hml hts hown hE hP hD hA hl ret => ?_)
  have hM_v : KV [28, 29, 30] v v := fun _ _ => rfl
  have hA_f : KF [13, 14] f f := fun _ _ => rfl
  have hown : s.vm.findClass RX10 = some m.cls := hown
  have hS : va_S A s.heap s.heap [] := va_S.rf
  have hl : lv_has ls 2 [(0, .ref x0), (1, .int p1)] := hl
  refine lv_iload_n hx hb dX10_change_0 rfl (lv_at hl 1 rfl) ?_
  refine lv_if_lt (tgt := 19) hx hb dX10_change_1 rfl (fun c1 => ?_) (fun c1 => ?_)
  · skip
    have zc1 : p1.toInt < 0 := by rw [fa_lt, show (0 : Int32).toInt = 0 from by decide] at c1; exact c1
    refine lv_iconst (v := (-1)) hx hb dX10_change_19 rfl ?_
    exact ret (-1) (v, f) _ _ _ _ _ _ rfl ⟨hM_v, hA_f, hIv, rfl, rfl, rfl, rfl, rfl, rfl, rfl, rfl⟩ hP hD hS dX10_change_20 (Nat.le_refl _) (Nat.le_refl _)
  · skip
    have zc1 : ¬ (p1.toInt < 0) := by rw [fa_lt, show (0 : Int32).toInt = 0 from by decide] at c1; exact c1
    refine lv_iload_n hx hb dX10_change_4 rfl (lv_at hl 1 rfl) ?_
    refine lv_iconst (v := 2) hx hb dX10_change_5 rfl ?_
    refine lv_icmp_gt (tgt := 19) hx hb dX10_change_6 rfl (fun c2 => ?_) (fun c2 => ?_)
    · skip
      have zc2 : 2 < p1.toInt := by rw [fa_lt, show (2 : Int32).toInt = 2 from by decide] at c2; exact c2
      refine lv_iconst (v := (-1)) hx hb dX10_change_19 rfl ?_
      exact ret (-1) (v, f) _ _ _ _ _ _ rfl ⟨hM_v, hA_f, hIv, rfl, rfl, rfl, rfl, rfl, rfl, rfl, rfl⟩ hP hD hS dX10_change_20 (Nat.le_refl _) (Nat.le_refl _)
    · skip
      have zc2 : ¬ (2 < p1.toInt) := by rw [fa_lt, show (2 : Int32).toInt = 2 from by decide] at c2; exact c2
      refine lv_aload_n hx hb dX10_change_9 rfl (lv_at hl 0 rfl) ?_
      refine va_get (D := (dC, dI)) (ci := 10) (v := .ref (x 25)) (C := RX10) (T := TX10) (N := 10) hx hb hts inB_10 hown hE.1 hP 0 rfl rfl 5 (Nat.le_of_ble_eq_true rfl) (hts _ k_496) (fun _ h9 => h9) rfl dX10_change_10 ?_
      refine cbVi (n := 0) (rest := []) hx hb hml hown hts hE hP hD hS hA (sX_X3_findChange_1 l dC dI cy x0 x  v f hIv ) k_1037 k_1038 k_1039 k_109 k_1040 (by decide +kernel) ⟨Nat.le_of_ble_eq_true rfl, Nat.le_of_ble_eq_true rfl⟩ 26 3 rfl rfl (rfl) hl.1 rfl (Nat.le_of_ble_eq_true rfl) dX10_change_13 (fun r3 u H locs hw hP hD hS => ?_)
      obtain ⟨v4, f5⟩ := u
      obtain ⟨kV_v4, kF_f5, hIv4, hk0_v4, hk1_v4, hk7_v4, hk8_v4, hk9_v4, hk10_v4, hk31_v4, hk32_v4, hw⟩ := hw
      have hM_v4 : KV [28, 29, 30] v4 v := KV.tr kV_v4 hM_v rfl
      have hA_f5 : KF [13, 14] f5 f := KF.tr kF_f5 hA_f rfl
      have hP : va_P (dC, dI) vwCl (XW cy x0 x v4 f5) H := hP
      have hD : va_D A (XW cy x0 x v4 f5) := hD
      have hq0_v4 : v4 0 = (v 0) := hk0_v4
      have hq1_v4 : v4 1 = (v 1) := hk1_v4
      have hq7_v4 : v4 7 = (v 7) := hk7_v4
      have hq8_v4 : v4 8 = (v 8) := hk8_v4
      have hq9_v4 : v4 9 = (v 9) := hk9_v4
      have hq10_v4 : v4 10 = (v 10) := hk10_v4
      have hq31_v4 : v4 31 = (v 31) := hk31_v4
      have hq32_v4 : v4 32 = (v 32) := hk32_v4
      rcases hw with ⟨g6⟩ | ⟨g6⟩
      · skip
        subst g6
        refine lv_if_ne (tgt := 21) hx hb dX10_change_16 rfl (fun _ => ?_) (fun c0 => absurd c0 (by decide))
        refine lv_iload_n hx hb dX10_change_21 rfl (lv_at hl 1 rfl) ?_
        refine lv_if_ne (tgt := 33) hx hb dX10_change_22 rfl (fun c7 => ?_) (fun c7 => ?_)
        · skip
          have zc7 : ¬ (p1.toInt = 0) := by rw [fa_eq, show (0 : Int32).toInt = 0 from by decide] at c7; exact c7
          refine lv_iload_n hx hb dX10_change_33 rfl (lv_at hl 1 rfl) ?_
          refine lv_iconst (v := 1) hx hb dX10_change_34 rfl ?_
          refine lv_icmp_ne (tgt := 48) hx hb dX10_change_35 rfl (fun c8 => ?_) (fun c8 => ?_)
          · skip
            have zc8 : ¬ (p1.toInt = 1) := by rw [fa_eq, show (1 : Int32).toInt = 1 from by decide] at c8; exact c8
            refine lv_aload_n hx hb dX10_change_48 rfl (lv_at hl 0 rfl) ?_
            refine va_get (D := (dC, dI)) (ci := 10) (v := .ref (x 25)) (C := RX10) (T := TX10) (N := 10) hx hb hts inB_10 hown hE.1 hP 0 rfl rfl 5 (Nat.le_of_ble_eq_true rfl) (hts _ k_496) (fun _ h9 => h9) rfl dX10_change_49 ?_
            refine va_getN (D := (dC, dI)) (ci := 3) (v := .int (v4 30)) (C := RX3) (T := TX3) (N := 10) hx hb hts inB_3 hown hE.1 hP 26 rfl rfl 9 (Nat.le_of_ble_eq_true rfl) (va_Nw.use rfl (hE.2 _ k_386)) (fun _ h9 => h9) rfl dX10_change_52 ?_
            exact ret (v4 30) (v4, f5) _ _ _ _ _ _ rfl ⟨hM_v4, hA_f5, hIv4, hk0_v4, hk1_v4, hk7_v4, hk8_v4, hk9_v4, hk10_v4, hk31_v4, hk32_v4⟩ hP hD hS dX10_change_55 (Nat.le_refl _) (Nat.le_refl _)
          · skip
            have zc8 : p1.toInt = 1 := by rw [fa_eq, show (1 : Int32).toInt = 1 from by decide] at c8; exact c8
            refine lv_aload_n hx hb dX10_change_38 rfl (lv_at hl 0 rfl) ?_
            refine va_get (D := (dC, dI)) (ci := 10) (v := .ref (x 25)) (C := RX10) (T := TX10) (N := 10) hx hb hts inB_10 hown hE.1 hP 0 rfl rfl 5 (Nat.le_of_ble_eq_true rfl) (hts _ k_496) (fun _ h9 => h9) rfl dX10_change_39 ?_
            refine va_getN (D := (dC, dI)) (ci := 3) (v := .int (v4 29)) (C := RX3) (T := TX3) (N := 10) hx hb hts inB_3 hown hE.1 hP 26 rfl rfl 8 (Nat.le_of_ble_eq_true rfl) (va_Nw.use rfl (hE.2 _ k_384)) (fun _ h9 => h9) rfl dX10_change_42 ?_
            refine lv_goto (tgt := 55) hx hb dX10_change_45 rfl ?_
            exact ret (v4 29) (v4, f5) _ _ _ _ _ _ rfl ⟨hM_v4, hA_f5, hIv4, hk0_v4, hk1_v4, hk7_v4, hk8_v4, hk9_v4, hk10_v4, hk31_v4, hk32_v4⟩ hP hD hS dX10_change_55 (Nat.le_refl _) (Nat.le_refl _)
        · skip
          have zc7 : p1.toInt = 0 := by rw [fa_eq, show (0 : Int32).toInt = 0 from by decide] at c7; exact c7
          refine lv_aload_n hx hb dX10_change_25 rfl (lv_at hl 0 rfl) ?_
          refine va_get (D := (dC, dI)) (ci := 10) (v := .ref (x 25)) (C := RX10) (T := TX10) (N := 10) hx hb hts inB_10 hown hE.1 hP 0 rfl rfl 5 (Nat.le_of_ble_eq_true rfl) (hts _ k_496) (fun _ h9 => h9) rfl dX10_change_26 ?_
          refine va_getN (D := (dC, dI)) (ci := 3) (v := .int (v4 28)) (C := RX3) (T := TX3) (N := 10) hx hb hts inB_3 hown hE.1 hP 26 rfl rfl 7 (Nat.le_of_ble_eq_true rfl) (va_Nw.use rfl (hE.2 _ k_382)) (fun _ h9 => h9) rfl dX10_change_29 ?_
          exact ret (v4 28) (v4, f5) _ _ _ _ _ _ rfl ⟨hM_v4, hA_f5, hIv4, hk0_v4, hk1_v4, hk7_v4, hk8_v4, hk9_v4, hk10_v4, hk31_v4, hk32_v4⟩ hP hD hS dX10_change_32 (Nat.le_refl _) (Nat.le_refl _)
      · skip
        subst g6
        refine lv_if_ne (tgt := 21) hx hb dX10_change_16 rfl (fun c0 => absurd (by decide) c0) (fun _ => ?_)
        refine lv_iconst (v := (-1)) hx hb dX10_change_19 rfl ?_
        exact ret (-1) (v4, f5) _ _ _ _ _ _ rfl ⟨hM_v4, hA_f5, hIv4, hk0_v4, hk1_v4, hk7_v4, hk8_v4, hk9_v4, hk10_v4, hk31_v4, hk32_v4⟩ hP hD hS dX10_change_20 (Nat.le_refl _) (Nat.le_refl _)
set_option maxHeartbeats 4000000 in
set_option maxRecDepth 100000 in
theorem sX_X1_wearers_1 (l : Launch) (dC : Nat → ClassId) (dI : Nat → Nat → Nat) (cy : Nat → ClassId) (x0 : Nat) (x : Nat → Nat)  (v : Nat → Int32) (f : Nat → Nat → Int32) (hIv : XI v)  : ctI l (dC, dI) cy yX1_wearers cX1_wearers 3 .int 3 102 0 0 Unit [.ref (x 21)] (XW cy x0 x v f) (fun r u => True) (fun u => XW cy x0 x v f) := by
  refine ctI_of (by decide) (Nat.le_of_ble_eq_true rfl) (fun p e s m below meth c A ls Q hx hb hml hts hown hE hP hD hA hl ret => ?_)
  have hown : s.vm.findClass RX1 = some m.cls := hown
  have hS : va_S A s.heap s.heap [] := va_S.rf
  have hl : lv_has ls 3 [(0, .ref (x 21))] := hl
  refine lv_iconst (v := 0) hx hb dX1_wearers_0 rfl ?_
  refine lv_istore_n (lv' := [(1, .int 0), (0, .ref (x 21))]) hx hb dX1_wearers_1 rfl hl (Nat.le_of_ble_eq_true rfl) rfl (fun ls hl => ?_)
  refine lv_iconst (v := 0) hx hb dX1_wearers_2 rfl ?_
  refine lv_istore_n (lv' := [(2, .int 0), (1, .int 0), (0, .ref (x 21))]) hx hb dX1_wearers_3 rfl hl (Nat.le_of_ble_eq_true rfl) rfl (fun ls hl => ?_)
  have lp1 : ∀ (n1 : Nat) (l1_1 : Int32) (l2_1 : Int32), ((0 : Int) ≤ l2_1.toInt ∧ l2_1.toInt ≤ 2147483647) → (2147483647 - l2_1.toInt).toNat < n1 → ∀ (H : Heap) (locs : List Loc) (ls : Array Slot), va_P (dC, dI) vwCl (XW cy x0 x v f) H → va_D A (XW cy x0 x v f) → va_S A s.heap H locs → lv_has ls 3 [(2, .int l2_1), (1, .int l1_1), (0, .ref (x 21))] → W p l e { frames := 3, cells := 0, slots := 0, locals := 102 } s m ([.ref (x 21)] : List Value).toArray below meth c H locs 0 0 Q (F0 m 4 ls []) := by
    intro n1
    induction n1 with
    | zero => intro l1_1 l2_1 hr2_1 hm; exact absurd hm (Nat.not_lt_zero _)
    | succ n1 ih1 =>
      intro l1_1 l2_1 hr2_1 hm1 H locs ls hP hD hS hl
      refine lv_iload_n hx hb dX1_wearers_4 rfl (lv_at hl 0 rfl) ?_
      refine lv_aload_n hx hb dX1_wearers_5 rfl (lv_at hl 2 rfl) ?_
      refine va_get (D := (dC, dI)) (ci := 1) (v := .ref (x 26)) (C := RX1) (T := TX1) (N := 2) hx hb hts inB_1 hown hE.1 hP 22 rfl rfl 0 (Nat.le_of_ble_eq_true rfl) (hts _ k_318) (fun _ h9 => h9) rfl dX1_wearers_6 ?_
      refine va_getN (D := (dC, dI)) (ci := 7) (v := .int (v 31)) (C := RX7) (T := TX7) (N := 10) hx hb hts inB_7 hown hE.1 hP 27 rfl rfl 3 (Nat.le_of_ble_eq_true rfl) (va_Nw.use rfl (hE.2 _ k_219)) (fun _ h9 => h9) rfl dX1_wearers_9 ?_
      have b31_v : 0 ≤ (v 31).toInt ∧ (v 31).toInt ≤ 6 := XI.b hIv 31 (by decide)
      refine lv_icmp_ge (tgt := 36) hx hb dX1_wearers_12 rfl (fun c2 => ?_) (fun c2 => ?_)
      · skip
        have zc2 : (v 31).toInt ≤ l2_1.toInt := by rw [fa_le] at c2; exact c2
        have rg3 := fb_rng l2_1
        have rg4 := fb_rng (v 31)
        refine lv_iload_n hx hb dX1_wearers_36 rfl (lv_at hl 1 rfl) ?_
        exact ret l1_1 () _ _ _ _ _ _ rfl trivial hP hD hS dX1_wearers_37 (Nat.le_refl _) (Nat.le_refl _)
      · skip
        have zc2 : ¬ ((v 31).toInt ≤ l2_1.toInt) := by rw [fa_le] at c2; exact c2
        have rg5 := fb_rng l2_1
        have rg6 := fb_rng (v 31)
        refine lv_aload_n hx hb dX1_wearers_15 rfl (lv_at hl 2 rfl) ?_
        refine lv_iload_n hx hb dX1_wearers_16 rfl (lv_at hl 0 rfl) ?_
        refine cbVi (n := 1) (rest := []) hx hb hml hown hts hE hP hD hS hA (sX_X1_wears_1 l dC dI cy x0 x l2_1 v f hIv ) k_853 k_810 k_811 k_106 k_812 (by decide +kernel) ⟨Nat.le_of_ble_eq_true rfl, Nat.le_of_ble_eq_true rfl⟩ 22 1 rfl rfl (rfl) hl.1 rfl (Nat.le_of_ble_eq_true rfl) dX1_wearers_17 (fun r7 u H locs hw hP hD hS => ?_)
        refine lv_iconst (v := (-1)) hx hb dX1_wearers_20 rfl ?_
        refine lv_icmp_eq (tgt := 30) hx hb dX1_wearers_21 rfl (fun c8 => ?_) (fun c8 => ?_)
        · skip
          have zc8 : r7.toInt = (-1) := by rw [fa_eq, show ((-1) : Int32).toInt = -1 from by decide] at c8; exact c8
          obtain ⟨t9, et9⟩ : ∃ y : Int32, y = l2_1 + 1 := ⟨_, rfl⟩
          have zt9 : t9.toInt = l2_1.toInt + 1 := by rw [et9]; exact add_i rfl (by decide) (by omega) (by omega)
          refine lv_iinc (v := t9) (lv' := [(2, .int t9), (1, .int l1_1), (0, .ref (x 21))]) hx hb dX1_wearers_30 hl (k := 0) rfl (by rw [et9]; rfl) (by decide) rfl (fun ls hl => ?_)
          refine lv_goto (tgt := 4) hx hb dX1_wearers_33 rfl ?_
          have rg10 := fb_rng t9
          exact ih1 l1_1 t9 ⟨show (0 : Int) ≤ t9.toInt by omega, show t9.toInt ≤ (2147483647 : Int) by omega⟩ (by show (2147483647 - t9.toInt).toNat < n1; omega) _ _ _ hP hD hS (lv_sub hl [0, 1, 2] rfl)
        · skip
          have zc8 : ¬ (r7.toInt = (-1)) := by rw [fa_eq, show ((-1) : Int32).toInt = -1 from by decide] at c8; exact c8
          refine lv_iload_n hx hb dX1_wearers_24 rfl (lv_at hl 1 rfl) ?_
          refine lv_iconst (v := 1) hx hb dX1_wearers_25 rfl ?_
          refine lv_iload_n hx hb dX1_wearers_26 rfl (lv_at hl 0 rfl) ?_
          refine lv_ishl hx hb dX1_wearers_27 ?_
          refine lv_topi (fun t11 et11 => ?_)
          have zt11 : 1 ≤ t11.toInt ∧ t11.toInt ≤ 32 := by rw [et11]; exact shl1_rng (by omega) (by omega)
          refine lv_ior hx hb dX1_wearers_28 ?_
          refine lv_topi (fun t12 et12 => ?_)
          refine lv_istore_n (lv' := [(1, .int t12), (2, .int l2_1), (0, .ref (x 21))]) hx hb dX1_wearers_29 rfl hl (Nat.le_of_ble_eq_true rfl) rfl (fun ls hl => ?_)
          obtain ⟨t13, et13⟩ : ∃ y : Int32, y = l2_1 + 1 := ⟨_, rfl⟩
          have zt13 : t13.toInt = l2_1.toInt + 1 := by rw [et13]; exact add_i rfl (by decide) (by omega) (by omega)
          refine lv_iinc (v := t13) (lv' := [(2, .int t13), (1, .int t12), (0, .ref (x 21))]) hx hb dX1_wearers_30 hl (k := 1) rfl (by rw [et13]; rfl) (by decide) rfl (fun ls hl => ?_)
          refine lv_goto (tgt := 4) hx hb dX1_wearers_33 rfl ?_
          have rg14 := fb_rng t13
          exact ih1 t12 t13 ⟨show (0 : Int) ≤ t13.toInt by omega, show t13.toInt ≤ (2147483647 : Int) by omega⟩ (by show (2147483647 - t13.toInt).toNat < n1; omega) _ _ _ hP hD hS (lv_sub hl [0, 1, 2] rfl)
  exact lp1 _ 0 0 ⟨by decide, by decide⟩ (Nat.lt_succ_self _) _ _ _ hP hD hS (lv_sub hl [0, 1, 2] rfl)
set_option maxHeartbeats 4000000 in
set_option maxRecDepth 100000 in
theorem sX_X2_wideTogether_1 (l : Launch) (dC : Nat → ClassId) (dI : Nat → Nat → Nat) (cy : Nat → ClassId) (x0 : Nat) (x : Nat → Nat) (p1 : Int32) (v : Nat → Int32) (f : Nat → Nat → Int32) (hIv : XI v)  : ctI l (dC, dI) cy yX2_wideTogether cX2_wideTogether 4 .int 3 104 0 0 Unit [.ref (x 29), .int p1] (XW cy x0 x v f) (fun r u => True) (fun u => XW cy x0 x v f) := by
  refine ctI_of (by decide) (Nat.le_of_ble_eq_true rfl) (fun p e s m below meth c A ls Q hx hb hml hts hown hE hP hD hA hl ret => ?_)
  have hown : s.vm.findClass RX2 = some m.cls := hown
  have hS : va_S A s.heap s.heap [] := va_S.rf
  have hl : lv_has ls 4 [(0, .ref (x 29)), (1, .int p1)] := hl
  refine lv_iconst (v := 0) hx hb dX2_wideTogether_0 rfl ?_
  refine lv_istore_n (lv' := [(2, .int 0), (0, .ref (x 29)), (1, .int p1)]) hx hb dX2_wideTogether_1 rfl hl (Nat.le_of_ble_eq_true rfl) rfl (fun ls hl => ?_)
  refine lv_iconst (v := 0) hx hb dX2_wideTogether_2 rfl ?_
  refine lv_istore_n (lv' := [(3, .int 0), (2, .int 0), (0, .ref (x 29)), (1, .int p1)]) hx hb dX2_wideTogether_3 rfl hl (Nat.le_of_ble_eq_true rfl) rfl (fun ls hl => ?_)
  have lp1 : ∀ (n1 : Nat) (l2_1 : Int32) (l3_1 : Int32), ((0 : Int) ≤ l3_1.toInt ∧ l3_1.toInt ≤ 2147483647) → (2147483647 - l3_1.toInt).toNat < n1 → ∀ (H : Heap) (locs : List Loc) (ls : Array Slot), va_P (dC, dI) vwCl (XW cy x0 x v f) H → va_D A (XW cy x0 x v f) → va_S A s.heap H locs → lv_has ls 4 [(3, .int l3_1), (2, .int l2_1), (0, .ref (x 29)), (1, .int p1)] → W p l e { frames := 3, cells := 0, slots := 0, locals := 104 } s m ([.ref (x 29), .int p1] : List Value).toArray below meth c H locs 0 0 Q (F0 m 4 ls []) := by
    intro n1
    induction n1 with
    | zero => intro l2_1 l3_1 hr3_1 hm; exact absurd hm (Nat.not_lt_zero _)
    | succ n1 ih1 =>
      intro l2_1 l3_1 hr3_1 hm1 H locs ls hP hD hS hl
      refine lv_iload_n hx hb dX2_wideTogether_4 rfl (lv_at hl 0 rfl) ?_
      refine lv_aload_n hx hb dX2_wideTogether_5 rfl (lv_at hl 2 rfl) ?_
      refine va_get (D := (dC, dI)) (ci := 2) (v := .ref (x 26)) (C := RX2) (T := TX2) (N := 3) hx hb hts inB_2 hown hE.1 hP 30 rfl rfl 0 (Nat.le_of_ble_eq_true rfl) (hts _ k_414) (fun _ h9 => h9) rfl dX2_wideTogether_6 ?_
      refine va_getN (D := (dC, dI)) (ci := 7) (v := .int (v 31)) (C := RX7) (T := TX7) (N := 10) hx hb hts inB_7 hown hE.1 hP 27 rfl rfl 3 (Nat.le_of_ble_eq_true rfl) (va_Nw.use rfl (hE.2 _ k_213)) (fun _ h9 => h9) rfl dX2_wideTogether_9 ?_
      have b31_v : 0 ≤ (v 31).toInt ∧ (v 31).toInt ≤ 6 := XI.b hIv 31 (by decide)
      refine lv_icmp_ge (tgt := 48) hx hb dX2_wideTogether_12 rfl (fun c2 => ?_) (fun c2 => ?_)
      · skip
        have zc2 : (v 31).toInt ≤ l3_1.toInt := by rw [fa_le] at c2; exact c2
        have rg3 := fb_rng l3_1
        have rg4 := fb_rng (v 31)
        refine lv_iload_n hx hb dX2_wideTogether_48 rfl (lv_at hl 1 rfl) ?_
        exact ret l2_1 () _ _ _ _ _ _ rfl trivial hP hD hS dX2_wideTogether_49 (Nat.le_refl _) (Nat.le_refl _)
      · skip
        have zc2 : ¬ ((v 31).toInt ≤ l3_1.toInt) := by rw [fa_le] at c2; exact c2
        have rg5 := fb_rng l3_1
        have rg6 := fb_rng (v 31)
        refine lv_iload_n hx hb dX2_wideTogether_15 rfl (lv_at hl 3 rfl) ?_
        refine lv_iload_n hx hb dX2_wideTogether_16 rfl (lv_at hl 0 rfl) ?_
        refine lv_ishr hx hb dX2_wideTogether_17 ?_
        refine lv_topi (fun t7 et7 => ?_)
        refine lv_iconst (v := 1) hx hb dX2_wideTogether_18 rfl ?_
        refine lv_iand hx hb dX2_wideTogether_19 ?_
        refine lv_topi (fun t8 et8 => ?_)
        have zt8 : 0 ≤ t8.toInt ∧ t8.toInt < 2 := by rw [et8]; exact and_rng _ (k := 1) (by decide) (by decide)
        refine lv_if_eq (tgt := 42) hx hb dX2_wideTogether_20 rfl (fun c9 => ?_) (fun c9 => ?_)
        · skip
          have zc9 : t8.toInt = 0 := by rw [fa_eq, show (0 : Int32).toInt = 0 from by decide] at c9; exact c9
          obtain ⟨t10, et10⟩ : ∃ y : Int32, y = l3_1 + 1 := ⟨_, rfl⟩
          have zt10 : t10.toInt = l3_1.toInt + 1 := by rw [et10]; exact add_i rfl (by decide) (by omega) (by omega)
          refine lv_iinc (v := t10) (lv' := [(3, .int t10), (2, .int l2_1), (0, .ref (x 29)), (1, .int p1)]) hx hb dX2_wideTogether_42 hl (k := 0) rfl (by rw [et10]; rfl) (by decide) rfl (fun ls hl => ?_)
          refine lv_goto (tgt := 4) hx hb dX2_wideTogether_45 rfl ?_
          have rg11 := fb_rng t10
          exact ih1 l2_1 t10 ⟨show (0 : Int) ≤ t10.toInt by omega, show t10.toInt ≤ (2147483647 : Int) by omega⟩ (by show (2147483647 - t10.toInt).toNat < n1; omega) _ _ _ hP hD hS (lv_sub hl [0, 1, 2, 3] rfl)
        · skip
          have zc9 : ¬ (t8.toInt = 0) := by rw [fa_eq, show (0 : Int32).toInt = 0 from by decide] at c9; exact c9
          refine lv_iload_n hx hb dX2_wideTogether_23 rfl (lv_at hl 1 rfl) ?_
          refine lv_aload_n hx hb dX2_wideTogether_24 rfl (lv_at hl 2 rfl) ?_
          refine va_get (D := (dC, dI)) (ci := 2) (v := .ref (x 21)) (C := RX2) (T := TX2) (N := 3) hx hb hts inB_2 hown hE.1 hP 30 rfl rfl 1 (Nat.le_of_ble_eq_true rfl) (hts _ k_415) (fun _ h9 => h9) rfl dX2_wideTogether_25 ?_
          refine lv_iconst (v := 1) hx hb dX2_wideTogether_28 rfl ?_
          refine lv_aload_n hx hb dX2_wideTogether_29 rfl (lv_at hl 2 rfl) ?_
          refine va_get (D := (dC, dI)) (ci := 2) (v := .ref (x 21)) (C := RX2) (T := TX2) (N := 3) hx hb hts inB_2 hown hE.1 hP 30 rfl rfl 1 (Nat.le_of_ble_eq_true rfl) (hts _ k_415) (fun _ h9 => h9) rfl dX2_wideTogether_30 ?_
          refine lv_iload_n hx hb dX2_wideTogether_33 rfl (lv_at hl 0 rfl) ?_
          refine cbVi (n := 1) (rest := [.int 1, .ref (x 21), .int l2_1]) hx hb hml hown hts hE hP hD hS hA (sX_X1_wears_1 l dC dI cy x0 x l3_1 v f hIv ) k_1069 k_810 k_811 k_106 k_812 (by decide +kernel) ⟨Nat.le_of_ble_eq_true rfl, Nat.le_of_ble_eq_true rfl⟩ 22 1 rfl rfl (rfl) hl.1 rfl (Nat.le_of_ble_eq_true rfl) dX2_wideTogether_34 (fun r12 u H locs hw hP hD hS => ?_)
          refine cbVi (n := 2) (rest := [.int l2_1]) hx hb hml hown hts hE hP hD hS hA (sX_X1_part_1 l dC dI cy x0 x 1 r12 v f hIv ) k_1070 k_828 k_829 k_106 k_830 (by decide +kernel) ⟨Nat.le_of_ble_eq_true rfl, Nat.le_of_ble_eq_true rfl⟩ 22 1 rfl rfl (rfl) hl.1 rfl (Nat.le_of_ble_eq_true rfl) dX2_wideTogether_37 (fun r13 u H locs hw hP hD hS => ?_)
          refine lv_iadd hx hb dX2_wideTogether_40 ?_
          refine lv_topi (fun t14 et14 => ?_)
          refine lv_istore_n (lv' := [(2, .int t14), (3, .int l3_1), (0, .ref (x 29)), (1, .int p1)]) hx hb dX2_wideTogether_41 rfl hl (Nat.le_of_ble_eq_true rfl) rfl (fun ls hl => ?_)
          obtain ⟨t15, et15⟩ : ∃ y : Int32, y = l3_1 + 1 := ⟨_, rfl⟩
          have zt15 : t15.toInt = l3_1.toInt + 1 := by rw [et15]; exact add_i rfl (by decide) (by omega) (by omega)
          refine lv_iinc (v := t15) (lv' := [(3, .int t15), (2, .int t14), (0, .ref (x 29)), (1, .int p1)]) hx hb dX2_wideTogether_42 hl (k := 1) rfl (by rw [et15]; rfl) (by decide) rfl (fun ls hl => ?_)
          refine lv_goto (tgt := 4) hx hb dX2_wideTogether_45 rfl ?_
          have rg16 := fb_rng t15
          exact ih1 t14 t15 ⟨show (0 : Int) ≤ t15.toInt by omega, show t15.toInt ≤ (2147483647 : Int) by omega⟩ (by show (2147483647 - t15.toInt).toNat < n1; omega) _ _ _ hP hD hS (lv_sub hl [0, 1, 2, 3] rfl)
  exact lp1 _ 0 0 ⟨by decide, by decide⟩ (Nat.lt_succ_self _) _ _ _ hP hD hS (lv_sub hl [0, 1, 2, 3] rfl)
set_option maxHeartbeats 4000000 in
set_option maxRecDepth 100000 in
theorem sX_X2_frontOf_1 (l : Launch) (dC : Nat → ClassId) (dI : Nat → Nat → Nat) (cy : Nat → ClassId) (x0 : Nat) (x : Nat → Nat) (p1 : Int32) (v : Nat → Int32) (f : Nat → Nat → Int32) (hIv : XI v)  : ctI l (dC, dI) cy yX2_frontOf cX2_frontOf 6 .int 4 127 0 0 Unit [.ref (x 29), .int p1] (XW cy x0 x v f) (fun r u => True) (fun u => XW cy x0 x v f) := by
  refine ctI_of (by decide) (Nat.le_of_ble_eq_true rfl) (fun p e s m below meth c A ls Q hx hb hml hts hown hE hP hD hA hl ret => ?_)
  have hown : s.vm.findClass RX2 = some m.cls := hown
  have hS : va_S A s.heap s.heap [] := va_S.rf
  have hl : lv_has ls 6 [(0, .ref (x 29)), (1, .int p1)] := hl
  refine lv_iconst (v := (-1)) hx hb dX2_frontOf_0 rfl ?_
  refine lv_istore_n (lv' := [(2, .int (-1)), (0, .ref (x 29)), (1, .int p1)]) hx hb dX2_frontOf_1 rfl hl (Nat.le_of_ble_eq_true rfl) rfl (fun ls hl => ?_)
  refine lv_aload_n hx hb dX2_frontOf_2 rfl (lv_at hl 1 rfl) ?_
  refine va_get (D := (dC, dI)) (ci := 2) (v := .ref (x 21)) (C := RX2) (T := TX2) (N := 3) hx hb hts inB_2 hown hE.1 hP 30 rfl rfl 1 (Nat.le_of_ble_eq_true rfl) (hts _ k_415) (fun _ h9 => h9) rfl dX2_frontOf_3 ?_
  refine cbVi (n := 0) (rest := []) hx hb hml hown hts hE hP hD hS hA (sX_X1_wearers_1 l dC dI cy x0 x  v f hIv ) k_1060 k_1061 k_1062 k_106 k_1063 (by decide +kernel) ⟨Nat.le_of_ble_eq_true rfl, Nat.le_of_ble_eq_true rfl⟩ 22 1 rfl rfl (rfl) hl.1 rfl (Nat.le_of_ble_eq_true rfl) dX2_frontOf_6 (fun r1 u H locs hw hP hD hS => ?_)
  refine lv_iconst (v := (-1)) hx hb dX2_frontOf_9 rfl ?_
  refine lv_ixor hx hb dX2_frontOf_10 ?_
  refine lv_topi (fun t2 et2 => ?_)
  refine lv_istore_n (lv' := [(3, .int t2), (2, .int (-1)), (0, .ref (x 29)), (1, .int p1)]) hx hb dX2_frontOf_11 rfl hl (Nat.le_of_ble_eq_true rfl) rfl (fun ls hl => ?_)
  refine lv_iconst (v := 0) hx hb dX2_frontOf_12 rfl ?_
  refine lv_istore (lv' := [(4, .int 0), (3, .int t2), (2, .int (-1)), (0, .ref (x 29)), (1, .int p1)]) hx hb dX2_frontOf_13 hl (Nat.le_of_ble_eq_true rfl) rfl (fun ls hl => ?_)
  have lp3 : ∀ (n3 : Nat) (l2_3 : Int32) (l4_3 : Int32), ((0 : Int) ≤ l4_3.toInt ∧ l4_3.toInt ≤ 2147483647) → (2147483647 - l4_3.toInt).toNat < n3 → ∀ (H : Heap) (locs : List Loc) (ls : Array Slot), va_P (dC, dI) vwCl (XW cy x0 x v f) H → va_D A (XW cy x0 x v f) → va_S A s.heap H locs → lv_has ls 6 [(4, .int l4_3), (3, .int t2), (2, .int l2_3), (0, .ref (x 29)), (1, .int p1)] → W p l e { frames := 4, cells := 0, slots := 0, locals := 127 } s m ([.ref (x 29), .int p1] : List Value).toArray below meth c H locs 0 0 Q (F0 m 15 ls []) := by
    intro n3
    induction n3 with
    | zero => intro l2_3 l4_3 hr4_3 hm; exact absurd hm (Nat.not_lt_zero _)
    | succ n3 ih3 =>
      intro l2_3 l4_3 hr4_3 hm3 H locs ls hP hD hS hl
      refine lv_iload hx hb dX2_frontOf_15 (lv_at hl 0 rfl) ?_
      refine lv_bipush (v := 64) hx hb dX2_frontOf_17 rfl ?_
      refine lv_icmp_ge (tgt := 77) hx hb dX2_frontOf_19 rfl (fun c4 => ?_) (fun c4 => ?_)
      · skip
        have zc4 : 64 ≤ l4_3.toInt := by rw [fa_le, show (64 : Int32).toInt = 64 from by decide] at c4; exact c4
        refine lv_iload_n hx hb dX2_frontOf_77 rfl (lv_at hl 2 rfl) ?_
        exact ret l2_3 () _ _ _ _ _ _ rfl trivial hP hD hS dX2_frontOf_78 (Nat.le_refl _) (Nat.le_refl _)
      · skip
        have zc4 : ¬ (64 ≤ l4_3.toInt) := by rw [fa_le, show (64 : Int32).toInt = 64 from by decide] at c4; exact c4
        refine lv_iload_n hx hb dX2_frontOf_22 rfl (lv_at hl 2 rfl) ?_
        refine lv_iconst (v := (-1)) hx hb dX2_frontOf_23 rfl ?_
        refine lv_icmp_eq (tgt := 39) hx hb dX2_frontOf_24 rfl (fun c5 => ?_) (fun c5 => ?_)
        · skip
          have zc5 : l2_3.toInt = (-1) := by rw [fa_eq, show ((-1) : Int32).toInt = -1 from by decide] at c5; exact c5
          refine lv_iconst (v := 1) hx hb dX2_frontOf_39 rfl ?_
          refine lv_goto (tgt := 44) hx hb dX2_frontOf_40 rfl ?_
          refine lv_istore (lv' := [(5, .int 1), (4, .int l4_3), (3, .int t2), (2, .int l2_3), (0, .ref (x 29)), (1, .int p1)]) hx hb dX2_frontOf_44 hl (Nat.le_of_ble_eq_true rfl) rfl (fun ls hl => ?_)
          refine lv_iload hx hb dX2_frontOf_46 (lv_at hl 1 rfl) ?_
          refine lv_iload_n hx hb dX2_frontOf_48 rfl (lv_at hl 2 rfl) ?_
          refine lv_iand hx hb dX2_frontOf_49 ?_
          refine lv_topi (fun t6 et6 => ?_)
          refine lv_if_ne (tgt := 71) hx hb dX2_frontOf_50 rfl (fun c7 => ?_) (fun c7 => ?_)
          · skip
            have zc7 : ¬ (t6.toInt = 0) := by rw [fa_eq, show (0 : Int32).toInt = 0 from by decide] at c7; exact c7
            obtain ⟨t8, et8⟩ : ∃ y : Int32, y = l4_3 + 1 := ⟨_, rfl⟩
            have rg9 := fb_rng l4_3
            have zt8 : t8.toInt = l4_3.toInt + 1 := by rw [et8]; exact add_i rfl (by decide) (by omega) (by omega)
            refine lv_iinc (v := t8) (lv' := [(4, .int t8), (5, .int 1), (3, .int t2), (2, .int l2_3), (0, .ref (x 29)), (1, .int p1)]) hx hb dX2_frontOf_71 hl (k := 1) rfl (by rw [et8]; rfl) (by decide) rfl (fun ls hl => ?_)
            refine lv_goto (tgt := 15) hx hb dX2_frontOf_74 rfl ?_
            have rg10 := fb_rng t8
            exact ih3 l2_3 t8 ⟨show (0 : Int) ≤ t8.toInt by omega, show t8.toInt ≤ (2147483647 : Int) by omega⟩ (by show (2147483647 - t8.toInt).toNat < n3; omega) _ _ _ hP hD hS (lv_sub hl [0, 2, 3, 4, 5] rfl)
          · skip
            have zc7 : t6.toInt = 0 := by rw [fa_eq, show (0 : Int32).toInt = 0 from by decide] at c7; exact c7
            refine lv_iload hx hb dX2_frontOf_53 (lv_at hl 0 rfl) ?_
            refine lv_if_eq (tgt := 71) hx hb dX2_frontOf_55 rfl (fun c0 => absurd c0 (by decide)) (fun _ => ?_)
            refine lv_aload_n hx hb dX2_frontOf_58 rfl (lv_at hl 4 rfl) ?_
            refine lv_iload hx hb dX2_frontOf_59 (lv_at hl 1 rfl) ?_
            refine cbVi (n := 1) (rest := []) hx hb hml hown hts hE hP hD hS hA (sX_X2_wideTogether_1 l dC dI cy x0 x l4_3 v f hIv ) k_1065 k_1066 k_1067 k_110 k_1068 (by decide +kernel) ⟨Nat.le_of_ble_eq_true rfl, Nat.le_of_ble_eq_true rfl⟩ 30 2 rfl rfl (rfl) hl.1 rfl (Nat.le_of_ble_eq_true rfl) dX2_frontOf_61 (fun r11 u H locs hw hP hD hS => ?_)
            refine lv_iload_n hx hb dX2_frontOf_64 rfl (lv_at hl 5 rfl) ?_
            refine lv_icmp_lt (tgt := 71) hx hb dX2_frontOf_65 rfl (fun c12 => ?_) (fun c12 => ?_)
            · skip
              have zc12 : r11.toInt < p1.toInt := by rw [fa_lt] at c12; exact c12
              have rg13 := fb_rng r11
              have rg14 := fb_rng p1
              obtain ⟨t15, et15⟩ : ∃ y : Int32, y = l4_3 + 1 := ⟨_, rfl⟩
              have rg16 := fb_rng l4_3
              have zt15 : t15.toInt = l4_3.toInt + 1 := by rw [et15]; exact add_i rfl (by decide) (by omega) (by omega)
              refine lv_iinc (v := t15) (lv' := [(4, .int t15), (5, .int 1), (3, .int t2), (2, .int l2_3), (0, .ref (x 29)), (1, .int p1)]) hx hb dX2_frontOf_71 hl (k := 1) rfl (by rw [et15]; rfl) (by decide) rfl (fun ls hl => ?_)
              refine lv_goto (tgt := 15) hx hb dX2_frontOf_74 rfl ?_
              have rg17 := fb_rng t15
              exact ih3 l2_3 t15 ⟨show (0 : Int) ≤ t15.toInt by omega, show t15.toInt ≤ (2147483647 : Int) by omega⟩ (by show (2147483647 - t15.toInt).toNat < n3; omega) _ _ _ hP hD hS (lv_sub hl [0, 2, 3, 4, 5] rfl)
            · skip
              have zc12 : ¬ (r11.toInt < p1.toInt) := by rw [fa_lt] at c12; exact c12
              have rg18 := fb_rng r11
              have rg19 := fb_rng p1
              refine lv_iload hx hb dX2_frontOf_68 (lv_at hl 1 rfl) ?_
              refine lv_istore_n (lv' := [(2, .int l4_3), (5, .int 1), (4, .int l4_3), (3, .int t2), (0, .ref (x 29)), (1, .int p1)]) hx hb dX2_frontOf_70 rfl hl (Nat.le_of_ble_eq_true rfl) rfl (fun ls hl => ?_)
              obtain ⟨t20, et20⟩ : ∃ y : Int32, y = l4_3 + 1 := ⟨_, rfl⟩
              have rg21 := fb_rng l4_3
              have zt20 : t20.toInt = l4_3.toInt + 1 := by rw [et20]; exact add_i rfl (by decide) (by omega) (by omega)
              refine lv_iinc (v := t20) (lv' := [(4, .int t20), (2, .int l4_3), (5, .int 1), (3, .int t2), (0, .ref (x 29)), (1, .int p1)]) hx hb dX2_frontOf_71 hl (k := 2) rfl (by rw [et20]; rfl) (by decide) rfl (fun ls hl => ?_)
              refine lv_goto (tgt := 15) hx hb dX2_frontOf_74 rfl ?_
              have rg22 := fb_rng t20
              exact ih3 l4_3 t20 ⟨show (0 : Int) ≤ t20.toInt by omega, show t20.toInt ≤ (2147483647 : Int) by omega⟩ (by show (2147483647 - t20.toInt).toNat < n3; omega) _ _ _ hP hD hS (lv_sub hl [0, 3, 1, 4, 5] rfl)
        · skip
          have zc5 : ¬ (l2_3.toInt = (-1)) := by rw [fa_eq, show ((-1) : Int32).toInt = -1 from by decide] at c5; exact c5
          refine lv_iload hx hb dX2_frontOf_27 (lv_at hl 0 rfl) ?_
          refine cbSi (n := 1) (rest := []) hx hb hml hown hts hE hP hD hS hA (sX_J6_bitCount_0f7a4_1 l dC dI cy x0 x l4_3 v f hIv ) k_1064 k_1043 k_121 k_1044 (by decide +kernel) ⟨Nat.le_of_ble_eq_true rfl, Nat.le_of_ble_eq_true rfl⟩ (rfl) hl.1 rfl (Nat.le_of_ble_eq_true rfl) dX2_frontOf_29 (fun r23 u H locs hw hP hD hS => ?_)
          refine lv_iload_n hx hb dX2_frontOf_32 rfl (lv_at hl 2 rfl) ?_
          refine cbSi (n := 1) (rest := [.int r23]) hx hb hml hown hts hE hP hD hS hA (sX_J6_bitCount_0f7a4_1 l dC dI cy x0 x l2_3 v f hIv ) k_1064 k_1043 k_121 k_1044 (by decide +kernel) ⟨Nat.le_of_ble_eq_true rfl, Nat.le_of_ble_eq_true rfl⟩ (rfl) hl.1 rfl (Nat.le_of_ble_eq_true rfl) dX2_frontOf_33 (fun r24 u H locs hw hP hD hS => ?_)
          refine lv_icmp_ge (tgt := 43) hx hb dX2_frontOf_36 rfl (fun c25 => ?_) (fun c25 => ?_)
          · skip
            have zc25 : r24.toInt ≤ r23.toInt := by rw [fa_le] at c25; exact c25
            have rg26 := fb_rng r23
            have rg27 := fb_rng r24
            refine lv_iconst (v := 0) hx hb dX2_frontOf_43 rfl ?_
            refine lv_istore (lv' := [(5, .int 0), (4, .int l4_3), (3, .int t2), (2, .int l2_3), (0, .ref (x 29)), (1, .int p1)]) hx hb dX2_frontOf_44 hl (Nat.le_of_ble_eq_true rfl) rfl (fun ls hl => ?_)
            refine lv_iload hx hb dX2_frontOf_46 (lv_at hl 1 rfl) ?_
            refine lv_iload_n hx hb dX2_frontOf_48 rfl (lv_at hl 2 rfl) ?_
            refine lv_iand hx hb dX2_frontOf_49 ?_
            refine lv_topi (fun t28 et28 => ?_)
            refine lv_if_ne (tgt := 71) hx hb dX2_frontOf_50 rfl (fun c29 => ?_) (fun c29 => ?_)
            · skip
              have zc29 : ¬ (t28.toInt = 0) := by rw [fa_eq, show (0 : Int32).toInt = 0 from by decide] at c29; exact c29
              obtain ⟨t30, et30⟩ : ∃ y : Int32, y = l4_3 + 1 := ⟨_, rfl⟩
              have rg31 := fb_rng l4_3
              have zt30 : t30.toInt = l4_3.toInt + 1 := by rw [et30]; exact add_i rfl (by decide) (by omega) (by omega)
              refine lv_iinc (v := t30) (lv' := [(4, .int t30), (5, .int 0), (3, .int t2), (2, .int l2_3), (0, .ref (x 29)), (1, .int p1)]) hx hb dX2_frontOf_71 hl (k := 1) rfl (by rw [et30]; rfl) (by decide) rfl (fun ls hl => ?_)
              refine lv_goto (tgt := 15) hx hb dX2_frontOf_74 rfl ?_
              have rg32 := fb_rng t30
              exact ih3 l2_3 t30 ⟨show (0 : Int) ≤ t30.toInt by omega, show t30.toInt ≤ (2147483647 : Int) by omega⟩ (by show (2147483647 - t30.toInt).toNat < n3; omega) _ _ _ hP hD hS (lv_sub hl [0, 2, 3, 4, 5] rfl)
            · skip
              have zc29 : t28.toInt = 0 := by rw [fa_eq, show (0 : Int32).toInt = 0 from by decide] at c29; exact c29
              refine lv_iload hx hb dX2_frontOf_53 (lv_at hl 0 rfl) ?_
              refine lv_if_eq (tgt := 71) hx hb dX2_frontOf_55 rfl (fun _ => ?_) (fun c0 => absurd (by decide) c0)
              obtain ⟨t33, et33⟩ : ∃ y : Int32, y = l4_3 + 1 := ⟨_, rfl⟩
              have rg34 := fb_rng l4_3
              have zt33 : t33.toInt = l4_3.toInt + 1 := by rw [et33]; exact add_i rfl (by decide) (by omega) (by omega)
              refine lv_iinc (v := t33) (lv' := [(4, .int t33), (5, .int 0), (3, .int t2), (2, .int l2_3), (0, .ref (x 29)), (1, .int p1)]) hx hb dX2_frontOf_71 hl (k := 1) rfl (by rw [et33]; rfl) (by decide) rfl (fun ls hl => ?_)
              refine lv_goto (tgt := 15) hx hb dX2_frontOf_74 rfl ?_
              have rg35 := fb_rng t33
              exact ih3 l2_3 t33 ⟨show (0 : Int) ≤ t33.toInt by omega, show t33.toInt ≤ (2147483647 : Int) by omega⟩ (by show (2147483647 - t33.toInt).toNat < n3; omega) _ _ _ hP hD hS (lv_sub hl [0, 2, 3, 4, 5] rfl)
          · skip
            have zc25 : ¬ (r24.toInt ≤ r23.toInt) := by rw [fa_le] at c25; exact c25
            have rg36 := fb_rng r23
            have rg37 := fb_rng r24
            refine lv_iconst (v := 1) hx hb dX2_frontOf_39 rfl ?_
            refine lv_goto (tgt := 44) hx hb dX2_frontOf_40 rfl ?_
            refine lv_istore (lv' := [(5, .int 1), (4, .int l4_3), (3, .int t2), (2, .int l2_3), (0, .ref (x 29)), (1, .int p1)]) hx hb dX2_frontOf_44 hl (Nat.le_of_ble_eq_true rfl) rfl (fun ls hl => ?_)
            refine lv_iload hx hb dX2_frontOf_46 (lv_at hl 1 rfl) ?_
            refine lv_iload_n hx hb dX2_frontOf_48 rfl (lv_at hl 2 rfl) ?_
            refine lv_iand hx hb dX2_frontOf_49 ?_
            refine lv_topi (fun t38 et38 => ?_)
            refine lv_if_ne (tgt := 71) hx hb dX2_frontOf_50 rfl (fun c39 => ?_) (fun c39 => ?_)
            · skip
              have zc39 : ¬ (t38.toInt = 0) := by rw [fa_eq, show (0 : Int32).toInt = 0 from by decide] at c39; exact c39
              obtain ⟨t40, et40⟩ : ∃ y : Int32, y = l4_3 + 1 := ⟨_, rfl⟩
              have rg41 := fb_rng l4_3
              have zt40 : t40.toInt = l4_3.toInt + 1 := by rw [et40]; exact add_i rfl (by decide) (by omega) (by omega)
              refine lv_iinc (v := t40) (lv' := [(4, .int t40), (5, .int 1), (3, .int t2), (2, .int l2_3), (0, .ref (x 29)), (1, .int p1)]) hx hb dX2_frontOf_71 hl (k := 1) rfl (by rw [et40]; rfl) (by decide) rfl (fun ls hl => ?_)
              refine lv_goto (tgt := 15) hx hb dX2_frontOf_74 rfl ?_
              have rg42 := fb_rng t40
              exact ih3 l2_3 t40 ⟨show (0 : Int) ≤ t40.toInt by omega, show t40.toInt ≤ (2147483647 : Int) by omega⟩ (by show (2147483647 - t40.toInt).toNat < n3; omega) _ _ _ hP hD hS (lv_sub hl [0, 2, 3, 4, 5] rfl)
            · skip
              have zc39 : t38.toInt = 0 := by rw [fa_eq, show (0 : Int32).toInt = 0 from by decide] at c39; exact c39
              refine lv_iload hx hb dX2_frontOf_53 (lv_at hl 0 rfl) ?_
              refine lv_if_eq (tgt := 71) hx hb dX2_frontOf_55 rfl (fun c0 => absurd c0 (by decide)) (fun _ => ?_)
              refine lv_aload_n hx hb dX2_frontOf_58 rfl (lv_at hl 4 rfl) ?_
              refine lv_iload hx hb dX2_frontOf_59 (lv_at hl 1 rfl) ?_
              refine cbVi (n := 1) (rest := []) hx hb hml hown hts hE hP hD hS hA (sX_X2_wideTogether_1 l dC dI cy x0 x l4_3 v f hIv ) k_1065 k_1066 k_1067 k_110 k_1068 (by decide +kernel) ⟨Nat.le_of_ble_eq_true rfl, Nat.le_of_ble_eq_true rfl⟩ 30 2 rfl rfl (rfl) hl.1 rfl (Nat.le_of_ble_eq_true rfl) dX2_frontOf_61 (fun r43 u H locs hw hP hD hS => ?_)
              refine lv_iload_n hx hb dX2_frontOf_64 rfl (lv_at hl 5 rfl) ?_
              refine lv_icmp_lt (tgt := 71) hx hb dX2_frontOf_65 rfl (fun c44 => ?_) (fun c44 => ?_)
              · skip
                have zc44 : r43.toInt < p1.toInt := by rw [fa_lt] at c44; exact c44
                have rg45 := fb_rng r43
                have rg46 := fb_rng p1
                obtain ⟨t47, et47⟩ : ∃ y : Int32, y = l4_3 + 1 := ⟨_, rfl⟩
                have rg48 := fb_rng l4_3
                have zt47 : t47.toInt = l4_3.toInt + 1 := by rw [et47]; exact add_i rfl (by decide) (by omega) (by omega)
                refine lv_iinc (v := t47) (lv' := [(4, .int t47), (5, .int 1), (3, .int t2), (2, .int l2_3), (0, .ref (x 29)), (1, .int p1)]) hx hb dX2_frontOf_71 hl (k := 1) rfl (by rw [et47]; rfl) (by decide) rfl (fun ls hl => ?_)
                refine lv_goto (tgt := 15) hx hb dX2_frontOf_74 rfl ?_
                have rg49 := fb_rng t47
                exact ih3 l2_3 t47 ⟨show (0 : Int) ≤ t47.toInt by omega, show t47.toInt ≤ (2147483647 : Int) by omega⟩ (by show (2147483647 - t47.toInt).toNat < n3; omega) _ _ _ hP hD hS (lv_sub hl [0, 2, 3, 4, 5] rfl)
              · skip
                have zc44 : ¬ (r43.toInt < p1.toInt) := by rw [fa_lt] at c44; exact c44
                have rg50 := fb_rng r43
                have rg51 := fb_rng p1
                refine lv_iload hx hb dX2_frontOf_68 (lv_at hl 1 rfl) ?_
                refine lv_istore_n (lv' := [(2, .int l4_3), (5, .int 1), (4, .int l4_3), (3, .int t2), (0, .ref (x 29)), (1, .int p1)]) hx hb dX2_frontOf_70 rfl hl (Nat.le_of_ble_eq_true rfl) rfl (fun ls hl => ?_)
                obtain ⟨t52, et52⟩ : ∃ y : Int32, y = l4_3 + 1 := ⟨_, rfl⟩
                have rg53 := fb_rng l4_3
                have zt52 : t52.toInt = l4_3.toInt + 1 := by rw [et52]; exact add_i rfl (by decide) (by omega) (by omega)
                refine lv_iinc (v := t52) (lv' := [(4, .int t52), (2, .int l4_3), (5, .int 1), (3, .int t2), (0, .ref (x 29)), (1, .int p1)]) hx hb dX2_frontOf_71 hl (k := 2) rfl (by rw [et52]; rfl) (by decide) rfl (fun ls hl => ?_)
                refine lv_goto (tgt := 15) hx hb dX2_frontOf_74 rfl ?_
                have rg54 := fb_rng t52
                exact ih3 l4_3 t52 ⟨show (0 : Int) ≤ t52.toInt by omega, show t52.toInt ≤ (2147483647 : Int) by omega⟩ (by show (2147483647 - t52.toInt).toNat < n3; omega) _ _ _ hP hD hS (lv_sub hl [0, 3, 1, 4, 5] rfl)
  exact lp3 _ (-1) 0 ⟨by decide, by decide⟩ (Nat.lt_succ_self _) _ _ _ hP hD hS (lv_sub hl [0, 1, 2, 3, 4] rfl)
set_option maxHeartbeats 4000000 in
set_option maxRecDepth 100000 in
theorem sX_X10_front_1 (l : Launch) (dC : Nat → ClassId) (dI : Nat → Nat → Nat) (cy : Nat → ClassId) (x0 : Nat) (x : Nat → Nat) (p1 : Int32) (p2 : Int32) (v : Nat → Int32) (f : Nat → Nat → Int32) (hIv : XI v)  : ctI l (dC, dI) cy yX10_front cX10_front 4 .int 5 152 0 0 Unit [.ref x0, .int p1, .int p2] (XW cy x0 x v f) (fun r u => True) (fun u => XW cy x0 x v f) := by
  refine ctI_of (by decide) (Nat.le_of_ble_eq_true rfl) (fun p e s m below meth c A ls Q hx hb hml hts hown hE hP hD hA hl ret => ?_)
  have hown : s.vm.findClass RX10 = some m.cls := hown
  have hS : va_S A s.heap s.heap [] := va_S.rf
  have hl : lv_has ls 4 [(0, .ref x0), (1, .int p1), (2, .int p2)] := hl
  refine lv_iload_n hx hb dX10_front_0 rfl (lv_at hl 1 rfl) ?_
  refine lv_if_lt (tgt := 20) hx hb dX10_front_1 rfl (fun c1 => ?_) (fun c1 => ?_)
  · skip
    have zc1 : p1.toInt < 0 := by rw [fa_lt, show (0 : Int32).toInt = 0 from by decide] at c1; exact c1
    refine lv_iconst (v := (-1)) hx hb dX10_front_20 rfl ?_
    exact ret (-1) () _ _ _ _ _ _ rfl trivial hP hD hS dX10_front_21 (Nat.le_refl _) (Nat.le_refl _)
  · skip
    have zc1 : ¬ (p1.toInt < 0) := by rw [fa_lt, show (0 : Int32).toInt = 0 from by decide] at c1; exact c1
    refine lv_iload_n hx hb dX10_front_4 rfl (lv_at hl 1 rfl) ?_
    refine lv_sipush (v := 999) hx hb dX10_front_5 rfl ?_
    refine lv_icmp_gt (tgt := 20) hx hb dX10_front_8 rfl (fun c2 => ?_) (fun c2 => ?_)
    · skip
      have zc2 : 999 < p1.toInt := by rw [fa_lt, show (999 : Int32).toInt = 999 from by decide] at c2; exact c2
      refine lv_iconst (v := (-1)) hx hb dX10_front_20 rfl ?_
      exact ret (-1) () _ _ _ _ _ _ rfl trivial hP hD hS dX10_front_21 (Nat.le_refl _) (Nat.le_refl _)
    · skip
      have zc2 : ¬ (999 < p1.toInt) := by rw [fa_lt, show (999 : Int32).toInt = 999 from by decide] at c2; exact c2
      refine lv_iload_n hx hb dX10_front_11 rfl (lv_at hl 2 rfl) ?_
      refine lv_if_lt (tgt := 20) hx hb dX10_front_12 rfl (fun c3 => ?_) (fun c3 => ?_)
      · skip
        have zc3 : p2.toInt < 0 := by rw [fa_lt, show (0 : Int32).toInt = 0 from by decide] at c3; exact c3
        refine lv_iconst (v := (-1)) hx hb dX10_front_20 rfl ?_
        exact ret (-1) () _ _ _ _ _ _ rfl trivial hP hD hS dX10_front_21 (Nat.le_refl _) (Nat.le_refl _)
      · skip
        have zc3 : ¬ (p2.toInt < 0) := by rw [fa_lt, show (0 : Int32).toInt = 0 from by decide] at c3; exact c3
        refine lv_iload_n hx hb dX10_front_15 rfl (lv_at hl 2 rfl) ?_
        refine lv_iconst (v := 1) hx hb dX10_front_16 rfl ?_
        refine lv_icmp_le (tgt := 22) hx hb dX10_front_17 rfl (fun c4 => ?_) (fun c4 => ?_)
        · skip
          have zc4 : p2.toInt ≤ 1 := by rw [fa_le, show (1 : Int32).toInt = 1 from by decide] at c4; exact c4
          refine lv_aload_n hx hb dX10_front_22 rfl (lv_at hl 0 rfl) ?_
          refine va_get (D := (dC, dI)) (ci := 10) (v := .ref (x 29)) (C := RX10) (T := TX10) (N := 10) hx hb hts inB_10 hown hE.1 hP 0 rfl rfl 6 (Nat.le_of_ble_eq_true rfl) (hts _ k_497) (fun _ h9 => h9) rfl dX10_front_23 ?_
          refine lv_iload_n hx hb dX10_front_26 rfl (lv_at hl 1 rfl) ?_
          refine cbVi (n := 1) (rest := []) hx hb hml hown hts hE hP hD hS hA (sX_X2_frontOf_1 l dC dI cy x0 x p1 v f hIv ) k_1056 k_1057 k_1058 k_110 k_1059 (by decide +kernel) ⟨Nat.le_of_ble_eq_true rfl, Nat.le_of_ble_eq_true rfl⟩ 30 2 rfl rfl (rfl) hl.1 rfl (Nat.le_of_ble_eq_true rfl) dX10_front_27 (fun r5 u H locs hw hP hD hS => ?_)
          refine lv_istore_n (lv' := [(3, .int r5), (0, .ref x0), (1, .int p1), (2, .int p2)]) hx hb dX10_front_30 rfl hl (Nat.le_of_ble_eq_true rfl) rfl (fun ls hl => ?_)
          refine lv_iload_n hx hb dX10_front_31 rfl (lv_at hl 3 rfl) ?_
          refine lv_iconst (v := 1) hx hb dX10_front_32 rfl ?_
          refine lv_icmp_eq (tgt := 41) hx hb dX10_front_33 rfl (fun c6 => ?_) (fun c6 => ?_)
          · skip
            have zc6 : p2.toInt = 1 := by rw [fa_eq, show (1 : Int32).toInt = 1 from by decide] at c6; exact c6
            refine lv_iload_n hx hb dX10_front_41 rfl (lv_at hl 0 rfl) ?_
            refine lv_goto (tgt := 49) hx hb dX10_front_42 rfl ?_
            exact ret r5 () _ _ _ _ _ _ rfl trivial hP hD hS dX10_front_49 (Nat.le_refl _) (Nat.le_refl _)
          · skip
            have zc6 : ¬ (p2.toInt = 1) := by rw [fa_eq, show (1 : Int32).toInt = 1 from by decide] at c6; exact c6
            refine lv_iload_n hx hb dX10_front_36 rfl (lv_at hl 0 rfl) ?_
            refine lv_iconst (v := (-1)) hx hb dX10_front_37 rfl ?_
            refine lv_icmp_ne (tgt := 45) hx hb dX10_front_38 rfl (fun c7 => ?_) (fun c7 => ?_)
            · skip
              have zc7 : ¬ (r5.toInt = (-1)) := by rw [fa_eq, show ((-1) : Int32).toInt = -1 from by decide] at c7; exact c7
              refine lv_iload_n hx hb dX10_front_45 rfl (lv_at hl 0 rfl) ?_
              refine cbSi (n := 1) (rest := []) hx hb hml hown hts hE hP hD hS hA (sX_J6_bitCount_0f7a4_1 l dC dI cy x0 x r5 v f hIv ) k_1071 k_1043 k_121 k_1044 (by decide +kernel) ⟨Nat.le_of_ble_eq_true rfl, Nat.le_of_ble_eq_true rfl⟩ (rfl) hl.1 rfl (Nat.le_of_ble_eq_true rfl) dX10_front_46 (fun r8 u H locs hw hP hD hS => ?_)
              exact ret r8 () _ _ _ _ _ _ rfl trivial hP hD hS dX10_front_49 (Nat.le_refl _) (Nat.le_refl _)
            · skip
              have zc7 : r5.toInt = (-1) := by rw [fa_eq, show ((-1) : Int32).toInt = -1 from by decide] at c7; exact c7
              refine lv_iload_n hx hb dX10_front_41 rfl (lv_at hl 0 rfl) ?_
              refine lv_goto (tgt := 49) hx hb dX10_front_42 rfl ?_
              exact ret r5 () _ _ _ _ _ _ rfl trivial hP hD hS dX10_front_49 (Nat.le_refl _) (Nat.le_refl _)
        · skip
          have zc4 : ¬ (p2.toInt ≤ 1) := by rw [fa_le, show (1 : Int32).toInt = 1 from by decide] at c4; exact c4
          refine lv_iconst (v := (-1)) hx hb dX10_front_20 rfl ?_
          exact ret (-1) () _ _ _ _ _ _ rfl trivial hP hD hS dX10_front_21 (Nat.le_refl _) (Nat.le_refl _)
set_option maxHeartbeats 4000000 in
set_option maxRecDepth 100000 in
theorem sX_J6_lowestOneBit_0f7a4_1 (l : Launch) (dC : Nat → ClassId) (dI : Nat → Nat → Nat) (cy : Nat → ClassId) (x0 : Nat) (x : Nat → Nat) (p0 : Int32) (v : Nat → Int32) (f : Nat → Nat → Int32) (hIv : XI v)  : ctI l (dC, dI) cy yJ6_lowestOneBit_0f7a4 cJ6_lowestOneBit_0f7a4 1 .int 1 60 0 0 Unit [.int p0] (XW cy x0 x v f) (fun r u => True) (fun u => XW cy x0 x v f) := by
  refine ctI_of (by decide) (Nat.le_of_ble_eq_true rfl) (fun p e s m below meth c A ls Q hx hb hml hts hown hE hP hD hA hl ret => ?_)
  have hown : s.vm.findClass RJ6 = some m.cls := hown
  have hS : va_S A s.heap s.heap [] := va_S.rf
  have hl : lv_has ls 1 [(0, .int p0)] := hl
  refine lv_iload_n hx hb dJ6_lowestOneBit_0f7a4_0 rfl (lv_at hl 0 rfl) ?_
  refine lv_iload_n hx hb dJ6_lowestOneBit_0f7a4_1 rfl (lv_at hl 0 rfl) ?_
  refine lv_ineg hx hb dJ6_lowestOneBit_0f7a4_2 ?_
  refine lv_topi (fun t1 et1 => ?_)
  refine lv_iand hx hb dJ6_lowestOneBit_0f7a4_3 ?_
  refine lv_topi (fun t2 et2 => ?_)
  exact ret t2 () _ _ _ _ _ _ rfl trivial hP hD hS dJ6_lowestOneBit_0f7a4_4 (Nat.le_refl _) (Nat.le_refl _)
set_option maxHeartbeats 4000000 in
set_option maxRecDepth 100000 in
theorem sX_X2_difference_1 (l : Launch) (dC : Nat → ClassId) (dI : Nat → Nat → Nat) (cy : Nat → ClassId) (x0 : Nat) (x : Nat → Nat) (p1 : Int32) (v : Nat → Int32) (f : Nat → Nat → Int32) (hIv : XI v)  : ctI l (dC, dI) cy yX2_difference cX2_difference 2 .int 4 127 0 0 Unit [.ref (x 29), .int p1] (XW cy x0 x v f) (fun r u => True) (fun u => XW cy x0 x v f) := by
  refine ctI_of (by decide) (Nat.le_of_ble_eq_true rfl) (fun p e s m below meth c A ls Q hx hb hml hts hown hE hP hD hA hl ret => ?_)
  have hown : s.vm.findClass RX2 = some m.cls := hown
  have hS : va_S A s.heap s.heap [] := va_S.rf
  have hl : lv_has ls 2 [(0, .ref (x 29)), (1, .int p1)] := hl
  refine lv_aload_n hx hb dX2_difference_0 rfl (lv_at hl 0 rfl) ?_
  refine lv_aload_n hx hb dX2_difference_1 rfl (lv_at hl 0 rfl) ?_
  refine va_get (D := (dC, dI)) (ci := 2) (v := .ref (x 21)) (C := RX2) (T := TX2) (N := 3) hx hb hts inB_2 hown hE.1 hP 30 rfl rfl 1 (Nat.le_of_ble_eq_true rfl) (hts _ k_415) (fun _ h9 => h9) rfl dX2_difference_2 ?_
  refine cbVi (n := 0) (rest := [.ref (x 29)]) hx hb hml hown hts hE hP hD hS hA (sX_X1_wearers_1 l dC dI cy x0 x  v f hIv ) k_1060 k_1061 k_1062 k_106 k_1063 (by decide +kernel) ⟨Nat.le_of_ble_eq_true rfl, Nat.le_of_ble_eq_true rfl⟩ 22 1 rfl rfl (rfl) hl.1 rfl (Nat.le_of_ble_eq_true rfl) dX2_difference_5 (fun r1 u H locs hw hP hD hS => ?_)
  refine cbVi (n := 1) (rest := []) hx hb hml hown hts hE hP hD hS hA (sX_X2_wideTogether_1 l dC dI cy x0 x r1 v f hIv ) k_1065 k_1066 k_1067 k_110 k_1068 (by decide +kernel) ⟨Nat.le_of_ble_eq_true rfl, Nat.le_of_ble_eq_true rfl⟩ 30 2 rfl rfl (rfl) hl.1 rfl (Nat.le_of_ble_eq_true rfl) dX2_difference_8 (fun r2 u H locs hw hP hD hS => ?_)
  refine lv_iconst (v := 2) hx hb dX2_difference_11 rfl ?_
  refine lv_aload_n hx hb dX2_difference_12 rfl (lv_at hl 0 rfl) ?_
  refine lv_iload_n hx hb dX2_difference_13 rfl (lv_at hl 1 rfl) ?_
  refine cbVi (n := 1) (rest := [.int 2, .int r2]) hx hb hml hown hts hE hP hD hS hA (sX_X2_wideTogether_1 l dC dI cy x0 x p1 v f hIv ) k_1065 k_1066 k_1067 k_110 k_1068 (by decide +kernel) ⟨Nat.le_of_ble_eq_true rfl, Nat.le_of_ble_eq_true rfl⟩ 30 2 rfl rfl (rfl) hl.1 rfl (Nat.le_of_ble_eq_true rfl) dX2_difference_14 (fun r3 u H locs hw hP hD hS => ?_)
  refine lv_imul hx hb dX2_difference_17 ?_
  refine lv_topi (fun t4 et4 => ?_)
  refine lv_isub hx hb dX2_difference_18 ?_
  refine lv_topi (fun t5 et5 => ?_)
  refine va_mabs hx hb (by rw [hml]; exact hl.1.symm) hown (hts _ k_1091) (hts _ k_1018) (hts _ k_119) (hts _ k_1019) (Nat.le_of_ble_eq_true rfl) (Nat.le_of_ble_eq_true rfl) (Nat.le_of_ble_eq_true rfl) (Nat.le_of_ble_eq_true rfl) dX2_difference_19 ?_
  refine lv_topi (fun t6 et6 => ?_)
  exact ret t6 () _ _ _ _ _ _ rfl trivial hP hD hS dX2_difference_22 (Nat.le_refl _) (Nat.le_refl _)
set_option maxHeartbeats 4000000 in
set_option maxRecDepth 100000 in
theorem sX_X2_isEvener_1 (l : Launch) (dC : Nat → ClassId) (dI : Nat → Nat → Nat) (cy : Nat → ClassId) (x0 : Nat) (x : Nat → Nat) (p1 : Int32) (p2 : Int32) (v : Nat → Int32) (f : Nat → Nat → Int32) (hIv : XI v)  : ctI l (dC, dI) cy yX2_isEvener cX2_isEvener 4 .boolean 5 148 0 0 Unit [.ref (x 29), .int p1, .int p2] (XW cy x0 x v f) (fun r u => ((r = 1) ∨ (r = 0))) (fun u => XW cy x0 x v f) := by
  refine ctI_of (by decide) (Nat.le_of_ble_eq_true rfl) (fun p e s m below meth c A ls Q hx hb hml hts hown hE hP hD hA hl ret => ?_)
  have hown : s.vm.findClass RX2 = some m.cls := hown
  have hS : va_S A s.heap s.heap [] := va_S.rf
  have hl : lv_has ls 4 [(0, .ref (x 29)), (1, .int p1), (2, .int p2)] := hl
  refine lv_aload_n hx hb dX2_isEvener_0 rfl (lv_at hl 0 rfl) ?_
  refine lv_iload_n hx hb dX2_isEvener_1 rfl (lv_at hl 1 rfl) ?_
  refine cbVi (n := 1) (rest := []) hx hb hml hown hts hE hP hD hS hA (sX_X2_difference_1 l dC dI cy x0 x p1 v f hIv ) k_1087 k_1088 k_1089 k_110 k_1090 (by decide +kernel) ⟨Nat.le_of_ble_eq_true rfl, Nat.le_of_ble_eq_true rfl⟩ 30 2 rfl rfl (rfl) hl.1 rfl (Nat.le_of_ble_eq_true rfl) dX2_isEvener_2 (fun r1 u H locs hw hP hD hS => ?_)
  refine lv_aload_n hx hb dX2_isEvener_5 rfl (lv_at hl 0 rfl) ?_
  refine lv_iload_n hx hb dX2_isEvener_6 rfl (lv_at hl 2 rfl) ?_
  refine cbVi (n := 1) (rest := [.int r1]) hx hb hml hown hts hE hP hD hS hA (sX_X2_difference_1 l dC dI cy x0 x p2 v f hIv ) k_1087 k_1088 k_1089 k_110 k_1090 (by decide +kernel) ⟨Nat.le_of_ble_eq_true rfl, Nat.le_of_ble_eq_true rfl⟩ 30 2 rfl rfl (rfl) hl.1 rfl (Nat.le_of_ble_eq_true rfl) dX2_isEvener_7 (fun r2 u H locs hw hP hD hS => ?_)
  refine lv_isub hx hb dX2_isEvener_10 ?_
  refine lv_topi (fun t3 et3 => ?_)
  refine lv_istore_n (lv' := [(3, .int t3), (0, .ref (x 29)), (1, .int p1), (2, .int p2)]) hx hb dX2_isEvener_11 rfl hl (Nat.le_of_ble_eq_true rfl) rfl (fun ls hl => ?_)
  refine lv_iload_n hx hb dX2_isEvener_12 rfl (lv_at hl 0 rfl) ?_
  refine lv_if_lt (tgt := 25) hx hb dX2_isEvener_13 rfl (fun c4 => ?_) (fun c4 => ?_)
  · skip
    have zc4 : t3.toInt < 0 := by rw [fa_lt, show (0 : Int32).toInt = 0 from by decide] at c4; exact c4
    refine lv_iconst (v := 1) hx hb dX2_isEvener_25 rfl ?_
    refine lv_goto (tgt := 30) hx hb dX2_isEvener_26 rfl ?_
    exact ret 1 () _ _ _ _ _ _ rfl (Or.inl rfl) hP hD hS dX2_isEvener_30 (Nat.le_refl _) (Nat.le_refl _)
  · skip
    have zc4 : ¬ (t3.toInt < 0) := by rw [fa_lt, show (0 : Int32).toInt = 0 from by decide] at c4; exact c4
    refine lv_iload_n hx hb dX2_isEvener_16 rfl (lv_at hl 0 rfl) ?_
    refine lv_if_ne (tgt := 29) hx hb dX2_isEvener_17 rfl (fun c5 => ?_) (fun c5 => ?_)
    · skip
      have zc5 : ¬ (t3.toInt = 0) := by rw [fa_eq, show (0 : Int32).toInt = 0 from by decide] at c5; exact c5
      refine lv_iconst (v := 0) hx hb dX2_isEvener_29 rfl ?_
      exact ret 0 () _ _ _ _ _ _ rfl (Or.inr rfl) hP hD hS dX2_isEvener_30 (Nat.le_refl _) (Nat.le_refl _)
    · skip
      have zc5 : t3.toInt = 0 := by rw [fa_eq, show (0 : Int32).toInt = 0 from by decide] at c5; exact c5
      refine lv_iload_n hx hb dX2_isEvener_20 rfl (lv_at hl 2 rfl) ?_
      refine lv_iload_n hx hb dX2_isEvener_21 rfl (lv_at hl 3 rfl) ?_
      refine lv_icmp_ge (tgt := 29) hx hb dX2_isEvener_22 rfl (fun c6 => ?_) (fun c6 => ?_)
      · skip
        have zc6 : p2.toInt ≤ p1.toInt := by rw [fa_le] at c6; exact c6
        have rg7 := fb_rng p1
        have rg8 := fb_rng p2
        refine lv_iconst (v := 0) hx hb dX2_isEvener_29 rfl ?_
        exact ret 0 () _ _ _ _ _ _ rfl (Or.inr rfl) hP hD hS dX2_isEvener_30 (Nat.le_refl _) (Nat.le_refl _)
      · skip
        have zc6 : ¬ (p2.toInt ≤ p1.toInt) := by rw [fa_le] at c6; exact c6
        have rg9 := fb_rng p1
        have rg10 := fb_rng p2
        refine lv_iconst (v := 1) hx hb dX2_isEvener_25 rfl ?_
        refine lv_goto (tgt := 30) hx hb dX2_isEvener_26 rfl ?_
        exact ret 1 () _ _ _ _ _ _ rfl (Or.inl rfl) hP hD hS dX2_isEvener_30 (Nat.le_refl _) (Nat.le_refl _)
set_option maxHeartbeats 4000000 in
set_option maxRecDepth 100000 in
theorem sX_X2_leftWing_1 (l : Launch) (dC : Nat → ClassId) (dI : Nat → Nat → Nat) (cy : Nat → ClassId) (x0 : Nat) (x : Nat → Nat)  (v : Nat → Int32) (f : Nat → Nat → Int32) (hIv : XI v)  : ctI l (dC, dI) cy yX2_leftWing cX2_leftWing 6 .int 6 171 0 0 Unit [.ref (x 29)] (XW cy x0 x v f) (fun r u => True) (fun u => XW cy x0 x v f) := by
  refine ctI_of (by decide) (Nat.le_of_ble_eq_true rfl) (fun p e s m below meth c A ls Q hx hb hml hts hown hE hP hD hA hl ret => ?_)
  have hown : s.vm.findClass RX2 = some m.cls := hown
  have hS : va_S A s.heap s.heap [] := va_S.rf
  have hl : lv_has ls 6 [(0, .ref (x 29))] := hl
  refine lv_aload_n hx hb dX2_leftWing_0 rfl (lv_at hl 0 rfl) ?_
  refine va_get (D := (dC, dI)) (ci := 2) (v := .ref (x 21)) (C := RX2) (T := TX2) (N := 3) hx hb hts inB_2 hown hE.1 hP 30 rfl rfl 1 (Nat.le_of_ble_eq_true rfl) (hts _ k_415) (fun _ h9 => h9) rfl dX2_leftWing_1 ?_
  refine cbVi (n := 0) (rest := []) hx hb hml hown hts hE hP hD hS hA (sX_X1_wearers_1 l dC dI cy x0 x  v f hIv ) k_1060 k_1061 k_1062 k_106 k_1063 (by decide +kernel) ⟨Nat.le_of_ble_eq_true rfl, Nat.le_of_ble_eq_true rfl⟩ 22 1 rfl rfl (rfl) hl.1 rfl (Nat.le_of_ble_eq_true rfl) dX2_leftWing_4 (fun r1 u H locs hw hP hD hS => ?_)
  refine lv_istore_n (lv' := [(1, .int r1), (0, .ref (x 29))]) hx hb dX2_leftWing_7 rfl hl (Nat.le_of_ble_eq_true rfl) rfl (fun ls hl => ?_)
  refine lv_iload_n hx hb dX2_leftWing_8 rfl (lv_at hl 0 rfl) ?_
  refine cbSi (n := 1) (rest := []) hx hb hml hown hts hE hP hD hS hA (sX_J6_lowestOneBit_0f7a4_1 l dC dI cy x0 x r1 v f hIv ) k_1080 k_1081 k_121 k_1082 (by decide +kernel) ⟨Nat.le_of_ble_eq_true rfl, Nat.le_of_ble_eq_true rfl⟩ (rfl) hl.1 rfl (Nat.le_of_ble_eq_true rfl) dX2_leftWing_9 (fun r2 u H locs hw hP hD hS => ?_)
  refine lv_istore_n (lv' := [(2, .int r2), (1, .int r1), (0, .ref (x 29))]) hx hb dX2_leftWing_12 rfl hl (Nat.le_of_ble_eq_true rfl) rfl (fun ls hl => ?_)
  refine lv_iload_n hx hb dX2_leftWing_13 rfl (lv_at hl 1 rfl) ?_
  refine lv_istore_n (lv' := [(3, .int r1), (2, .int r2), (1, .int r1), (0, .ref (x 29))]) hx hb dX2_leftWing_14 rfl hl (Nat.le_of_ble_eq_true rfl) rfl (fun ls hl => ?_)
  refine lv_iconst (v := 0) hx hb dX2_leftWing_15 rfl ?_
  refine lv_istore (lv' := [(4, .int 0), (3, .int r1), (2, .int r2), (1, .int r1), (0, .ref (x 29))]) hx hb dX2_leftWing_16 hl (Nat.le_of_ble_eq_true rfl) rfl (fun ls hl => ?_)
  have lp3 : ∀ (n3 : Nat) (l3_3 : Int32) (l4_3 : Int32), ((0 : Int) ≤ l4_3.toInt ∧ l4_3.toInt ≤ 2147483647) → (2147483647 - l4_3.toInt).toNat < n3 → ∀ (H : Heap) (locs : List Loc) (ls : Array Slot), va_P (dC, dI) vwCl (XW cy x0 x v f) H → va_D A (XW cy x0 x v f) → va_S A s.heap H locs → lv_has ls 6 [(4, .int l4_3), (3, .int l3_3), (2, .int r2), (1, .int r1), (0, .ref (x 29))] → W p l e { frames := 6, cells := 0, slots := 0, locals := 171 } s m ([.ref (x 29)] : List Value).toArray below meth c H locs 0 0 Q (F0 m 18 ls []) := by
    intro n3
    induction n3 with
    | zero => intro l3_3 l4_3 hr4_3 hm; exact absurd hm (Nat.not_lt_zero _)
    | succ n3 ih3 =>
      intro l3_3 l4_3 hr4_3 hm3 H locs ls hP hD hS hl
      refine lv_iload hx hb dX2_leftWing_18 (lv_at hl 0 rfl) ?_
      refine lv_bipush (v := 64) hx hb dX2_leftWing_20 rfl ?_
      refine lv_icmp_ge (tgt := 73) hx hb dX2_leftWing_22 rfl (fun c4 => ?_) (fun c4 => ?_)
      · skip
        have zc4 : 64 ≤ l4_3.toInt := by rw [fa_le, show (64 : Int32).toInt = 64 from by decide] at c4; exact c4
        refine lv_iload_n hx hb dX2_leftWing_73 rfl (lv_at hl 1 rfl) ?_
        exact ret l3_3 () _ _ _ _ _ _ rfl trivial hP hD hS dX2_leftWing_74 (Nat.le_refl _) (Nat.le_refl _)
      · skip
        have zc4 : ¬ (64 ≤ l4_3.toInt) := by rw [fa_le, show (64 : Int32).toInt = 64 from by decide] at c4; exact c4
        refine lv_iload hx hb dX2_leftWing_25 (lv_at hl 0 rfl) ?_
        refine lv_iload_n hx hb dX2_leftWing_27 rfl (lv_at hl 3 rfl) ?_
        refine lv_iconst (v := (-1)) hx hb dX2_leftWing_28 rfl ?_
        refine lv_ixor hx hb dX2_leftWing_29 ?_
        refine lv_topi (fun t5 et5 => ?_)
        refine lv_iand hx hb dX2_leftWing_30 ?_
        refine lv_topi (fun t6 et6 => ?_)
        refine lv_if_ne (tgt := 46) hx hb dX2_leftWing_31 rfl (fun c7 => ?_) (fun c7 => ?_)
        · skip
          have zc7 : ¬ (t6.toInt = 0) := by rw [fa_eq, show (0 : Int32).toInt = 0 from by decide] at c7; exact c7
          refine lv_iconst (v := 0) hx hb dX2_leftWing_46 rfl ?_
          refine lv_istore (lv' := [(5, .int 0), (4, .int l4_3), (3, .int l3_3), (2, .int r2), (1, .int r1), (0, .ref (x 29))]) hx hb dX2_leftWing_47 hl (Nat.le_of_ble_eq_true rfl) rfl (fun ls hl => ?_)
          refine lv_iload hx hb dX2_leftWing_49 (lv_at hl 0 rfl) ?_
          refine lv_if_eq (tgt := 67) hx hb dX2_leftWing_51 rfl (fun _ => ?_) (fun c0 => absurd (by decide) c0)
          obtain ⟨t8, et8⟩ : ∃ y : Int32, y = l4_3 + 1 := ⟨_, rfl⟩
          have rg9 := fb_rng l4_3
          have zt8 : t8.toInt = l4_3.toInt + 1 := by rw [et8]; exact add_i rfl (by decide) (by omega) (by omega)
          refine lv_iinc (v := t8) (lv' := [(4, .int t8), (5, .int 0), (3, .int l3_3), (2, .int r2), (1, .int r1), (0, .ref (x 29))]) hx hb dX2_leftWing_67 hl (k := 1) rfl (by rw [et8]; rfl) (by decide) rfl (fun ls hl => ?_)
          refine lv_goto (tgt := 18) hx hb dX2_leftWing_70 rfl ?_
          have rg10 := fb_rng t8
          exact ih3 l3_3 t8 ⟨show (0 : Int) ≤ t8.toInt by omega, show t8.toInt ≤ (2147483647 : Int) by omega⟩ (by show (2147483647 - t8.toInt).toNat < n3; omega) _ _ _ hP hD hS (lv_sub hl [0, 2, 3, 4, 5] rfl)
        · skip
          have zc7 : t6.toInt = 0 := by rw [fa_eq, show (0 : Int32).toInt = 0 from by decide] at c7; exact c7
          refine lv_iload hx hb dX2_leftWing_34 (lv_at hl 0 rfl) ?_
          refine lv_iload_n hx hb dX2_leftWing_36 rfl (lv_at hl 2 rfl) ?_
          refine lv_iand hx hb dX2_leftWing_37 ?_
          refine lv_topi (fun t11 et11 => ?_)
          refine lv_iload_n hx hb dX2_leftWing_38 rfl (lv_at hl 2 rfl) ?_
          refine lv_icmp_ne (tgt := 46) hx hb dX2_leftWing_39 rfl (fun c12 => ?_) (fun c12 => ?_)
          · skip
            have zc12 : ¬ (t11.toInt = r2.toInt) := by rw [fa_eq] at c12; exact c12
            have rg13 := fb_rng t11
            have rg14 := fb_rng r2
            refine lv_iconst (v := 0) hx hb dX2_leftWing_46 rfl ?_
            refine lv_istore (lv' := [(5, .int 0), (4, .int l4_3), (3, .int l3_3), (2, .int r2), (1, .int r1), (0, .ref (x 29))]) hx hb dX2_leftWing_47 hl (Nat.le_of_ble_eq_true rfl) rfl (fun ls hl => ?_)
            refine lv_iload hx hb dX2_leftWing_49 (lv_at hl 0 rfl) ?_
            refine lv_if_eq (tgt := 67) hx hb dX2_leftWing_51 rfl (fun _ => ?_) (fun c0 => absurd (by decide) c0)
            obtain ⟨t15, et15⟩ : ∃ y : Int32, y = l4_3 + 1 := ⟨_, rfl⟩
            have rg16 := fb_rng l4_3
            have zt15 : t15.toInt = l4_3.toInt + 1 := by rw [et15]; exact add_i rfl (by decide) (by omega) (by omega)
            refine lv_iinc (v := t15) (lv' := [(4, .int t15), (5, .int 0), (3, .int l3_3), (2, .int r2), (1, .int r1), (0, .ref (x 29))]) hx hb dX2_leftWing_67 hl (k := 1) rfl (by rw [et15]; rfl) (by decide) rfl (fun ls hl => ?_)
            refine lv_goto (tgt := 18) hx hb dX2_leftWing_70 rfl ?_
            have rg17 := fb_rng t15
            exact ih3 l3_3 t15 ⟨show (0 : Int) ≤ t15.toInt by omega, show t15.toInt ≤ (2147483647 : Int) by omega⟩ (by show (2147483647 - t15.toInt).toNat < n3; omega) _ _ _ hP hD hS (lv_sub hl [0, 2, 3, 4, 5] rfl)
          · skip
            have zc12 : t11.toInt = r2.toInt := by rw [fa_eq] at c12; exact c12
            have rg18 := fb_rng t11
            have rg19 := fb_rng r2
            refine lv_iconst (v := 1) hx hb dX2_leftWing_42 rfl ?_
            refine lv_goto (tgt := 47) hx hb dX2_leftWing_43 rfl ?_
            refine lv_istore (lv' := [(5, .int 1), (4, .int l4_3), (3, .int l3_3), (2, .int r2), (1, .int r1), (0, .ref (x 29))]) hx hb dX2_leftWing_47 hl (Nat.le_of_ble_eq_true rfl) rfl (fun ls hl => ?_)
            refine lv_iload hx hb dX2_leftWing_49 (lv_at hl 0 rfl) ?_
            refine lv_if_eq (tgt := 67) hx hb dX2_leftWing_51 rfl (fun c0 => absurd c0 (by decide)) (fun _ => ?_)
            refine lv_aload_n hx hb dX2_leftWing_54 rfl (lv_at hl 5 rfl) ?_
            refine lv_iload hx hb dX2_leftWing_55 (lv_at hl 1 rfl) ?_
            refine lv_iload_n hx hb dX2_leftWing_57 rfl (lv_at hl 2 rfl) ?_
            refine cbVi (n := 2) (rest := []) hx hb hml hown hts hE hP hD hS hA (sX_X2_isEvener_1 l dC dI cy x0 x l4_3 l3_3 v f hIv ) k_1083 k_1085 k_30 k_110 k_1086 (by decide +kernel) ⟨Nat.le_of_ble_eq_true rfl, Nat.le_of_ble_eq_true rfl⟩ 30 2 rfl rfl (rfl) hl.1 rfl (Nat.le_of_ble_eq_true rfl) dX2_leftWing_58 (fun r20 u H locs hw hP hD hS => ?_)
            rcases hw with ⟨g21⟩ | ⟨g21⟩
            · skip
              subst g21
              refine lv_if_eq (tgt := 67) hx hb dX2_leftWing_61 rfl (fun c0 => absurd c0 (by decide)) (fun _ => ?_)
              refine lv_iload hx hb dX2_leftWing_64 (lv_at hl 1 rfl) ?_
              refine lv_istore_n (lv' := [(3, .int l4_3), (5, .int 1), (4, .int l4_3), (2, .int r2), (1, .int r1), (0, .ref (x 29))]) hx hb dX2_leftWing_66 rfl hl (Nat.le_of_ble_eq_true rfl) rfl (fun ls hl => ?_)
              obtain ⟨t22, et22⟩ : ∃ y : Int32, y = l4_3 + 1 := ⟨_, rfl⟩
              have rg23 := fb_rng l4_3
              have zt22 : t22.toInt = l4_3.toInt + 1 := by rw [et22]; exact add_i rfl (by decide) (by omega) (by omega)
              refine lv_iinc (v := t22) (lv' := [(4, .int t22), (3, .int l4_3), (5, .int 1), (2, .int r2), (1, .int r1), (0, .ref (x 29))]) hx hb dX2_leftWing_67 hl (k := 2) rfl (by rw [et22]; rfl) (by decide) rfl (fun ls hl => ?_)
              refine lv_goto (tgt := 18) hx hb dX2_leftWing_70 rfl ?_
              have rg24 := fb_rng t22
              exact ih3 l4_3 t22 ⟨show (0 : Int) ≤ t22.toInt by omega, show t22.toInt ≤ (2147483647 : Int) by omega⟩ (by show (2147483647 - t22.toInt).toNat < n3; omega) _ _ _ hP hD hS (lv_sub hl [0, 1, 3, 4, 5] rfl)
            · skip
              subst g21
              refine lv_if_eq (tgt := 67) hx hb dX2_leftWing_61 rfl (fun _ => ?_) (fun c0 => absurd (by decide) c0)
              obtain ⟨t25, et25⟩ : ∃ y : Int32, y = l4_3 + 1 := ⟨_, rfl⟩
              have rg26 := fb_rng l4_3
              have zt25 : t25.toInt = l4_3.toInt + 1 := by rw [et25]; exact add_i rfl (by decide) (by omega) (by omega)
              refine lv_iinc (v := t25) (lv' := [(4, .int t25), (5, .int 1), (3, .int l3_3), (2, .int r2), (1, .int r1), (0, .ref (x 29))]) hx hb dX2_leftWing_67 hl (k := 1) rfl (by rw [et25]; rfl) (by decide) rfl (fun ls hl => ?_)
              refine lv_goto (tgt := 18) hx hb dX2_leftWing_70 rfl ?_
              have rg27 := fb_rng t25
              exact ih3 l3_3 t25 ⟨show (0 : Int) ≤ t25.toInt by omega, show t25.toInt ≤ (2147483647 : Int) by omega⟩ (by show (2147483647 - t25.toInt).toNat < n3; omega) _ _ _ hP hD hS (lv_sub hl [0, 2, 3, 4, 5] rfl)
  exact lp3 _ r1 0 ⟨by decide, by decide⟩ (Nat.lt_succ_self _) _ _ _ hP hD hS (lv_sub hl [0, 1, 2, 3, 4] rfl)
set_option maxHeartbeats 4000000 in
set_option maxRecDepth 100000 in
theorem sX_X10_wings_1 (l : Launch) (dC : Nat → ClassId) (dI : Nat → Nat → Nat) (cy : Nat → ClassId) (x0 : Nat) (x : Nat → Nat) (p1 : Int32) (v : Nat → Int32) (f : Nat → Nat → Int32) (hIv : XI v)  : ctI l (dC, dI) cy yX10_wings cX10_wings 3 .int 7 196 0 0 Unit [.ref x0, .int p1] (XW cy x0 x v f) (fun r u => True) (fun u => XW cy x0 x v f) := by
  refine ctI_of (by decide) (Nat.le_of_ble_eq_true rfl) (fun p e s m below meth c A ls Q hx hb hml hts hown hE hP hD hA hl ret => ?_)
  have hown : s.vm.findClass RX10 = some m.cls := hown
  have hS : va_S A s.heap s.heap [] := va_S.rf
  have hl : lv_has ls 3 [(0, .ref x0), (1, .int p1)] := hl
  refine lv_iload_n hx hb dX10_wings_0 rfl (lv_at hl 1 rfl) ?_
  refine lv_if_lt (tgt := 9) hx hb dX10_wings_1 rfl (fun c1 => ?_) (fun c1 => ?_)
  · skip
    have zc1 : p1.toInt < 0 := by rw [fa_lt, show (0 : Int32).toInt = 0 from by decide] at c1; exact c1
    refine lv_iconst (v := (-1)) hx hb dX10_wings_9 rfl ?_
    exact ret (-1) () _ _ _ _ _ _ rfl trivial hP hD hS dX10_wings_10 (Nat.le_refl _) (Nat.le_refl _)
  · skip
    have zc1 : ¬ (p1.toInt < 0) := by rw [fa_lt, show (0 : Int32).toInt = 0 from by decide] at c1; exact c1
    refine lv_iload_n hx hb dX10_wings_4 rfl (lv_at hl 1 rfl) ?_
    refine lv_iconst (v := 1) hx hb dX10_wings_5 rfl ?_
    refine lv_icmp_le (tgt := 11) hx hb dX10_wings_6 rfl (fun c2 => ?_) (fun c2 => ?_)
    · skip
      have zc2 : p1.toInt ≤ 1 := by rw [fa_le, show (1 : Int32).toInt = 1 from by decide] at c2; exact c2
      refine lv_aload_n hx hb dX10_wings_11 rfl (lv_at hl 0 rfl) ?_
      refine va_get (D := (dC, dI)) (ci := 10) (v := .ref (x 29)) (C := RX10) (T := TX10) (N := 10) hx hb hts inB_10 hown hE.1 hP 0 rfl rfl 6 (Nat.le_of_ble_eq_true rfl) (hts _ k_497) (fun _ h9 => h9) rfl dX10_wings_12 ?_
      refine cbVi (n := 0) (rest := []) hx hb hml hown hts hE hP hD hS hA (sX_X2_leftWing_1 l dC dI cy x0 x  v f hIv ) k_1076 k_1077 k_1078 k_110 k_1079 (by decide +kernel) ⟨Nat.le_of_ble_eq_true rfl, Nat.le_of_ble_eq_true rfl⟩ 30 2 rfl rfl (rfl) hl.1 rfl (Nat.le_of_ble_eq_true rfl) dX10_wings_15 (fun r3 u H locs hw hP hD hS => ?_)
      refine lv_istore_n (lv' := [(2, .int r3), (0, .ref x0), (1, .int p1)]) hx hb dX10_wings_18 rfl hl (Nat.le_of_ble_eq_true rfl) rfl (fun ls hl => ?_)
      refine lv_iload_n hx hb dX10_wings_19 rfl (lv_at hl 2 rfl) ?_
      refine lv_iconst (v := 1) hx hb dX10_wings_20 rfl ?_
      refine lv_icmp_ne (tgt := 28) hx hb dX10_wings_21 rfl (fun c4 => ?_) (fun c4 => ?_)
      · skip
        have zc4 : ¬ (p1.toInt = 1) := by rw [fa_eq, show (1 : Int32).toInt = 1 from by decide] at c4; exact c4
        refine lv_aload_n hx hb dX10_wings_28 rfl (lv_at hl 1 rfl) ?_
        refine va_get (D := (dC, dI)) (ci := 10) (v := .ref (x 29)) (C := RX10) (T := TX10) (N := 10) hx hb hts inB_10 hown hE.1 hP 0 rfl rfl 6 (Nat.le_of_ble_eq_true rfl) (hts _ k_497) (fun _ h9 => h9) rfl dX10_wings_29 ?_
        refine lv_iload_n hx hb dX10_wings_32 rfl (lv_at hl 0 rfl) ?_
        refine cbVi (n := 1) (rest := []) hx hb hml hown hts hE hP hD hS hA (sX_X2_difference_1 l dC dI cy x0 x r3 v f hIv ) k_1092 k_1088 k_1089 k_110 k_1090 (by decide +kernel) ⟨Nat.le_of_ble_eq_true rfl, Nat.le_of_ble_eq_true rfl⟩ 30 2 rfl rfl (rfl) hl.1 rfl (Nat.le_of_ble_eq_true rfl) dX10_wings_33 (fun r5 u H locs hw hP hD hS => ?_)
        exact ret r5 () _ _ _ _ _ _ rfl trivial hP hD hS dX10_wings_36 (Nat.le_refl _) (Nat.le_refl _)
      · skip
        have zc4 : p1.toInt = 1 := by rw [fa_eq, show (1 : Int32).toInt = 1 from by decide] at c4; exact c4
        refine lv_iload_n hx hb dX10_wings_24 rfl (lv_at hl 0 rfl) ?_
        refine lv_goto (tgt := 36) hx hb dX10_wings_25 rfl ?_
        exact ret r3 () _ _ _ _ _ _ rfl trivial hP hD hS dX10_wings_36 (Nat.le_refl _) (Nat.le_refl _)
    · skip
      have zc2 : ¬ (p1.toInt ≤ 1) := by rw [fa_le, show (1 : Int32).toInt = 1 from by decide] at c2; exact c2
      refine lv_iconst (v := (-1)) hx hb dX10_wings_9 rfl ?_
      exact ret (-1) () _ _ _ _ _ _ rfl trivial hP hD hS dX10_wings_10 (Nat.le_refl _) (Nat.le_refl _)
set_option maxHeartbeats 4000000 in
set_option maxRecDepth 100000 in
theorem sX_X2_rowLength_1 (l : Launch) (dC : Nat → ClassId) (dI : Nat → Nat → Nat) (cy : Nat → ClassId) (x0 : Nat) (x : Nat → Nat) (p1 : Int32) (v : Nat → Int32) (f : Nat → Nat → Int32) (hIv : XI v)  : ctI l (dC, dI) cy yX2_rowLength cX2_rowLength 5 .int 3 104 0 0 Unit [.ref (x 29), .int p1] (XW cy x0 x v f) (fun r u => True) (fun u => XW cy x0 x v f) := by
  refine ctI_of (by decide) (Nat.le_of_ble_eq_true rfl) (fun p e s m below meth c A ls Q hx hb hml hts hown hE hP hD hA hl ret => ?_)
  have hown : s.vm.findClass RX2 = some m.cls := hown
  have hS : va_S A s.heap s.heap [] := va_S.rf
  have hl : lv_has ls 5 [(0, .ref (x 29)), (1, .int p1)] := hl
  refine lv_iconst (v := 0) hx hb dX2_rowLength_0 rfl ?_
  refine lv_istore_n (lv' := [(2, .int 0), (0, .ref (x 29)), (1, .int p1)]) hx hb dX2_rowLength_1 rfl hl (Nat.le_of_ble_eq_true rfl) rfl (fun ls hl => ?_)
  refine lv_iconst (v := 0) hx hb dX2_rowLength_2 rfl ?_
  refine lv_istore_n (lv' := [(3, .int 0), (2, .int 0), (0, .ref (x 29)), (1, .int p1)]) hx hb dX2_rowLength_3 rfl hl (Nat.le_of_ble_eq_true rfl) rfl (fun ls hl => ?_)
  refine lv_iconst (v := 0) hx hb dX2_rowLength_4 rfl ?_
  refine lv_istore (lv' := [(4, .int 0), (3, .int 0), (2, .int 0), (0, .ref (x 29)), (1, .int p1)]) hx hb dX2_rowLength_5 hl (Nat.le_of_ble_eq_true rfl) rfl (fun ls hl => ?_)
  have lp1 : ∀ (n1 : Nat) (l2_1 : Int32) (l3_1 : Int32) (l4_1 : Int32), ((0 : Int) ≤ l4_1.toInt ∧ l4_1.toInt ≤ 2147483647) → (2147483647 - l4_1.toInt).toNat < n1 → ∀ (H : Heap) (locs : List Loc) (ls : Array Slot), va_P (dC, dI) vwCl (XW cy x0 x v f) H → va_D A (XW cy x0 x v f) → va_S A s.heap H locs → lv_has ls 5 [(4, .int l4_1), (3, .int l3_1), (2, .int l2_1), (0, .ref (x 29)), (1, .int p1)] → W p l e { frames := 3, cells := 0, slots := 0, locals := 104 } s m ([.ref (x 29), .int p1] : List Value).toArray below meth c H locs 0 0 Q (F0 m 7 ls []) := by
    intro n1
    induction n1 with
    | zero => intro l2_1 l3_1 l4_1 hr4_1 hm; exact absurd hm (Nat.not_lt_zero _)
    | succ n1 ih1 =>
      intro l2_1 l3_1 l4_1 hr4_1 hm1 H locs ls hP hD hS hl
      refine lv_iload hx hb dX2_rowLength_7 (lv_at hl 0 rfl) ?_
      refine lv_aload_n hx hb dX2_rowLength_9 rfl (lv_at hl 3 rfl) ?_
      refine va_get (D := (dC, dI)) (ci := 2) (v := .ref (x 26)) (C := RX2) (T := TX2) (N := 3) hx hb hts inB_2 hown hE.1 hP 30 rfl rfl 0 (Nat.le_of_ble_eq_true rfl) (hts _ k_414) (fun _ h9 => h9) rfl dX2_rowLength_10 ?_
      refine va_getN (D := (dC, dI)) (ci := 7) (v := .int (v 32)) (C := RX7) (T := TX7) (N := 10) hx hb hts inB_7 hown hE.1 hP 27 rfl rfl 4 (Nat.le_of_ble_eq_true rfl) (va_Nw.use rfl (hE.2 _ k_223)) (fun _ h9 => h9) rfl dX2_rowLength_13 ?_
      have b32_v : 0 ≤ (v 32).toInt ∧ (v 32).toInt ≤ 6 := XI.b hIv 32 (by decide)
      refine lv_icmp_ge (tgt := 62) hx hb dX2_rowLength_16 rfl (fun c2 => ?_) (fun c2 => ?_)
      · skip
        have zc2 : (v 32).toInt ≤ l4_1.toInt := by rw [fa_le] at c2; exact c2
        have rg3 := fb_rng l4_1
        have rg4 := fb_rng (v 32)
        refine lv_iload_n hx hb dX2_rowLength_62 rfl (lv_at hl 2 rfl) ?_
        refine lv_aload_n hx hb dX2_rowLength_63 rfl (lv_at hl 3 rfl) ?_
        refine va_get (D := (dC, dI)) (ci := 2) (v := .ref (x 26)) (C := RX2) (T := TX2) (N := 3) hx hb hts inB_2 hown hE.1 hP 30 rfl rfl 0 (Nat.le_of_ble_eq_true rfl) (hts _ k_414) (fun _ h9 => h9) rfl dX2_rowLength_64 ?_
        refine va_getN (D := (dC, dI)) (ci := 7) (v := .int (v 34)) (C := RX7) (T := TX7) (N := 10) hx hb hts inB_7 hown hE.1 hP 27 rfl rfl 6 (Nat.le_of_ble_eq_true rfl) (va_Nw.use rfl (hE.2 _ k_235)) (fun _ h9 => h9) rfl dX2_rowLength_67 ?_
        refine lv_icmp_le (tgt := 77) hx hb dX2_rowLength_70 rfl (fun c5 => ?_) (fun c5 => ?_)
        · skip
          have zc5 : l2_1.toInt ≤ (v 34).toInt := by rw [fa_le] at c5; exact c5
          have rg6 := fb_rng l2_1
          have rg7 := fb_rng (v 34)
          refine lv_iload_n hx hb dX2_rowLength_77 rfl (lv_at hl 1 rfl) ?_
          exact ret l3_1 () _ _ _ _ _ _ rfl trivial hP hD hS dX2_rowLength_78 (Nat.le_refl _) (Nat.le_refl _)
        · skip
          have zc5 : ¬ (l2_1.toInt ≤ (v 34).toInt) := by rw [fa_le] at c5; exact c5
          have rg8 := fb_rng l2_1
          have rg9 := fb_rng (v 34)
          refine lv_iconst (v := (-1)) hx hb dX2_rowLength_73 rfl ?_
          refine lv_goto (tgt := 78) hx hb dX2_rowLength_74 rfl ?_
          exact ret (-1) () _ _ _ _ _ _ rfl trivial hP hD hS dX2_rowLength_78 (Nat.le_refl _) (Nat.le_refl _)
      · skip
        have zc2 : ¬ ((v 32).toInt ≤ l4_1.toInt) := by rw [fa_le] at c2; exact c2
        have rg10 := fb_rng l4_1
        have rg11 := fb_rng (v 32)
        refine lv_iload_n hx hb dX2_rowLength_19 rfl (lv_at hl 4 rfl) ?_
        refine lv_iload hx hb dX2_rowLength_20 (lv_at hl 0 rfl) ?_
        refine lv_ishr hx hb dX2_rowLength_22 ?_
        refine lv_topi (fun t12 et12 => ?_)
        refine lv_iconst (v := 1) hx hb dX2_rowLength_23 rfl ?_
        refine lv_iand hx hb dX2_rowLength_24 ?_
        refine lv_topi (fun t13 et13 => ?_)
        have zt13 : 0 ≤ t13.toInt ∧ t13.toInt < 2 := by rw [et13]; exact and_rng _ (k := 1) (by decide) (by decide)
        refine lv_if_eq (tgt := 56) hx hb dX2_rowLength_25 rfl (fun c14 => ?_) (fun c14 => ?_)
        · skip
          have zc14 : t13.toInt = 0 := by rw [fa_eq, show (0 : Int32).toInt = 0 from by decide] at c14; exact c14
          obtain ⟨t15, et15⟩ : ∃ y : Int32, y = l4_1 + 1 := ⟨_, rfl⟩
          have zt15 : t15.toInt = l4_1.toInt + 1 := by rw [et15]; exact add_i rfl (by decide) (by omega) (by omega)
          refine lv_iinc (v := t15) (lv' := [(4, .int t15), (3, .int l3_1), (2, .int l2_1), (0, .ref (x 29)), (1, .int p1)]) hx hb dX2_rowLength_56 hl (k := 0) rfl (by rw [et15]; rfl) (by decide) rfl (fun ls hl => ?_)
          refine lv_goto (tgt := 7) hx hb dX2_rowLength_59 rfl ?_
          have rg16 := fb_rng t15
          exact ih1 l2_1 l3_1 t15 ⟨show (0 : Int) ≤ t15.toInt by omega, show t15.toInt ≤ (2147483647 : Int) by omega⟩ (by show (2147483647 - t15.toInt).toNat < n1; omega) _ _ _ hP hD hS (lv_sub hl [0, 1, 2, 3, 4] rfl)
        · skip
          have zc14 : ¬ (t13.toInt = 0) := by rw [fa_eq, show (0 : Int32).toInt = 0 from by decide] at c14; exact c14
          refine lv_iload_n hx hb dX2_rowLength_28 rfl (lv_at hl 2 rfl) ?_
          refine lv_aload_n hx hb dX2_rowLength_29 rfl (lv_at hl 3 rfl) ?_
          refine va_get (D := (dC, dI)) (ci := 2) (v := .ref (x 21)) (C := RX2) (T := TX2) (N := 3) hx hb hts inB_2 hown hE.1 hP 30 rfl rfl 1 (Nat.le_of_ble_eq_true rfl) (hts _ k_415) (fun _ h9 => h9) rfl dX2_rowLength_30 ?_
          refine lv_iconst (v := 1) hx hb dX2_rowLength_33 rfl ?_
          refine lv_iload hx hb dX2_rowLength_34 (lv_at hl 0 rfl) ?_
          refine cbVi (n := 2) (rest := [.int l2_1]) hx hb hml hown hts hE hP hD hS hA (sX_X1_part_1 l dC dI cy x0 x 1 l4_1 v f hIv ) k_1070 k_828 k_829 k_106 k_830 (by decide +kernel) ⟨Nat.le_of_ble_eq_true rfl, Nat.le_of_ble_eq_true rfl⟩ 22 1 rfl rfl (rfl) hl.1 rfl (Nat.le_of_ble_eq_true rfl) dX2_rowLength_36 (fun r17 u H locs hw hP hD hS => ?_)
          refine lv_iadd hx hb dX2_rowLength_39 ?_
          refine lv_topi (fun t18 et18 => ?_)
          refine lv_istore_n (lv' := [(2, .int t18), (4, .int l4_1), (3, .int l3_1), (0, .ref (x 29)), (1, .int p1)]) hx hb dX2_rowLength_40 rfl hl (Nat.le_of_ble_eq_true rfl) rfl (fun ls hl => ?_)
          refine lv_iload_n hx hb dX2_rowLength_41 rfl (lv_at hl 2 rfl) ?_
          refine lv_aload_n hx hb dX2_rowLength_42 rfl (lv_at hl 3 rfl) ?_
          refine va_get (D := (dC, dI)) (ci := 2) (v := .ref (x 21)) (C := RX2) (T := TX2) (N := 3) hx hb hts inB_2 hown hE.1 hP 30 rfl rfl 1 (Nat.le_of_ble_eq_true rfl) (hts _ k_415) (fun _ h9 => h9) rfl dX2_rowLength_43 ?_
          refine lv_iconst (v := 0) hx hb dX2_rowLength_46 rfl ?_
          refine lv_iload hx hb dX2_rowLength_47 (lv_at hl 1 rfl) ?_
          refine cbVi (n := 2) (rest := [.int l3_1]) hx hb hml hown hts hE hP hD hS hA (sX_X1_part_1 l dC dI cy x0 x 0 l4_1 v f hIv ) k_1070 k_828 k_829 k_106 k_830 (by decide +kernel) ⟨Nat.le_of_ble_eq_true rfl, Nat.le_of_ble_eq_true rfl⟩ 22 1 rfl rfl (rfl) hl.1 rfl (Nat.le_of_ble_eq_true rfl) dX2_rowLength_49 (fun r19 u H locs hw hP hD hS => ?_)
          refine va_mmax hx hb (by rw [hml]; exact hl.1.symm) hown (hts _ k_1109) (hts _ k_640) (hts _ k_119) (hts _ k_641) (Nat.le_of_ble_eq_true rfl) (Nat.le_of_ble_eq_true rfl) (Nat.le_of_ble_eq_true rfl) (Nat.le_of_ble_eq_true rfl) dX2_rowLength_52 ?_
          refine lv_topi (fun t20 et20 => ?_)
          have zt20 : t20.toInt = max (l3_1.toInt) (r19.toInt) := by rw [et20]; exact mmax_i rfl rfl
          refine lv_istore_n (lv' := [(3, .int t20), (2, .int t18), (4, .int l4_1), (0, .ref (x 29)), (1, .int p1)]) hx hb dX2_rowLength_55 rfl hl (Nat.le_of_ble_eq_true rfl) rfl (fun ls hl => ?_)
          obtain ⟨t21, et21⟩ : ∃ y : Int32, y = l4_1 + 1 := ⟨_, rfl⟩
          have zt21 : t21.toInt = l4_1.toInt + 1 := by rw [et21]; exact add_i rfl (by decide) (by omega) (by omega)
          refine lv_iinc (v := t21) (lv' := [(4, .int t21), (3, .int t20), (2, .int t18), (0, .ref (x 29)), (1, .int p1)]) hx hb dX2_rowLength_56 hl (k := 2) rfl (by rw [et21]; rfl) (by decide) rfl (fun ls hl => ?_)
          refine lv_goto (tgt := 7) hx hb dX2_rowLength_59 rfl ?_
          have rg22 := fb_rng t21
          exact ih1 t18 t20 t21 ⟨show (0 : Int) ≤ t21.toInt by omega, show t21.toInt ≤ (2147483647 : Int) by omega⟩ (by show (2147483647 - t21.toInt).toNat < n1; omega) _ _ _ hP hD hS (lv_sub hl [0, 1, 2, 3, 4] rfl)
  exact lp1 _ 0 0 0 ⟨by decide, by decide⟩ (Nat.lt_succ_self _) _ _ _ hP hD hS (lv_sub hl [0, 1, 2, 3, 4] rfl)
set_option maxHeartbeats 4000000 in
set_option maxRecDepth 100000 in
theorem sX_X2_leastLength_1 (l : Launch) (dC : Nat → ClassId) (dI : Nat → Nat → Nat) (cy : Nat → ClassId) (x0 : Nat) (x : Nat → Nat) (p1 : Int32) (v : Nat → Int32) (f : Nat → Nat → Int32) (hIv : XI v) (hp1 : (0 : Int) ≤ p1.toInt ∧ p1.toInt ≤ 63) : ctI l (dC, dI) cy yX2_leastLength cX2_leastLength 6 .int 4 128 0 0 Unit [.ref (x 29), .int p1] (XW cy x0 x v f) (fun r u => True) (fun u => XW cy x0 x v f) := by
  refine ctI_of (by decide) (Nat.le_of_ble_eq_true rfl) (fun p e s m below meth c A ls Q hx hb hml hts hown hE hP hD hA hl ret => ?_)
  have hown : s.vm.findClass RX2 = some m.cls := hown
  have hS : va_S A s.heap s.heap [] := va_S.rf
  have hl : lv_has ls 6 [(0, .ref (x 29)), (1, .int p1)] := hl
  refine lv_sipush (v := 1000) hx hb dX2_leastLength_0 rfl ?_
  refine lv_istore_n (lv' := [(2, .int 1000), (0, .ref (x 29)), (1, .int p1)]) hx hb dX2_leastLength_3 rfl hl (Nat.le_of_ble_eq_true rfl) rfl (fun ls hl => ?_)
  refine lv_iload_n hx hb dX2_leastLength_4 rfl (lv_at hl 2 rfl) ?_
  refine cbSi (n := 1) (rest := []) hx hb hml hown hts hE hP hD hS hA (sX_J6_lowestOneBit_0f7a4_1 l dC dI cy x0 x p1 v f hIv ) k_1080 k_1081 k_121 k_1082 (by decide +kernel) ⟨Nat.le_of_ble_eq_true rfl, Nat.le_of_ble_eq_true rfl⟩ (rfl) hl.1 rfl (Nat.le_of_ble_eq_true rfl) dX2_leastLength_5 (fun r1 u H locs hw hP hD hS => ?_)
  refine lv_istore_n (lv' := [(3, .int r1), (2, .int 1000), (0, .ref (x 29)), (1, .int p1)]) hx hb dX2_leastLength_8 rfl hl (Nat.le_of_ble_eq_true rfl) rfl (fun ls hl => ?_)
  refine lv_iload_n hx hb dX2_leastLength_9 rfl (lv_at hl 0 rfl) ?_
  refine lv_istore (lv' := [(4, .int r1), (3, .int r1), (2, .int 1000), (0, .ref (x 29)), (1, .int p1)]) hx hb dX2_leastLength_10 hl (Nat.le_of_ble_eq_true rfl) rfl (fun ls hl => ?_)
  have lp2 : ∀ (n2 : Nat) (l2_2 : Int32) (l4_2 : Int32), (2147483647 - l4_2.toInt).toNat < n2 → ∀ (H : Heap) (locs : List Loc) (ls : Array Slot), va_P (dC, dI) vwCl (XW cy x0 x v f) H → va_D A (XW cy x0 x v f) → va_S A s.heap H locs → lv_has ls 6 [(4, .int l4_2), (3, .int r1), (2, .int l2_2), (0, .ref (x 29)), (1, .int p1)] → W p l e { frames := 4, cells := 0, slots := 0, locals := 128 } s m ([.ref (x 29), .int p1] : List Value).toArray below meth c H locs 0 0 Q (F0 m 12 ls []) := by
    intro n2
    induction n2 with
    | zero => intro l2_2 l4_2 hm; exact absurd hm (Nat.not_lt_zero _)
    | succ n2 ih2 =>
      intro l2_2 l4_2 hm2 H locs ls hP hD hS hl
      refine lv_iload hx hb dX2_leastLength_12 (lv_at hl 0 rfl) ?_
      refine lv_iload_n hx hb dX2_leastLength_14 rfl (lv_at hl 4 rfl) ?_
      refine lv_icmp_gt (tgt := 76) hx hb dX2_leastLength_15 rfl (fun c3 => ?_) (fun c3 => ?_)
      · skip
        have zc3 : p1.toInt < l4_2.toInt := by rw [fa_lt] at c3; exact c3
        have rg4 := fb_rng l4_2
        have rg5 := fb_rng p1
        refine lv_iload_n hx hb dX2_leastLength_76 rfl (lv_at hl 2 rfl) ?_
        exact ret l2_2 () _ _ _ _ _ _ rfl trivial hP hD hS dX2_leastLength_77 (Nat.le_refl _) (Nat.le_refl _)
      · skip
        have zc3 : ¬ (p1.toInt < l4_2.toInt) := by rw [fa_lt] at c3; exact c3
        have rg6 := fb_rng l4_2
        have rg7 := fb_rng p1
        refine lv_iload hx hb dX2_leastLength_18 (lv_at hl 0 rfl) ?_
        refine lv_iload_n hx hb dX2_leastLength_20 rfl (lv_at hl 4 rfl) ?_
        refine lv_iconst (v := (-1)) hx hb dX2_leastLength_21 rfl ?_
        refine lv_ixor hx hb dX2_leastLength_22 ?_
        refine lv_topi (fun t8 et8 => ?_)
        refine lv_iand hx hb dX2_leastLength_23 ?_
        refine lv_topi (fun t9 et9 => ?_)
        refine lv_if_ne (tgt := 70) hx hb dX2_leastLength_24 rfl (fun c10 => ?_) (fun c10 => ?_)
        · skip
          have zc10 : ¬ (t9.toInt = 0) := by rw [fa_eq, show (0 : Int32).toInt = 0 from by decide] at c10; exact c10
          obtain ⟨t11, et11⟩ : ∃ y : Int32, y = l4_2 + 1 := ⟨_, rfl⟩
          have zt11 : t11.toInt = l4_2.toInt + 1 := by rw [et11]; exact add_i rfl (by decide) (by omega) (by omega)
          refine lv_iinc (v := t11) (lv' := [(4, .int t11), (3, .int r1), (2, .int l2_2), (0, .ref (x 29)), (1, .int p1)]) hx hb dX2_leastLength_70 hl (k := 0) rfl (by rw [et11]; rfl) (by decide) rfl (fun ls hl => ?_)
          refine lv_goto (tgt := 12) hx hb dX2_leastLength_73 rfl ?_
          exact ih2 l2_2 t11  (by show (2147483647 - t11.toInt).toNat < n2; omega) _ _ _ hP hD hS (lv_sub hl [0, 1, 2, 3, 4] rfl)
        · skip
          have zc10 : t9.toInt = 0 := by rw [fa_eq, show (0 : Int32).toInt = 0 from by decide] at c10; exact c10
          refine lv_iload hx hb dX2_leastLength_27 (lv_at hl 0 rfl) ?_
          refine lv_iload_n hx hb dX2_leastLength_29 rfl (lv_at hl 1 rfl) ?_
          refine lv_iand hx hb dX2_leastLength_30 ?_
          refine lv_topi (fun t12 et12 => ?_)
          refine lv_if_eq (tgt := 70) hx hb dX2_leastLength_31 rfl (fun c13 => ?_) (fun c13 => ?_)
          · skip
            have zc13 : t12.toInt = 0 := by rw [fa_eq, show (0 : Int32).toInt = 0 from by decide] at c13; exact c13
            obtain ⟨t14, et14⟩ : ∃ y : Int32, y = l4_2 + 1 := ⟨_, rfl⟩
            have zt14 : t14.toInt = l4_2.toInt + 1 := by rw [et14]; exact add_i rfl (by decide) (by omega) (by omega)
            refine lv_iinc (v := t14) (lv' := [(4, .int t14), (3, .int r1), (2, .int l2_2), (0, .ref (x 29)), (1, .int p1)]) hx hb dX2_leastLength_70 hl (k := 0) rfl (by rw [et14]; rfl) (by decide) rfl (fun ls hl => ?_)
            refine lv_goto (tgt := 12) hx hb dX2_leastLength_73 rfl ?_
            exact ih2 l2_2 t14  (by show (2147483647 - t14.toInt).toNat < n2; omega) _ _ _ hP hD hS (lv_sub hl [0, 1, 2, 3, 4] rfl)
          · skip
            have zc13 : ¬ (t12.toInt = 0) := by rw [fa_eq, show (0 : Int32).toInt = 0 from by decide] at c13; exact c13
            refine lv_aload_n hx hb dX2_leastLength_34 rfl (lv_at hl 3 rfl) ?_
            refine lv_iload hx hb dX2_leastLength_35 (lv_at hl 0 rfl) ?_
            refine cbVi (n := 1) (rest := []) hx hb hml hown hts hE hP hD hS hA (sX_X2_rowLength_1 l dC dI cy x0 x l4_2 v f hIv ) k_1105 k_1107 k_32 k_110 k_1108 (by decide +kernel) ⟨Nat.le_of_ble_eq_true rfl, Nat.le_of_ble_eq_true rfl⟩ 30 2 rfl rfl (rfl) hl.1 rfl (Nat.le_of_ble_eq_true rfl) dX2_leastLength_37 (fun r15 u H locs hw hP hD hS => ?_)
            refine lv_istore (lv' := [(5, .int r15), (4, .int l4_2), (3, .int r1), (2, .int l2_2), (0, .ref (x 29)), (1, .int p1)]) hx hb dX2_leastLength_40 hl (Nat.le_of_ble_eq_true rfl) rfl (fun ls hl => ?_)
            refine lv_iload hx hb dX2_leastLength_42 (lv_at hl 0 rfl) ?_
            refine lv_iconst (v := (-1)) hx hb dX2_leastLength_44 rfl ?_
            refine lv_icmp_eq (tgt := 70) hx hb dX2_leastLength_45 rfl (fun c16 => ?_) (fun c16 => ?_)
            · skip
              have zc16 : r15.toInt = (-1) := by rw [fa_eq, show ((-1) : Int32).toInt = -1 from by decide] at c16; exact c16
              obtain ⟨t17, et17⟩ : ∃ y : Int32, y = l4_2 + 1 := ⟨_, rfl⟩
              have zt17 : t17.toInt = l4_2.toInt + 1 := by rw [et17]; exact add_i rfl (by decide) (by omega) (by omega)
              refine lv_iinc (v := t17) (lv' := [(4, .int t17), (5, .int r15), (3, .int r1), (2, .int l2_2), (0, .ref (x 29)), (1, .int p1)]) hx hb dX2_leastLength_70 hl (k := 1) rfl (by rw [et17]; rfl) (by decide) rfl (fun ls hl => ?_)
              refine lv_goto (tgt := 12) hx hb dX2_leastLength_73 rfl ?_
              exact ih2 l2_2 t17  (by show (2147483647 - t17.toInt).toNat < n2; omega) _ _ _ hP hD hS (lv_sub hl [0, 2, 3, 4, 5] rfl)
            · skip
              have zc16 : ¬ (r15.toInt = (-1)) := by rw [fa_eq, show ((-1) : Int32).toInt = -1 from by decide] at c16; exact c16
              refine lv_iload_n hx hb dX2_leastLength_48 rfl (lv_at hl 3 rfl) ?_
              refine lv_iload hx hb dX2_leastLength_49 (lv_at hl 0 rfl) ?_
              refine lv_aload_n hx hb dX2_leastLength_51 rfl (lv_at hl 4 rfl) ?_
              refine va_get (D := (dC, dI)) (ci := 2) (v := .ref (x 30)) (C := RX2) (T := TX2) (N := 3) hx hb hts inB_2 hown hE.1 hP 30 rfl rfl 2 (Nat.le_of_ble_eq_true rfl) (hts _ k_416) (fun _ h9 => h9) rfl dX2_leastLength_52 ?_
              refine lv_iload_n hx hb dX2_leastLength_55 rfl (lv_at hl 5 rfl) ?_
              refine lv_iload hx hb dX2_leastLength_56 (lv_at hl 1 rfl) ?_
              refine lv_iconst (v := (-1)) hx hb dX2_leastLength_58 rfl ?_
              refine lv_ixor hx hb dX2_leastLength_59 ?_
              refine lv_topi (fun t18 et18 => ?_)
              refine lv_iand hx hb dX2_leastLength_60 ?_
              refine lv_topi (fun t19 et19 => ?_)
              refine lv_bipush (v := 63) hx hb dX2_leastLength_61 rfl ?_
              refine lv_iand hx hb dX2_leastLength_63 ?_
              refine lv_topi (fun t20 et20 => ?_)
              have zt20 : 0 ≤ t20.toInt ∧ t20.toInt < 64 := by rw [et20]; exact and_rng _ (k := 6) (by decide) (by decide)
              refine ldI hx hb hE hP 31 rfl (vp_in_iff.mpr ⟨by omega, by omega⟩) rfl rfl dX2_leastLength_64 ?_
              refine lv_topi (fun t21 et21 => ?_)
              refine lv_iadd hx hb dX2_leastLength_65 ?_
              refine lv_topi (fun t22 et22 => ?_)
              refine va_mmin hx hb (by rw [hml]; exact hl.1.symm) hown (hts _ k_1110) (hts _ k_643) (hts _ k_119) (hts _ k_644) (Nat.le_of_ble_eq_true rfl) (Nat.le_of_ble_eq_true rfl) (Nat.le_of_ble_eq_true rfl) (Nat.le_of_ble_eq_true rfl) dX2_leastLength_66 ?_
              refine lv_topi (fun t23 et23 => ?_)
              have zt23 : t23.toInt = min (l2_2.toInt) (t22.toInt) := by rw [et23]; exact mmin_i rfl rfl
              refine lv_istore_n (lv' := [(2, .int t23), (5, .int r15), (4, .int l4_2), (3, .int r1), (0, .ref (x 29)), (1, .int p1)]) hx hb dX2_leastLength_69 rfl hl (Nat.le_of_ble_eq_true rfl) rfl (fun ls hl => ?_)
              obtain ⟨t24, et24⟩ : ∃ y : Int32, y = l4_2 + 1 := ⟨_, rfl⟩
              have zt24 : t24.toInt = l4_2.toInt + 1 := by rw [et24]; exact add_i rfl (by decide) (by omega) (by omega)
              refine lv_iinc (v := t24) (lv' := [(4, .int t24), (2, .int t23), (5, .int r15), (3, .int r1), (0, .ref (x 29)), (1, .int p1)]) hx hb dX2_leastLength_70 hl (k := 2) rfl (by rw [et24]; rfl) (by decide) rfl (fun ls hl => ?_)
              refine lv_goto (tgt := 12) hx hb dX2_leastLength_73 rfl ?_
              exact ih2 t23 t24  (by show (2147483647 - t24.toInt).toNat < n2; omega) _ _ _ hP hD hS (lv_sub hl [0, 3, 1, 4, 5] rfl)
  exact lp2 _ 1000 r1  (Nat.lt_succ_self _) _ _ _ hP hD hS (lv_sub hl [0, 1, 2, 3, 4] rfl)
set_option maxHeartbeats 4000000 in
set_option maxRecDepth 100000 in
theorem sX_X2_leastCloth_1 (l : Launch) (dC : Nat → ClassId) (dI : Nat → Nat → Nat) (cy : Nat → ClassId) (x0 : Nat) (x : Nat → Nat)  (v : Nat → Int32) (f : Nat → Nat → Int32) (hIv : XI v)  : ctI l (dC, dI) cy yX2_leastCloth cX2_leastCloth 3 .int 5 153 0 0 ((Nat → Int32) × (Nat → Nat → Int32)) [.ref (x 29)] (XW cy x0 x v f) (fun r u => KV [] u.1 v ∧ KF [19] u.2 f ∧ XI u.1 ∧ u.1 0 = v 0 ∧ u.1 1 = v 1 ∧ u.1 7 = v 7 ∧ u.1 8 = v 8 ∧ u.1 9 = v 9 ∧ u.1 10 = v 10 ∧ u.1 31 = v 31 ∧ u.1 32 = v 32) (fun u => XW cy x0 x u.1 u.2) := by
  refine ctI_of (by decide) (Nat.le_of_ble_eq_true rfl) (fun p e s m below meth c A ls Q hx hb hml hts hown hE hP hD hA hl ret => ?_)
  have hM_v : KV [] v v := fun _ _ => rfl
  have hA_f : KF [19] f f := fun _ _ => rfl
  have hown : s.vm.findClass RX2 = some m.cls := hown
  have hS : va_S A s.heap s.heap [] := va_S.rf
  have hl : lv_has ls 3 [(0, .ref (x 29))] := hl
  refine lv_iconst (v := 1) hx hb dX2_leastCloth_0 rfl ?_
  refine lv_aload_n hx hb dX2_leastCloth_1 rfl (lv_at hl 0 rfl) ?_
  refine va_get (D := (dC, dI)) (ci := 2) (v := .ref (x 26)) (C := RX2) (T := TX2) (N := 3) hx hb hts inB_2 hown hE.1 hP 30 rfl rfl 0 (Nat.le_of_ble_eq_true rfl) (hts _ k_414) (fun _ h9 => h9) rfl dX2_leastCloth_2 ?_
  refine va_getN (D := (dC, dI)) (ci := 7) (v := .int (v 32)) (C := RX7) (T := TX7) (N := 10) hx hb hts inB_7 hown hE.1 hP 27 rfl rfl 4 (Nat.le_of_ble_eq_true rfl) (va_Nw.use rfl (hE.2 _ k_223)) (fun _ h9 => h9) rfl dX2_leastCloth_5 ?_
  have b32_v : 0 ≤ (v 32).toInt ∧ (v 32).toInt ≤ 6 := XI.b hIv 32 (by decide)
  refine lv_ishl hx hb dX2_leastCloth_8 ?_
  refine lv_topi (fun t1 et1 => ?_)
  refine lv_iconst (v := 1) hx hb dX2_leastCloth_9 rfl ?_
  refine lv_isub hx hb dX2_leastCloth_10 ?_
  refine lv_topi (fun t2 et2 => ?_)
  refine lv_istore_n (lv' := [(1, .int t2), (0, .ref (x 29))]) hx hb dX2_leastCloth_11 rfl hl (Nat.le_of_ble_eq_true rfl) rfl (fun ls hl => ?_)
  refine lv_iconst (v := 0) hx hb dX2_leastCloth_12 rfl ?_
  refine lv_istore_n (lv' := [(2, .int 0), (1, .int t2), (0, .ref (x 29))]) hx hb dX2_leastCloth_13 rfl hl (Nat.le_of_ble_eq_true rfl) rfl (fun ls hl => ?_)
  have lp3 : ∀ (n3 : Nat) (l2_3 : Int32), ((0 : Int) ≤ l2_3.toInt ∧ l2_3.toInt ≤ 2147483647) → (2147483647 - l2_3.toInt).toNat < n3 → ∀ (H : Heap) (locs : List Loc) (ls : Array Slot), va_P (dC, dI) vwCl (XW cy x0 x v f) H → va_D A (XW cy x0 x v f) → va_S A s.heap H locs → lv_has ls 3 [(2, .int l2_3), (1, .int t2), (0, .ref (x 29))] → W p l e { frames := 5, cells := 0, slots := 0, locals := 153 } s m ([.ref (x 29)] : List Value).toArray below meth c H locs 0 0 Q (F0 m 14 ls []) := by
    intro n3
    induction n3 with
    | zero => intro l2_3 hr2_3 hm; exact absurd hm (Nat.not_lt_zero _)
    | succ n3 ih3 =>
      intro l2_3 hr2_3 hm3 H locs ls hP hD hS hl
      refine lv_iload_n hx hb dX2_leastCloth_14 rfl (lv_at hl 0 rfl) ?_
      refine lv_aload_n hx hb dX2_leastCloth_15 rfl (lv_at hl 2 rfl) ?_
      refine va_get (D := (dC, dI)) (ci := 2) (v := .ref (x 26)) (C := RX2) (T := TX2) (N := 3) hx hb hts inB_2 hown hE.1 hP 30 rfl rfl 0 (Nat.le_of_ble_eq_true rfl) (hts _ k_414) (fun _ h9 => h9) rfl dX2_leastCloth_16 ?_
      refine va_getN (D := (dC, dI)) (ci := 7) (v := .int (v 32)) (C := RX7) (T := TX7) (N := 10) hx hb hts inB_7 hown hE.1 hP 27 rfl rfl 4 (Nat.le_of_ble_eq_true rfl) (va_Nw.use rfl (hE.2 _ k_223)) (fun _ h9 => h9) rfl dX2_leastCloth_19 ?_
      refine lv_icmp_ge (tgt := 52) hx hb dX2_leastCloth_22 rfl (fun c4 => ?_) (fun c4 => ?_)
      · skip
        have zc4 : (v 32).toInt ≤ l2_3.toInt := by rw [fa_le] at c4; exact c4
        have rg5 := fb_rng l2_3
        have rg6 := fb_rng (v 32)
        refine lv_aload_n hx hb dX2_leastCloth_52 rfl (lv_at hl 2 rfl) ?_
        refine va_get (D := (dC, dI)) (ci := 2) (v := .ref (x 30)) (C := RX2) (T := TX2) (N := 3) hx hb hts inB_2 hown hE.1 hP 30 rfl rfl 2 (Nat.le_of_ble_eq_true rfl) (hts _ k_416) (fun _ h9 => h9) rfl dX2_leastCloth_53 ?_
        refine lv_iconst (v := 0) hx hb dX2_leastCloth_56 rfl ?_
        refine lv_iconst (v := 0) hx hb dX2_leastCloth_57 rfl ?_
        refine stI hx hb hE hP hD hS 31 rfl (vp_in_nI (n := 0) (by decide) (by decide)) rfl dX2_leastCloth_58 (fun H locs hP hD hS => ?_)
        obtain ⟨f7, ef7, hP, hD⟩ : ∃ fz9, fz9 = upd2 f 19 (upd (f 19) (0 : Int32).toNatClampNeg 0) ∧ va_P (dC, dI) vwCl (XW cy x0 x v fz9) H ∧ va_D A (XW cy x0 x v fz9) := ⟨_, rfl, hP, hD⟩
        have hA_f7 : KF [19] f7 f := by rw [ef7]; exact KF.up hA_f rfl
        refine lv_iconst (v := 1) hx hb dX2_leastCloth_59 rfl ?_
        refine lv_istore_n (lv' := [(2, .int 1), (1, .int t2), (0, .ref (x 29))]) hx hb dX2_leastCloth_60 rfl hl (Nat.le_of_ble_eq_true rfl) rfl (fun ls hl => ?_)
        have lp8 : ∀ (n8 : Nat) (l2_8 : Int32) (v8 : Nat → Int32) (f8 : Nat → Nat → Int32), XI v8 → v8 0 = (v 0) → v8 1 = (v 1) → v8 7 = (v 7) → v8 8 = (v 8) → v8 9 = (v 9) → v8 10 = (v 10) → v8 31 = (v 31) → v8 32 = (v 32) → ((1 : Int) ≤ l2_8.toInt ∧ l2_8.toInt ≤ 2147483647) → KV [] v8 v → KF [19] f8 f → (2147483647 - l2_8.toInt).toNat < n8 → ∀ (H : Heap) (locs : List Loc) (ls : Array Slot), va_P (dC, dI) vwCl (XW cy x0 x v8 f8) H → va_D A (XW cy x0 x v8 f8) → va_S A s.heap H locs → lv_has ls 3 [(2, .int l2_8), (1, .int t2), (0, .ref (x 29))] → W p l e { frames := 5, cells := 0, slots := 0, locals := 153 } s m ([.ref (x 29)] : List Value).toArray below meth c H locs 0 0 Q (F0 m 61 ls []) := by
          intro n8
          induction n8 with
          | zero => intro l2_8 v8 f8 hIv8 hq0_v8 hq1_v8 hq7_v8 hq8_v8 hq9_v8 hq10_v8 hq31_v8 hq32_v8 hr2_8 hM_v8 hA_f8 hm; exact absurd hm (Nat.not_lt_zero _)
          | succ n8 ih8 =>
            intro l2_8 v8 f8 hIv8 hq0_v8 hq1_v8 hq7_v8 hq8_v8 hq9_v8 hq10_v8 hq31_v8 hq32_v8 hr2_8 hM_v8 hA_f8 hm8 H locs ls hP hD hS hl
            refine lv_iload_n hx hb dX2_leastCloth_61 rfl (lv_at hl 0 rfl) ?_
            refine lv_iload_n hx hb dX2_leastCloth_62 rfl (lv_at hl 1 rfl) ?_
            refine lv_icmp_gt (tgt := 89) hx hb dX2_leastCloth_63 rfl (fun c9 => ?_) (fun c9 => ?_)
            · skip
              have zc9 : t2.toInt < l2_8.toInt := by rw [fa_lt] at c9; exact c9
              have rg10 := fb_rng l2_8
              have rg11 := fb_rng t2
              refine lv_iload_n hx hb dX2_leastCloth_89 rfl (lv_at hl 1 rfl) ?_
              refine lv_if_lt (tgt := 108) hx hb dX2_leastCloth_90 rfl (fun c12 => ?_) (fun c12 => ?_)
              · skip
                have zc12 : t2.toInt < 0 := by rw [fa_lt, show (0 : Int32).toInt = 0 from by decide] at c12; exact c12
                refine lv_iconst (v := (-1)) hx hb dX2_leastCloth_108 rfl ?_
                exact ret (-1) (v8, f8) _ _ _ _ _ _ rfl ⟨hM_v8, hA_f8, hIv8, (show v8 0 = v 0 from hq0_v8), (show v8 1 = v 1 from hq1_v8), (show v8 7 = v 7 from hq7_v8), (show v8 8 = v 8 from hq8_v8), (show v8 9 = v 9 from hq9_v8), (show v8 10 = v 10 from hq10_v8), (show v8 31 = v 31 from hq31_v8), (show v8 32 = v 32 from hq32_v8)⟩ hP hD hS dX2_leastCloth_109 (Nat.le_refl _) (Nat.le_refl _)
              · skip
                have zc12 : ¬ (t2.toInt < 0) := by rw [fa_lt, show (0 : Int32).toInt = 0 from by decide] at c12; exact c12
                refine lv_iload_n hx hb dX2_leastCloth_93 rfl (lv_at hl 1 rfl) ?_
                refine lv_bipush (v := 64) hx hb dX2_leastCloth_94 rfl ?_
                refine lv_icmp_ge (tgt := 108) hx hb dX2_leastCloth_96 rfl (fun c13 => ?_) (fun c13 => ?_)
                · skip
                  have zc13 : 64 ≤ t2.toInt := by rw [fa_le, show (64 : Int32).toInt = 64 from by decide] at c13; exact c13
                  refine lv_iconst (v := (-1)) hx hb dX2_leastCloth_108 rfl ?_
                  exact ret (-1) (v8, f8) _ _ _ _ _ _ rfl ⟨hM_v8, hA_f8, hIv8, (show v8 0 = v 0 from hq0_v8), (show v8 1 = v 1 from hq1_v8), (show v8 7 = v 7 from hq7_v8), (show v8 8 = v 8 from hq8_v8), (show v8 9 = v 9 from hq9_v8), (show v8 10 = v 10 from hq10_v8), (show v8 31 = v 31 from hq31_v8), (show v8 32 = v 32 from hq32_v8)⟩ hP hD hS dX2_leastCloth_109 (Nat.le_refl _) (Nat.le_refl _)
                · skip
                  have zc13 : ¬ (64 ≤ t2.toInt) := by rw [fa_le, show (64 : Int32).toInt = 64 from by decide] at c13; exact c13
                  refine lv_aload_n hx hb dX2_leastCloth_99 rfl (lv_at hl 2 rfl) ?_
                  refine va_get (D := (dC, dI)) (ci := 2) (v := .ref (x 30)) (C := RX2) (T := TX2) (N := 3) hx hb hts inB_2 hown hE.1 hP 30 rfl rfl 2 (Nat.le_of_ble_eq_true rfl) (hts _ k_416) (fun _ h9 => h9) rfl dX2_leastCloth_100 ?_
                  refine lv_iload_n hx hb dX2_leastCloth_103 rfl (lv_at hl 1 rfl) ?_
                  refine ldI hx hb hE hP 31 rfl (vp_in_iff.mpr ⟨by omega, by omega⟩) rfl rfl dX2_leastCloth_104 ?_
                  refine lv_topi (fun t14 et14 => ?_)
                  refine lv_goto (tgt := 109) hx hb dX2_leastCloth_105 rfl ?_
                  exact ret t14 (v8, f8) _ _ _ _ _ _ rfl ⟨hM_v8, hA_f8, hIv8, (show v8 0 = v 0 from hq0_v8), (show v8 1 = v 1 from hq1_v8), (show v8 7 = v 7 from hq7_v8), (show v8 8 = v 8 from hq8_v8), (show v8 9 = v 9 from hq9_v8), (show v8 10 = v 10 from hq10_v8), (show v8 31 = v 31 from hq31_v8), (show v8 32 = v 32 from hq32_v8)⟩ hP hD hS dX2_leastCloth_109 (Nat.le_refl _) (Nat.le_refl _)
            · skip
              have zc9 : ¬ (t2.toInt < l2_8.toInt) := by rw [fa_lt] at c9; exact c9
              have rg15 := fb_rng l2_8
              have rg16 := fb_rng t2
              refine lv_iload_n hx hb dX2_leastCloth_66 rfl (lv_at hl 0 rfl) ?_
              refine lv_bipush (v := 64) hx hb dX2_leastCloth_67 rfl ?_
              refine lv_icmp_ge (tgt := 89) hx hb dX2_leastCloth_69 rfl (fun c17 => ?_) (fun c17 => ?_)
              · skip
                have zc17 : 64 ≤ l2_8.toInt := by rw [fa_le, show (64 : Int32).toInt = 64 from by decide] at c17; exact c17
                refine lv_iload_n hx hb dX2_leastCloth_89 rfl (lv_at hl 1 rfl) ?_
                refine lv_if_lt (tgt := 108) hx hb dX2_leastCloth_90 rfl (fun c18 => ?_) (fun c18 => ?_)
                · skip
                  have zc18 : t2.toInt < 0 := by rw [fa_lt, show (0 : Int32).toInt = 0 from by decide] at c18; exact c18
                  refine lv_iconst (v := (-1)) hx hb dX2_leastCloth_108 rfl ?_
                  exact ret (-1) (v8, f8) _ _ _ _ _ _ rfl ⟨hM_v8, hA_f8, hIv8, (show v8 0 = v 0 from hq0_v8), (show v8 1 = v 1 from hq1_v8), (show v8 7 = v 7 from hq7_v8), (show v8 8 = v 8 from hq8_v8), (show v8 9 = v 9 from hq9_v8), (show v8 10 = v 10 from hq10_v8), (show v8 31 = v 31 from hq31_v8), (show v8 32 = v 32 from hq32_v8)⟩ hP hD hS dX2_leastCloth_109 (Nat.le_refl _) (Nat.le_refl _)
                · skip
                  have zc18 : ¬ (t2.toInt < 0) := by rw [fa_lt, show (0 : Int32).toInt = 0 from by decide] at c18; exact c18
                  refine lv_iload_n hx hb dX2_leastCloth_93 rfl (lv_at hl 1 rfl) ?_
                  refine lv_bipush (v := 64) hx hb dX2_leastCloth_94 rfl ?_
                  refine lv_icmp_ge (tgt := 108) hx hb dX2_leastCloth_96 rfl (fun c19 => ?_) (fun c19 => ?_)
                  · skip
                    have zc19 : 64 ≤ t2.toInt := by rw [fa_le, show (64 : Int32).toInt = 64 from by decide] at c19; exact c19
                    refine lv_iconst (v := (-1)) hx hb dX2_leastCloth_108 rfl ?_
                    exact ret (-1) (v8, f8) _ _ _ _ _ _ rfl ⟨hM_v8, hA_f8, hIv8, (show v8 0 = v 0 from hq0_v8), (show v8 1 = v 1 from hq1_v8), (show v8 7 = v 7 from hq7_v8), (show v8 8 = v 8 from hq8_v8), (show v8 9 = v 9 from hq9_v8), (show v8 10 = v 10 from hq10_v8), (show v8 31 = v 31 from hq31_v8), (show v8 32 = v 32 from hq32_v8)⟩ hP hD hS dX2_leastCloth_109 (Nat.le_refl _) (Nat.le_refl _)
                  · skip
                    have zc19 : ¬ (64 ≤ t2.toInt) := by rw [fa_le, show (64 : Int32).toInt = 64 from by decide] at c19; exact c19
                    refine lv_aload_n hx hb dX2_leastCloth_99 rfl (lv_at hl 2 rfl) ?_
                    refine va_get (D := (dC, dI)) (ci := 2) (v := .ref (x 30)) (C := RX2) (T := TX2) (N := 3) hx hb hts inB_2 hown hE.1 hP 30 rfl rfl 2 (Nat.le_of_ble_eq_true rfl) (hts _ k_416) (fun _ h9 => h9) rfl dX2_leastCloth_100 ?_
                    refine lv_iload_n hx hb dX2_leastCloth_103 rfl (lv_at hl 1 rfl) ?_
                    refine ldI hx hb hE hP 31 rfl (vp_in_iff.mpr ⟨by omega, by omega⟩) rfl rfl dX2_leastCloth_104 ?_
                    refine lv_topi (fun t20 et20 => ?_)
                    refine lv_goto (tgt := 109) hx hb dX2_leastCloth_105 rfl ?_
                    exact ret t20 (v8, f8) _ _ _ _ _ _ rfl ⟨hM_v8, hA_f8, hIv8, (show v8 0 = v 0 from hq0_v8), (show v8 1 = v 1 from hq1_v8), (show v8 7 = v 7 from hq7_v8), (show v8 8 = v 8 from hq8_v8), (show v8 9 = v 9 from hq9_v8), (show v8 10 = v 10 from hq10_v8), (show v8 31 = v 31 from hq31_v8), (show v8 32 = v 32 from hq32_v8)⟩ hP hD hS dX2_leastCloth_109 (Nat.le_refl _) (Nat.le_refl _)
              · skip
                have zc17 : ¬ (64 ≤ l2_8.toInt) := by rw [fa_le, show (64 : Int32).toInt = 64 from by decide] at c17; exact c17
                refine lv_aload_n hx hb dX2_leastCloth_72 rfl (lv_at hl 2 rfl) ?_
                refine va_get (D := (dC, dI)) (ci := 2) (v := .ref (x 30)) (C := RX2) (T := TX2) (N := 3) hx hb hts inB_2 hown hE.1 hP 30 rfl rfl 2 (Nat.le_of_ble_eq_true rfl) (hts _ k_416) (fun _ h9 => h9) rfl dX2_leastCloth_73 ?_
                refine lv_iload_n hx hb dX2_leastCloth_76 rfl (lv_at hl 0 rfl) ?_
                refine lv_aload_n hx hb dX2_leastCloth_77 rfl (lv_at hl 2 rfl) ?_
                refine lv_iload_n hx hb dX2_leastCloth_78 rfl (lv_at hl 0 rfl) ?_
                refine cbVi (n := 1) (rest := [.int l2_8, .ref (x 30)]) hx hb hml hown hts hE hP hD hS hA (sX_X2_leastLength_1 l dC dI cy x0 x l2_8 v8 f8 hIv8 ⟨show (0 : Int) ≤ l2_8.toInt by omega, show l2_8.toInt ≤ (63 : Int) by omega⟩) k_1101 k_1103 k_31 k_110 k_1104 (by decide +kernel) ⟨Nat.le_of_ble_eq_true rfl, Nat.le_of_ble_eq_true rfl⟩ 30 2 rfl rfl (rfl) hl.1 rfl (Nat.le_of_ble_eq_true rfl) dX2_leastCloth_79 (fun r21 u H locs hw hP hD hS => ?_)
                refine stI hx hb hE hP hD hS 31 rfl (vp_in_iff.mpr ⟨by omega, by omega⟩) rfl dX2_leastCloth_82 (fun H locs hP hD hS => ?_)
                obtain ⟨f22, ef22, hP, hD⟩ : ∃ fz9, fz9 = upd2 f8 19 (upd (f8 19) l2_8.toNatClampNeg r21) ∧ va_P (dC, dI) vwCl (XW cy x0 x v8 fz9) H ∧ va_D A (XW cy x0 x v8 fz9) := ⟨_, rfl, hP, hD⟩
                have hA_f22 : KF [19] f22 f := by rw [ef22]; exact KF.up hA_f8 rfl
                obtain ⟨t23, et23⟩ : ∃ y : Int32, y = l2_8 + 1 := ⟨_, rfl⟩
                have zt23 : t23.toInt = l2_8.toInt + 1 := by rw [et23]; exact add_i rfl (by decide) (by omega) (by omega)
                refine lv_iinc (v := t23) (lv' := [(2, .int t23), (1, .int t2), (0, .ref (x 29))]) hx hb dX2_leastCloth_83 hl (k := 0) rfl (by rw [et23]; rfl) (by decide) rfl (fun ls hl => ?_)
                refine lv_goto (tgt := 61) hx hb dX2_leastCloth_86 rfl ?_
                have rg24 := fb_rng t23
                exact ih8 t23 v8 f22 hIv8 hq0_v8 hq1_v8 hq7_v8 hq8_v8 hq9_v8 hq10_v8 hq31_v8 hq32_v8 ⟨show (1 : Int) ≤ t23.toInt by omega, show t23.toInt ≤ (2147483647 : Int) by omega⟩ hM_v8 hA_f22 (by show (2147483647 - t23.toInt).toNat < n8; omega) _ _ _ hP hD hS (lv_sub hl [0, 1, 2] rfl)
        exact lp8 _ 1 v f7 hIv rfl rfl rfl rfl rfl rfl rfl rfl ⟨by decide, by decide⟩ hM_v hA_f7 (Nat.lt_succ_self _) _ _ _ hP hD hS (lv_sub hl [0, 1, 2] rfl)
      · skip
        have zc4 : ¬ ((v 32).toInt ≤ l2_3.toInt) := by rw [fa_le] at c4; exact c4
        have rg25 := fb_rng l2_3
        have rg26 := fb_rng (v 32)
        refine lv_aload_n hx hb dX2_leastCloth_25 rfl (lv_at hl 2 rfl) ?_
        refine va_get (D := (dC, dI)) (ci := 2) (v := .ref (x 21)) (C := RX2) (T := TX2) (N := 3) hx hb hts inB_2 hown hE.1 hP 30 rfl rfl 1 (Nat.le_of_ble_eq_true rfl) (hts _ k_415) (fun _ h9 => h9) rfl dX2_leastCloth_26 ?_
        refine lv_iconst (v := 1) hx hb dX2_leastCloth_29 rfl ?_
        refine lv_iload_n hx hb dX2_leastCloth_30 rfl (lv_at hl 0 rfl) ?_
        refine cbVi (n := 2) (rest := []) hx hb hml hown hts hE hP hD hS hA (sX_X1_part_1 l dC dI cy x0 x 1 l2_3 v f hIv ) k_1070 k_828 k_829 k_106 k_830 (by decide +kernel) ⟨Nat.le_of_ble_eq_true rfl, Nat.le_of_ble_eq_true rfl⟩ 22 1 rfl rfl (rfl) hl.1 rfl (Nat.le_of_ble_eq_true rfl) dX2_leastCloth_31 (fun r27 u H locs hw hP hD hS => ?_)
        refine lv_aload_n hx hb dX2_leastCloth_34 rfl (lv_at hl 2 rfl) ?_
        refine va_get (D := (dC, dI)) (ci := 2) (v := .ref (x 26)) (C := RX2) (T := TX2) (N := 3) hx hb hts inB_2 hown hE.1 hP 30 rfl rfl 0 (Nat.le_of_ble_eq_true rfl) (hts _ k_414) (fun _ h9 => h9) rfl dX2_leastCloth_35 ?_
        refine va_getN (D := (dC, dI)) (ci := 7) (v := .int (v 34)) (C := RX7) (T := TX7) (N := 10) hx hb hts inB_7 hown hE.1 hP 27 rfl rfl 6 (Nat.le_of_ble_eq_true rfl) (va_Nw.use rfl (hE.2 _ k_235)) (fun _ h9 => h9) rfl dX2_leastCloth_38 ?_
        refine lv_icmp_le (tgt := 46) hx hb dX2_leastCloth_41 rfl (fun c28 => ?_) (fun c28 => ?_)
        · skip
          have zc28 : r27.toInt ≤ (v 34).toInt := by rw [fa_le] at c28; exact c28
          have rg29 := fb_rng r27
          have rg30 := fb_rng (v 34)
          obtain ⟨t31, et31⟩ : ∃ y : Int32, y = l2_3 + 1 := ⟨_, rfl⟩
          have zt31 : t31.toInt = l2_3.toInt + 1 := by rw [et31]; exact add_i rfl (by decide) (by omega) (by omega)
          refine lv_iinc (v := t31) (lv' := [(2, .int t31), (1, .int t2), (0, .ref (x 29))]) hx hb dX2_leastCloth_46 hl (k := 0) rfl (by rw [et31]; rfl) (by decide) rfl (fun ls hl => ?_)
          refine lv_goto (tgt := 14) hx hb dX2_leastCloth_49 rfl ?_
          have rg32 := fb_rng t31
          exact ih3 t31 ⟨show (0 : Int) ≤ t31.toInt by omega, show t31.toInt ≤ (2147483647 : Int) by omega⟩ (by show (2147483647 - t31.toInt).toNat < n3; omega) _ _ _ hP hD hS (lv_sub hl [0, 1, 2] rfl)
        · skip
          have zc28 : ¬ (r27.toInt ≤ (v 34).toInt) := by rw [fa_le] at c28; exact c28
          have rg33 := fb_rng r27
          have rg34 := fb_rng (v 34)
          refine lv_iconst (v := (-1)) hx hb dX2_leastCloth_44 rfl ?_
          exact ret (-1) (v, f) _ _ _ _ _ _ rfl ⟨hM_v, hA_f, hIv, rfl, rfl, rfl, rfl, rfl, rfl, rfl, rfl⟩ hP hD hS dX2_leastCloth_45 (Nat.le_refl _) (Nat.le_refl _)
  exact lp3 _ 0 ⟨by decide, by decide⟩ (Nat.lt_succ_self _) _ _ _ hP hD hS (lv_sub hl [0, 1, 2] rfl)
set_option maxHeartbeats 4000000 in
set_option maxRecDepth 100000 in
theorem sX_X10_cloth_1 (l : Launch) (dC : Nat → ClassId) (dI : Nat → Nat → Nat) (cy : Nat → ClassId) (x0 : Nat) (x : Nat → Nat)  (v : Nat → Int32) (f : Nat → Nat → Int32) (hIv : XI v)  : ctI l (dC, dI) cy yX10_cloth cX10_cloth 1 .int 6 175 0 0 ((Nat → Int32) × (Nat → Nat → Int32)) [.ref x0] (XW cy x0 x v f) (fun r u => KV [] u.1 v ∧ KF [19] u.2 f ∧ XI u.1 ∧ u.1 0 = v 0 ∧ u.1 1 = v 1 ∧ u.1 7 = v 7 ∧ u.1 8 = v 8 ∧ u.1 9 = v 9 ∧ u.1 10 = v 10 ∧ u.1 31 = v 31 ∧ u.1 32 = v 32) (fun u => XW cy x0 x u.1 u.2) := by
  refine ctI_of (by decide) (Nat.le_of_ble_eq_true rfl) (fun p e s m below meth c A ls Q hx hb hml hts hown hE hP hD hA hl ret => ?_)
  have hM_v : KV [] v v := fun _ _ => rfl
  have hA_f : KF [19] f f := fun _ _ => rfl
  have hown : s.vm.findClass RX10 = some m.cls := hown
  have hS : va_S A s.heap s.heap [] := va_S.rf
  have hl : lv_has ls 1 [(0, .ref x0)] := hl
  refine lv_aload_n hx hb dX10_cloth_0 rfl (lv_at hl 0 rfl) ?_
  refine va_get (D := (dC, dI)) (ci := 10) (v := .ref (x 29)) (C := RX10) (T := TX10) (N := 10) hx hb hts inB_10 hown hE.1 hP 0 rfl rfl 6 (Nat.le_of_ble_eq_true rfl) (hts _ k_497) (fun _ h9 => h9) rfl dX10_cloth_1 ?_
  refine cbVi (n := 0) (rest := []) hx hb hml hown hts hE hP hD hS hA (sX_X2_leastCloth_1 l dC dI cy x0 x  v f hIv ) k_1097 k_1098 k_1099 k_110 k_1100 (by decide +kernel) ⟨Nat.le_of_ble_eq_true rfl, Nat.le_of_ble_eq_true rfl⟩ 30 2 rfl rfl (rfl) hl.1 rfl (Nat.le_of_ble_eq_true rfl) dX10_cloth_4 (fun r1 u H locs hw hP hD hS => ?_)
  obtain ⟨v2, f3⟩ := u
  obtain ⟨kV_v2, kF_f3, hIv2, hk0_v2, hk1_v2, hk7_v2, hk8_v2, hk9_v2, hk10_v2, hk31_v2, hk32_v2⟩ := hw
  have hM_v2 : KV [] v2 v := KV.tr kV_v2 hM_v rfl
  have hA_f3 : KF [19] f3 f := KF.tr kF_f3 hA_f rfl
  have hP : va_P (dC, dI) vwCl (XW cy x0 x v2 f3) H := hP
  have hD : va_D A (XW cy x0 x v2 f3) := hD
  have hq0_v2 : v2 0 = (v 0) := hk0_v2
  have hq1_v2 : v2 1 = (v 1) := hk1_v2
  have hq7_v2 : v2 7 = (v 7) := hk7_v2
  have hq8_v2 : v2 8 = (v 8) := hk8_v2
  have hq9_v2 : v2 9 = (v 9) := hk9_v2
  have hq10_v2 : v2 10 = (v 10) := hk10_v2
  have hq31_v2 : v2 31 = (v 31) := hk31_v2
  have hq32_v2 : v2 32 = (v 32) := hk32_v2
  exact ret r1 (v2, f3) _ _ _ _ _ _ rfl ⟨hM_v2, hA_f3, hIv2, hk0_v2, hk1_v2, hk7_v2, hk8_v2, hk9_v2, hk10_v2, hk31_v2, hk32_v2⟩ hP hD hS dX10_cloth_7 (Nat.le_refl _) (Nat.le_refl _)
set_option maxHeartbeats 4000000 in
set_option maxRecDepth 100000 in
theorem sX_X0_isClear_1 (l : Launch) (dC : Nat → ClassId) (dI : Nat → Nat → Nat) (cy : Nat → ClassId) (x0 : Nat) (x : Nat → Nat) (p1 : Int32) (p2 : Int32) (v : Nat → Int32) (f : Nat → Nat → Int32) (hIv : XI v)  : ctI l (dC, dI) cy yX0_isClear cX0_isClear 6 .boolean 3 103 0 0 Unit [.ref (x 31), .int p1, .int p2] (XW cy x0 x v f) (fun r u => ((r = 1) ∨ (r = 0))) (fun u => XW cy x0 x v f) := by
  refine ctI_of (by decide) (Nat.le_of_ble_eq_true rfl) (fun p e s m below meth c A ls Q hx hb hml hts hown hE hP hD hA hl ret => ?_)
  have hown : s.vm.findClass RX0 = some m.cls := hown
  have hS : va_S A s.heap s.heap [] := va_S.rf
  have hl : lv_has ls 6 [(0, .ref (x 31)), (1, .int p1), (2, .int p2)] := hl
  refine lv_aload_n hx hb dX0_isClear_0 rfl (lv_at hl 0 rfl) ?_
  refine va_get (D := (dC, dI)) (ci := 0) (v := .ref (x 26)) (C := RX0) (T := TX0) (N := 8) hx hb hts inB_0 hown hE.1 hP 32 rfl rfl 0 (Nat.le_of_ble_eq_true rfl) (hts _ k_430) (fun _ h9 => h9) rfl dX0_isClear_1 ?_
  refine lv_iconst (v := 0) hx hb dX0_isClear_4 rfl ?_
  refine lv_iload_n hx hb dX0_isClear_5 rfl (lv_at hl 1 rfl) ?_
  refine cbVi (n := 2) (rest := []) hx hb hml hown hts hE hP hD hS hA (sX_X7_manPart_1 0 l dC dI cy x0 x 0 p1 v f hIv ) k_1127 k_303 k_304 k_104 k_305 (by decide +kernel) ⟨Nat.le_of_ble_eq_true rfl, Nat.le_of_ble_eq_true rfl⟩ 27 7 rfl rfl (rfl) hl.1 rfl (Nat.le_of_ble_eq_true rfl) dX0_isClear_6 (fun r1 u H locs hw hP hD hS => ?_)
  have hG2 := hw
  refine lv_istore_n (lv' := [(3, .int r1), (0, .ref (x 31)), (1, .int p1), (2, .int p2)]) hx hb dX0_isClear_9 rfl hl (Nat.le_of_ble_eq_true rfl) rfl (fun ls hl => ?_)
  refine lv_iconst (v := 0) hx hb dX0_isClear_10 rfl ?_
  refine lv_istore (lv' := [(4, .int 0), (3, .int r1), (0, .ref (x 31)), (1, .int p1), (2, .int p2)]) hx hb dX0_isClear_11 hl (Nat.le_of_ble_eq_true rfl) rfl (fun ls hl => ?_)
  have lp3 : ∀ (n3 : Nat) (l4_3 : Int32), ((0 : Int) ≤ l4_3.toInt ∧ l4_3.toInt ≤ 2147483647) → (2147483647 - l4_3.toInt).toNat < n3 → ∀ (H : Heap) (locs : List Loc) (ls : Array Slot), va_P (dC, dI) vwCl (XW cy x0 x v f) H → va_D A (XW cy x0 x v f) → va_S A s.heap H locs → lv_has ls 6 [(4, .int l4_3), (3, .int r1), (0, .ref (x 31)), (1, .int p1), (2, .int p2)] → W p l e { frames := 3, cells := 0, slots := 0, locals := 103 } s m ([.ref (x 31), .int p1, .int p2] : List Value).toArray below meth c H locs 0 0 Q (F0 m 13 ls []) := by
    intro n3
    induction n3 with
    | zero => intro l4_3 hr4_3 hm; exact absurd hm (Nat.not_lt_zero _)
    | succ n3 ih3 =>
      intro l4_3 hr4_3 hm3 H locs ls hP hD hS hl
      refine lv_iload hx hb dX0_isClear_13 (lv_at hl 0 rfl) ?_
      refine lv_iload_n hx hb dX0_isClear_15 rfl (lv_at hl 3 rfl) ?_
      refine lv_icmp_ge (tgt := 77) hx hb dX0_isClear_16 rfl (fun c4 => ?_) (fun c4 => ?_)
      · skip
        have zc4 : p1.toInt ≤ l4_3.toInt := by rw [fa_le] at c4; exact c4
        have rg5 := fb_rng l4_3
        have rg6 := fb_rng p1
        refine lv_iconst (v := 1) hx hb dX0_isClear_77 rfl ?_
        exact ret 1 () _ _ _ _ _ _ rfl (Or.inl rfl) hP hD hS dX0_isClear_78 (Nat.le_refl _) (Nat.le_refl _)
      · skip
        have zc4 : ¬ (p1.toInt ≤ l4_3.toInt) := by rw [fa_le] at c4; exact c4
        have rg7 := fb_rng l4_3
        have rg8 := fb_rng p1
        refine lv_iload hx hb dX0_isClear_19 (lv_at hl 0 rfl) ?_
        refine lv_aload_n hx hb dX0_isClear_21 rfl (lv_at hl 2 rfl) ?_
        refine va_get (D := (dC, dI)) (ci := 0) (v := .ref (x 32)) (C := RX0) (T := TX0) (N := 8) hx hb hts inB_0 hown hE.1 hP 32 rfl rfl 2 (Nat.le_of_ble_eq_true rfl) (hts _ k_432) (fun _ h9 => h9) rfl dX0_isClear_22 ?_
        refine va_alen (v := 6) hx hb hE.1 hP 33 1 rfl rfl rfl dX0_isClear_25 ?_
        refine lv_icmp_ge (tgt := 77) hx hb dX0_isClear_26 rfl (fun c9 => ?_) (fun c9 => ?_)
        · skip
          have zc9 : 6 ≤ l4_3.toInt := by rw [fa_le, show (6 : Int32).toInt = 6 from by decide] at c9; exact c9
          refine lv_iconst (v := 1) hx hb dX0_isClear_77 rfl ?_
          exact ret 1 () _ _ _ _ _ _ rfl (Or.inl rfl) hP hD hS dX0_isClear_78 (Nat.le_refl _) (Nat.le_refl _)
        · skip
          have zc9 : ¬ (6 ≤ l4_3.toInt) := by rw [fa_le, show (6 : Int32).toInt = 6 from by decide] at c9; exact c9
          refine lv_iload_n hx hb dX0_isClear_29 rfl (lv_at hl 1 rfl) ?_
          refine lv_aload_n hx hb dX0_isClear_30 rfl (lv_at hl 2 rfl) ?_
          refine va_get (D := (dC, dI)) (ci := 0) (v := .ref (x 26)) (C := RX0) (T := TX0) (N := 8) hx hb hts inB_0 hown hE.1 hP 32 rfl rfl 0 (Nat.le_of_ble_eq_true rfl) (hts _ k_430) (fun _ h9 => h9) rfl dX0_isClear_31 ?_
          refine lv_iconst (v := 0) hx hb dX0_isClear_34 rfl ?_
          refine lv_iload hx hb dX0_isClear_35 (lv_at hl 0 rfl) ?_
          refine cbVi (n := 2) (rest := [.int r1]) hx hb hml hown hts hE hP hD hS hA (sX_X7_manPart_1 0 l dC dI cy x0 x 0 l4_3 v f hIv ) k_1127 k_303 k_304 k_104 k_305 (by decide +kernel) ⟨Nat.le_of_ble_eq_true rfl, Nat.le_of_ble_eq_true rfl⟩ 27 7 rfl rfl (rfl) hl.1 rfl (Nat.le_of_ble_eq_true rfl) dX0_isClear_37 (fun r10 u H locs hw hP hD hS => ?_)
          have hG11 := hw
          refine lv_isub hx hb dX0_isClear_40 ?_
          refine lv_topi (fun t12 et12 => ?_)
          refine va_mabs hx hb (by rw [hml]; exact hl.1.symm) hown (hts _ k_1128) (hts _ k_1018) (hts _ k_119) (hts _ k_1019) (Nat.le_of_ble_eq_true rfl) (Nat.le_of_ble_eq_true rfl) (Nat.le_of_ble_eq_true rfl) (Nat.le_of_ble_eq_true rfl) dX0_isClear_41 ?_
          refine lv_topi (fun t13 et13 => ?_)
          refine lv_istore (lv' := [(5, .int t13), (4, .int l4_3), (3, .int r1), (0, .ref (x 31)), (1, .int p1), (2, .int p2)]) hx hb dX0_isClear_44 hl (Nat.le_of_ble_eq_true rfl) rfl (fun ls hl => ?_)
          refine lv_aload_n hx hb dX0_isClear_46 rfl (lv_at hl 3 rfl) ?_
          refine va_get (D := (dC, dI)) (ci := 0) (v := .ref (x 32)) (C := RX0) (T := TX0) (N := 8) hx hb hts inB_0 hown hE.1 hP 32 rfl rfl 2 (Nat.le_of_ble_eq_true rfl) (hts _ k_432) (fun _ h9 => h9) rfl dX0_isClear_47 ?_
          refine lv_iload hx hb dX0_isClear_50 (lv_at hl 1 rfl) ?_
          refine ldI hx hb hE hP 33 rfl (vp_in_iff.mpr ⟨by omega, by omega⟩) rfl rfl dX0_isClear_52 ?_
          refine lv_topi (fun t14 et14 => ?_)
          refine lv_iload_n hx hb dX0_isClear_53 rfl (lv_at hl 5 rfl) ?_
          refine lv_icmp_ne (tgt := 71) hx hb dX0_isClear_54 rfl (fun c15 => ?_) (fun c15 => ?_)
          · skip
            have zc15 : ¬ (t14.toInt = p2.toInt) := by rw [fa_eq] at c15; exact c15
            have rg16 := fb_rng t14
            have rg17 := fb_rng p2
            obtain ⟨t18, et18⟩ : ∃ y : Int32, y = l4_3 + 1 := ⟨_, rfl⟩
            have zt18 : t18.toInt = l4_3.toInt + 1 := by rw [et18]; exact add_i rfl (by decide) (by omega) (by omega)
            refine lv_iinc (v := t18) (lv' := [(4, .int t18), (5, .int t13), (3, .int r1), (0, .ref (x 31)), (1, .int p1), (2, .int p2)]) hx hb dX0_isClear_71 hl (k := 1) rfl (by rw [et18]; rfl) (by decide) rfl (fun ls hl => ?_)
            refine lv_goto (tgt := 13) hx hb dX0_isClear_74 rfl ?_
            have rg19 := fb_rng t18
            exact ih3 t18 ⟨show (0 : Int) ≤ t18.toInt by omega, show t18.toInt ≤ (2147483647 : Int) by omega⟩ (by show (2147483647 - t18.toInt).toNat < n3; omega) _ _ _ hP hD hS (lv_sub hl [0, 2, 3, 4, 5] rfl)
          · skip
            have zc15 : t14.toInt = p2.toInt := by rw [fa_eq] at c15; exact c15
            have rg20 := fb_rng t14
            have rg21 := fb_rng p2
            refine lv_iload hx hb dX0_isClear_57 (lv_at hl 0 rfl) ?_
            refine lv_aload_n hx hb dX0_isClear_59 rfl (lv_at hl 3 rfl) ?_
            refine va_get (D := (dC, dI)) (ci := 0) (v := .ref (x 26)) (C := RX0) (T := TX0) (N := 8) hx hb hts inB_0 hown hE.1 hP 32 rfl rfl 0 (Nat.le_of_ble_eq_true rfl) (hts _ k_430) (fun _ h9 => h9) rfl dX0_isClear_60 ?_
            refine va_getN (D := (dC, dI)) (ci := 7) (v := .int (v 35)) (C := RX7) (T := TX7) (N := 10) hx hb hts inB_7 hown hE.1 hP 27 rfl rfl 7 (Nat.le_of_ble_eq_true rfl) (va_Nw.use rfl (hE.2 _ k_238)) (fun _ h9 => h9) rfl dX0_isClear_63 ?_
            refine lv_icmp_gt (tgt := 71) hx hb dX0_isClear_66 rfl (fun c22 => ?_) (fun c22 => ?_)
            · skip
              have zc22 : (v 35).toInt < t13.toInt := by rw [fa_lt] at c22; exact c22
              have rg23 := fb_rng t13
              have rg24 := fb_rng (v 35)
              obtain ⟨t25, et25⟩ : ∃ y : Int32, y = l4_3 + 1 := ⟨_, rfl⟩
              have zt25 : t25.toInt = l4_3.toInt + 1 := by rw [et25]; exact add_i rfl (by decide) (by omega) (by omega)
              refine lv_iinc (v := t25) (lv' := [(4, .int t25), (5, .int t13), (3, .int r1), (0, .ref (x 31)), (1, .int p1), (2, .int p2)]) hx hb dX0_isClear_71 hl (k := 1) rfl (by rw [et25]; rfl) (by decide) rfl (fun ls hl => ?_)
              refine lv_goto (tgt := 13) hx hb dX0_isClear_74 rfl ?_
              have rg26 := fb_rng t25
              exact ih3 t25 ⟨show (0 : Int) ≤ t25.toInt by omega, show t25.toInt ≤ (2147483647 : Int) by omega⟩ (by show (2147483647 - t25.toInt).toNat < n3; omega) _ _ _ hP hD hS (lv_sub hl [0, 2, 3, 4, 5] rfl)
            · skip
              have zc22 : ¬ ((v 35).toInt < t13.toInt) := by rw [fa_lt] at c22; exact c22
              have rg27 := fb_rng t13
              have rg28 := fb_rng (v 35)
              refine lv_iconst (v := 0) hx hb dX0_isClear_69 rfl ?_
              exact ret 0 () _ _ _ _ _ _ rfl (Or.inr rfl) hP hD hS dX0_isClear_70 (Nat.le_refl _) (Nat.le_refl _)
  exact lp3 _ 0 ⟨by decide, by decide⟩ (Nat.lt_succ_self _) _ _ _ hP hD hS (lv_sub hl [0, 1, 2, 3, 4] rfl)
set_option maxHeartbeats 4000000 in
set_option maxRecDepth 100000 in
theorem sX_X0_painted_7 (l : Launch) (dC : Nat → ClassId) (dI : Nat → Nat → Nat) (cy : Nat → ClassId) (x0 : Nat) (x : Nat → Nat) (p2 : Int32) (v : Nat → Int32) (f : Nat → Nat → Int32) (hIv : XI v)  : ctI l (dC, dI) cy yX0_painted cX0_painted 4 .boolean 1 60 0 0 ((Nat → Int32) × (Nat → Nat → Int32)) [.ref (x 31), .int 6, .int p2] (XW cy x0 x v f) (fun r u => KV [] u.1 v ∧ KF [] u.2 f ∧ XI u.1 ∧ u.1 0 = v 0 ∧ u.1 1 = v 1 ∧ u.1 7 = v 7 ∧ u.1 8 = v 8 ∧ u.1 9 = v 9 ∧ u.1 10 = v 10 ∧ u.1 31 = v 31 ∧ u.1 32 = v 32 ∧ ((r = 1) ∨ (r = 0))) (fun u => XW cy x0 x u.1 u.2) := by
  refine ctI_of (by decide) (Nat.le_of_ble_eq_true rfl) (fun p e s m below meth c A ls Q hx hb hml hts hown hE hP hD hA hl ret => ?_)
  have hM_v : KV [] v v := fun _ _ => rfl
  have hA_f : KF [] f f := fun _ _ => rfl
  have hown : s.vm.findClass RX0 = some m.cls := hown
  have hS : va_S A s.heap s.heap [] := va_S.rf
  have hl : lv_has ls 4 [(0, .ref (x 31)), (1, .int 6), (2, .int p2)] := hl
  refine lv_iload_n hx hb dX0_painted_0 rfl (lv_at hl 1 rfl) ?_
  refine lv_aload_n hx hb dX0_painted_1 rfl (lv_at hl 0 rfl) ?_
  refine va_get (D := (dC, dI)) (ci := 0) (v := .ref (x 26)) (C := RX0) (T := TX0) (N := 8) hx hb hts inB_0 hown hE.1 hP 32 rfl rfl 0 (Nat.le_of_ble_eq_true rfl) (hts _ k_430) (fun _ h9 => h9) rfl dX0_painted_2 ?_
  refine va_getN (D := (dC, dI)) (ci := 7) (v := .int (v 31)) (C := RX7) (T := TX7) (N := 10) hx hb hts inB_7 hown hE.1 hP 27 rfl rfl 3 (Nat.le_of_ble_eq_true rfl) (va_Nw.use rfl (hE.2 _ k_216)) (fun _ h9 => h9) rfl dX0_painted_5 ?_
  have b31_v : 0 ≤ (v 31).toInt ∧ (v 31).toInt ≤ 6 := XI.b hIv 31 (by decide)
  refine lv_icmp_ge (tgt := 17) hx hb dX0_painted_8 rfl (fun c1 => ?_) (fun c1 => ?_)
  · skip
    have zc1 : (v 31).toInt ≤ 6 := by rw [fa_le, show (6 : Int32).toInt = 6 from by decide] at c1; exact c1
    refine lv_iconst (v := 1) hx hb dX0_painted_17 rfl ?_
    exact ret 1 (v, f) _ _ _ _ _ _ rfl ⟨hM_v, hA_f, hIv, rfl, rfl, rfl, rfl, rfl, rfl, rfl, rfl, (Or.inl rfl)⟩ hP hD hS dX0_painted_18 (Nat.le_refl _) (Nat.le_refl _)
  · skip
    have zc1 : ¬ ((v 31).toInt ≤ 6) := by rw [fa_le, show (6 : Int32).toInt = 6 from by decide] at c1; exact c1
    refine lv_iload_n hx hb dX0_painted_11 rfl (lv_at hl 1 rfl) ?_
    refine lv_bipush (v := 6) hx hb dX0_painted_12 rfl ?_
    refine lv_icmp_lt (tgt := 19) hx hb dX0_painted_14 rfl (fun c0 => absurd c0 (by decide)) (fun _ => ?_)
    refine lv_iconst (v := 1) hx hb dX0_painted_17 rfl ?_
    exact ret 1 (v, f) _ _ _ _ _ _ rfl ⟨hM_v, hA_f, hIv, rfl, rfl, rfl, rfl, rfl, rfl, rfl, rfl, (Or.inl rfl)⟩ hP hD hS dX0_painted_18 (Nat.le_refl _) (Nat.le_refl _)
set_option maxHeartbeats 4000000 in
set_option maxRecDepth 100000 in
theorem sX_X0_painted_6 (l : Launch) (dC : Nat → ClassId) (dI : Nat → Nat → Nat) (cy : Nat → ClassId) (x0 : Nat) (x : Nat → Nat) (p2 : Int32) (v : Nat → Int32) (f : Nat → Nat → Int32) (hIv : XI v)  : ctI l (dC, dI) cy yX0_painted cX0_painted 4 .boolean 4 128 0 0 ((Nat → Int32) × (Nat → Nat → Int32)) [.ref (x 31), .int 5, .int p2] (XW cy x0 x v f) (fun r u => KV [38] u.1 v ∧ KF [20] u.2 f ∧ XI u.1 ∧ u.1 0 = v 0 ∧ u.1 1 = v 1 ∧ u.1 7 = v 7 ∧ u.1 8 = v 8 ∧ u.1 9 = v 9 ∧ u.1 10 = v 10 ∧ u.1 31 = v 31 ∧ u.1 32 = v 32 ∧ ((r = 1) ∨ (r = 0))) (fun u => XW cy x0 x u.1 u.2) := by
  refine ctI_of (by decide) (Nat.le_of_ble_eq_true rfl) (fun p e s m below meth c A ls Q hx hb hml hts hown hE hP hD hA hl ret => ?_)
  have hM_v : KV [38] v v := fun _ _ => rfl
  have hA_f : KF [20] f f := fun _ _ => rfl
  have hown : s.vm.findClass RX0 = some m.cls := hown
  have hS : va_S A s.heap s.heap [] := va_S.rf
  have hl : lv_has ls 4 [(0, .ref (x 31)), (1, .int 5), (2, .int p2)] := hl
  refine lv_iload_n hx hb dX0_painted_0 rfl (lv_at hl 1 rfl) ?_
  refine lv_aload_n hx hb dX0_painted_1 rfl (lv_at hl 0 rfl) ?_
  refine va_get (D := (dC, dI)) (ci := 0) (v := .ref (x 26)) (C := RX0) (T := TX0) (N := 8) hx hb hts inB_0 hown hE.1 hP 32 rfl rfl 0 (Nat.le_of_ble_eq_true rfl) (hts _ k_430) (fun _ h9 => h9) rfl dX0_painted_2 ?_
  refine va_getN (D := (dC, dI)) (ci := 7) (v := .int (v 31)) (C := RX7) (T := TX7) (N := 10) hx hb hts inB_7 hown hE.1 hP 27 rfl rfl 3 (Nat.le_of_ble_eq_true rfl) (va_Nw.use rfl (hE.2 _ k_216)) (fun _ h9 => h9) rfl dX0_painted_5 ?_
  have b31_v : 0 ≤ (v 31).toInt ∧ (v 31).toInt ≤ 6 := XI.b hIv 31 (by decide)
  refine lv_icmp_ge (tgt := 17) hx hb dX0_painted_8 rfl (fun c1 => ?_) (fun c1 => ?_)
  · skip
    have zc1 : (v 31).toInt ≤ 5 := by rw [fa_le, show (5 : Int32).toInt = 5 from by decide] at c1; exact c1
    refine lv_iconst (v := 1) hx hb dX0_painted_17 rfl ?_
    exact ret 1 (v, f) _ _ _ _ _ _ rfl ⟨hM_v, hA_f, hIv, rfl, rfl, rfl, rfl, rfl, rfl, rfl, rfl, (Or.inl rfl)⟩ hP hD hS dX0_painted_18 (Nat.le_refl _) (Nat.le_refl _)
  · skip
    have zc1 : ¬ ((v 31).toInt ≤ 5) := by rw [fa_le, show (5 : Int32).toInt = 5 from by decide] at c1; exact c1
    refine lv_iload_n hx hb dX0_painted_11 rfl (lv_at hl 1 rfl) ?_
    refine lv_bipush (v := 6) hx hb dX0_painted_12 rfl ?_
    refine lv_icmp_lt (tgt := 19) hx hb dX0_painted_14 rfl (fun _ => ?_) (fun c0 => absurd (by decide) c0)
    refine lv_iconst (v := 0) hx hb dX0_painted_19 rfl ?_
    refine lv_istore_n (lv' := [(3, .int 0), (0, .ref (x 31)), (1, .int 5), (2, .int p2)]) hx hb dX0_painted_20 rfl hl (Nat.le_of_ble_eq_true rfl) rfl (fun ls hl => ?_)
    have lp2 : ∀ (n2 : Nat) (l3_2 : Int32) (v2 : Nat → Int32) (f2 : Nat → Nat → Int32), XI v2 → v2 0 = (v 0) → v2 1 = (v 1) → v2 7 = (v 7) → v2 8 = (v 8) → v2 9 = (v 9) → v2 10 = (v 10) → v2 31 = (v 31) → v2 32 = (v 32) → ((0 : Int) ≤ l3_2.toInt ∧ l3_2.toInt ≤ 2147483647) → KV [38] v2 v → KF [20] f2 f → (2147483647 - l3_2.toInt).toNat < n2 → ∀ (H : Heap) (locs : List Loc) (ls : Array Slot), va_P (dC, dI) vwCl (XW cy x0 x v2 f2) H → va_D A (XW cy x0 x v2 f2) → va_S A s.heap H locs → lv_has ls 4 [(3, .int l3_2), (0, .ref (x 31)), (1, .int 5), (2, .int p2)] → W p l e { frames := 4, cells := 0, slots := 0, locals := 128 } s m ([.ref (x 31), .int 5, .int p2] : List Value).toArray below meth c H locs 0 0 Q (F0 m 21 ls []) := by
      intro n2
      induction n2 with
      | zero => intro l3_2 v2 f2 hIv2 hq0_v2 hq1_v2 hq7_v2 hq8_v2 hq9_v2 hq10_v2 hq31_v2 hq32_v2 hr3_2 hM_v2 hA_f2 hm; exact absurd hm (Nat.not_lt_zero _)
      | succ n2 ih2 =>
        intro l3_2 v2 f2 hIv2 hq0_v2 hq1_v2 hq7_v2 hq8_v2 hq9_v2 hq10_v2 hq31_v2 hq32_v2 hr3_2 hM_v2 hA_f2 hm2 H locs ls hP hD hS hl
        refine lv_iload_n hx hb dX0_painted_21 rfl (lv_at hl 0 rfl) ?_
        refine lv_iload_n hx hb dX0_painted_22 rfl (lv_at hl 3 rfl) ?_
        refine lv_icmp_ge (tgt := 64) hx hb dX0_painted_23 rfl (fun c3 => ?_) (fun c3 => ?_)
        · skip
          have zc3 : p2.toInt ≤ l3_2.toInt := by rw [fa_le] at c3; exact c3
          have rg4 := fb_rng l3_2
          have rg5 := fb_rng p2
          refine lv_iconst (v := 0) hx hb dX0_painted_64 rfl ?_
          exact ret 0 (v2, f2) _ _ _ _ _ _ rfl ⟨hM_v2, hA_f2, hIv2, (show v2 0 = v 0 from hq0_v2), (show v2 1 = v 1 from hq1_v2), (show v2 7 = v 7 from hq7_v2), (show v2 8 = v 8 from hq8_v2), (show v2 9 = v 9 from hq9_v2), (show v2 10 = v 10 from hq10_v2), (show v2 31 = v 31 from hq31_v2), (show v2 32 = v 32 from hq32_v2), (Or.inr rfl)⟩ hP hD hS dX0_painted_65 (Nat.le_refl _) (Nat.le_refl _)
        · skip
          have zc3 : ¬ (p2.toInt ≤ l3_2.toInt) := by rw [fa_le] at c3; exact c3
          have rg6 := fb_rng l3_2
          have rg7 := fb_rng p2
          refine lv_aload_n hx hb dX0_painted_26 rfl (lv_at hl 1 rfl) ?_
          refine lv_iload_n hx hb dX0_painted_27 rfl (lv_at hl 2 rfl) ?_
          refine lv_iload_n hx hb dX0_painted_28 rfl (lv_at hl 0 rfl) ?_
          refine cbVi (n := 2) (rest := []) hx hb hml hown hts hE hP hD hS hA (sX_X0_isClear_1 l dC dI cy x0 x 5 l3_2 v2 f2 hIv2 ) k_1123 k_1125 k_34 k_111 k_1126 (by decide +kernel) ⟨Nat.le_of_ble_eq_true rfl, Nat.le_of_ble_eq_true rfl⟩ 32 0 rfl rfl (rfl) hl.1 rfl (Nat.le_of_ble_eq_true rfl) dX0_painted_29 (fun r8 u H locs hw hP hD hS => ?_)
          rcases hw with ⟨g9⟩ | ⟨g9⟩
          · skip
            subst g9
            refine lv_if_eq (tgt := 58) hx hb dX0_painted_32 rfl (fun c0 => absurd c0 (by decide)) (fun _ => ?_)
            refine lv_aload_n hx hb dX0_painted_35 rfl (lv_at hl 1 rfl) ?_
            refine lv_iload_n hx hb dX0_painted_36 rfl (lv_at hl 2 rfl) ?_
            refine va_put (D := (dC, dI)) (ci := 0) (v := .int 5) (ty := tyX0 3) (C := RX0) (T := TX0) (N := 8) hx hb hts inB_0 tyX0 tyX0_ok nmX0 hown hE.1 hP hD hS 32 rfl rfl 3 (Nat.le_of_ble_eq_true rfl) (hts _ k_433) (fun _ h9 => h9) rfl (tyX0_ok 3 (by decide)) rfl rfl (Nat.le_of_ble_eq_true rfl) dX0_painted_37 (fun H locs hP hD hS => ?_)
            have hP : va_P (dC, dI) vwCl (XW cy x0 x (upd v2 38 5) f2) H := hP
            have hD : va_D A (XW cy x0 x (upd v2 38 5) f2) := hD
            refine lv_aload_n hx hb dX0_painted_40 rfl (lv_at hl 1 rfl) ?_
            refine lv_iload_n hx hb dX0_painted_41 rfl (lv_at hl 0 rfl) ?_
            refine cbVv (n := 1) (rest := []) hx hb hml hown hts hE hP hD hS hA (sX_X0_lay_1 l dC dI cy x0 x l3_2 (upd v2 38 5) f2 (XI.upd (j := 38) (x := 5) hIv2 (by decide) (by decide)) ) k_995 k_997 k_26 k_111 k_998 (by decide +kernel) ⟨Nat.le_of_ble_eq_true rfl, Nat.le_of_ble_eq_true rfl⟩ 32 0 rfl rfl (rfl) hl.1 rfl (Nat.le_of_ble_eq_true rfl) dX0_painted_42 (fun u H locs hw hP hD hS => ?_)
            obtain ⟨v10, f11⟩ := u
            obtain ⟨kV_v10, kF_f11, hIv10, hk0_v10, hk1_v10, hk7_v10, hk8_v10, hk9_v10, hk10_v10, hk31_v10, hk32_v10⟩ := hw
            have hM_v10 : KV [38] v10 v := KV.tr kV_v10 (KV.up (j := 38) (x := 5) hM_v2 rfl) rfl
            have hA_f11 : KF [20] f11 f := KF.tr kF_f11 hA_f2 rfl
            have hP : va_P (dC, dI) vwCl (XW cy x0 x v10 f11) H := hP
            have hD : va_D A (XW cy x0 x v10 f11) := hD
            have hq0_v10 : v10 0 = (v 0) := hk0_v10.trans hq0_v2
            have hq1_v10 : v10 1 = (v 1) := hk1_v10.trans hq1_v2
            have hq7_v10 : v10 7 = (v 7) := hk7_v10.trans hq7_v2
            have hq8_v10 : v10 8 = (v 8) := hk8_v10.trans hq8_v2
            have hq9_v10 : v10 9 = (v 9) := hk9_v10.trans hq9_v2
            have hq10_v10 : v10 10 = (v 10) := hk10_v10.trans hq10_v2
            have hq31_v10 : v10 31 = (v 31) := hk31_v10.trans hq31_v2
            have hq32_v10 : v10 32 = (v 32) := hk32_v10.trans hq32_v2
            refine lv_aload_n hx hb dX0_painted_45 rfl (lv_at hl 1 rfl) ?_
            refine lv_iload_n hx hb dX0_painted_46 rfl (lv_at hl 2 rfl) ?_
            refine lv_iconst (v := 1) hx hb dX0_painted_47 rfl ?_
            refine lv_iadd hx hb dX0_painted_48 ?_
            refine tI (y := 6) (by decide) ?_
            refine lv_iload_n hx hb dX0_painted_49 rfl (lv_at hl 3 rfl) ?_
            refine cbVi (n := 2) (rest := []) hx hb hml hown hts hE hP hD hS hA (sX_X0_painted_7 l dC dI cy x0 x p2 v10 f11 hIv10 ) k_1119 k_1121 k_33 k_111 k_1122 (by decide +kernel) ⟨Nat.le_of_ble_eq_true rfl, Nat.le_of_ble_eq_true rfl⟩ 32 0 rfl rfl (rfl) hl.1 rfl (Nat.le_of_ble_eq_true rfl) dX0_painted_50 (fun r12 u H locs hw hP hD hS => ?_)
            obtain ⟨v13, f14⟩ := u
            obtain ⟨kV_v13, kF_f14, hIv13, hk0_v13, hk1_v13, hk7_v13, hk8_v13, hk9_v13, hk10_v13, hk31_v13, hk32_v13, hw⟩ := hw
            have hM_v13 : KV [38] v13 v := KV.tr kV_v13 hM_v10 rfl
            have hA_f14 : KF [20] f14 f := KF.tr kF_f14 hA_f11 rfl
            have hP : va_P (dC, dI) vwCl (XW cy x0 x v13 f14) H := hP
            have hD : va_D A (XW cy x0 x v13 f14) := hD
            have hq0_v13 : v13 0 = (v 0) := hk0_v13.trans hq0_v10
            have hq1_v13 : v13 1 = (v 1) := hk1_v13.trans hq1_v10
            have hq7_v13 : v13 7 = (v 7) := hk7_v13.trans hq7_v10
            have hq8_v13 : v13 8 = (v 8) := hk8_v13.trans hq8_v10
            have hq9_v13 : v13 9 = (v 9) := hk9_v13.trans hq9_v10
            have hq10_v13 : v13 10 = (v 10) := hk10_v13.trans hq10_v10
            have hq31_v13 : v13 31 = (v 31) := hk31_v13.trans hq31_v10
            have hq32_v13 : v13 32 = (v 32) := hk32_v13.trans hq32_v10
            rcases hw with ⟨g15⟩ | ⟨g15⟩
            · skip
              subst g15
              refine lv_if_eq (tgt := 58) hx hb dX0_painted_53 rfl (fun c0 => absurd c0 (by decide)) (fun _ => ?_)
              refine lv_iconst (v := 1) hx hb dX0_painted_56 rfl ?_
              exact ret 1 (v13, f14) _ _ _ _ _ _ rfl ⟨hM_v13, hA_f14, hIv13, (hk0_v13.trans (hk0_v10.trans (show v2 0 = v 0 from hq0_v2))), (hk1_v13.trans (hk1_v10.trans (show v2 1 = v 1 from hq1_v2))), (hk7_v13.trans (hk7_v10.trans (show v2 7 = v 7 from hq7_v2))), (hk8_v13.trans (hk8_v10.trans (show v2 8 = v 8 from hq8_v2))), (hk9_v13.trans (hk9_v10.trans (show v2 9 = v 9 from hq9_v2))), (hk10_v13.trans (hk10_v10.trans (show v2 10 = v 10 from hq10_v2))), (hk31_v13.trans (hk31_v10.trans (show v2 31 = v 31 from hq31_v2))), (hk32_v13.trans (hk32_v10.trans (show v2 32 = v 32 from hq32_v2))), (Or.inl rfl)⟩ hP hD hS dX0_painted_57 (Nat.le_refl _) (Nat.le_refl _)
            · skip
              subst g15
              refine lv_if_eq (tgt := 58) hx hb dX0_painted_53 rfl (fun _ => ?_) (fun c0 => absurd (by decide) c0)
              obtain ⟨t16, et16⟩ : ∃ y : Int32, y = l3_2 + 1 := ⟨_, rfl⟩
              have zt16 : t16.toInt = l3_2.toInt + 1 := by rw [et16]; exact add_i rfl (by decide) (by omega) (by omega)
              refine lv_iinc (v := t16) (lv' := [(3, .int t16), (0, .ref (x 31)), (1, .int 5), (2, .int p2)]) hx hb dX0_painted_58 hl (k := 0) rfl (by rw [et16]; rfl) (by decide) rfl (fun ls hl => ?_)
              refine lv_goto (tgt := 21) hx hb dX0_painted_61 rfl ?_
              have rg17 := fb_rng t16
              exact ih2 t16 v13 f14 hIv13 hq0_v13 hq1_v13 hq7_v13 hq8_v13 hq9_v13 hq10_v13 hq31_v13 hq32_v13 ⟨show (0 : Int) ≤ t16.toInt by omega, show t16.toInt ≤ (2147483647 : Int) by omega⟩ hM_v13 hA_f14 (by show (2147483647 - t16.toInt).toNat < n2; omega) _ _ _ hP hD hS (lv_sub hl [0, 1, 2, 3] rfl)
          · skip
            subst g9
            refine lv_if_eq (tgt := 58) hx hb dX0_painted_32 rfl (fun _ => ?_) (fun c0 => absurd (by decide) c0)
            obtain ⟨t18, et18⟩ : ∃ y : Int32, y = l3_2 + 1 := ⟨_, rfl⟩
            have zt18 : t18.toInt = l3_2.toInt + 1 := by rw [et18]; exact add_i rfl (by decide) (by omega) (by omega)
            refine lv_iinc (v := t18) (lv' := [(3, .int t18), (0, .ref (x 31)), (1, .int 5), (2, .int p2)]) hx hb dX0_painted_58 hl (k := 0) rfl (by rw [et18]; rfl) (by decide) rfl (fun ls hl => ?_)
            refine lv_goto (tgt := 21) hx hb dX0_painted_61 rfl ?_
            have rg19 := fb_rng t18
            exact ih2 t18 v2 f2 hIv2 hq0_v2 hq1_v2 hq7_v2 hq8_v2 hq9_v2 hq10_v2 hq31_v2 hq32_v2 ⟨show (0 : Int) ≤ t18.toInt by omega, show t18.toInt ≤ (2147483647 : Int) by omega⟩ hM_v2 hA_f2 (by show (2147483647 - t18.toInt).toNat < n2; omega) _ _ _ hP hD hS (lv_sub hl [0, 1, 2, 3] rfl)
    exact lp2 _ 0 v f hIv rfl rfl rfl rfl rfl rfl rfl rfl ⟨by decide, by decide⟩ hM_v hA_f (Nat.lt_succ_self _) _ _ _ hP hD hS (lv_sub hl [0, 1, 2, 3] rfl)
set_option maxHeartbeats 4000000 in
set_option maxRecDepth 100000 in
theorem sX_X0_painted_5 (l : Launch) (dC : Nat → ClassId) (dI : Nat → Nat → Nat) (cy : Nat → ClassId) (x0 : Nat) (x : Nat → Nat) (p2 : Int32) (v : Nat → Int32) (f : Nat → Nat → Int32) (hIv : XI v)  : ctI l (dC, dI) cy yX0_painted cX0_painted 4 .boolean 5 151 0 0 ((Nat → Int32) × (Nat → Nat → Int32)) [.ref (x 31), .int 4, .int p2] (XW cy x0 x v f) (fun r u => KV [38] u.1 v ∧ KF [20] u.2 f ∧ XI u.1 ∧ u.1 0 = v 0 ∧ u.1 1 = v 1 ∧ u.1 7 = v 7 ∧ u.1 8 = v 8 ∧ u.1 9 = v 9 ∧ u.1 10 = v 10 ∧ u.1 31 = v 31 ∧ u.1 32 = v 32 ∧ ((r = 1) ∨ (r = 0))) (fun u => XW cy x0 x u.1 u.2) := by
  refine ctI_of (by decide) (Nat.le_of_ble_eq_true rfl) (fun p e s m below meth c A ls Q hx hb hml hts hown hE hP hD hA hl ret => ?_)
  have hM_v : KV [38] v v := fun _ _ => rfl
  have hA_f : KF [20] f f := fun _ _ => rfl
  have hown : s.vm.findClass RX0 = some m.cls := hown
  have hS : va_S A s.heap s.heap [] := va_S.rf
  have hl : lv_has ls 4 [(0, .ref (x 31)), (1, .int 4), (2, .int p2)] := hl
  refine lv_iload_n hx hb dX0_painted_0 rfl (lv_at hl 1 rfl) ?_
  refine lv_aload_n hx hb dX0_painted_1 rfl (lv_at hl 0 rfl) ?_
  refine va_get (D := (dC, dI)) (ci := 0) (v := .ref (x 26)) (C := RX0) (T := TX0) (N := 8) hx hb hts inB_0 hown hE.1 hP 32 rfl rfl 0 (Nat.le_of_ble_eq_true rfl) (hts _ k_430) (fun _ h9 => h9) rfl dX0_painted_2 ?_
  refine va_getN (D := (dC, dI)) (ci := 7) (v := .int (v 31)) (C := RX7) (T := TX7) (N := 10) hx hb hts inB_7 hown hE.1 hP 27 rfl rfl 3 (Nat.le_of_ble_eq_true rfl) (va_Nw.use rfl (hE.2 _ k_216)) (fun _ h9 => h9) rfl dX0_painted_5 ?_
  have b31_v : 0 ≤ (v 31).toInt ∧ (v 31).toInt ≤ 6 := XI.b hIv 31 (by decide)
  refine lv_icmp_ge (tgt := 17) hx hb dX0_painted_8 rfl (fun c1 => ?_) (fun c1 => ?_)
  · skip
    have zc1 : (v 31).toInt ≤ 4 := by rw [fa_le, show (4 : Int32).toInt = 4 from by decide] at c1; exact c1
    refine lv_iconst (v := 1) hx hb dX0_painted_17 rfl ?_
    exact ret 1 (v, f) _ _ _ _ _ _ rfl ⟨hM_v, hA_f, hIv, rfl, rfl, rfl, rfl, rfl, rfl, rfl, rfl, (Or.inl rfl)⟩ hP hD hS dX0_painted_18 (Nat.le_refl _) (Nat.le_refl _)
  · skip
    have zc1 : ¬ ((v 31).toInt ≤ 4) := by rw [fa_le, show (4 : Int32).toInt = 4 from by decide] at c1; exact c1
    refine lv_iload_n hx hb dX0_painted_11 rfl (lv_at hl 1 rfl) ?_
    refine lv_bipush (v := 6) hx hb dX0_painted_12 rfl ?_
    refine lv_icmp_lt (tgt := 19) hx hb dX0_painted_14 rfl (fun _ => ?_) (fun c0 => absurd (by decide) c0)
    refine lv_iconst (v := 0) hx hb dX0_painted_19 rfl ?_
    refine lv_istore_n (lv' := [(3, .int 0), (0, .ref (x 31)), (1, .int 4), (2, .int p2)]) hx hb dX0_painted_20 rfl hl (Nat.le_of_ble_eq_true rfl) rfl (fun ls hl => ?_)
    have lp2 : ∀ (n2 : Nat) (l3_2 : Int32) (v2 : Nat → Int32) (f2 : Nat → Nat → Int32), XI v2 → v2 0 = (v 0) → v2 1 = (v 1) → v2 7 = (v 7) → v2 8 = (v 8) → v2 9 = (v 9) → v2 10 = (v 10) → v2 31 = (v 31) → v2 32 = (v 32) → ((0 : Int) ≤ l3_2.toInt ∧ l3_2.toInt ≤ 2147483647) → KV [38] v2 v → KF [20] f2 f → (2147483647 - l3_2.toInt).toNat < n2 → ∀ (H : Heap) (locs : List Loc) (ls : Array Slot), va_P (dC, dI) vwCl (XW cy x0 x v2 f2) H → va_D A (XW cy x0 x v2 f2) → va_S A s.heap H locs → lv_has ls 4 [(3, .int l3_2), (0, .ref (x 31)), (1, .int 4), (2, .int p2)] → W p l e { frames := 5, cells := 0, slots := 0, locals := 151 } s m ([.ref (x 31), .int 4, .int p2] : List Value).toArray below meth c H locs 0 0 Q (F0 m 21 ls []) := by
      intro n2
      induction n2 with
      | zero => intro l3_2 v2 f2 hIv2 hq0_v2 hq1_v2 hq7_v2 hq8_v2 hq9_v2 hq10_v2 hq31_v2 hq32_v2 hr3_2 hM_v2 hA_f2 hm; exact absurd hm (Nat.not_lt_zero _)
      | succ n2 ih2 =>
        intro l3_2 v2 f2 hIv2 hq0_v2 hq1_v2 hq7_v2 hq8_v2 hq9_v2 hq10_v2 hq31_v2 hq32_v2 hr3_2 hM_v2 hA_f2 hm2 H locs ls hP hD hS hl
        refine lv_iload_n hx hb dX0_painted_21 rfl (lv_at hl 0 rfl) ?_
        refine lv_iload_n hx hb dX0_painted_22 rfl (lv_at hl 3 rfl) ?_
        refine lv_icmp_ge (tgt := 64) hx hb dX0_painted_23 rfl (fun c3 => ?_) (fun c3 => ?_)
        · skip
          have zc3 : p2.toInt ≤ l3_2.toInt := by rw [fa_le] at c3; exact c3
          have rg4 := fb_rng l3_2
          have rg5 := fb_rng p2
          refine lv_iconst (v := 0) hx hb dX0_painted_64 rfl ?_
          exact ret 0 (v2, f2) _ _ _ _ _ _ rfl ⟨hM_v2, hA_f2, hIv2, (show v2 0 = v 0 from hq0_v2), (show v2 1 = v 1 from hq1_v2), (show v2 7 = v 7 from hq7_v2), (show v2 8 = v 8 from hq8_v2), (show v2 9 = v 9 from hq9_v2), (show v2 10 = v 10 from hq10_v2), (show v2 31 = v 31 from hq31_v2), (show v2 32 = v 32 from hq32_v2), (Or.inr rfl)⟩ hP hD hS dX0_painted_65 (Nat.le_refl _) (Nat.le_refl _)
        · skip
          have zc3 : ¬ (p2.toInt ≤ l3_2.toInt) := by rw [fa_le] at c3; exact c3
          have rg6 := fb_rng l3_2
          have rg7 := fb_rng p2
          refine lv_aload_n hx hb dX0_painted_26 rfl (lv_at hl 1 rfl) ?_
          refine lv_iload_n hx hb dX0_painted_27 rfl (lv_at hl 2 rfl) ?_
          refine lv_iload_n hx hb dX0_painted_28 rfl (lv_at hl 0 rfl) ?_
          refine cbVi (n := 2) (rest := []) hx hb hml hown hts hE hP hD hS hA (sX_X0_isClear_1 l dC dI cy x0 x 4 l3_2 v2 f2 hIv2 ) k_1123 k_1125 k_34 k_111 k_1126 (by decide +kernel) ⟨Nat.le_of_ble_eq_true rfl, Nat.le_of_ble_eq_true rfl⟩ 32 0 rfl rfl (rfl) hl.1 rfl (Nat.le_of_ble_eq_true rfl) dX0_painted_29 (fun r8 u H locs hw hP hD hS => ?_)
          rcases hw with ⟨g9⟩ | ⟨g9⟩
          · skip
            subst g9
            refine lv_if_eq (tgt := 58) hx hb dX0_painted_32 rfl (fun c0 => absurd c0 (by decide)) (fun _ => ?_)
            refine lv_aload_n hx hb dX0_painted_35 rfl (lv_at hl 1 rfl) ?_
            refine lv_iload_n hx hb dX0_painted_36 rfl (lv_at hl 2 rfl) ?_
            refine va_put (D := (dC, dI)) (ci := 0) (v := .int 4) (ty := tyX0 3) (C := RX0) (T := TX0) (N := 8) hx hb hts inB_0 tyX0 tyX0_ok nmX0 hown hE.1 hP hD hS 32 rfl rfl 3 (Nat.le_of_ble_eq_true rfl) (hts _ k_433) (fun _ h9 => h9) rfl (tyX0_ok 3 (by decide)) rfl rfl (Nat.le_of_ble_eq_true rfl) dX0_painted_37 (fun H locs hP hD hS => ?_)
            have hP : va_P (dC, dI) vwCl (XW cy x0 x (upd v2 38 4) f2) H := hP
            have hD : va_D A (XW cy x0 x (upd v2 38 4) f2) := hD
            refine lv_aload_n hx hb dX0_painted_40 rfl (lv_at hl 1 rfl) ?_
            refine lv_iload_n hx hb dX0_painted_41 rfl (lv_at hl 0 rfl) ?_
            refine cbVv (n := 1) (rest := []) hx hb hml hown hts hE hP hD hS hA (sX_X0_lay_1 l dC dI cy x0 x l3_2 (upd v2 38 4) f2 (XI.upd (j := 38) (x := 4) hIv2 (by decide) (by decide)) ) k_995 k_997 k_26 k_111 k_998 (by decide +kernel) ⟨Nat.le_of_ble_eq_true rfl, Nat.le_of_ble_eq_true rfl⟩ 32 0 rfl rfl (rfl) hl.1 rfl (Nat.le_of_ble_eq_true rfl) dX0_painted_42 (fun u H locs hw hP hD hS => ?_)
            obtain ⟨v10, f11⟩ := u
            obtain ⟨kV_v10, kF_f11, hIv10, hk0_v10, hk1_v10, hk7_v10, hk8_v10, hk9_v10, hk10_v10, hk31_v10, hk32_v10⟩ := hw
            have hM_v10 : KV [38] v10 v := KV.tr kV_v10 (KV.up (j := 38) (x := 4) hM_v2 rfl) rfl
            have hA_f11 : KF [20] f11 f := KF.tr kF_f11 hA_f2 rfl
            have hP : va_P (dC, dI) vwCl (XW cy x0 x v10 f11) H := hP
            have hD : va_D A (XW cy x0 x v10 f11) := hD
            have hq0_v10 : v10 0 = (v 0) := hk0_v10.trans hq0_v2
            have hq1_v10 : v10 1 = (v 1) := hk1_v10.trans hq1_v2
            have hq7_v10 : v10 7 = (v 7) := hk7_v10.trans hq7_v2
            have hq8_v10 : v10 8 = (v 8) := hk8_v10.trans hq8_v2
            have hq9_v10 : v10 9 = (v 9) := hk9_v10.trans hq9_v2
            have hq10_v10 : v10 10 = (v 10) := hk10_v10.trans hq10_v2
            have hq31_v10 : v10 31 = (v 31) := hk31_v10.trans hq31_v2
            have hq32_v10 : v10 32 = (v 32) := hk32_v10.trans hq32_v2
            refine lv_aload_n hx hb dX0_painted_45 rfl (lv_at hl 1 rfl) ?_
            refine lv_iload_n hx hb dX0_painted_46 rfl (lv_at hl 2 rfl) ?_
            refine lv_iconst (v := 1) hx hb dX0_painted_47 rfl ?_
            refine lv_iadd hx hb dX0_painted_48 ?_
            refine tI (y := 5) (by decide) ?_
            refine lv_iload_n hx hb dX0_painted_49 rfl (lv_at hl 3 rfl) ?_
            refine cbVi (n := 2) (rest := []) hx hb hml hown hts hE hP hD hS hA (sX_X0_painted_6 l dC dI cy x0 x p2 v10 f11 hIv10 ) k_1119 k_1121 k_33 k_111 k_1122 (by decide +kernel) ⟨Nat.le_of_ble_eq_true rfl, Nat.le_of_ble_eq_true rfl⟩ 32 0 rfl rfl (rfl) hl.1 rfl (Nat.le_of_ble_eq_true rfl) dX0_painted_50 (fun r12 u H locs hw hP hD hS => ?_)
            obtain ⟨v13, f14⟩ := u
            obtain ⟨kV_v13, kF_f14, hIv13, hk0_v13, hk1_v13, hk7_v13, hk8_v13, hk9_v13, hk10_v13, hk31_v13, hk32_v13, hw⟩ := hw
            have hM_v13 : KV [38] v13 v := KV.tr kV_v13 hM_v10 rfl
            have hA_f14 : KF [20] f14 f := KF.tr kF_f14 hA_f11 rfl
            have hP : va_P (dC, dI) vwCl (XW cy x0 x v13 f14) H := hP
            have hD : va_D A (XW cy x0 x v13 f14) := hD
            have hq0_v13 : v13 0 = (v 0) := hk0_v13.trans hq0_v10
            have hq1_v13 : v13 1 = (v 1) := hk1_v13.trans hq1_v10
            have hq7_v13 : v13 7 = (v 7) := hk7_v13.trans hq7_v10
            have hq8_v13 : v13 8 = (v 8) := hk8_v13.trans hq8_v10
            have hq9_v13 : v13 9 = (v 9) := hk9_v13.trans hq9_v10
            have hq10_v13 : v13 10 = (v 10) := hk10_v13.trans hq10_v10
            have hq31_v13 : v13 31 = (v 31) := hk31_v13.trans hq31_v10
            have hq32_v13 : v13 32 = (v 32) := hk32_v13.trans hq32_v10
            rcases hw with ⟨g15⟩ | ⟨g15⟩
            · skip
              subst g15
              refine lv_if_eq (tgt := 58) hx hb dX0_painted_53 rfl (fun c0 => absurd c0 (by decide)) (fun _ => ?_)
              refine lv_iconst (v := 1) hx hb dX0_painted_56 rfl ?_
              exact ret 1 (v13, f14) _ _ _ _ _ _ rfl ⟨hM_v13, hA_f14, hIv13, (hk0_v13.trans (hk0_v10.trans (show v2 0 = v 0 from hq0_v2))), (hk1_v13.trans (hk1_v10.trans (show v2 1 = v 1 from hq1_v2))), (hk7_v13.trans (hk7_v10.trans (show v2 7 = v 7 from hq7_v2))), (hk8_v13.trans (hk8_v10.trans (show v2 8 = v 8 from hq8_v2))), (hk9_v13.trans (hk9_v10.trans (show v2 9 = v 9 from hq9_v2))), (hk10_v13.trans (hk10_v10.trans (show v2 10 = v 10 from hq10_v2))), (hk31_v13.trans (hk31_v10.trans (show v2 31 = v 31 from hq31_v2))), (hk32_v13.trans (hk32_v10.trans (show v2 32 = v 32 from hq32_v2))), (Or.inl rfl)⟩ hP hD hS dX0_painted_57 (Nat.le_refl _) (Nat.le_refl _)
            · skip
              subst g15
              refine lv_if_eq (tgt := 58) hx hb dX0_painted_53 rfl (fun _ => ?_) (fun c0 => absurd (by decide) c0)
              obtain ⟨t16, et16⟩ : ∃ y : Int32, y = l3_2 + 1 := ⟨_, rfl⟩
              have zt16 : t16.toInt = l3_2.toInt + 1 := by rw [et16]; exact add_i rfl (by decide) (by omega) (by omega)
              refine lv_iinc (v := t16) (lv' := [(3, .int t16), (0, .ref (x 31)), (1, .int 4), (2, .int p2)]) hx hb dX0_painted_58 hl (k := 0) rfl (by rw [et16]; rfl) (by decide) rfl (fun ls hl => ?_)
              refine lv_goto (tgt := 21) hx hb dX0_painted_61 rfl ?_
              have rg17 := fb_rng t16
              exact ih2 t16 v13 f14 hIv13 hq0_v13 hq1_v13 hq7_v13 hq8_v13 hq9_v13 hq10_v13 hq31_v13 hq32_v13 ⟨show (0 : Int) ≤ t16.toInt by omega, show t16.toInt ≤ (2147483647 : Int) by omega⟩ hM_v13 hA_f14 (by show (2147483647 - t16.toInt).toNat < n2; omega) _ _ _ hP hD hS (lv_sub hl [0, 1, 2, 3] rfl)
          · skip
            subst g9
            refine lv_if_eq (tgt := 58) hx hb dX0_painted_32 rfl (fun _ => ?_) (fun c0 => absurd (by decide) c0)
            obtain ⟨t18, et18⟩ : ∃ y : Int32, y = l3_2 + 1 := ⟨_, rfl⟩
            have zt18 : t18.toInt = l3_2.toInt + 1 := by rw [et18]; exact add_i rfl (by decide) (by omega) (by omega)
            refine lv_iinc (v := t18) (lv' := [(3, .int t18), (0, .ref (x 31)), (1, .int 4), (2, .int p2)]) hx hb dX0_painted_58 hl (k := 0) rfl (by rw [et18]; rfl) (by decide) rfl (fun ls hl => ?_)
            refine lv_goto (tgt := 21) hx hb dX0_painted_61 rfl ?_
            have rg19 := fb_rng t18
            exact ih2 t18 v2 f2 hIv2 hq0_v2 hq1_v2 hq7_v2 hq8_v2 hq9_v2 hq10_v2 hq31_v2 hq32_v2 ⟨show (0 : Int) ≤ t18.toInt by omega, show t18.toInt ≤ (2147483647 : Int) by omega⟩ hM_v2 hA_f2 (by show (2147483647 - t18.toInt).toNat < n2; omega) _ _ _ hP hD hS (lv_sub hl [0, 1, 2, 3] rfl)
    exact lp2 _ 0 v f hIv rfl rfl rfl rfl rfl rfl rfl rfl ⟨by decide, by decide⟩ hM_v hA_f (Nat.lt_succ_self _) _ _ _ hP hD hS (lv_sub hl [0, 1, 2, 3] rfl)
set_option maxHeartbeats 4000000 in
set_option maxRecDepth 100000 in
theorem sX_X0_painted_4 (l : Launch) (dC : Nat → ClassId) (dI : Nat → Nat → Nat) (cy : Nat → ClassId) (x0 : Nat) (x : Nat → Nat) (p2 : Int32) (v : Nat → Int32) (f : Nat → Nat → Int32) (hIv : XI v)  : ctI l (dC, dI) cy yX0_painted cX0_painted 4 .boolean 6 174 0 0 ((Nat → Int32) × (Nat → Nat → Int32)) [.ref (x 31), .int 3, .int p2] (XW cy x0 x v f) (fun r u => KV [38] u.1 v ∧ KF [20] u.2 f ∧ XI u.1 ∧ u.1 0 = v 0 ∧ u.1 1 = v 1 ∧ u.1 7 = v 7 ∧ u.1 8 = v 8 ∧ u.1 9 = v 9 ∧ u.1 10 = v 10 ∧ u.1 31 = v 31 ∧ u.1 32 = v 32 ∧ ((r = 1) ∨ (r = 0))) (fun u => XW cy x0 x u.1 u.2) := by
  refine ctI_of (by decide) (Nat.le_of_ble_eq_true rfl) (fun p e s m below meth c A ls Q hx hb hml hts hown hE hP hD hA hl ret => ?_)
  have hM_v : KV [38] v v := fun _ _ => rfl
  have hA_f : KF [20] f f := fun _ _ => rfl
  have hown : s.vm.findClass RX0 = some m.cls := hown
  have hS : va_S A s.heap s.heap [] := va_S.rf
  have hl : lv_has ls 4 [(0, .ref (x 31)), (1, .int 3), (2, .int p2)] := hl
  refine lv_iload_n hx hb dX0_painted_0 rfl (lv_at hl 1 rfl) ?_
  refine lv_aload_n hx hb dX0_painted_1 rfl (lv_at hl 0 rfl) ?_
  refine va_get (D := (dC, dI)) (ci := 0) (v := .ref (x 26)) (C := RX0) (T := TX0) (N := 8) hx hb hts inB_0 hown hE.1 hP 32 rfl rfl 0 (Nat.le_of_ble_eq_true rfl) (hts _ k_430) (fun _ h9 => h9) rfl dX0_painted_2 ?_
  refine va_getN (D := (dC, dI)) (ci := 7) (v := .int (v 31)) (C := RX7) (T := TX7) (N := 10) hx hb hts inB_7 hown hE.1 hP 27 rfl rfl 3 (Nat.le_of_ble_eq_true rfl) (va_Nw.use rfl (hE.2 _ k_216)) (fun _ h9 => h9) rfl dX0_painted_5 ?_
  have b31_v : 0 ≤ (v 31).toInt ∧ (v 31).toInt ≤ 6 := XI.b hIv 31 (by decide)
  refine lv_icmp_ge (tgt := 17) hx hb dX0_painted_8 rfl (fun c1 => ?_) (fun c1 => ?_)
  · skip
    have zc1 : (v 31).toInt ≤ 3 := by rw [fa_le, show (3 : Int32).toInt = 3 from by decide] at c1; exact c1
    refine lv_iconst (v := 1) hx hb dX0_painted_17 rfl ?_
    exact ret 1 (v, f) _ _ _ _ _ _ rfl ⟨hM_v, hA_f, hIv, rfl, rfl, rfl, rfl, rfl, rfl, rfl, rfl, (Or.inl rfl)⟩ hP hD hS dX0_painted_18 (Nat.le_refl _) (Nat.le_refl _)
  · skip
    have zc1 : ¬ ((v 31).toInt ≤ 3) := by rw [fa_le, show (3 : Int32).toInt = 3 from by decide] at c1; exact c1
    refine lv_iload_n hx hb dX0_painted_11 rfl (lv_at hl 1 rfl) ?_
    refine lv_bipush (v := 6) hx hb dX0_painted_12 rfl ?_
    refine lv_icmp_lt (tgt := 19) hx hb dX0_painted_14 rfl (fun _ => ?_) (fun c0 => absurd (by decide) c0)
    refine lv_iconst (v := 0) hx hb dX0_painted_19 rfl ?_
    refine lv_istore_n (lv' := [(3, .int 0), (0, .ref (x 31)), (1, .int 3), (2, .int p2)]) hx hb dX0_painted_20 rfl hl (Nat.le_of_ble_eq_true rfl) rfl (fun ls hl => ?_)
    have lp2 : ∀ (n2 : Nat) (l3_2 : Int32) (v2 : Nat → Int32) (f2 : Nat → Nat → Int32), XI v2 → v2 0 = (v 0) → v2 1 = (v 1) → v2 7 = (v 7) → v2 8 = (v 8) → v2 9 = (v 9) → v2 10 = (v 10) → v2 31 = (v 31) → v2 32 = (v 32) → ((0 : Int) ≤ l3_2.toInt ∧ l3_2.toInt ≤ 2147483647) → KV [38] v2 v → KF [20] f2 f → (2147483647 - l3_2.toInt).toNat < n2 → ∀ (H : Heap) (locs : List Loc) (ls : Array Slot), va_P (dC, dI) vwCl (XW cy x0 x v2 f2) H → va_D A (XW cy x0 x v2 f2) → va_S A s.heap H locs → lv_has ls 4 [(3, .int l3_2), (0, .ref (x 31)), (1, .int 3), (2, .int p2)] → W p l e { frames := 6, cells := 0, slots := 0, locals := 174 } s m ([.ref (x 31), .int 3, .int p2] : List Value).toArray below meth c H locs 0 0 Q (F0 m 21 ls []) := by
      intro n2
      induction n2 with
      | zero => intro l3_2 v2 f2 hIv2 hq0_v2 hq1_v2 hq7_v2 hq8_v2 hq9_v2 hq10_v2 hq31_v2 hq32_v2 hr3_2 hM_v2 hA_f2 hm; exact absurd hm (Nat.not_lt_zero _)
      | succ n2 ih2 =>
        intro l3_2 v2 f2 hIv2 hq0_v2 hq1_v2 hq7_v2 hq8_v2 hq9_v2 hq10_v2 hq31_v2 hq32_v2 hr3_2 hM_v2 hA_f2 hm2 H locs ls hP hD hS hl
        refine lv_iload_n hx hb dX0_painted_21 rfl (lv_at hl 0 rfl) ?_
        refine lv_iload_n hx hb dX0_painted_22 rfl (lv_at hl 3 rfl) ?_
        refine lv_icmp_ge (tgt := 64) hx hb dX0_painted_23 rfl (fun c3 => ?_) (fun c3 => ?_)
        · skip
          have zc3 : p2.toInt ≤ l3_2.toInt := by rw [fa_le] at c3; exact c3
          have rg4 := fb_rng l3_2
          have rg5 := fb_rng p2
          refine lv_iconst (v := 0) hx hb dX0_painted_64 rfl ?_
          exact ret 0 (v2, f2) _ _ _ _ _ _ rfl ⟨hM_v2, hA_f2, hIv2, (show v2 0 = v 0 from hq0_v2), (show v2 1 = v 1 from hq1_v2), (show v2 7 = v 7 from hq7_v2), (show v2 8 = v 8 from hq8_v2), (show v2 9 = v 9 from hq9_v2), (show v2 10 = v 10 from hq10_v2), (show v2 31 = v 31 from hq31_v2), (show v2 32 = v 32 from hq32_v2), (Or.inr rfl)⟩ hP hD hS dX0_painted_65 (Nat.le_refl _) (Nat.le_refl _)
        · skip
          have zc3 : ¬ (p2.toInt ≤ l3_2.toInt) := by rw [fa_le] at c3; exact c3
          have rg6 := fb_rng l3_2
          have rg7 := fb_rng p2
          refine lv_aload_n hx hb dX0_painted_26 rfl (lv_at hl 1 rfl) ?_
          refine lv_iload_n hx hb dX0_painted_27 rfl (lv_at hl 2 rfl) ?_
          refine lv_iload_n hx hb dX0_painted_28 rfl (lv_at hl 0 rfl) ?_
          refine cbVi (n := 2) (rest := []) hx hb hml hown hts hE hP hD hS hA (sX_X0_isClear_1 l dC dI cy x0 x 3 l3_2 v2 f2 hIv2 ) k_1123 k_1125 k_34 k_111 k_1126 (by decide +kernel) ⟨Nat.le_of_ble_eq_true rfl, Nat.le_of_ble_eq_true rfl⟩ 32 0 rfl rfl (rfl) hl.1 rfl (Nat.le_of_ble_eq_true rfl) dX0_painted_29 (fun r8 u H locs hw hP hD hS => ?_)
          rcases hw with ⟨g9⟩ | ⟨g9⟩
          · skip
            subst g9
            refine lv_if_eq (tgt := 58) hx hb dX0_painted_32 rfl (fun c0 => absurd c0 (by decide)) (fun _ => ?_)
            refine lv_aload_n hx hb dX0_painted_35 rfl (lv_at hl 1 rfl) ?_
            refine lv_iload_n hx hb dX0_painted_36 rfl (lv_at hl 2 rfl) ?_
            refine va_put (D := (dC, dI)) (ci := 0) (v := .int 3) (ty := tyX0 3) (C := RX0) (T := TX0) (N := 8) hx hb hts inB_0 tyX0 tyX0_ok nmX0 hown hE.1 hP hD hS 32 rfl rfl 3 (Nat.le_of_ble_eq_true rfl) (hts _ k_433) (fun _ h9 => h9) rfl (tyX0_ok 3 (by decide)) rfl rfl (Nat.le_of_ble_eq_true rfl) dX0_painted_37 (fun H locs hP hD hS => ?_)
            have hP : va_P (dC, dI) vwCl (XW cy x0 x (upd v2 38 3) f2) H := hP
            have hD : va_D A (XW cy x0 x (upd v2 38 3) f2) := hD
            refine lv_aload_n hx hb dX0_painted_40 rfl (lv_at hl 1 rfl) ?_
            refine lv_iload_n hx hb dX0_painted_41 rfl (lv_at hl 0 rfl) ?_
            refine cbVv (n := 1) (rest := []) hx hb hml hown hts hE hP hD hS hA (sX_X0_lay_1 l dC dI cy x0 x l3_2 (upd v2 38 3) f2 (XI.upd (j := 38) (x := 3) hIv2 (by decide) (by decide)) ) k_995 k_997 k_26 k_111 k_998 (by decide +kernel) ⟨Nat.le_of_ble_eq_true rfl, Nat.le_of_ble_eq_true rfl⟩ 32 0 rfl rfl (rfl) hl.1 rfl (Nat.le_of_ble_eq_true rfl) dX0_painted_42 (fun u H locs hw hP hD hS => ?_)
            obtain ⟨v10, f11⟩ := u
            obtain ⟨kV_v10, kF_f11, hIv10, hk0_v10, hk1_v10, hk7_v10, hk8_v10, hk9_v10, hk10_v10, hk31_v10, hk32_v10⟩ := hw
            have hM_v10 : KV [38] v10 v := KV.tr kV_v10 (KV.up (j := 38) (x := 3) hM_v2 rfl) rfl
            have hA_f11 : KF [20] f11 f := KF.tr kF_f11 hA_f2 rfl
            have hP : va_P (dC, dI) vwCl (XW cy x0 x v10 f11) H := hP
            have hD : va_D A (XW cy x0 x v10 f11) := hD
            have hq0_v10 : v10 0 = (v 0) := hk0_v10.trans hq0_v2
            have hq1_v10 : v10 1 = (v 1) := hk1_v10.trans hq1_v2
            have hq7_v10 : v10 7 = (v 7) := hk7_v10.trans hq7_v2
            have hq8_v10 : v10 8 = (v 8) := hk8_v10.trans hq8_v2
            have hq9_v10 : v10 9 = (v 9) := hk9_v10.trans hq9_v2
            have hq10_v10 : v10 10 = (v 10) := hk10_v10.trans hq10_v2
            have hq31_v10 : v10 31 = (v 31) := hk31_v10.trans hq31_v2
            have hq32_v10 : v10 32 = (v 32) := hk32_v10.trans hq32_v2
            refine lv_aload_n hx hb dX0_painted_45 rfl (lv_at hl 1 rfl) ?_
            refine lv_iload_n hx hb dX0_painted_46 rfl (lv_at hl 2 rfl) ?_
            refine lv_iconst (v := 1) hx hb dX0_painted_47 rfl ?_
            refine lv_iadd hx hb dX0_painted_48 ?_
            refine tI (y := 4) (by decide) ?_
            refine lv_iload_n hx hb dX0_painted_49 rfl (lv_at hl 3 rfl) ?_
            refine cbVi (n := 2) (rest := []) hx hb hml hown hts hE hP hD hS hA (sX_X0_painted_5 l dC dI cy x0 x p2 v10 f11 hIv10 ) k_1119 k_1121 k_33 k_111 k_1122 (by decide +kernel) ⟨Nat.le_of_ble_eq_true rfl, Nat.le_of_ble_eq_true rfl⟩ 32 0 rfl rfl (rfl) hl.1 rfl (Nat.le_of_ble_eq_true rfl) dX0_painted_50 (fun r12 u H locs hw hP hD hS => ?_)
            obtain ⟨v13, f14⟩ := u
            obtain ⟨kV_v13, kF_f14, hIv13, hk0_v13, hk1_v13, hk7_v13, hk8_v13, hk9_v13, hk10_v13, hk31_v13, hk32_v13, hw⟩ := hw
            have hM_v13 : KV [38] v13 v := KV.tr kV_v13 hM_v10 rfl
            have hA_f14 : KF [20] f14 f := KF.tr kF_f14 hA_f11 rfl
            have hP : va_P (dC, dI) vwCl (XW cy x0 x v13 f14) H := hP
            have hD : va_D A (XW cy x0 x v13 f14) := hD
            have hq0_v13 : v13 0 = (v 0) := hk0_v13.trans hq0_v10
            have hq1_v13 : v13 1 = (v 1) := hk1_v13.trans hq1_v10
            have hq7_v13 : v13 7 = (v 7) := hk7_v13.trans hq7_v10
            have hq8_v13 : v13 8 = (v 8) := hk8_v13.trans hq8_v10
            have hq9_v13 : v13 9 = (v 9) := hk9_v13.trans hq9_v10
            have hq10_v13 : v13 10 = (v 10) := hk10_v13.trans hq10_v10
            have hq31_v13 : v13 31 = (v 31) := hk31_v13.trans hq31_v10
            have hq32_v13 : v13 32 = (v 32) := hk32_v13.trans hq32_v10
            rcases hw with ⟨g15⟩ | ⟨g15⟩
            · skip
              subst g15
              refine lv_if_eq (tgt := 58) hx hb dX0_painted_53 rfl (fun c0 => absurd c0 (by decide)) (fun _ => ?_)
              refine lv_iconst (v := 1) hx hb dX0_painted_56 rfl ?_
              exact ret 1 (v13, f14) _ _ _ _ _ _ rfl ⟨hM_v13, hA_f14, hIv13, (hk0_v13.trans (hk0_v10.trans (show v2 0 = v 0 from hq0_v2))), (hk1_v13.trans (hk1_v10.trans (show v2 1 = v 1 from hq1_v2))), (hk7_v13.trans (hk7_v10.trans (show v2 7 = v 7 from hq7_v2))), (hk8_v13.trans (hk8_v10.trans (show v2 8 = v 8 from hq8_v2))), (hk9_v13.trans (hk9_v10.trans (show v2 9 = v 9 from hq9_v2))), (hk10_v13.trans (hk10_v10.trans (show v2 10 = v 10 from hq10_v2))), (hk31_v13.trans (hk31_v10.trans (show v2 31 = v 31 from hq31_v2))), (hk32_v13.trans (hk32_v10.trans (show v2 32 = v 32 from hq32_v2))), (Or.inl rfl)⟩ hP hD hS dX0_painted_57 (Nat.le_refl _) (Nat.le_refl _)
            · skip
              subst g15
              refine lv_if_eq (tgt := 58) hx hb dX0_painted_53 rfl (fun _ => ?_) (fun c0 => absurd (by decide) c0)
              obtain ⟨t16, et16⟩ : ∃ y : Int32, y = l3_2 + 1 := ⟨_, rfl⟩
              have zt16 : t16.toInt = l3_2.toInt + 1 := by rw [et16]; exact add_i rfl (by decide) (by omega) (by omega)
              refine lv_iinc (v := t16) (lv' := [(3, .int t16), (0, .ref (x 31)), (1, .int 3), (2, .int p2)]) hx hb dX0_painted_58 hl (k := 0) rfl (by rw [et16]; rfl) (by decide) rfl (fun ls hl => ?_)
              refine lv_goto (tgt := 21) hx hb dX0_painted_61 rfl ?_
              have rg17 := fb_rng t16
              exact ih2 t16 v13 f14 hIv13 hq0_v13 hq1_v13 hq7_v13 hq8_v13 hq9_v13 hq10_v13 hq31_v13 hq32_v13 ⟨show (0 : Int) ≤ t16.toInt by omega, show t16.toInt ≤ (2147483647 : Int) by omega⟩ hM_v13 hA_f14 (by show (2147483647 - t16.toInt).toNat < n2; omega) _ _ _ hP hD hS (lv_sub hl [0, 1, 2, 3] rfl)
          · skip
            subst g9
            refine lv_if_eq (tgt := 58) hx hb dX0_painted_32 rfl (fun _ => ?_) (fun c0 => absurd (by decide) c0)
            obtain ⟨t18, et18⟩ : ∃ y : Int32, y = l3_2 + 1 := ⟨_, rfl⟩
            have zt18 : t18.toInt = l3_2.toInt + 1 := by rw [et18]; exact add_i rfl (by decide) (by omega) (by omega)
            refine lv_iinc (v := t18) (lv' := [(3, .int t18), (0, .ref (x 31)), (1, .int 3), (2, .int p2)]) hx hb dX0_painted_58 hl (k := 0) rfl (by rw [et18]; rfl) (by decide) rfl (fun ls hl => ?_)
            refine lv_goto (tgt := 21) hx hb dX0_painted_61 rfl ?_
            have rg19 := fb_rng t18
            exact ih2 t18 v2 f2 hIv2 hq0_v2 hq1_v2 hq7_v2 hq8_v2 hq9_v2 hq10_v2 hq31_v2 hq32_v2 ⟨show (0 : Int) ≤ t18.toInt by omega, show t18.toInt ≤ (2147483647 : Int) by omega⟩ hM_v2 hA_f2 (by show (2147483647 - t18.toInt).toNat < n2; omega) _ _ _ hP hD hS (lv_sub hl [0, 1, 2, 3] rfl)
    exact lp2 _ 0 v f hIv rfl rfl rfl rfl rfl rfl rfl rfl ⟨by decide, by decide⟩ hM_v hA_f (Nat.lt_succ_self _) _ _ _ hP hD hS (lv_sub hl [0, 1, 2, 3] rfl)
set_option maxHeartbeats 4000000 in
set_option maxRecDepth 100000 in
theorem sX_X0_painted_3 (l : Launch) (dC : Nat → ClassId) (dI : Nat → Nat → Nat) (cy : Nat → ClassId) (x0 : Nat) (x : Nat → Nat) (p2 : Int32) (v : Nat → Int32) (f : Nat → Nat → Int32) (hIv : XI v)  : ctI l (dC, dI) cy yX0_painted cX0_painted 4 .boolean 7 197 0 0 ((Nat → Int32) × (Nat → Nat → Int32)) [.ref (x 31), .int 2, .int p2] (XW cy x0 x v f) (fun r u => KV [38] u.1 v ∧ KF [20] u.2 f ∧ XI u.1 ∧ u.1 0 = v 0 ∧ u.1 1 = v 1 ∧ u.1 7 = v 7 ∧ u.1 8 = v 8 ∧ u.1 9 = v 9 ∧ u.1 10 = v 10 ∧ u.1 31 = v 31 ∧ u.1 32 = v 32 ∧ ((r = 1) ∨ (r = 0))) (fun u => XW cy x0 x u.1 u.2) := by
  refine ctI_of (by decide) (Nat.le_of_ble_eq_true rfl) (fun p e s m below meth c A ls Q hx hb hml hts hown hE hP hD hA hl ret => ?_)
  have hM_v : KV [38] v v := fun _ _ => rfl
  have hA_f : KF [20] f f := fun _ _ => rfl
  have hown : s.vm.findClass RX0 = some m.cls := hown
  have hS : va_S A s.heap s.heap [] := va_S.rf
  have hl : lv_has ls 4 [(0, .ref (x 31)), (1, .int 2), (2, .int p2)] := hl
  refine lv_iload_n hx hb dX0_painted_0 rfl (lv_at hl 1 rfl) ?_
  refine lv_aload_n hx hb dX0_painted_1 rfl (lv_at hl 0 rfl) ?_
  refine va_get (D := (dC, dI)) (ci := 0) (v := .ref (x 26)) (C := RX0) (T := TX0) (N := 8) hx hb hts inB_0 hown hE.1 hP 32 rfl rfl 0 (Nat.le_of_ble_eq_true rfl) (hts _ k_430) (fun _ h9 => h9) rfl dX0_painted_2 ?_
  refine va_getN (D := (dC, dI)) (ci := 7) (v := .int (v 31)) (C := RX7) (T := TX7) (N := 10) hx hb hts inB_7 hown hE.1 hP 27 rfl rfl 3 (Nat.le_of_ble_eq_true rfl) (va_Nw.use rfl (hE.2 _ k_216)) (fun _ h9 => h9) rfl dX0_painted_5 ?_
  have b31_v : 0 ≤ (v 31).toInt ∧ (v 31).toInt ≤ 6 := XI.b hIv 31 (by decide)
  refine lv_icmp_ge (tgt := 17) hx hb dX0_painted_8 rfl (fun c1 => ?_) (fun c1 => ?_)
  · skip
    have zc1 : (v 31).toInt ≤ 2 := by rw [fa_le, show (2 : Int32).toInt = 2 from by decide] at c1; exact c1
    refine lv_iconst (v := 1) hx hb dX0_painted_17 rfl ?_
    exact ret 1 (v, f) _ _ _ _ _ _ rfl ⟨hM_v, hA_f, hIv, rfl, rfl, rfl, rfl, rfl, rfl, rfl, rfl, (Or.inl rfl)⟩ hP hD hS dX0_painted_18 (Nat.le_refl _) (Nat.le_refl _)
  · skip
    have zc1 : ¬ ((v 31).toInt ≤ 2) := by rw [fa_le, show (2 : Int32).toInt = 2 from by decide] at c1; exact c1
    refine lv_iload_n hx hb dX0_painted_11 rfl (lv_at hl 1 rfl) ?_
    refine lv_bipush (v := 6) hx hb dX0_painted_12 rfl ?_
    refine lv_icmp_lt (tgt := 19) hx hb dX0_painted_14 rfl (fun _ => ?_) (fun c0 => absurd (by decide) c0)
    refine lv_iconst (v := 0) hx hb dX0_painted_19 rfl ?_
    refine lv_istore_n (lv' := [(3, .int 0), (0, .ref (x 31)), (1, .int 2), (2, .int p2)]) hx hb dX0_painted_20 rfl hl (Nat.le_of_ble_eq_true rfl) rfl (fun ls hl => ?_)
    have lp2 : ∀ (n2 : Nat) (l3_2 : Int32) (v2 : Nat → Int32) (f2 : Nat → Nat → Int32), XI v2 → v2 0 = (v 0) → v2 1 = (v 1) → v2 7 = (v 7) → v2 8 = (v 8) → v2 9 = (v 9) → v2 10 = (v 10) → v2 31 = (v 31) → v2 32 = (v 32) → ((0 : Int) ≤ l3_2.toInt ∧ l3_2.toInt ≤ 2147483647) → KV [38] v2 v → KF [20] f2 f → (2147483647 - l3_2.toInt).toNat < n2 → ∀ (H : Heap) (locs : List Loc) (ls : Array Slot), va_P (dC, dI) vwCl (XW cy x0 x v2 f2) H → va_D A (XW cy x0 x v2 f2) → va_S A s.heap H locs → lv_has ls 4 [(3, .int l3_2), (0, .ref (x 31)), (1, .int 2), (2, .int p2)] → W p l e { frames := 7, cells := 0, slots := 0, locals := 197 } s m ([.ref (x 31), .int 2, .int p2] : List Value).toArray below meth c H locs 0 0 Q (F0 m 21 ls []) := by
      intro n2
      induction n2 with
      | zero => intro l3_2 v2 f2 hIv2 hq0_v2 hq1_v2 hq7_v2 hq8_v2 hq9_v2 hq10_v2 hq31_v2 hq32_v2 hr3_2 hM_v2 hA_f2 hm; exact absurd hm (Nat.not_lt_zero _)
      | succ n2 ih2 =>
        intro l3_2 v2 f2 hIv2 hq0_v2 hq1_v2 hq7_v2 hq8_v2 hq9_v2 hq10_v2 hq31_v2 hq32_v2 hr3_2 hM_v2 hA_f2 hm2 H locs ls hP hD hS hl
        refine lv_iload_n hx hb dX0_painted_21 rfl (lv_at hl 0 rfl) ?_
        refine lv_iload_n hx hb dX0_painted_22 rfl (lv_at hl 3 rfl) ?_
        refine lv_icmp_ge (tgt := 64) hx hb dX0_painted_23 rfl (fun c3 => ?_) (fun c3 => ?_)
        · skip
          have zc3 : p2.toInt ≤ l3_2.toInt := by rw [fa_le] at c3; exact c3
          have rg4 := fb_rng l3_2
          have rg5 := fb_rng p2
          refine lv_iconst (v := 0) hx hb dX0_painted_64 rfl ?_
          exact ret 0 (v2, f2) _ _ _ _ _ _ rfl ⟨hM_v2, hA_f2, hIv2, (show v2 0 = v 0 from hq0_v2), (show v2 1 = v 1 from hq1_v2), (show v2 7 = v 7 from hq7_v2), (show v2 8 = v 8 from hq8_v2), (show v2 9 = v 9 from hq9_v2), (show v2 10 = v 10 from hq10_v2), (show v2 31 = v 31 from hq31_v2), (show v2 32 = v 32 from hq32_v2), (Or.inr rfl)⟩ hP hD hS dX0_painted_65 (Nat.le_refl _) (Nat.le_refl _)
        · skip
          have zc3 : ¬ (p2.toInt ≤ l3_2.toInt) := by rw [fa_le] at c3; exact c3
          have rg6 := fb_rng l3_2
          have rg7 := fb_rng p2
          refine lv_aload_n hx hb dX0_painted_26 rfl (lv_at hl 1 rfl) ?_
          refine lv_iload_n hx hb dX0_painted_27 rfl (lv_at hl 2 rfl) ?_
          refine lv_iload_n hx hb dX0_painted_28 rfl (lv_at hl 0 rfl) ?_
          refine cbVi (n := 2) (rest := []) hx hb hml hown hts hE hP hD hS hA (sX_X0_isClear_1 l dC dI cy x0 x 2 l3_2 v2 f2 hIv2 ) k_1123 k_1125 k_34 k_111 k_1126 (by decide +kernel) ⟨Nat.le_of_ble_eq_true rfl, Nat.le_of_ble_eq_true rfl⟩ 32 0 rfl rfl (rfl) hl.1 rfl (Nat.le_of_ble_eq_true rfl) dX0_painted_29 (fun r8 u H locs hw hP hD hS => ?_)
          rcases hw with ⟨g9⟩ | ⟨g9⟩
          · skip
            subst g9
            refine lv_if_eq (tgt := 58) hx hb dX0_painted_32 rfl (fun c0 => absurd c0 (by decide)) (fun _ => ?_)
            refine lv_aload_n hx hb dX0_painted_35 rfl (lv_at hl 1 rfl) ?_
            refine lv_iload_n hx hb dX0_painted_36 rfl (lv_at hl 2 rfl) ?_
            refine va_put (D := (dC, dI)) (ci := 0) (v := .int 2) (ty := tyX0 3) (C := RX0) (T := TX0) (N := 8) hx hb hts inB_0 tyX0 tyX0_ok nmX0 hown hE.1 hP hD hS 32 rfl rfl 3 (Nat.le_of_ble_eq_true rfl) (hts _ k_433) (fun _ h9 => h9) rfl (tyX0_ok 3 (by decide)) rfl rfl (Nat.le_of_ble_eq_true rfl) dX0_painted_37 (fun H locs hP hD hS => ?_)
            have hP : va_P (dC, dI) vwCl (XW cy x0 x (upd v2 38 2) f2) H := hP
            have hD : va_D A (XW cy x0 x (upd v2 38 2) f2) := hD
            refine lv_aload_n hx hb dX0_painted_40 rfl (lv_at hl 1 rfl) ?_
            refine lv_iload_n hx hb dX0_painted_41 rfl (lv_at hl 0 rfl) ?_
            refine cbVv (n := 1) (rest := []) hx hb hml hown hts hE hP hD hS hA (sX_X0_lay_1 l dC dI cy x0 x l3_2 (upd v2 38 2) f2 (XI.upd (j := 38) (x := 2) hIv2 (by decide) (by decide)) ) k_995 k_997 k_26 k_111 k_998 (by decide +kernel) ⟨Nat.le_of_ble_eq_true rfl, Nat.le_of_ble_eq_true rfl⟩ 32 0 rfl rfl (rfl) hl.1 rfl (Nat.le_of_ble_eq_true rfl) dX0_painted_42 (fun u H locs hw hP hD hS => ?_)
            obtain ⟨v10, f11⟩ := u
            obtain ⟨kV_v10, kF_f11, hIv10, hk0_v10, hk1_v10, hk7_v10, hk8_v10, hk9_v10, hk10_v10, hk31_v10, hk32_v10⟩ := hw
            have hM_v10 : KV [38] v10 v := KV.tr kV_v10 (KV.up (j := 38) (x := 2) hM_v2 rfl) rfl
            have hA_f11 : KF [20] f11 f := KF.tr kF_f11 hA_f2 rfl
            have hP : va_P (dC, dI) vwCl (XW cy x0 x v10 f11) H := hP
            have hD : va_D A (XW cy x0 x v10 f11) := hD
            have hq0_v10 : v10 0 = (v 0) := hk0_v10.trans hq0_v2
            have hq1_v10 : v10 1 = (v 1) := hk1_v10.trans hq1_v2
            have hq7_v10 : v10 7 = (v 7) := hk7_v10.trans hq7_v2
            have hq8_v10 : v10 8 = (v 8) := hk8_v10.trans hq8_v2
            have hq9_v10 : v10 9 = (v 9) := hk9_v10.trans hq9_v2
            have hq10_v10 : v10 10 = (v 10) := hk10_v10.trans hq10_v2
            have hq31_v10 : v10 31 = (v 31) := hk31_v10.trans hq31_v2
            have hq32_v10 : v10 32 = (v 32) := hk32_v10.trans hq32_v2
            refine lv_aload_n hx hb dX0_painted_45 rfl (lv_at hl 1 rfl) ?_
            refine lv_iload_n hx hb dX0_painted_46 rfl (lv_at hl 2 rfl) ?_
            refine lv_iconst (v := 1) hx hb dX0_painted_47 rfl ?_
            refine lv_iadd hx hb dX0_painted_48 ?_
            refine tI (y := 3) (by decide) ?_
            refine lv_iload_n hx hb dX0_painted_49 rfl (lv_at hl 3 rfl) ?_
            refine cbVi (n := 2) (rest := []) hx hb hml hown hts hE hP hD hS hA (sX_X0_painted_4 l dC dI cy x0 x p2 v10 f11 hIv10 ) k_1119 k_1121 k_33 k_111 k_1122 (by decide +kernel) ⟨Nat.le_of_ble_eq_true rfl, Nat.le_of_ble_eq_true rfl⟩ 32 0 rfl rfl (rfl) hl.1 rfl (Nat.le_of_ble_eq_true rfl) dX0_painted_50 (fun r12 u H locs hw hP hD hS => ?_)
            obtain ⟨v13, f14⟩ := u
            obtain ⟨kV_v13, kF_f14, hIv13, hk0_v13, hk1_v13, hk7_v13, hk8_v13, hk9_v13, hk10_v13, hk31_v13, hk32_v13, hw⟩ := hw
            have hM_v13 : KV [38] v13 v := KV.tr kV_v13 hM_v10 rfl
            have hA_f14 : KF [20] f14 f := KF.tr kF_f14 hA_f11 rfl
            have hP : va_P (dC, dI) vwCl (XW cy x0 x v13 f14) H := hP
            have hD : va_D A (XW cy x0 x v13 f14) := hD
            have hq0_v13 : v13 0 = (v 0) := hk0_v13.trans hq0_v10
            have hq1_v13 : v13 1 = (v 1) := hk1_v13.trans hq1_v10
            have hq7_v13 : v13 7 = (v 7) := hk7_v13.trans hq7_v10
            have hq8_v13 : v13 8 = (v 8) := hk8_v13.trans hq8_v10
            have hq9_v13 : v13 9 = (v 9) := hk9_v13.trans hq9_v10
            have hq10_v13 : v13 10 = (v 10) := hk10_v13.trans hq10_v10
            have hq31_v13 : v13 31 = (v 31) := hk31_v13.trans hq31_v10
            have hq32_v13 : v13 32 = (v 32) := hk32_v13.trans hq32_v10
            rcases hw with ⟨g15⟩ | ⟨g15⟩
            · skip
              subst g15
              refine lv_if_eq (tgt := 58) hx hb dX0_painted_53 rfl (fun c0 => absurd c0 (by decide)) (fun _ => ?_)
              refine lv_iconst (v := 1) hx hb dX0_painted_56 rfl ?_
              exact ret 1 (v13, f14) _ _ _ _ _ _ rfl ⟨hM_v13, hA_f14, hIv13, (hk0_v13.trans (hk0_v10.trans (show v2 0 = v 0 from hq0_v2))), (hk1_v13.trans (hk1_v10.trans (show v2 1 = v 1 from hq1_v2))), (hk7_v13.trans (hk7_v10.trans (show v2 7 = v 7 from hq7_v2))), (hk8_v13.trans (hk8_v10.trans (show v2 8 = v 8 from hq8_v2))), (hk9_v13.trans (hk9_v10.trans (show v2 9 = v 9 from hq9_v2))), (hk10_v13.trans (hk10_v10.trans (show v2 10 = v 10 from hq10_v2))), (hk31_v13.trans (hk31_v10.trans (show v2 31 = v 31 from hq31_v2))), (hk32_v13.trans (hk32_v10.trans (show v2 32 = v 32 from hq32_v2))), (Or.inl rfl)⟩ hP hD hS dX0_painted_57 (Nat.le_refl _) (Nat.le_refl _)
            · skip
              subst g15
              refine lv_if_eq (tgt := 58) hx hb dX0_painted_53 rfl (fun _ => ?_) (fun c0 => absurd (by decide) c0)
              obtain ⟨t16, et16⟩ : ∃ y : Int32, y = l3_2 + 1 := ⟨_, rfl⟩
              have zt16 : t16.toInt = l3_2.toInt + 1 := by rw [et16]; exact add_i rfl (by decide) (by omega) (by omega)
              refine lv_iinc (v := t16) (lv' := [(3, .int t16), (0, .ref (x 31)), (1, .int 2), (2, .int p2)]) hx hb dX0_painted_58 hl (k := 0) rfl (by rw [et16]; rfl) (by decide) rfl (fun ls hl => ?_)
              refine lv_goto (tgt := 21) hx hb dX0_painted_61 rfl ?_
              have rg17 := fb_rng t16
              exact ih2 t16 v13 f14 hIv13 hq0_v13 hq1_v13 hq7_v13 hq8_v13 hq9_v13 hq10_v13 hq31_v13 hq32_v13 ⟨show (0 : Int) ≤ t16.toInt by omega, show t16.toInt ≤ (2147483647 : Int) by omega⟩ hM_v13 hA_f14 (by show (2147483647 - t16.toInt).toNat < n2; omega) _ _ _ hP hD hS (lv_sub hl [0, 1, 2, 3] rfl)
          · skip
            subst g9
            refine lv_if_eq (tgt := 58) hx hb dX0_painted_32 rfl (fun _ => ?_) (fun c0 => absurd (by decide) c0)
            obtain ⟨t18, et18⟩ : ∃ y : Int32, y = l3_2 + 1 := ⟨_, rfl⟩
            have zt18 : t18.toInt = l3_2.toInt + 1 := by rw [et18]; exact add_i rfl (by decide) (by omega) (by omega)
            refine lv_iinc (v := t18) (lv' := [(3, .int t18), (0, .ref (x 31)), (1, .int 2), (2, .int p2)]) hx hb dX0_painted_58 hl (k := 0) rfl (by rw [et18]; rfl) (by decide) rfl (fun ls hl => ?_)
            refine lv_goto (tgt := 21) hx hb dX0_painted_61 rfl ?_
            have rg19 := fb_rng t18
            exact ih2 t18 v2 f2 hIv2 hq0_v2 hq1_v2 hq7_v2 hq8_v2 hq9_v2 hq10_v2 hq31_v2 hq32_v2 ⟨show (0 : Int) ≤ t18.toInt by omega, show t18.toInt ≤ (2147483647 : Int) by omega⟩ hM_v2 hA_f2 (by show (2147483647 - t18.toInt).toNat < n2; omega) _ _ _ hP hD hS (lv_sub hl [0, 1, 2, 3] rfl)
    exact lp2 _ 0 v f hIv rfl rfl rfl rfl rfl rfl rfl rfl ⟨by decide, by decide⟩ hM_v hA_f (Nat.lt_succ_self _) _ _ _ hP hD hS (lv_sub hl [0, 1, 2, 3] rfl)
