set_option maxHeartbeats 4000000 in
set_option maxRecDepth 100000 in
theorem sX_X10_popular_1 (l : Launch) (dC : Nat → ClassId) (dI : Nat → Nat → Nat) (cy : Nat → ClassId) (x0 : Nat) (x : Nat → Nat) (p1 : Int32) (v : Nat → Int32) (f : Nat → Nat → Int32) (hIv : XI v)  : ctI l (dC, dI) cy yX10_popular cX10_popular 2 .int 6 178 0 0 ((Nat → Int32) × (Nat → Nat → Int32)) [.ref x0, .int p1] (XW cy x0 x v f) (fun r u => KV [] u.1 v ∧ KF [13, 14] u.2 f ∧ XI u.1 ∧ u.1 0 = v 0 ∧ u.1 1 = v 1 ∧ u.1 7 = v 7 ∧ u.1 8 = v 8 ∧ u.1 9 = v 9 ∧ u.1 10 = v 10 ∧ u.1 31 = v 31 ∧ u.1 32 = v 32) (fun u => XW cy x0 x u.1 u.2) := by
  refine ctI_of (by decide) (Nat.le_of_ble_eq_true rfl) (fun p e s m below meth c A ls Q hx hb hml hts hown hE hP hD hA hl ret => ?_)
  have hM_v : KV [] v v := fun _ _ => rfl
  have hA_f : KF [13, 14] f f := fun _ _ => rfl
  have hown : s.vm.findClass RX10 = some m.cls := hown
  have hS : va_S A s.heap s.heap [] := va_S.rf
  have hl : lv_has ls 2 [(0, .ref x0), (1, .int p1)] := hl
  refine lv_aload_n hx hb dX10_popular_0 rfl (lv_at hl 0 rfl) ?_
  refine va_get (D := (dC, dI)) (ci := 10) (v := .ref (x 26)) (C := RX10) (T := TX10) (N := 10) hx hb hts inB_10 hown hE.1 hP 0 rfl rfl 2 (by decide) (hts _ k_493) (fun _ h9 => h9) rfl dX10_popular_1 ?_
  refine lv_iload_n hx hb dX10_popular_4 rfl (lv_at hl 1 rfl) ?_
  refine cbVi (n := 1) (rest := []) hx hb hml hown hts hE hP hD hS hA (sX_X7_hasCoat_1 0 l dC dI cy x0 x p1 v f hIv ) k_848 k_315 k_316 k_104 k_317 (by decide +kernel) ⟨Nat.le_of_ble_eq_true rfl, Nat.le_of_ble_eq_true rfl⟩ 27 7 rfl rfl (rfl) hl.1 rfl (Nat.le_of_ble_eq_true rfl) dX10_popular_5 (fun r1 u H locs hw hP hD hS => ?_)
  obtain ⟨hG2, hw⟩ := hw
  rcases hw with ⟨g3, g3_0, g3_1, g3_2⟩ | ⟨g3⟩
  · skip
    subst g3
    refine lv_if_eq (tgt := 22) hx hb dX10_popular_8 (by decide) (fun c0 => absurd c0 (by decide)) (fun _ => ?_)
    refine lv_aload_n hx hb dX10_popular_11 rfl (lv_at hl 0 rfl) ?_
    refine va_get (D := (dC, dI)) (ci := 10) (v := .ref (x 21)) (C := RX10) (T := TX10) (N := 10) hx hb hts inB_10 hown hE.1 hP 0 rfl rfl 3 (by decide) (hts _ k_494) (fun _ h9 => h9) rfl dX10_popular_12 ?_
    refine lv_iload_n hx hb dX10_popular_15 rfl (lv_at hl 1 rfl) ?_
    refine cbVi (n := 1) (rest := []) hx hb hml hown hts hE hP hD hS hA (sX_X1_menFitting_1 l dC dI cy x0 x p1 v f hIv ) k_1163 k_1164 k_1165 k_106 k_1166 (by decide +kernel) ⟨Nat.le_of_ble_eq_true rfl, Nat.le_of_ble_eq_true rfl⟩ 22 1 rfl rfl (rfl) hl.1 rfl (Nat.le_of_ble_eq_true rfl) dX10_popular_16 (fun r4 u H locs hw hP hD hS => ?_)
    obtain ⟨v5, f6⟩ := u
    obtain ⟨kV_v5, kF_f6, hIv5, hk0_v5, hk1_v5, hk7_v5, hk8_v5, hk9_v5, hk10_v5, hk31_v5, hk32_v5⟩ := hw
    have hM_v5 : KV [] v5 v := KV.tr kV_v5 hM_v rfl
    have hA_f6 : KF [13, 14] f6 f := KF.tr kF_f6 hA_f rfl
    have hP : va_P (dC, dI) vwCl (XW cy x0 x v5 f6) H := hP
    have hD : va_D A (XW cy x0 x v5 f6) := hD
    have hq0_v5 : v5 0 = (v 0) := hk0_v5
    have hq1_v5 : v5 1 = (v 1) := hk1_v5
    have hq7_v5 : v5 7 = (v 7) := hk7_v5
    have hq8_v5 : v5 8 = (v 8) := hk8_v5
    have hq9_v5 : v5 9 = (v 9) := hk9_v5
    have hq10_v5 : v5 10 = (v 10) := hk10_v5
    have hq31_v5 : v5 31 = (v 31) := hk31_v5
    have hq32_v5 : v5 32 = (v 32) := hk32_v5
    refine lv_goto (tgt := 23) hx hb dX10_popular_19 (by decide) ?_
    exact ret r4 (v5, f6) _ _ _ _ _ _ rfl ⟨hM_v5, hA_f6, hIv5, hk0_v5, hk1_v5, hk7_v5, hk8_v5, hk9_v5, hk10_v5, hk31_v5, hk32_v5⟩ hP hD hS dX10_popular_23 (Nat.le_refl _) (Nat.le_refl _)
  · skip
    subst g3
    refine lv_if_eq (tgt := 22) hx hb dX10_popular_8 (by decide) (fun _ => ?_) (fun c0 => absurd (by decide) c0)
    refine lv_iconst (v := (-1)) hx hb dX10_popular_22 (by decide) ?_
    exact ret (-1) (v, f) _ _ _ _ _ _ rfl ⟨hM_v, hA_f, hIv, rfl, rfl, rfl, rfl, rfl, rfl, rfl, rfl⟩ hP hD hS dX10_popular_23 (Nat.le_refl _) (Nat.le_refl _)
set_option maxHeartbeats 4000000 in
set_option maxRecDepth 100000 in
theorem sX_X3_fittingBy_1 (l : Launch) (dC : Nat → ClassId) (dI : Nat → Nat → Nat) (cy : Nat → ClassId) (x0 : Nat) (x : Nat → Nat) (p1 : Int32) (v : Nat → Int32) (f : Nat → Nat → Int32) (hIv : XI v)  : ctI l (dC, dI) cy yX3_fittingBy cX3_fittingBy 5 .int 4 133 0 0 ((Nat → Int32) × (Nat → Nat → Int32)) [.ref (x 25), .int p1] (XW cy x0 x v f) (fun r u => KV [] u.1 v ∧ KF [13, 14] u.2 f ∧ XI u.1 ∧ u.1 0 = v 0 ∧ u.1 1 = v 1 ∧ u.1 7 = v 7 ∧ u.1 8 = v 8 ∧ u.1 9 = v 9 ∧ u.1 10 = v 10 ∧ u.1 31 = v 31 ∧ u.1 32 = v 32) (fun u => XW cy x0 x u.1 u.2) := by
  refine ctI_of (by decide) (Nat.le_of_ble_eq_true rfl) (fun p e s m below meth c A ls Q hx hb hml hts hown hE hP hD hA hl ret => ?_)
  have hM_v : KV [] v v := fun _ _ => rfl
  have hA_f : KF [13, 14] f f := fun _ _ => rfl
  have hown : s.vm.findClass RX3 = some m.cls := hown
  have hS : va_S A s.heap s.heap [] := va_S.rf
  have hl : lv_has ls 5 [(0, .ref (x 25)), (1, .int p1)] := hl
  refine lv_iconst (v := 0) hx hb dX3_fittingBy_0 (by decide) ?_
  refine lv_istore_n (lv' := [(2, .int 0), (0, .ref (x 25)), (1, .int p1)]) hx hb dX3_fittingBy_1 rfl hl (by decide) rfl (fun ls hl => ?_)
  refine lv_iconst (v := 0) hx hb dX3_fittingBy_2 (by decide) ?_
  refine lv_istore_n (lv' := [(3, .int 0), (2, .int 0), (0, .ref (x 25)), (1, .int p1)]) hx hb dX3_fittingBy_3 rfl hl (by decide) rfl (fun ls hl => ?_)
  have lp1 : ∀ (n1 : Nat) (l2_1 : Int32) (l3_1 : Int32) (v1 : Nat → Int32) (f1 : Nat → Nat → Int32), XI v1 → v1 0 = (v 0) → v1 1 = (v 1) → v1 7 = (v 7) → v1 8 = (v 8) → v1 9 = (v 9) → v1 10 = (v 10) → v1 31 = (v 31) → v1 32 = (v 32) → ((0 : Int) ≤ l3_1.toInt ∧ l3_1.toInt ≤ 2147483647) → KV [] v1 v → KF [13, 14] f1 f → (2147483647 - l3_1.toInt).toNat < n1 → ∀ (H : Heap) (locs : List Loc) (ls : Array Slot), va_P (dC, dI) vwCl (XW cy x0 x v1 f1) H → va_D A (XW cy x0 x v1 f1) → va_S A s.heap H locs → lv_has ls 5 [(3, .int l3_1), (2, .int l2_1), (0, .ref (x 25)), (1, .int p1)] → W p l e { frames := 4, cells := 0, slots := 0, locals := 133 } s m ([.ref (x 25), .int p1] : List Value).toArray below meth c H locs 0 0 Q (F0 m 4 ls []) := by
    intro n1
    induction n1 with
    | zero => intro l2_1 l3_1 v1 f1 hIv1 hq0_v1 hq1_v1 hq7_v1 hq8_v1 hq9_v1 hq10_v1 hq31_v1 hq32_v1 hr3_1 hM_v1 hA_f1 hm; exact absurd hm (Nat.not_lt_zero _)
    | succ n1 ih1 =>
      intro l2_1 l3_1 v1 f1 hIv1 hq0_v1 hq1_v1 hq7_v1 hq8_v1 hq9_v1 hq10_v1 hq31_v1 hq32_v1 hr3_1 hM_v1 hA_f1 hm1 H locs ls hP hD hS hl
      refine lv_iload_n hx hb dX3_fittingBy_4 rfl (lv_at hl 0 rfl) ?_
      refine lv_aload_n hx hb dX3_fittingBy_5 rfl (lv_at hl 2 rfl) ?_
      refine va_get (D := (dC, dI)) (ci := 3) (v := .ref (x 26)) (C := RX3) (T := TX3) (N := 10) hx hb hts inB_3 hown hE.1 hP 26 rfl rfl 0 (by decide) (hts _ k_370) (fun _ h9 => h9) rfl dX3_fittingBy_6 ?_
      refine va_getN (D := (dC, dI)) (ci := 7) (v := .int (v1 31)) (C := RX7) (T := TX7) (N := 10) hx hb hts inB_7 hown hE.1 hP 27 rfl rfl 3 (by decide) (va_Nw.use rfl (hE.2 _ k_217)) (fun _ h9 => h9) rfl dX3_fittingBy_9 ?_
      refine tI (y := (v 31)) hq31_v1 ?_
      have b31_v : 0 ≤ (v 31).toInt ∧ (v 31).toInt ≤ 6 := XI.b hIv 31 (by decide)
      refine lv_icmp_ge (tgt := 54) hx hb dX3_fittingBy_12 (by decide) (fun c2 => ?_) (fun c2 => ?_)
      · skip
        have zc2 : (v 31).toInt ≤ l3_1.toInt := by rw [fa_le] at c2; exact c2
        have rg3 := fb_rng l3_1
        have rg4 := fb_rng (v 31)
        refine lv_iload_n hx hb dX3_fittingBy_54 rfl (lv_at hl 1 rfl) ?_
        exact ret l2_1 (v1, f1) _ _ _ _ _ _ rfl ⟨hM_v1, hA_f1, hIv1, (show v1 0 = v 0 from hq0_v1), (show v1 1 = v 1 from hq1_v1), (show v1 7 = v 7 from hq7_v1), (show v1 8 = v 8 from hq8_v1), (show v1 9 = v 9 from hq9_v1), (show v1 10 = v 10 from hq10_v1), (show v1 31 = v 31 from hq31_v1), (show v1 32 = v 32 from hq32_v1)⟩ hP hD hS dX3_fittingBy_55 (Nat.le_refl _) (Nat.le_refl _)
      · skip
        have zc2 : ¬ ((v 31).toInt ≤ l3_1.toInt) := by rw [fa_le] at c2; exact c2
        have rg5 := fb_rng l3_1
        have rg6 := fb_rng (v 31)
        refine lv_aload_n hx hb dX3_fittingBy_15 rfl (lv_at hl 2 rfl) ?_
        refine va_get (D := (dC, dI)) (ci := 3) (v := .ref (x 21)) (C := RX3) (T := TX3) (N := 10) hx hb hts inB_3 hown hE.1 hP 26 rfl rfl 1 (by decide) (hts _ k_371) (fun _ h9 => h9) rfl dX3_fittingBy_16 ?_
        refine lv_iload_n hx hb dX3_fittingBy_19 rfl (lv_at hl 0 rfl) ?_
        refine cbVi (n := 1) (rest := []) hx hb hml hown hts hE hP hD hS hA (sX_X1_wears_1 0 l dC dI cy x0 x l3_1 v1 f1 hIv1 ) k_950 k_810 k_811 k_106 k_812 (by decide +kernel) ⟨Nat.le_of_ble_eq_true rfl, Nat.le_of_ble_eq_true rfl⟩ 22 1 rfl rfl (rfl) hl.1 rfl (Nat.le_of_ble_eq_true rfl) dX3_fittingBy_20 (fun r7 u H locs hw hP hD hS => ?_)
        have hG8 := hw
        refine lv_istore (lv' := [(4, .int r7), (3, .int l3_1), (2, .int l2_1), (0, .ref (x 25)), (1, .int p1)]) hx hb dX3_fittingBy_23 hl (by decide) rfl (fun ls hl => ?_)
        refine lv_iload hx hb dX3_fittingBy_25 (lv_at hl 0 rfl) ?_
        refine lv_iconst (v := (-1)) hx hb dX3_fittingBy_27 (by decide) ?_
        refine lv_icmp_eq (tgt := 48) hx hb dX3_fittingBy_28 (by decide) (fun c9 => ?_) (fun c9 => ?_)
        · skip
          have zc9 : r7.toInt = (-1) := by rw [fa_eq, show ((-1) : Int32).toInt = -1 from by decide] at c9; exact c9
          obtain ⟨t10, et10⟩ : ∃ y : Int32, y = l3_1 + 1 := ⟨_, rfl⟩
          have zt10 : t10.toInt = l3_1.toInt + 1 := by rw [et10]; exact add_i rfl (by decide) (by omega) (by omega)
          refine lv_iinc (v := t10) (lv' := [(3, .int t10), (4, .int r7), (2, .int l2_1), (0, .ref (x 25)), (1, .int p1)]) hx hb dX3_fittingBy_48 hl (k := 1) rfl (by rw [et10]; rfl) (by decide) rfl (fun ls hl => ?_)
          refine lv_goto (tgt := 4) hx hb dX3_fittingBy_51 (by decide) ?_
          have rg11 := fb_rng t10
          exact ih1 l2_1 t10 v1 f1 hIv1 hq0_v1 hq1_v1 hq7_v1 hq8_v1 hq9_v1 hq10_v1 hq31_v1 hq32_v1 ⟨show (0 : Int) ≤ t10.toInt by omega, show t10.toInt ≤ (2147483647 : Int) by omega⟩ hM_v1 hA_f1 (by show (2147483647 - t10.toInt).toNat < n1; omega) _ _ _ hP hD hS (lv_sub hl [0, 2, 3, 4] rfl)
        · skip
          have zc9 : ¬ (r7.toInt = (-1)) := by rw [fa_eq, show ((-1) : Int32).toInt = -1 from by decide] at c9; exact c9
          refine lv_aload_n hx hb dX3_fittingBy_31 rfl (lv_at hl 3 rfl) ?_
          refine va_get (D := (dC, dI)) (ci := 3) (v := .ref (x 21)) (C := RX3) (T := TX3) (N := 10) hx hb hts inB_3 hown hE.1 hP 26 rfl rfl 1 (by decide) (hts _ k_371) (fun _ h9 => h9) rfl dX3_fittingBy_32 ?_
          refine lv_iload_n hx hb dX3_fittingBy_35 rfl (lv_at hl 1 rfl) ?_
          refine lv_iload hx hb dX3_fittingBy_36 (lv_at hl 0 rfl) ?_
          refine cbVi (n := 2) (rest := []) hx hb hml hown hts hE hP hD hS hA (sX_X1_illness_1 0 l dC dI cy x0 x l3_1 r7 v1 f1 hIv1 ) k_1183 k_823 k_824 k_106 k_825 (by decide +kernel) ⟨Nat.le_of_ble_eq_true rfl, Nat.le_of_ble_eq_true rfl⟩ 22 1 rfl rfl (rfl) hl.1 rfl (Nat.le_of_ble_eq_true rfl) dX3_fittingBy_38 (fun r12 u H locs hw hP hD hS => ?_)
          obtain ⟨hG13, hw⟩ := hw
          obtain ⟨v14, f15⟩ := u
          obtain ⟨kV_v14, kF_f15, hIv14, hk0_v14, hk1_v14, hk7_v14, hk8_v14, hk9_v14, hk10_v14, hk31_v14, hk32_v14⟩ := hw
          have hM_v14 : KV [] v14 v := KV.tr kV_v14 hM_v1 rfl
          have hA_f15 : KF [13, 14] f15 f := KF.tr kF_f15 hA_f1 rfl
          have hP : va_P (dC, dI) vwCl (XW cy x0 x v14 f15) H := hP
          have hD : va_D A (XW cy x0 x v14 f15) := hD
          have hq0_v14 : v14 0 = (v 0) := hk0_v14.trans hq0_v1
          have hq1_v14 : v14 1 = (v 1) := hk1_v14.trans hq1_v1
          have hq7_v14 : v14 7 = (v 7) := hk7_v14.trans hq7_v1
          have hq8_v14 : v14 8 = (v 8) := hk8_v14.trans hq8_v1
          have hq9_v14 : v14 9 = (v 9) := hk9_v14.trans hq9_v1
          have hq10_v14 : v14 10 = (v 10) := hk10_v14.trans hq10_v1
          have hq31_v14 : v14 31 = (v 31) := hk31_v14.trans hq31_v1
          have hq32_v14 : v14 32 = (v 32) := hk32_v14.trans hq32_v1
          refine lv_iload_n hx hb dX3_fittingBy_41 rfl (lv_at hl 4 rfl) ?_
          refine lv_icmp_gt (tgt := 48) hx hb dX3_fittingBy_42 (by decide) (fun c16 => ?_) (fun c16 => ?_)
          · skip
            have zc16 : p1.toInt < r12.toInt := by rw [fa_lt] at c16; exact c16
            have rg17 := fb_rng r12
            have rg18 := fb_rng p1
            obtain ⟨t19, et19⟩ : ∃ y : Int32, y = l3_1 + 1 := ⟨_, rfl⟩
            have zt19 : t19.toInt = l3_1.toInt + 1 := by rw [et19]; exact add_i rfl (by decide) (by omega) (by omega)
            refine lv_iinc (v := t19) (lv' := [(3, .int t19), (4, .int r7), (2, .int l2_1), (0, .ref (x 25)), (1, .int p1)]) hx hb dX3_fittingBy_48 hl (k := 1) rfl (by rw [et19]; rfl) (by decide) rfl (fun ls hl => ?_)
            refine lv_goto (tgt := 4) hx hb dX3_fittingBy_51 (by decide) ?_
            have rg20 := fb_rng t19
            exact ih1 l2_1 t19 v14 f15 hIv14 hq0_v14 hq1_v14 hq7_v14 hq8_v14 hq9_v14 hq10_v14 hq31_v14 hq32_v14 ⟨show (0 : Int) ≤ t19.toInt by omega, show t19.toInt ≤ (2147483647 : Int) by omega⟩ hM_v14 hA_f15 (by show (2147483647 - t19.toInt).toNat < n1; omega) _ _ _ hP hD hS (lv_sub hl [0, 2, 3, 4] rfl)
          · skip
            have zc16 : ¬ (p1.toInt < r12.toInt) := by rw [fa_lt] at c16; exact c16
            have rg21 := fb_rng r12
            have rg22 := fb_rng p1
            obtain ⟨t23, et23⟩ : ∃ y : Int32, y = l2_1 + 1 := ⟨_, rfl⟩
            refine lv_iinc (v := t23) (lv' := [(2, .int t23), (4, .int r7), (3, .int l3_1), (0, .ref (x 25)), (1, .int p1)]) hx hb dX3_fittingBy_45 hl (k := 2) rfl (by rw [et23]; rfl) (by decide) rfl (fun ls hl => ?_)
            obtain ⟨t24, et24⟩ : ∃ y : Int32, y = l3_1 + 1 := ⟨_, rfl⟩
            have zt24 : t24.toInt = l3_1.toInt + 1 := by rw [et24]; exact add_i rfl (by decide) (by omega) (by omega)
            refine lv_iinc (v := t24) (lv' := [(3, .int t24), (2, .int t23), (4, .int r7), (0, .ref (x 25)), (1, .int p1)]) hx hb dX3_fittingBy_48 hl (k := 2) rfl (by rw [et24]; rfl) (by decide) rfl (fun ls hl => ?_)
            refine lv_goto (tgt := 4) hx hb dX3_fittingBy_51 (by decide) ?_
            have rg25 := fb_rng t24
            exact ih1 t23 t24 v14 f15 hIv14 hq0_v14 hq1_v14 hq7_v14 hq8_v14 hq9_v14 hq10_v14 hq31_v14 hq32_v14 ⟨show (0 : Int) ≤ t24.toInt by omega, show t24.toInt ≤ (2147483647 : Int) by omega⟩ hM_v14 hA_f15 (by show (2147483647 - t24.toInt).toNat < n1; omega) _ _ _ hP hD hS (lv_sub hl [0, 1, 3, 4] rfl)
  exact lp1 _ 0 0 v f hIv rfl rfl rfl rfl rfl rfl rfl rfl ⟨by decide, by decide⟩ hM_v hA_f (Nat.lt_succ_self _) _ _ _ hP hD hS (lv_sub hl [0, 1, 2, 3] rfl)
set_option maxHeartbeats 4000000 in
set_option maxRecDepth 100000 in
theorem sX_X10_law_1 (l : Launch) (dC : Nat → ClassId) (dI : Nat → Nat → Nat) (cy : Nat → ClassId) (x0 : Nat) (x : Nat → Nat) (p1 : Int32) (v : Nat → Int32) (f : Nat → Nat → Int32) (hIv : XI v)  : ctI l (dC, dI) cy yX10_law cX10_law 2 .int 5 157 0 0 ((Nat → Int32) × (Nat → Nat → Int32)) [.ref x0, .int p1] (XW cy x0 x v f) (fun r u => KV [] u.1 v ∧ KF [13, 14] u.2 f ∧ XI u.1 ∧ u.1 0 = v 0 ∧ u.1 1 = v 1 ∧ u.1 7 = v 7 ∧ u.1 8 = v 8 ∧ u.1 9 = v 9 ∧ u.1 10 = v 10 ∧ u.1 31 = v 31 ∧ u.1 32 = v 32) (fun u => XW cy x0 x u.1 u.2) := by
  refine ctI_of (by decide) (Nat.le_of_ble_eq_true rfl) (fun p e s m below meth c A ls Q hx hb hml hts hown hE hP hD hA hl ret => ?_)
  have hM_v : KV [] v v := fun _ _ => rfl
  have hA_f : KF [13, 14] f f := fun _ _ => rfl
  have hown : s.vm.findClass RX10 = some m.cls := hown
  have hS : va_S A s.heap s.heap [] := va_S.rf
  have hl : lv_has ls 2 [(0, .ref x0), (1, .int p1)] := hl
  refine lv_iload_n hx hb dX10_law_0 rfl (lv_at hl 1 rfl) ?_
  refine lv_if_lt (tgt := 11) hx hb dX10_law_1 (by decide) (fun c1 => ?_) (fun c1 => ?_)
  · skip
    have zc1 : p1.toInt < 0 := by rw [fa_lt, show (0 : Int32).toInt = 0 from by decide] at c1; exact c1
    refine lv_iconst (v := (-1)) hx hb dX10_law_11 (by decide) ?_
    refine lv_goto (tgt := 23) hx hb dX10_law_12 (by decide) ?_
    exact ret (-1) (v, f) _ _ _ _ _ _ rfl ⟨hM_v, hA_f, hIv, rfl, rfl, rfl, rfl, rfl, rfl, rfl, rfl⟩ hP hD hS dX10_law_23 (Nat.le_refl _) (Nat.le_refl _)
  · skip
    have zc1 : ¬ (p1.toInt < 0) := by rw [fa_lt, show (0 : Int32).toInt = 0 from by decide] at c1; exact c1
    refine lv_iload_n hx hb dX10_law_4 rfl (lv_at hl 1 rfl) ?_
    refine lv_sipush (v := 999) hx hb dX10_law_5 (by decide) ?_
    refine lv_icmp_le (tgt := 15) hx hb dX10_law_8 (by decide) (fun c2 => ?_) (fun c2 => ?_)
    · skip
      have zc2 : p1.toInt ≤ 999 := by rw [fa_le, show (999 : Int32).toInt = 999 from by decide] at c2; exact c2
      refine lv_aload_n hx hb dX10_law_15 rfl (lv_at hl 0 rfl) ?_
      refine va_get (D := (dC, dI)) (ci := 10) (v := .ref (x 25)) (C := RX10) (T := TX10) (N := 10) hx hb hts inB_10 hown hE.1 hP 0 rfl rfl 5 (by decide) (hts _ k_496) (fun _ h9 => h9) rfl dX10_law_16 ?_
      refine lv_iload_n hx hb dX10_law_19 rfl (lv_at hl 1 rfl) ?_
      refine cbVi (n := 1) (rest := []) hx hb hml hown hts hE hP hD hS hA (sX_X3_fittingBy_1 l dC dI cy x0 x p1 v f hIv ) k_1179 k_1180 k_1181 k_109 k_1182 (by decide +kernel) ⟨Nat.le_of_ble_eq_true rfl, Nat.le_of_ble_eq_true rfl⟩ 26 3 rfl rfl (rfl) hl.1 rfl (Nat.le_of_ble_eq_true rfl) dX10_law_20 (fun r3 u H locs hw hP hD hS => ?_)
      obtain ⟨v4, f5⟩ := u
      obtain ⟨kV_v4, kF_f5, hIv4, hk0_v4, hk1_v4, hk7_v4, hk8_v4, hk9_v4, hk10_v4, hk31_v4, hk32_v4⟩ := hw
      have hM_v4 : KV [] v4 v := KV.tr kV_v4 hM_v rfl
      have hA_f5 : KF [13, 14] f5 f := KF.tr kF_f5 hA_f rfl
      have hP : va_P (dC, dI) vwCl (XW cy x0 x v4 f5) H := hP
      have hD : va_D A (XW cy x0 x v4 f5) := hD
      have hq0_v4 : v4 0 = (v 0) := hk0_v4
      have hq1_v4 : v4 1 = (v 1) := hk1_v4
      have hq7_v4 : v4 7 = (v 7) := hk7_v4
      have hq8_v4 : v4 8 = (v 8) := hk8_v4
      have hq9_v4 : v4 9 = (v 9) := hk9_v4
      have hq10_v4 : v4 10 = (v 10) := hk10_v4
      have hq31_v4 : v4 31 = (v 31) := hk31_v4
      have hq32_v4 : v4 32 = (v 32) := hk32_v4
      exact ret r3 (v4, f5) _ _ _ _ _ _ rfl ⟨hM_v4, hA_f5, hIv4, hk0_v4, hk1_v4, hk7_v4, hk8_v4, hk9_v4, hk10_v4, hk31_v4, hk32_v4⟩ hP hD hS dX10_law_23 (Nat.le_refl _) (Nat.le_refl _)
    · skip
      have zc2 : ¬ (p1.toInt ≤ 999) := by rw [fa_le, show (999 : Int32).toInt = 999 from by decide] at c2; exact c2
      refine lv_iconst (v := (-1)) hx hb dX10_law_11 (by decide) ?_
      refine lv_goto (tgt := 23) hx hb dX10_law_12 (by decide) ?_
      exact ret (-1) (v, f) _ _ _ _ _ _ rfl ⟨hM_v, hA_f, hIv, rfl, rfl, rfl, rfl, rfl, rfl, rfl, rfl⟩ hP hD hS dX10_law_23 (Nat.le_refl _) (Nat.le_refl _)
set_option maxHeartbeats 4000000 in
set_option maxRecDepth 100000 in
theorem sX_X3_worstIllness_1 (l : Launch) (dC : Nat → ClassId) (dI : Nat → Nat → Nat) (cy : Nat → ClassId) (x0 : Nat) (x : Nat → Nat)  (v : Nat → Int32) (f : Nat → Nat → Int32) (hIv : XI v)  : ctI l (dC, dI) cy yX3_worstIllness cX3_worstIllness 4 .int 4 133 0 0 ((Nat → Int32) × (Nat → Nat → Int32)) [.ref (x 25)] (XW cy x0 x v f) (fun r u => KV [] u.1 v ∧ KF [13, 14] u.2 f ∧ XI u.1 ∧ u.1 0 = v 0 ∧ u.1 1 = v 1 ∧ u.1 7 = v 7 ∧ u.1 8 = v 8 ∧ u.1 9 = v 9 ∧ u.1 10 = v 10 ∧ u.1 31 = v 31 ∧ u.1 32 = v 32) (fun u => XW cy x0 x u.1 u.2) := by
  refine ctI_of (by decide) (Nat.le_of_ble_eq_true rfl) (fun p e s m below meth c A ls Q hx hb hml hts hown hE hP hD hA hl ret => ?_)
  have hM_v : KV [] v v := fun _ _ => rfl
  have hA_f : KF [13, 14] f f := fun _ _ => rfl
  have hown : s.vm.findClass RX3 = some m.cls := hown
  have hS : va_S A s.heap s.heap [] := va_S.rf
  have hl : lv_has ls 4 [(0, .ref (x 25))] := hl
  refine lv_iconst (v := 0) hx hb dX3_worstIllness_0 (by decide) ?_
  refine lv_istore_n (lv' := [(1, .int 0), (0, .ref (x 25))]) hx hb dX3_worstIllness_1 rfl hl (by decide) rfl (fun ls hl => ?_)
  refine lv_iconst (v := 0) hx hb dX3_worstIllness_2 (by decide) ?_
  refine lv_istore_n (lv' := [(2, .int 0), (1, .int 0), (0, .ref (x 25))]) hx hb dX3_worstIllness_3 rfl hl (by decide) rfl (fun ls hl => ?_)
  have lp1 : ∀ (n1 : Nat) (l1_1 : Int32) (l2_1 : Int32) (v1 : Nat → Int32) (f1 : Nat → Nat → Int32), XI v1 → v1 0 = (v 0) → v1 1 = (v 1) → v1 7 = (v 7) → v1 8 = (v 8) → v1 9 = (v 9) → v1 10 = (v 10) → v1 31 = (v 31) → v1 32 = (v 32) → ((0 : Int) ≤ l2_1.toInt ∧ l2_1.toInt ≤ 2147483647) → KV [] v1 v → KF [13, 14] f1 f → (2147483647 - l2_1.toInt).toNat < n1 → ∀ (H : Heap) (locs : List Loc) (ls : Array Slot), va_P (dC, dI) vwCl (XW cy x0 x v1 f1) H → va_D A (XW cy x0 x v1 f1) → va_S A s.heap H locs → lv_has ls 4 [(2, .int l2_1), (1, .int l1_1), (0, .ref (x 25))] → W p l e { frames := 4, cells := 0, slots := 0, locals := 133 } s m ([.ref (x 25)] : List Value).toArray below meth c H locs 0 0 Q (F0 m 4 ls []) := by
    intro n1
    induction n1 with
    | zero => intro l1_1 l2_1 v1 f1 hIv1 hq0_v1 hq1_v1 hq7_v1 hq8_v1 hq9_v1 hq10_v1 hq31_v1 hq32_v1 hr2_1 hM_v1 hA_f1 hm; exact absurd hm (Nat.not_lt_zero _)
    | succ n1 ih1 =>
      intro l1_1 l2_1 v1 f1 hIv1 hq0_v1 hq1_v1 hq7_v1 hq8_v1 hq9_v1 hq10_v1 hq31_v1 hq32_v1 hr2_1 hM_v1 hA_f1 hm1 H locs ls hP hD hS hl
      refine lv_iload_n hx hb dX3_worstIllness_4 rfl (lv_at hl 0 rfl) ?_
      refine lv_aload_n hx hb dX3_worstIllness_5 rfl (lv_at hl 2 rfl) ?_
      refine va_get (D := (dC, dI)) (ci := 3) (v := .ref (x 26)) (C := RX3) (T := TX3) (N := 10) hx hb hts inB_3 hown hE.1 hP 26 rfl rfl 0 (by decide) (hts _ k_370) (fun _ h9 => h9) rfl dX3_worstIllness_6 ?_
      refine va_getN (D := (dC, dI)) (ci := 7) (v := .int (v1 31)) (C := RX7) (T := TX7) (N := 10) hx hb hts inB_7 hown hE.1 hP 27 rfl rfl 3 (by decide) (va_Nw.use rfl (hE.2 _ k_217)) (fun _ h9 => h9) rfl dX3_worstIllness_9 ?_
      refine tI (y := (v 31)) hq31_v1 ?_
      have b31_v : 0 ≤ (v 31).toInt ∧ (v 31).toInt ≤ 6 := XI.b hIv 31 (by decide)
      refine lv_icmp_ge (tgt := 49) hx hb dX3_worstIllness_12 (by decide) (fun c2 => ?_) (fun c2 => ?_)
      · skip
        have zc2 : (v 31).toInt ≤ l2_1.toInt := by rw [fa_le] at c2; exact c2
        have rg3 := fb_rng l2_1
        have rg4 := fb_rng (v 31)
        refine lv_iload_n hx hb dX3_worstIllness_49 rfl (lv_at hl 1 rfl) ?_
        exact ret l1_1 (v1, f1) _ _ _ _ _ _ rfl ⟨hM_v1, hA_f1, hIv1, (show v1 0 = v 0 from hq0_v1), (show v1 1 = v 1 from hq1_v1), (show v1 7 = v 7 from hq7_v1), (show v1 8 = v 8 from hq8_v1), (show v1 9 = v 9 from hq9_v1), (show v1 10 = v 10 from hq10_v1), (show v1 31 = v 31 from hq31_v1), (show v1 32 = v 32 from hq32_v1)⟩ hP hD hS dX3_worstIllness_50 (Nat.le_refl _) (Nat.le_refl _)
      · skip
        have zc2 : ¬ ((v 31).toInt ≤ l2_1.toInt) := by rw [fa_le] at c2; exact c2
        have rg5 := fb_rng l2_1
        have rg6 := fb_rng (v 31)
        refine lv_aload_n hx hb dX3_worstIllness_15 rfl (lv_at hl 2 rfl) ?_
        refine va_get (D := (dC, dI)) (ci := 3) (v := .ref (x 21)) (C := RX3) (T := TX3) (N := 10) hx hb hts inB_3 hown hE.1 hP 26 rfl rfl 1 (by decide) (hts _ k_371) (fun _ h9 => h9) rfl dX3_worstIllness_16 ?_
        refine lv_iload_n hx hb dX3_worstIllness_19 rfl (lv_at hl 0 rfl) ?_
        refine cbVi (n := 1) (rest := []) hx hb hml hown hts hE hP hD hS hA (sX_X1_wears_1 0 l dC dI cy x0 x l2_1 v1 f1 hIv1 ) k_950 k_810 k_811 k_106 k_812 (by decide +kernel) ⟨Nat.le_of_ble_eq_true rfl, Nat.le_of_ble_eq_true rfl⟩ 22 1 rfl rfl (rfl) hl.1 rfl (Nat.le_of_ble_eq_true rfl) dX3_worstIllness_20 (fun r7 u H locs hw hP hD hS => ?_)
        have hG8 := hw
        refine lv_istore_n (lv' := [(3, .int r7), (2, .int l2_1), (1, .int l1_1), (0, .ref (x 25))]) hx hb dX3_worstIllness_23 rfl hl (by decide) rfl (fun ls hl => ?_)
        refine lv_iload_n hx hb dX3_worstIllness_24 rfl (lv_at hl 0 rfl) ?_
        refine lv_iconst (v := (-1)) hx hb dX3_worstIllness_25 (by decide) ?_
        refine lv_icmp_eq (tgt := 43) hx hb dX3_worstIllness_26 (by decide) (fun c9 => ?_) (fun c9 => ?_)
        · skip
          have zc9 : r7.toInt = (-1) := by rw [fa_eq, show ((-1) : Int32).toInt = -1 from by decide] at c9; exact c9
          obtain ⟨t10, et10⟩ : ∃ y : Int32, y = l2_1 + 1 := ⟨_, rfl⟩
          have zt10 : t10.toInt = l2_1.toInt + 1 := by rw [et10]; exact add_i rfl (by decide) (by omega) (by omega)
          refine lv_iinc (v := t10) (lv' := [(2, .int t10), (3, .int r7), (1, .int l1_1), (0, .ref (x 25))]) hx hb dX3_worstIllness_43 hl (k := 1) rfl (by rw [et10]; rfl) (by decide) rfl (fun ls hl => ?_)
          refine lv_goto (tgt := 4) hx hb dX3_worstIllness_46 (by decide) ?_
          have rg11 := fb_rng t10
          exact ih1 l1_1 t10 v1 f1 hIv1 hq0_v1 hq1_v1 hq7_v1 hq8_v1 hq9_v1 hq10_v1 hq31_v1 hq32_v1 ⟨show (0 : Int) ≤ t10.toInt by omega, show t10.toInt ≤ (2147483647 : Int) by omega⟩ hM_v1 hA_f1 (by show (2147483647 - t10.toInt).toNat < n1; omega) _ _ _ hP hD hS (lv_sub hl [0, 2, 3] rfl)
        · skip
          have zc9 : ¬ (r7.toInt = (-1)) := by rw [fa_eq, show ((-1) : Int32).toInt = -1 from by decide] at c9; exact c9
          refine lv_iload_n hx hb dX3_worstIllness_29 rfl (lv_at hl 2 rfl) ?_
          refine lv_aload_n hx hb dX3_worstIllness_30 rfl (lv_at hl 3 rfl) ?_
          refine va_get (D := (dC, dI)) (ci := 3) (v := .ref (x 21)) (C := RX3) (T := TX3) (N := 10) hx hb hts inB_3 hown hE.1 hP 26 rfl rfl 1 (by decide) (hts _ k_371) (fun _ h9 => h9) rfl dX3_worstIllness_31 ?_
          refine lv_iload_n hx hb dX3_worstIllness_34 rfl (lv_at hl 1 rfl) ?_
          refine lv_iload_n hx hb dX3_worstIllness_35 rfl (lv_at hl 0 rfl) ?_
          refine cbVi (n := 2) (rest := [.int l1_1]) hx hb hml hown hts hE hP hD hS hA (sX_X1_illness_1 0 l dC dI cy x0 x l2_1 r7 v1 f1 hIv1 ) k_1183 k_823 k_824 k_106 k_825 (by decide +kernel) ⟨Nat.le_of_ble_eq_true rfl, Nat.le_of_ble_eq_true rfl⟩ 22 1 rfl rfl (rfl) hl.1 rfl (Nat.le_of_ble_eq_true rfl) dX3_worstIllness_36 (fun r12 u H locs hw hP hD hS => ?_)
          obtain ⟨hG13, hw⟩ := hw
          obtain ⟨v14, f15⟩ := u
          obtain ⟨kV_v14, kF_f15, hIv14, hk0_v14, hk1_v14, hk7_v14, hk8_v14, hk9_v14, hk10_v14, hk31_v14, hk32_v14⟩ := hw
          have hM_v14 : KV [] v14 v := KV.tr kV_v14 hM_v1 rfl
          have hA_f15 : KF [13, 14] f15 f := KF.tr kF_f15 hA_f1 rfl
          have hP : va_P (dC, dI) vwCl (XW cy x0 x v14 f15) H := hP
          have hD : va_D A (XW cy x0 x v14 f15) := hD
          have hq0_v14 : v14 0 = (v 0) := hk0_v14.trans hq0_v1
          have hq1_v14 : v14 1 = (v 1) := hk1_v14.trans hq1_v1
          have hq7_v14 : v14 7 = (v 7) := hk7_v14.trans hq7_v1
          have hq8_v14 : v14 8 = (v 8) := hk8_v14.trans hq8_v1
          have hq9_v14 : v14 9 = (v 9) := hk9_v14.trans hq9_v1
          have hq10_v14 : v14 10 = (v 10) := hk10_v14.trans hq10_v1
          have hq31_v14 : v14 31 = (v 31) := hk31_v14.trans hq31_v1
          have hq32_v14 : v14 32 = (v 32) := hk32_v14.trans hq32_v1
          refine va_mmax hx hb (by rw [hml]; exact hl.1.symm) hown (hts _ k_1007) (hts _ k_640) (hts _ k_119) (hts _ k_641) (Nat.le_of_ble_eq_true rfl) (Nat.le_of_ble_eq_true rfl) (Nat.le_of_ble_eq_true rfl) (Nat.le_of_ble_eq_true rfl) dX3_worstIllness_39 ?_
          refine lv_topi (fun t16 et16 => ?_)
          have zt16 : t16.toInt = max (l1_1.toInt) (r12.toInt) := by rw [et16]; exact mmax_i rfl rfl
          refine lv_istore_n (lv' := [(1, .int t16), (3, .int r7), (2, .int l2_1), (0, .ref (x 25))]) hx hb dX3_worstIllness_42 rfl hl (by decide) rfl (fun ls hl => ?_)
          obtain ⟨t17, et17⟩ : ∃ y : Int32, y = l2_1 + 1 := ⟨_, rfl⟩
          have zt17 : t17.toInt = l2_1.toInt + 1 := by rw [et17]; exact add_i rfl (by decide) (by omega) (by omega)
          refine lv_iinc (v := t17) (lv' := [(2, .int t17), (1, .int t16), (3, .int r7), (0, .ref (x 25))]) hx hb dX3_worstIllness_43 hl (k := 2) rfl (by rw [et17]; rfl) (by decide) rfl (fun ls hl => ?_)
          refine lv_goto (tgt := 4) hx hb dX3_worstIllness_46 (by decide) ?_
          have rg18 := fb_rng t17
          exact ih1 t16 t17 v14 f15 hIv14 hq0_v14 hq1_v14 hq7_v14 hq8_v14 hq9_v14 hq10_v14 hq31_v14 hq32_v14 ⟨show (0 : Int) ≤ t17.toInt by omega, show t17.toInt ≤ (2147483647 : Int) by omega⟩ hM_v14 hA_f15 (by show (2147483647 - t17.toInt).toNat < n1; omega) _ _ _ hP hD hS (lv_sub hl [0, 1, 3] rfl)
  exact lp1 _ 0 0 v f hIv rfl rfl rfl rfl rfl rfl rfl rfl ⟨by decide, by decide⟩ hM_v hA_f (Nat.lt_succ_self _) _ _ _ hP hD hS (lv_sub hl [0, 1, 2] rfl)
set_option maxHeartbeats 4000000 in
set_option maxRecDepth 100000 in
theorem sX_X10_ease_1 (l : Launch) (dC : Nat → ClassId) (dI : Nat → Nat → Nat) (cy : Nat → ClassId) (x0 : Nat) (x : Nat → Nat)  (v : Nat → Int32) (f : Nat → Nat → Int32) (hIv : XI v)  : ctI l (dC, dI) cy yX10_ease cX10_ease 1 .int 5 156 0 0 ((Nat → Int32) × (Nat → Nat → Int32)) [.ref x0] (XW cy x0 x v f) (fun r u => KV [] u.1 v ∧ KF [13, 14] u.2 f ∧ XI u.1 ∧ u.1 0 = v 0 ∧ u.1 1 = v 1 ∧ u.1 7 = v 7 ∧ u.1 8 = v 8 ∧ u.1 9 = v 9 ∧ u.1 10 = v 10 ∧ u.1 31 = v 31 ∧ u.1 32 = v 32) (fun u => XW cy x0 x u.1 u.2) := by
  refine ctI_of (by decide) (Nat.le_of_ble_eq_true rfl) (fun p e s m below meth c A ls Q hx hb hml hts hown hE hP hD hA hl ret => ?_)
  have hM_v : KV [] v v := fun _ _ => rfl
  have hA_f : KF [13, 14] f f := fun _ _ => rfl
  have hown : s.vm.findClass RX10 = some m.cls := hown
  have hS : va_S A s.heap s.heap [] := va_S.rf
  have hl : lv_has ls 1 [(0, .ref x0)] := hl
  refine lv_aload_n hx hb dX10_ease_0 rfl (lv_at hl 0 rfl) ?_
  refine va_get (D := (dC, dI)) (ci := 10) (v := .ref (x 25)) (C := RX10) (T := TX10) (N := 10) hx hb hts inB_10 hown hE.1 hP 0 rfl rfl 5 (by decide) (hts _ k_496) (fun _ h9 => h9) rfl dX10_ease_1 ?_
  refine cbVi (n := 0) (rest := []) hx hb hml hown hts hE hP hD hS hA (sX_X3_worstIllness_1 l dC dI cy x0 x  v f hIv ) k_1188 k_1189 k_1190 k_109 k_1191 (by decide +kernel) ⟨Nat.le_of_ble_eq_true rfl, Nat.le_of_ble_eq_true rfl⟩ 26 3 rfl rfl (rfl) hl.1 rfl (Nat.le_of_ble_eq_true rfl) dX10_ease_4 (fun r1 u H locs hw hP hD hS => ?_)
  obtain ⟨v2, f3⟩ := u
  obtain ⟨kV_v2, kF_f3, hIv2, hk0_v2, hk1_v2, hk7_v2, hk8_v2, hk9_v2, hk10_v2, hk31_v2, hk32_v2⟩ := hw
  have hM_v2 : KV [] v2 v := KV.tr kV_v2 hM_v rfl
  have hA_f3 : KF [13, 14] f3 f := KF.tr kF_f3 hA_f rfl
  have hP : va_P (dC, dI) vwCl (XW cy x0 x v2 f3) H := hP
  have hD : va_D A (XW cy x0 x v2 f3) := hD
  have hq0_v2 : v2 0 = (v 0) := hk0_v2
  have hq1_v2 : v2 1 = (v 1) := hk1_v2
  have hq7_v2 : v2 7 = (v 7) := hk7_v2
  have hq8_v2 : v2 8 = (v 8) := hk8_v2
  have hq9_v2 : v2 9 = (v 9) := hk9_v2
  have hq10_v2 : v2 10 = (v 10) := hk10_v2
  have hq31_v2 : v2 31 = (v 31) := hk31_v2
  have hq32_v2 : v2 32 = (v 32) := hk32_v2
  exact ret r1 (v2, f3) _ _ _ _ _ _ rfl ⟨hM_v2, hA_f3, hIv2, hk0_v2, hk1_v2, hk7_v2, hk8_v2, hk9_v2, hk10_v2, hk31_v2, hk32_v2⟩ hP hD hS dX10_ease_7 (Nat.le_refl _) (Nat.le_refl _)
set_option maxHeartbeats 4000000 in
set_option maxRecDepth 100000 in
theorem sX_X10_breadth_1 (l : Launch) (dC : Nat → ClassId) (dI : Nat → Nat → Nat) (cy : Nat → ClassId) (x0 : Nat) (x : Nat → Nat)  (v : Nat → Int32) (f : Nat → Nat → Int32) (hIv : XI v)  : ctI l (dC, dI) cy yX10_breadth cX10_breadth 1 .int 4 127 0 0 Unit [.ref x0] (XW cy x0 x v f) (fun r u => True) (fun u => XW cy x0 x v f) := by
  refine ctI_of (by decide) (Nat.le_of_ble_eq_true rfl) (fun p e s m below meth c A ls Q hx hb hml hts hown hE hP hD hA hl ret => ?_)
  have hown : s.vm.findClass RX10 = some m.cls := hown
  have hS : va_S A s.heap s.heap [] := va_S.rf
  have hl : lv_has ls 1 [(0, .ref x0)] := hl
  refine lv_aload_n hx hb dX10_breadth_0 rfl (lv_at hl 0 rfl) ?_
  refine va_get (D := (dC, dI)) (ci := 10) (v := .ref (x 29)) (C := RX10) (T := TX10) (N := 10) hx hb hts inB_10 hown hE.1 hP 0 rfl rfl 6 (by decide) (hts _ k_497) (fun _ h9 => h9) rfl dX10_breadth_1 ?_
  refine lv_aload_n hx hb dX10_breadth_4 rfl (lv_at hl 0 rfl) ?_
  refine va_get (D := (dC, dI)) (ci := 10) (v := .ref (x 21)) (C := RX10) (T := TX10) (N := 10) hx hb hts inB_10 hown hE.1 hP 0 rfl rfl 3 (by decide) (hts _ k_494) (fun _ h9 => h9) rfl dX10_breadth_5 ?_
  refine cbVi (n := 0) (rest := [.ref (x 29)]) hx hb hml hown hts hE hP hD hS hA (sX_X1_wearers_1 l dC dI cy x0 x  v f hIv ) k_1196 k_1061 k_1062 k_106 k_1063 (by decide +kernel) ⟨Nat.le_of_ble_eq_true rfl, Nat.le_of_ble_eq_true rfl⟩ 22 1 rfl rfl (rfl) hl.1 rfl (Nat.le_of_ble_eq_true rfl) dX10_breadth_8 (fun r1 u H locs hw hP hD hS => ?_)
  refine cbVi (n := 1) (rest := []) hx hb hml hown hts hE hP hD hS hA (sX_X2_wideTogether_1 l dC dI cy x0 x r1 v f hIv ) k_1197 k_1066 k_1067 k_110 k_1068 (by decide +kernel) ⟨Nat.le_of_ble_eq_true rfl, Nat.le_of_ble_eq_true rfl⟩ 30 2 rfl rfl (rfl) hl.1 rfl (Nat.le_of_ble_eq_true rfl) dX10_breadth_11 (fun r2 u H locs hw hP hD hS => ?_)
  exact ret r2 () _ _ _ _ _ _ rfl trivial hP hD hS dX10_breadth_14 (Nat.le_refl _) (Nat.le_refl _)
set_option maxHeartbeats 4000000 in
set_option maxRecDepth 100000 in
theorem sX_X1_wearers_2 (l : Launch) (dC : Nat → ClassId) (dI : Nat → Nat → Nat) (cy : Nat → ClassId) (x0 : Nat) (x : Nat → Nat)  (v : Nat → Int32) (f : Nat → Nat → Int32) (hIv : XI v)  : ctI l (dC, dI) cy yX1_wearers cX1_wearers 3 .int 3 102 0 0 Unit [.ref (x 27)] (XW cy x0 x v f) (fun r u => True) (fun u => XW cy x0 x v f) := by
  refine ctI_of (by decide) (Nat.le_of_ble_eq_true rfl) (fun p e s m below meth c A ls Q hx hb hml hts hown hE hP hD hA hl ret => ?_)
  have hown : s.vm.findClass RX1 = some m.cls := hown
  have hS : va_S A s.heap s.heap [] := va_S.rf
  have hl : lv_has ls 3 [(0, .ref (x 27))] := hl
  refine lv_iconst (v := 0) hx hb dX1_wearers_0 (by decide) ?_
  refine lv_istore_n (lv' := [(1, .int 0), (0, .ref (x 27))]) hx hb dX1_wearers_1 rfl hl (by decide) rfl (fun ls hl => ?_)
  refine lv_iconst (v := 0) hx hb dX1_wearers_2 (by decide) ?_
  refine lv_istore_n (lv' := [(2, .int 0), (1, .int 0), (0, .ref (x 27))]) hx hb dX1_wearers_3 rfl hl (by decide) rfl (fun ls hl => ?_)
  have lp1 : ∀ (n1 : Nat) (l1_1 : Int32) (l2_1 : Int32), ((0 : Int) ≤ l2_1.toInt ∧ l2_1.toInt ≤ 2147483647) → (2147483647 - l2_1.toInt).toNat < n1 → ∀ (H : Heap) (locs : List Loc) (ls : Array Slot), va_P (dC, dI) vwCl (XW cy x0 x v f) H → va_D A (XW cy x0 x v f) → va_S A s.heap H locs → lv_has ls 3 [(2, .int l2_1), (1, .int l1_1), (0, .ref (x 27))] → W p l e { frames := 3, cells := 0, slots := 0, locals := 102 } s m ([.ref (x 27)] : List Value).toArray below meth c H locs 0 0 Q (F0 m 4 ls []) := by
    intro n1
    induction n1 with
    | zero => intro l1_1 l2_1 hr2_1 hm; exact absurd hm (Nat.not_lt_zero _)
    | succ n1 ih1 =>
      intro l1_1 l2_1 hr2_1 hm1 H locs ls hP hD hS hl
      refine lv_iload_n hx hb dX1_wearers_4 rfl (lv_at hl 0 rfl) ?_
      refine lv_aload_n hx hb dX1_wearers_5 rfl (lv_at hl 2 rfl) ?_
      refine va_get (D := (dC, dI)) (ci := 1) (v := .ref (x 26)) (C := RX1) (T := TX1) (N := 2) hx hb hts inB_1 hown hE.1 hP 28 rfl rfl 0 (by decide) (hts _ k_318) (fun _ h9 => h9) rfl dX1_wearers_6 ?_
      refine va_getN (D := (dC, dI)) (ci := 7) (v := .int (v 31)) (C := RX7) (T := TX7) (N := 10) hx hb hts inB_7 hown hE.1 hP 27 rfl rfl 3 (by decide) (va_Nw.use rfl (hE.2 _ k_219)) (fun _ h9 => h9) rfl dX1_wearers_9 ?_
      have b31_v : 0 ≤ (v 31).toInt ∧ (v 31).toInt ≤ 6 := XI.b hIv 31 (by decide)
      refine lv_icmp_ge (tgt := 36) hx hb dX1_wearers_12 (by decide) (fun c2 => ?_) (fun c2 => ?_)
      · skip
        have zc2 : (v 31).toInt ≤ l2_1.toInt := by rw [fa_le] at c2; exact c2
        have rg3 := fb_rng l2_1
        have rg4 := fb_rng (v 31)
        refine lv_iload_n hx hb dX1_wearers_36 rfl (lv_at hl 1 rfl) ?_
        exact ret l1_1 () _ _ _ _ _ _ rfl trivial hP hD hS dX1_wearers_37 (Nat.le_refl _) (Nat.le_refl _)
      · skip
        have zc2 : ¬ ((v 31).toInt ≤ l2_1.toInt) := by rw [fa_le] at c2; exact c2
        have rg5 := fb_rng l2_1
        have rg6 := fb_rng (v 31)
        refine lv_aload_n hx hb dX1_wearers_15 rfl (lv_at hl 2 rfl) ?_
        refine lv_iload_n hx hb dX1_wearers_16 rfl (lv_at hl 0 rfl) ?_
        refine cbVi (n := 1) (rest := []) hx hb hml hown hts hE hP hD hS hA (sX_X1_wears_2 0 l dC dI cy x0 x l2_1 v f hIv ) k_853 k_810 k_811 k_106 k_812 (by decide +kernel) ⟨Nat.le_of_ble_eq_true rfl, Nat.le_of_ble_eq_true rfl⟩ 28 1 rfl rfl (rfl) hl.1 rfl (Nat.le_of_ble_eq_true rfl) dX1_wearers_17 (fun r7 u H locs hw hP hD hS => ?_)
        have hG8 := hw
        refine lv_iconst (v := (-1)) hx hb dX1_wearers_20 (by decide) ?_
        refine lv_icmp_eq (tgt := 30) hx hb dX1_wearers_21 (by decide) (fun c9 => ?_) (fun c9 => ?_)
        · skip
          have zc9 : r7.toInt = (-1) := by rw [fa_eq, show ((-1) : Int32).toInt = -1 from by decide] at c9; exact c9
          obtain ⟨t10, et10⟩ : ∃ y : Int32, y = l2_1 + 1 := ⟨_, rfl⟩
          have zt10 : t10.toInt = l2_1.toInt + 1 := by rw [et10]; exact add_i rfl (by decide) (by omega) (by omega)
          refine lv_iinc (v := t10) (lv' := [(2, .int t10), (1, .int l1_1), (0, .ref (x 27))]) hx hb dX1_wearers_30 hl (k := 0) rfl (by rw [et10]; rfl) (by decide) rfl (fun ls hl => ?_)
          refine lv_goto (tgt := 4) hx hb dX1_wearers_33 (by decide) ?_
          have rg11 := fb_rng t10
          exact ih1 l1_1 t10 ⟨show (0 : Int) ≤ t10.toInt by omega, show t10.toInt ≤ (2147483647 : Int) by omega⟩ (by show (2147483647 - t10.toInt).toNat < n1; omega) _ _ _ hP hD hS (lv_sub hl [0, 1, 2] rfl)
        · skip
          have zc9 : ¬ (r7.toInt = (-1)) := by rw [fa_eq, show ((-1) : Int32).toInt = -1 from by decide] at c9; exact c9
          refine lv_iload_n hx hb dX1_wearers_24 rfl (lv_at hl 1 rfl) ?_
          refine lv_iconst (v := 1) hx hb dX1_wearers_25 (by decide) ?_
          refine lv_iload_n hx hb dX1_wearers_26 rfl (lv_at hl 0 rfl) ?_
          refine lv_ishl hx hb dX1_wearers_27 ?_
          refine lv_topi (fun t12 et12 => ?_)
          have zt12 : 1 ≤ t12.toInt ∧ t12.toInt ≤ 32 := by rw [et12]; exact shl1_rng (by omega) (by omega)
          refine lv_ior hx hb dX1_wearers_28 ?_
          refine lv_topi (fun t13 et13 => ?_)
          refine lv_istore_n (lv' := [(1, .int t13), (2, .int l2_1), (0, .ref (x 27))]) hx hb dX1_wearers_29 rfl hl (by decide) rfl (fun ls hl => ?_)
          obtain ⟨t14, et14⟩ : ∃ y : Int32, y = l2_1 + 1 := ⟨_, rfl⟩
          have zt14 : t14.toInt = l2_1.toInt + 1 := by rw [et14]; exact add_i rfl (by decide) (by omega) (by omega)
          refine lv_iinc (v := t14) (lv' := [(2, .int t14), (1, .int t13), (0, .ref (x 27))]) hx hb dX1_wearers_30 hl (k := 1) rfl (by rw [et14]; rfl) (by decide) rfl (fun ls hl => ?_)
          refine lv_goto (tgt := 4) hx hb dX1_wearers_33 (by decide) ?_
          have rg15 := fb_rng t14
          exact ih1 t13 t14 ⟨show (0 : Int) ≤ t14.toInt by omega, show t14.toInt ≤ (2147483647 : Int) by omega⟩ (by show (2147483647 - t14.toInt).toNat < n1; omega) _ _ _ hP hD hS (lv_sub hl [0, 1, 2] rfl)
  exact lp1 _ 0 0 ⟨by decide, by decide⟩ (Nat.lt_succ_self _) _ _ _ hP hD hS (lv_sub hl [0, 1, 2] rfl)
set_option maxHeartbeats 4000000 in
set_option maxRecDepth 100000 in
theorem sX_X3_daysTillRout_1 (l : Launch) (dC : Nat → ClassId) (dI : Nat → Nat → Nat) (cy : Nat → ClassId) (x0 : Nat) (x : Nat → Nat)  (v : Nat → Int32) (f : Nat → Nat → Int32) (hIv : XI v)  : ctI l (dC, dI) cy yX3_daysTillRout cX3_daysTillRout 2 .int 6 179 0 0 ((Nat → Int32) × (Nat → Nat → Int32)) [.ref (x 25)] (XW cy x0 x v f) (fun r u => KV [] u.1 v ∧ KF [13, 14, 18] u.2 f ∧ XI u.1 ∧ u.1 0 = v 0 ∧ u.1 1 = v 1 ∧ u.1 7 = v 7 ∧ u.1 8 = v 8 ∧ u.1 9 = v 9 ∧ u.1 10 = v 10 ∧ u.1 31 = v 31 ∧ u.1 32 = v 32) (fun u => XW cy x0 x u.1 u.2) := by
  refine ctI_of (by decide) (Nat.le_of_ble_eq_true rfl) (fun p e s m below meth c A ls Q hx hb hml hts hown hE hP hD hA hl ret => ?_)
  have hM_v : KV [] v v := fun _ _ => rfl
  have hA_f : KF [13, 14, 18] f f := fun _ _ => rfl
  have hown : s.vm.findClass RX3 = some m.cls := hown
  have hS : va_S A s.heap s.heap [] := va_S.rf
  have hl : lv_has ls 2 [(0, .ref (x 25))] := hl
  refine lv_aload_n hx hb dX3_daysTillRout_0 rfl (lv_at hl 0 rfl) ?_
  refine va_get (D := (dC, dI)) (ci := 3) (v := .ref (x 27)) (C := RX3) (T := TX3) (N := 10) hx hb hts inB_3 hown hE.1 hP 26 rfl rfl 2 (by decide) (hts _ k_372) (fun _ h9 => h9) rfl dX3_daysTillRout_1 ?_
  refine lv_aload_n hx hb dX3_daysTillRout_4 rfl (lv_at hl 0 rfl) ?_
  refine va_get (D := (dC, dI)) (ci := 3) (v := .ref (x 21)) (C := RX3) (T := TX3) (N := 10) hx hb hts inB_3 hown hE.1 hP 26 rfl rfl 1 (by decide) (hts _ k_371) (fun _ h9 => h9) rfl dX3_daysTillRout_5 ?_
  refine cbVv (n := 1) (rest := []) hx hb hml hown hts hE hP hD hS hA (sX_X1_copy_1 l dC dI cy x0 x  v f hIv ) k_945 k_946 k_947 k_106 k_948 (by decide +kernel) ⟨Nat.le_of_ble_eq_true rfl, Nat.le_of_ble_eq_true rfl⟩ 28 1 rfl rfl (rfl) hl.1 rfl (Nat.le_of_ble_eq_true rfl) dX3_daysTillRout_8 (fun u H locs hw hP hD hS => ?_)
  obtain ⟨v1, f2⟩ := u
  obtain ⟨kV_v1, kF_f2, hIv1, hk0_v1, hk1_v1, hk7_v1, hk8_v1, hk9_v1, hk10_v1, hk31_v1, hk32_v1⟩ := hw
  have hM_v1 : KV [] v1 v := KV.tr kV_v1 hM_v rfl
  have hA_f2 : KF [13, 14, 18] f2 f := KF.tr kF_f2 hA_f rfl
  have hP : va_P (dC, dI) vwCl (XW cy x0 x v1 f2) H := hP
  have hD : va_D A (XW cy x0 x v1 f2) := hD
  have hq0_v1 : v1 0 = (v 0) := hk0_v1
  have hq1_v1 : v1 1 = (v 1) := hk1_v1
  have hq7_v1 : v1 7 = (v 7) := hk7_v1
  have hq8_v1 : v1 8 = (v 8) := hk8_v1
  have hq9_v1 : v1 9 = (v 9) := hk9_v1
  have hq10_v1 : v1 10 = (v 10) := hk10_v1
  have hq31_v1 : v1 31 = (v 31) := hk31_v1
  have hq32_v1 : v1 32 = (v 32) := hk32_v1
  refine lv_iconst (v := 0) hx hb dX3_daysTillRout_11 (by decide) ?_
  refine lv_istore_n (lv' := [(1, .int 0), (0, .ref (x 25))]) hx hb dX3_daysTillRout_12 rfl hl (by decide) rfl (fun ls hl => ?_)
  have lp3 : ∀ (n3 : Nat) (l1_3 : Int32) (v3 : Nat → Int32) (f3 : Nat → Nat → Int32), XI v3 → v3 0 = (v 0) → v3 1 = (v 1) → v3 7 = (v 7) → v3 8 = (v 8) → v3 9 = (v 9) → v3 10 = (v 10) → v3 31 = (v 31) → v3 32 = (v 32) → ((0 : Int) ≤ l1_3.toInt ∧ l1_3.toInt ≤ 2147483647) → KV [] v3 v → KF [13, 14, 18] f3 f → (2147483647 - l1_3.toInt).toNat < n3 → ∀ (H : Heap) (locs : List Loc) (ls : Array Slot), va_P (dC, dI) vwCl (XW cy x0 x v3 f3) H → va_D A (XW cy x0 x v3 f3) → va_S A s.heap H locs → lv_has ls 2 [(1, .int l1_3), (0, .ref (x 25))] → W p l e { frames := 6, cells := 0, slots := 0, locals := 179 } s m ([.ref (x 25)] : List Value).toArray below meth c H locs 0 0 Q (F0 m 13 ls []) := by
    intro n3
    induction n3 with
    | zero => intro l1_3 v3 f3 hIv3 hq0_v3 hq1_v3 hq7_v3 hq8_v3 hq9_v3 hq10_v3 hq31_v3 hq32_v3 hr1_3 hM_v3 hA_f3 hm; exact absurd hm (Nat.not_lt_zero _)
    | succ n3 ih3 =>
      intro l1_3 v3 f3 hIv3 hq0_v3 hq1_v3 hq7_v3 hq8_v3 hq9_v3 hq10_v3 hq31_v3 hq32_v3 hr1_3 hM_v3 hA_f3 hm3 H locs ls hP hD hS hl
      refine lv_iload_n hx hb dX3_daysTillRout_13 rfl (lv_at hl 0 rfl) ?_
      refine lv_bipush (v := 60) hx hb dX3_daysTillRout_14 (by decide) ?_
      refine lv_icmp_gt (tgt := 46) hx hb dX3_daysTillRout_16 (by decide) (fun c4 => ?_) (fun c4 => ?_)
      · skip
        have zc4 : 60 < l1_3.toInt := by rw [fa_lt, show (60 : Int32).toInt = 60 from by decide] at c4; exact c4
        refine lv_iconst (v := (-1)) hx hb dX3_daysTillRout_46 (by decide) ?_
        exact ret (-1) (v3, f3) _ _ _ _ _ _ rfl ⟨hM_v3, hA_f3, hIv3, hq0_v3, hq1_v3, hq7_v3, hq8_v3, hq9_v3, hq10_v3, hq31_v3, hq32_v3⟩ hP hD hS dX3_daysTillRout_47 (Nat.le_refl _) (Nat.le_refl _)
      · skip
        have zc4 : ¬ (60 < l1_3.toInt) := by rw [fa_lt, show (60 : Int32).toInt = 60 from by decide] at c4; exact c4
        refine lv_aload_n hx hb dX3_daysTillRout_19 rfl (lv_at hl 1 rfl) ?_
        refine va_get (D := (dC, dI)) (ci := 3) (v := .ref (x 27)) (C := RX3) (T := TX3) (N := 10) hx hb hts inB_3 hown hE.1 hP 26 rfl rfl 2 (by decide) (hts _ k_372) (fun _ h9 => h9) rfl dX3_daysTillRout_20 ?_
        refine cbVi (n := 0) (rest := []) hx hb hml hown hts hE hP hD hS hA (sX_X1_wearers_2 l dC dI cy x0 x  v3 f3 hIv3 ) k_1206 k_1061 k_1062 k_106 k_1063 (by decide +kernel) ⟨Nat.le_of_ble_eq_true rfl, Nat.le_of_ble_eq_true rfl⟩ 28 1 rfl rfl (rfl) hl.1 rfl (Nat.le_of_ble_eq_true rfl) dX3_daysTillRout_23 (fun r5 u H locs hw hP hD hS => ?_)
        refine lv_if_ne (tgt := 31) hx hb dX3_daysTillRout_26 (by decide) (fun c6 => ?_) (fun c6 => ?_)
        · skip
          have zc6 : ¬ (r5.toInt = 0) := by rw [fa_eq, show (0 : Int32).toInt = 0 from by decide] at c6; exact c6
          refine lv_aload_n hx hb dX3_daysTillRout_31 rfl (lv_at hl 1 rfl) ?_
          refine va_get (D := (dC, dI)) (ci := 3) (v := .ref (x 27)) (C := RX3) (T := TX3) (N := 10) hx hb hts inB_3 hown hE.1 hP 26 rfl rfl 2 (by decide) (hts _ k_372) (fun _ h9 => h9) rfl dX3_daysTillRout_32 ?_
          refine lv_iconst (v := 0) hx hb dX3_daysTillRout_35 (by decide) ?_
          refine cbVi (n := 1) (rest := []) hx hb hml hown hts hE hP hD hS hA (sX_X1_passDay_2 0 l dC dI cy x0 x 0 v3 f3 hIv3 ) k_949 k_866 k_867 k_106 k_868 (by decide +kernel) ⟨Nat.le_of_ble_eq_true rfl, Nat.le_of_ble_eq_true rfl⟩ 28 1 rfl rfl (rfl) hl.1 rfl (Nat.le_of_ble_eq_true rfl) dX3_daysTillRout_36 (fun r7 u H locs hw hP hD hS => ?_)
          obtain ⟨hG8, hw⟩ := hw
          obtain ⟨v9, f10⟩ := u
          obtain ⟨kV_v9, kF_f10, hIv9, hk0_v9, hk1_v9, hk7_v9, hk8_v9, hk9_v9, hk10_v9, hk31_v9, hk32_v9⟩ := hw
          have hM_v9 : KV [] v9 v := KV.tr kV_v9 hM_v3 rfl
          have hA_f10 : KF [13, 14, 18] f10 f := KF.tr kF_f10 hA_f3 rfl
          have hP : va_P (dC, dI) vwCl (XW cy x0 x v9 f10) H := hP
          have hD : va_D A (XW cy x0 x v9 f10) := hD
          have hq0_v9 : v9 0 = (v 0) := hk0_v9.trans hq0_v3
          have hq1_v9 : v9 1 = (v 1) := hk1_v9.trans hq1_v3
          have hq7_v9 : v9 7 = (v 7) := hk7_v9.trans hq7_v3
          have hq8_v9 : v9 8 = (v 8) := hk8_v9.trans hq8_v3
          have hq9_v9 : v9 9 = (v 9) := hk9_v9.trans hq9_v3
          have hq10_v9 : v9 10 = (v 10) := hk10_v9.trans hq10_v3
          have hq31_v9 : v9 31 = (v 31) := hk31_v9.trans hq31_v3
          have hq32_v9 : v9 32 = (v 32) := hk32_v9.trans hq32_v3
          refine lv_pop hx hb dX3_daysTillRout_39 rfl ?_
          obtain ⟨t11, et11⟩ : ∃ y : Int32, y = l1_3 + 1 := ⟨_, rfl⟩
          have rg12 := fb_rng l1_3
          have zt11 : t11.toInt = l1_3.toInt + 1 := by rw [et11]; exact add_i rfl (by decide) (by omega) (by omega)
          refine lv_iinc (v := t11) (lv' := [(1, .int t11), (0, .ref (x 25))]) hx hb dX3_daysTillRout_40 hl (k := 0) rfl (by rw [et11]; rfl) (by decide) rfl (fun ls hl => ?_)
          refine lv_goto (tgt := 13) hx hb dX3_daysTillRout_43 (by decide) ?_
          have rg13 := fb_rng t11
          exact ih3 t11 v9 f10 hIv9 hq0_v9 hq1_v9 hq7_v9 hq8_v9 hq9_v9 hq10_v9 hq31_v9 hq32_v9 ⟨show (0 : Int) ≤ t11.toInt by omega, show t11.toInt ≤ (2147483647 : Int) by omega⟩ hM_v9 hA_f10 (by show (2147483647 - t11.toInt).toNat < n3; omega) _ _ _ hP hD hS (lv_sub hl [0, 1] rfl)
        · skip
          have zc6 : r5.toInt = 0 := by rw [fa_eq, show (0 : Int32).toInt = 0 from by decide] at c6; exact c6
          refine lv_iload_n hx hb dX3_daysTillRout_29 rfl (lv_at hl 0 rfl) ?_
          exact ret l1_3 (v3, f3) _ _ _ _ _ _ rfl ⟨hM_v3, hA_f3, hIv3, hq0_v3, hq1_v3, hq7_v3, hq8_v3, hq9_v3, hq10_v3, hq31_v3, hq32_v3⟩ hP hD hS dX3_daysTillRout_30 (Nat.le_refl _) (Nat.le_refl _)
  exact lp3 _ 0 v1 f2 hIv1 hq0_v1 hq1_v1 hq7_v1 hq8_v1 hq9_v1 hq10_v1 hq31_v1 hq32_v1 ⟨by decide, by decide⟩ hM_v1 hA_f2 (Nat.lt_succ_self _) _ _ _ hP hD hS (lv_sub hl [0, 1] rfl)
