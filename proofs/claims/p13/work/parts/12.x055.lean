set_option maxHeartbeats 4000000 in
set_option maxRecDepth 100000 in
theorem sX_X3_findRota_1 (l : Launch) (dC : Nat → ClassId) (dI : Nat → Nat → Nat) (cy : Nat → ClassId) (x0 : Nat) (x : Nat → Nat)  (v : Nat → Int32) (f : Nat → Nat → Int32) (hIv : XI v)  : ctV l (dC, dI) cy yX3_findRota cX3_findRota 3 6 179 0 0 ((Nat → Int32) × (Nat → Nat → Int32)) [.ref (x 25)] (XW cy x0 x v f) (fun u => KV [26, 27] u.1 v ∧ KF [13, 14] u.2 f ∧ XI u.1 ∧ u.1 0 = v 0 ∧ u.1 1 = v 1 ∧ u.1 7 = v 7 ∧ u.1 8 = v 8 ∧ u.1 9 = v 9 ∧ u.1 10 = v 10 ∧ u.1 31 = v 31 ∧ u.1 32 = v 32) (fun u => XW cy x0 x u.1 u.2) := by
  refine ctV_of (by decide) (Nat.le_of_ble_eq_true rfl) (fun p e s m below meth c A ls Q hx hb hml hts hown hnm hE hP hD hA hl ret => ?_)
  have hM_v : KV [26, 27] v v := fun _ _ => rfl
  have hA_f : KF [13, 14] f f := fun _ _ => rfl
  have hown : s.vm.findClass RX3 = some m.cls := hown
  have hS : va_S A s.heap s.heap [] := va_S.rf
  have hl : lv_has ls 3 [(0, .ref (x 25))] := hl
  refine lv_aload_n hx hb dX3_findRota_0 rfl (lv_at hl 0 rfl) ?_
  refine lv_iconst (v := 0) hx hb dX3_findRota_1 (by decide) ?_
  refine va_put (D := (dC, dI)) (ci := 3) (v := .int 0) (ty := tyX3 5) (C := RX3) (T := TX3) (N := 10) hx hb hts inB_3 tyX3 tyX3_ok nmX3 hown hE.1 hP hD hS 26 rfl rfl 5 (by decide) (hts _ k_377) (fun _ h9 => h9) rfl (tyX3_ok 5 (by decide)) rfl rfl (Nat.le_of_ble_eq_true rfl) dX3_findRota_2 (fun H locs hP hD hS => ?_)
  have hP : va_P (dC, dI) vwCl (XW cy x0 x (upd v 26 0) f) H := hP
  have hD : va_D A (XW cy x0 x (upd v 26 0) f) := hD
  refine lv_aload_n hx hb dX3_findRota_5 rfl (lv_at hl 0 rfl) ?_
  refine lv_iconst (v := (-1)) hx hb dX3_findRota_6 (by decide) ?_
  refine va_put (D := (dC, dI)) (ci := 3) (v := .int (-1)) (ty := tyX3 6) (C := RX3) (T := TX3) (N := 10) hx hb hts inB_3 tyX3 tyX3_ok nmX3 hown hE.1 hP hD hS 26 rfl rfl 6 (by decide) (hts _ k_379) (fun _ h9 => h9) rfl (tyX3_ok 6 (by decide)) rfl rfl (Nat.le_of_ble_eq_true rfl) dX3_findRota_7 (fun H locs hP hD hS => ?_)
  have hP : va_P (dC, dI) vwCl (XW cy x0 x (upd (upd v 26 0) 27 (-1)) f) H := hP
  have hD : va_D A (XW cy x0 x (upd (upd v 26 0) 27 (-1)) f) := hD
  refine lv_iconst (v := 0) hx hb dX3_findRota_10 (by decide) ?_
  refine lv_istore_n (lv' := [(1, .int 0), (0, .ref (x 25))]) hx hb dX3_findRota_11 rfl hl (by decide) rfl (fun ls hl => ?_)
  have lp1 : ∀ (n1 : Nat) (l1_1 : Int32) (v1 : Nat → Int32) (f1 : Nat → Nat → Int32), XI v1 → v1 0 = (v 0) → v1 1 = (v 1) → v1 7 = (v 7) → v1 8 = (v 8) → v1 9 = (v 9) → v1 10 = (v 10) → v1 31 = (v 31) → v1 32 = (v 32) → ((0 : Int) ≤ l1_1.toInt ∧ l1_1.toInt ≤ 2147483647) → KV [26, 27] v1 v → KF [13, 14] f1 f → (2147483647 - l1_1.toInt).toNat < n1 → ∀ (H : Heap) (locs : List Loc) (ls : Array Slot), va_P (dC, dI) vwCl (XW cy x0 x v1 f1) H → va_D A (XW cy x0 x v1 f1) → va_S A s.heap H locs → lv_has ls 3 [(1, .int l1_1), (0, .ref (x 25))] → W p l e { frames := 6, cells := 0, slots := 0, locals := 179 } s m ([.ref (x 25)] : List Value).toArray below meth c H locs 0 0 Q (F0 m 12 ls []) := by
    intro n1
    induction n1 with
    | zero => intro l1_1 v1 f1 hIv1 hq0_v1 hq1_v1 hq7_v1 hq8_v1 hq9_v1 hq10_v1 hq31_v1 hq32_v1 hr1_1 hM_v1 hA_f1 hm; exact absurd hm (Nat.not_lt_zero _)
    | succ n1 ih1 =>
      intro l1_1 v1 f1 hIv1 hq0_v1 hq1_v1 hq7_v1 hq8_v1 hq9_v1 hq10_v1 hq31_v1 hq32_v1 hr1_1 hM_v1 hA_f1 hm1 H locs ls hP hD hS hl
      refine lv_iload_n hx hb dX3_findRota_12 rfl (lv_at hl 0 rfl) ?_
      refine lv_aload_n hx hb dX3_findRota_13 rfl (lv_at hl 1 rfl) ?_
      refine va_get (D := (dC, dI)) (ci := 3) (v := .ref (x 26)) (C := RX3) (T := TX3) (N := 10) hx hb hts inB_3 hown hE.1 hP 26 rfl rfl 0 (by decide) (hts _ k_370) (fun _ h9 => h9) rfl dX3_findRota_14 ?_
      refine va_getN (D := (dC, dI)) (ci := 7) (v := .int (v1 31)) (C := RX7) (T := TX7) (N := 10) hx hb hts inB_7 hown hE.1 hP 27 rfl rfl 3 (by decide) (va_Nw.use rfl (hE.2 _ k_217)) (fun _ h9 => h9) rfl dX3_findRota_17 ?_
      refine tI (y := (v 31)) hq31_v1 ?_
      have b31_v : 0 ≤ (v 31).toInt ∧ (v 31).toInt ≤ 6 := XI.b hIv 31 (by decide)
      refine lv_icmp_ge (tgt := 53) hx hb dX3_findRota_20 (by decide) (fun c2 => ?_) (fun c2 => ?_)
      · skip
        have zc2 : (v 31).toInt ≤ l1_1.toInt := by rw [fa_le] at c2; exact c2
        have rg3 := fb_rng l1_1
        have rg4 := fb_rng (v 31)
        exact ret (v1, f1) _ _ _ _ _ _ ⟨hM_v1, hA_f1, hIv1, (show v1 0 = v 0 from hq0_v1), (show v1 1 = v 1 from hq1_v1), (show v1 7 = v 7 from hq7_v1), (show v1 8 = v 8 from hq8_v1), (show v1 9 = v 9 from hq9_v1), (show v1 10 = v 10 from hq10_v1), (show v1 31 = v 31 from hq31_v1), (show v1 32 = v 32 from hq32_v1)⟩ hP hD hS dX3_findRota_53 (Nat.le_refl _) (Nat.le_refl _)
      · skip
        have zc2 : ¬ ((v 31).toInt ≤ l1_1.toInt) := by rw [fa_le] at c2; exact c2
        have rg5 := fb_rng l1_1
        have rg6 := fb_rng (v 31)
        refine lv_aload_n hx hb dX3_findRota_23 rfl (lv_at hl 1 rfl) ?_
        refine lv_iload_n hx hb dX3_findRota_24 rfl (lv_at hl 0 rfl) ?_
        refine cbVi (n := 1) (rest := []) hx hb hml hown hts hE hP hD hS hA (sX_X3_rotaCount_1 l dC dI cy x0 x l1_1 v1 f1 hIv1 ) k_1028 k_1030 k_28 k_109 k_1031 (by decide +kernel) ⟨Nat.le_of_ble_eq_true rfl, Nat.le_of_ble_eq_true rfl⟩ 26 3 rfl rfl (rfl) hl.1 rfl (Nat.le_of_ble_eq_true rfl) dX3_findRota_25 (fun r7 u H locs hw hP hD hS => ?_)
        obtain ⟨v8, f9⟩ := u
        obtain ⟨kV_v8, kF_f9, hIv8, hk0_v8, hk1_v8, hk7_v8, hk8_v8, hk9_v8, hk10_v8, hk31_v8, hk32_v8⟩ := hw
        have hM_v8 : KV [26, 27] v8 v := KV.tr kV_v8 hM_v1 rfl
        have hA_f9 : KF [13, 14] f9 f := KF.tr kF_f9 hA_f1 rfl
        have hP : va_P (dC, dI) vwCl (XW cy x0 x v8 f9) H := hP
        have hD : va_D A (XW cy x0 x v8 f9) := hD
        have hq0_v8 : v8 0 = (v 0) := hk0_v8.trans hq0_v1
        have hq1_v8 : v8 1 = (v 1) := hk1_v8.trans hq1_v1
        have hq7_v8 : v8 7 = (v 7) := hk7_v8.trans hq7_v1
        have hq8_v8 : v8 8 = (v 8) := hk8_v8.trans hq8_v1
        have hq9_v8 : v8 9 = (v 9) := hk9_v8.trans hq9_v1
        have hq10_v8 : v8 10 = (v 10) := hk10_v8.trans hq10_v1
        have hq31_v8 : v8 31 = (v 31) := hk31_v8.trans hq31_v1
        have hq32_v8 : v8 32 = (v 32) := hk32_v8.trans hq32_v1
        refine lv_istore_n (lv' := [(2, .int r7), (1, .int l1_1), (0, .ref (x 25))]) hx hb dX3_findRota_28 rfl hl (by decide) rfl (fun ls hl => ?_)
        refine lv_iload_n hx hb dX3_findRota_29 rfl (lv_at hl 0 rfl) ?_
        refine lv_aload_n hx hb dX3_findRota_30 rfl (lv_at hl 2 rfl) ?_
        refine va_get (D := (dC, dI)) (ci := 3) (v := .int (v8 27)) (C := RX3) (T := TX3) (N := 10) hx hb hts inB_3 hown hE.1 hP 26 rfl rfl 6 (by decide) (hts _ k_379) (fun _ h9 => h9) rfl dX3_findRota_31 ?_
        refine lv_icmp_le (tgt := 47) hx hb dX3_findRota_34 (by decide) (fun c10 => ?_) (fun c10 => ?_)
        · skip
          have zc10 : r7.toInt ≤ (v8 27).toInt := by rw [fa_le] at c10; exact c10
          have rg11 := fb_rng r7
          have rg12 := fb_rng (v8 27)
          obtain ⟨t13, et13⟩ : ∃ y : Int32, y = l1_1 + 1 := ⟨_, rfl⟩
          have zt13 : t13.toInt = l1_1.toInt + 1 := by rw [et13]; exact add_i rfl (by decide) (by omega) (by omega)
          refine lv_iinc (v := t13) (lv' := [(1, .int t13), (2, .int r7), (0, .ref (x 25))]) hx hb dX3_findRota_47 hl (k := 1) rfl (by rw [et13]; rfl) (by decide) rfl (fun ls hl => ?_)
          refine lv_goto (tgt := 12) hx hb dX3_findRota_50 (by decide) ?_
          have rg14 := fb_rng t13
          exact ih1 t13 v8 f9 hIv8 hq0_v8 hq1_v8 hq7_v8 hq8_v8 hq9_v8 hq10_v8 hq31_v8 hq32_v8 ⟨show (0 : Int) ≤ t13.toInt by omega, show t13.toInt ≤ (2147483647 : Int) by omega⟩ hM_v8 hA_f9 (by show (2147483647 - t13.toInt).toNat < n1; omega) _ _ _ hP hD hS (lv_sub hl [0, 2] rfl)
        · skip
          have zc10 : ¬ (r7.toInt ≤ (v8 27).toInt) := by rw [fa_le] at c10; exact c10
          have rg15 := fb_rng r7
          have rg16 := fb_rng (v8 27)
          refine lv_aload_n hx hb dX3_findRota_37 rfl (lv_at hl 2 rfl) ?_
          refine lv_iload_n hx hb dX3_findRota_38 rfl (lv_at hl 1 rfl) ?_
          refine va_put (D := (dC, dI)) (ci := 3) (v := .int l1_1) (ty := tyX3 5) (C := RX3) (T := TX3) (N := 10) hx hb hts inB_3 tyX3 tyX3_ok nmX3 hown hE.1 hP hD hS 26 rfl rfl 5 (by decide) (hts _ k_377) (fun _ h9 => h9) rfl (tyX3_ok 5 (by decide)) rfl rfl (Nat.le_of_ble_eq_true rfl) dX3_findRota_39 (fun H locs hP hD hS => ?_)
          have hP : va_P (dC, dI) vwCl (XW cy x0 x (upd v8 26 l1_1) f9) H := hP
          have hD : va_D A (XW cy x0 x (upd v8 26 l1_1) f9) := hD
          refine lv_aload_n hx hb dX3_findRota_42 rfl (lv_at hl 2 rfl) ?_
          refine lv_iload_n hx hb dX3_findRota_43 rfl (lv_at hl 0 rfl) ?_
          refine va_put (D := (dC, dI)) (ci := 3) (v := .int r7) (ty := tyX3 6) (C := RX3) (T := TX3) (N := 10) hx hb hts inB_3 tyX3 tyX3_ok nmX3 hown hE.1 hP hD hS 26 rfl rfl 6 (by decide) (hts _ k_379) (fun _ h9 => h9) rfl (tyX3_ok 6 (by decide)) rfl rfl (Nat.le_of_ble_eq_true rfl) dX3_findRota_44 (fun H locs hP hD hS => ?_)
          have hP : va_P (dC, dI) vwCl (XW cy x0 x (upd (upd v8 26 l1_1) 27 r7) f9) H := hP
          have hD : va_D A (XW cy x0 x (upd (upd v8 26 l1_1) 27 r7) f9) := hD
          obtain ⟨t17, et17⟩ : ∃ y : Int32, y = l1_1 + 1 := ⟨_, rfl⟩
          have zt17 : t17.toInt = l1_1.toInt + 1 := by rw [et17]; exact add_i rfl (by decide) (by omega) (by omega)
          refine lv_iinc (v := t17) (lv' := [(1, .int t17), (2, .int r7), (0, .ref (x 25))]) hx hb dX3_findRota_47 hl (k := 1) rfl (by rw [et17]; rfl) (by decide) rfl (fun ls hl => ?_)
          refine lv_goto (tgt := 12) hx hb dX3_findRota_50 (by decide) ?_
          have rg18 := fb_rng t17
          exact ih1 t17 (upd (upd v8 26 l1_1) 27 r7) f9 (XI.upd (j := 27) (x := r7) (XI.upd (j := 26) (x := l1_1) hIv8 (rlo _) (rhi _)) (rlo _) (rhi _)) hq0_v8 hq1_v8 hq7_v8 hq8_v8 hq9_v8 hq10_v8 hq31_v8 hq32_v8 ⟨show (0 : Int) ≤ t17.toInt by omega, show t17.toInt ≤ (2147483647 : Int) by omega⟩ (KV.up (j := 27) (x := r7) (KV.up (j := 26) (x := l1_1) hM_v8 rfl) rfl) hA_f9 (by show (2147483647 - t17.toInt).toNat < n1; omega) _ _ _ hP hD hS (lv_sub hl [0, 2] rfl)
  exact lp1 _ 0 (upd (upd v 26 0) 27 (-1)) f (XI.upd (j := 27) (x := (-1)) (XI.upd (j := 26) (x := 0) hIv (rlo _) (rhi _)) (rlo _) (rhi _)) rfl rfl rfl rfl rfl rfl rfl rfl ⟨by decide, by decide⟩ (KV.up (j := 27) (x := (-1)) (KV.up (j := 26) (x := 0) hM_v rfl) rfl) hA_f (Nat.lt_succ_self _) _ _ _ hP hD hS (lv_sub hl [0, 1] rfl)
set_option maxHeartbeats 4000000 in
set_option maxRecDepth 100000 in
theorem sX_X10_rota_1 (l : Launch) (dC : Nat → ClassId) (dI : Nat → Nat → Nat) (cy : Nat → ClassId) (x0 : Nat) (x : Nat → Nat) (p1 : Int32) (v : Nat → Int32) (f : Nat → Nat → Int32) (hIv : XI v)  : ctI l (dC, dI) cy yX10_rota cX10_rota 2 .int 7 201 0 0 ((Nat → Int32) × (Nat → Nat → Int32)) [.ref x0, .int p1] (XW cy x0 x v f) (fun r u => KV [26, 27] u.1 v ∧ KF [13, 14] u.2 f ∧ XI u.1 ∧ u.1 0 = v 0 ∧ u.1 1 = v 1 ∧ u.1 7 = v 7 ∧ u.1 8 = v 8 ∧ u.1 9 = v 9 ∧ u.1 10 = v 10 ∧ u.1 31 = v 31 ∧ u.1 32 = v 32) (fun u => XW cy x0 x u.1 u.2) := by
  refine ctI_of (by decide) (Nat.le_of_ble_eq_true rfl) (fun p e s m below meth c A ls Q hx hb hml hts hown hE hP hD hA hl ret => ?_)
  have hM_v : KV [26, 27] v v := fun _ _ => rfl
  have hA_f : KF [13, 14] f f := fun _ _ => rfl
  have hown : s.vm.findClass RX10 = some m.cls := hown
  have hS : va_S A s.heap s.heap [] := va_S.rf
  have hl : lv_has ls 2 [(0, .ref x0), (1, .int p1)] := hl
  refine lv_aload_n hx hb dX10_rota_0 rfl (lv_at hl 0 rfl) ?_
  refine va_get (D := (dC, dI)) (ci := 10) (v := .ref (x 26)) (C := RX10) (T := TX10) (N := 10) hx hb hts inB_10 hown hE.1 hP 0 rfl rfl 2 (by decide) (hts _ k_493) (fun _ h9 => h9) rfl dX10_rota_1 ?_
  refine va_getN (D := (dC, dI)) (ci := 7) (v := .int (v 31)) (C := RX7) (T := TX7) (N := 10) hx hb hts inB_7 hown hE.1 hP 27 rfl rfl 3 (by decide) (va_Nw.use rfl (hE.2 _ k_214)) (fun _ h9 => h9) rfl dX10_rota_4 ?_
  have b31_v : 0 ≤ (v 31).toInt ∧ (v 31).toInt ≤ 6 := XI.b hIv 31 (by decide)
  refine lv_if_eq (tgt := 19) hx hb dX10_rota_7 (by decide) (fun c1 => ?_) (fun c1 => ?_)
  · skip
    have zc1 : (v 31).toInt = 0 := by rw [fa_eq, show (0 : Int32).toInt = 0 from by decide] at c1; exact c1
    refine lv_iconst (v := (-1)) hx hb dX10_rota_19 (by decide) ?_
    exact ret (-1) (v, f) _ _ _ _ _ _ rfl ⟨hM_v, hA_f, hIv, rfl, rfl, rfl, rfl, rfl, rfl, rfl, rfl⟩ hP hD hS dX10_rota_20 (Nat.le_refl _) (Nat.le_refl _)
  · skip
    have zc1 : ¬ ((v 31).toInt = 0) := by rw [fa_eq, show (0 : Int32).toInt = 0 from by decide] at c1; exact c1
    refine lv_iload_n hx hb dX10_rota_10 rfl (lv_at hl 1 rfl) ?_
    refine lv_if_lt (tgt := 19) hx hb dX10_rota_11 (by decide) (fun c2 => ?_) (fun c2 => ?_)
    · skip
      have zc2 : p1.toInt < 0 := by rw [fa_lt, show (0 : Int32).toInt = 0 from by decide] at c2; exact c2
      refine lv_iconst (v := (-1)) hx hb dX10_rota_19 (by decide) ?_
      exact ret (-1) (v, f) _ _ _ _ _ _ rfl ⟨hM_v, hA_f, hIv, rfl, rfl, rfl, rfl, rfl, rfl, rfl, rfl⟩ hP hD hS dX10_rota_20 (Nat.le_refl _) (Nat.le_refl _)
    · skip
      have zc2 : ¬ (p1.toInt < 0) := by rw [fa_lt, show (0 : Int32).toInt = 0 from by decide] at c2; exact c2
      refine lv_iload_n hx hb dX10_rota_14 rfl (lv_at hl 1 rfl) ?_
      refine lv_iconst (v := 1) hx hb dX10_rota_15 (by decide) ?_
      refine lv_icmp_le (tgt := 21) hx hb dX10_rota_16 (by decide) (fun c3 => ?_) (fun c3 => ?_)
      · skip
        have zc3 : p1.toInt ≤ 1 := by rw [fa_le, show (1 : Int32).toInt = 1 from by decide] at c3; exact c3
        refine lv_aload_n hx hb dX10_rota_21 rfl (lv_at hl 0 rfl) ?_
        refine va_get (D := (dC, dI)) (ci := 10) (v := .ref (x 25)) (C := RX10) (T := TX10) (N := 10) hx hb hts inB_10 hown hE.1 hP 0 rfl rfl 5 (by decide) (hts _ k_496) (fun _ h9 => h9) rfl dX10_rota_22 ?_
        refine cbVv (n := 0) (rest := []) hx hb hml hown hts hE hP hD hS hA (sX_X3_findRota_1 l dC dI cy x0 x  v f hIv ) k_1024 k_1025 k_1026 k_109 k_1027 (by decide +kernel) ⟨Nat.le_of_ble_eq_true rfl, Nat.le_of_ble_eq_true rfl⟩ 26 3 rfl rfl (rfl) hl.1 rfl (Nat.le_of_ble_eq_true rfl) dX10_rota_25 (fun u H locs hw hP hD hS => ?_)
        obtain ⟨v4, f5⟩ := u
        obtain ⟨kV_v4, kF_f5, hIv4, hk0_v4, hk1_v4, hk7_v4, hk8_v4, hk9_v4, hk10_v4, hk31_v4, hk32_v4⟩ := hw
        have hM_v4 : KV [26, 27] v4 v := KV.tr kV_v4 hM_v rfl
        have hA_f5 : KF [13, 14] f5 f := KF.tr kF_f5 hA_f rfl
        have hP : va_P (dC, dI) vwCl (XW cy x0 x v4 f5) H := hP
        have hD : va_D A (XW cy x0 x v4 f5) := hD
        have hq0_v4 : v4 0 = (v 0) := hk0_v4
        have hq1_v4 : v4 1 = (v 1) := hk1_v4
        have hq7_v4 : v4 7 = (v 7) := hk7_v4
        have hq8_v4 : v4 8 = (v 8) := hk8_v4
        have hq9_v4 : v4 9 = (v 9) := hk9_v4
        have hq10_v4 : v4 10 = (v 10) := hk10_v4
        have hq31_v4 : v4 31 = (v 31) := hk31_v4
        have hq32_v4 : v4 32 = (v 32) := hk32_v4
        refine lv_iload_n hx hb dX10_rota_28 rfl (lv_at hl 1 rfl) ?_
        refine lv_if_ne (tgt := 42) hx hb dX10_rota_29 (by decide) (fun c6 => ?_) (fun c6 => ?_)
        · skip
          have zc6 : ¬ (p1.toInt = 0) := by rw [fa_eq, show (0 : Int32).toInt = 0 from by decide] at c6; exact c6
          refine lv_aload_n hx hb dX10_rota_42 rfl (lv_at hl 0 rfl) ?_
          refine va_get (D := (dC, dI)) (ci := 10) (v := .ref (x 25)) (C := RX10) (T := TX10) (N := 10) hx hb hts inB_10 hown hE.1 hP 0 rfl rfl 5 (by decide) (hts _ k_496) (fun _ h9 => h9) rfl dX10_rota_43 ?_
          refine va_getN (D := (dC, dI)) (ci := 3) (v := .int (v4 27)) (C := RX3) (T := TX3) (N := 10) hx hb hts inB_3 hown hE.1 hP 26 rfl rfl 6 (by decide) (va_Nw.use rfl (hE.2 _ k_380)) (fun _ h9 => h9) rfl dX10_rota_46 ?_
          exact ret (v4 27) (v4, f5) _ _ _ _ _ _ rfl ⟨hM_v4, hA_f5, hIv4, hk0_v4, hk1_v4, hk7_v4, hk8_v4, hk9_v4, hk10_v4, hk31_v4, hk32_v4⟩ hP hD hS dX10_rota_49 (Nat.le_refl _) (Nat.le_refl _)
        · skip
          have zc6 : p1.toInt = 0 := by rw [fa_eq, show (0 : Int32).toInt = 0 from by decide] at c6; exact c6
          refine lv_aload_n hx hb dX10_rota_32 rfl (lv_at hl 0 rfl) ?_
          refine va_get (D := (dC, dI)) (ci := 10) (v := .ref (x 25)) (C := RX10) (T := TX10) (N := 10) hx hb hts inB_10 hown hE.1 hP 0 rfl rfl 5 (by decide) (hts _ k_496) (fun _ h9 => h9) rfl dX10_rota_33 ?_
          refine va_getN (D := (dC, dI)) (ci := 3) (v := .int (v4 26)) (C := RX3) (T := TX3) (N := 10) hx hb hts inB_3 hown hE.1 hP 26 rfl rfl 5 (by decide) (va_Nw.use rfl (hE.2 _ k_378)) (fun _ h9 => h9) rfl dX10_rota_36 ?_
          refine lv_goto (tgt := 49) hx hb dX10_rota_39 (by decide) ?_
          exact ret (v4 26) (v4, f5) _ _ _ _ _ _ rfl ⟨hM_v4, hA_f5, hIv4, hk0_v4, hk1_v4, hk7_v4, hk8_v4, hk9_v4, hk10_v4, hk31_v4, hk32_v4⟩ hP hD hS dX10_rota_49 (Nat.le_refl _) (Nat.le_refl _)
      · skip
        have zc3 : ¬ (p1.toInt ≤ 1) := by rw [fa_le, show (1 : Int32).toInt = 1 from by decide] at c3; exact c3
        refine lv_iconst (v := (-1)) hx hb dX10_rota_19 (by decide) ?_
        exact ret (-1) (v, f) _ _ _ _ _ _ rfl ⟨hM_v, hA_f, hIv, rfl, rfl, rfl, rfl, rfl, rfl, rfl, rfl⟩ hP hD hS dX10_rota_20 (Nat.le_refl _) (Nat.le_refl _)
set_option maxHeartbeats 4000000 in
set_option maxRecDepth 100000 in
theorem sX_J6_bitCount_0f7a4_1 (l : Launch) (dC : Nat → ClassId) (dI : Nat → Nat → Nat) (cy : Nat → ClassId) (x0 : Nat) (x : Nat → Nat) (p0 : Int32) (v : Nat → Int32) (f : Nat → Nat → Int32) (hIv : XI v)  : ctI l (dC, dI) cy yJ6_bitCount_0f7a4 cJ6_bitCount_0f7a4 1 .int 1 60 0 0 Unit [.int p0] (XW cy x0 x v f) (fun r u => True) (fun u => XW cy x0 x v f) := by
  refine ctI_of (by decide) (Nat.le_of_ble_eq_true rfl) (fun p e s m below meth c A ls Q hx hb hml hts hown hE hP hD hA hl ret => ?_)
  have hown : s.vm.findClass RJ6 = some m.cls := hown
  have hS : va_S A s.heap s.heap [] := va_S.rf
  have hl : lv_has ls 1 [(0, .int p0)] := hl
  refine lv_iload_n hx hb dJ6_bitCount_0f7a4_0 rfl (lv_at hl 0 rfl) ?_
  refine lv_iload_n hx hb dJ6_bitCount_0f7a4_1 rfl (lv_at hl 0 rfl) ?_
  refine lv_iconst (v := 1) hx hb dJ6_bitCount_0f7a4_2 (by decide) ?_
  refine lv_iushr hx hb dJ6_bitCount_0f7a4_3 rfl ?_
  refine lv_topi (fun t1 et1 => ?_)
  refine lv_ldcw (v := 1431655765) hx hb hown (hts _ k_1045) dJ6_bitCount_0f7a4_4 ?_
  refine lv_iand hx hb dJ6_bitCount_0f7a4_7 ?_
  refine lv_topi (fun t2 et2 => ?_)
  refine lv_isub hx hb dJ6_bitCount_0f7a4_8 ?_
  refine lv_topi (fun t3 et3 => ?_)
  refine lv_istore_n (lv' := [(0, .int t3)]) hx hb dJ6_bitCount_0f7a4_9 rfl hl (by decide) rfl (fun ls hl => ?_)
  refine lv_iload_n hx hb dJ6_bitCount_0f7a4_10 rfl (lv_at hl 0 rfl) ?_
  refine lv_ldcw (v := 858993459) hx hb hown (hts _ k_1046) dJ6_bitCount_0f7a4_11 ?_
  refine lv_iand hx hb dJ6_bitCount_0f7a4_14 ?_
  refine lv_topi (fun t4 et4 => ?_)
  refine lv_iload_n hx hb dJ6_bitCount_0f7a4_15 rfl (lv_at hl 0 rfl) ?_
  refine lv_iconst (v := 2) hx hb dJ6_bitCount_0f7a4_16 (by decide) ?_
  refine lv_iushr hx hb dJ6_bitCount_0f7a4_17 rfl ?_
  refine lv_topi (fun t5 et5 => ?_)
  refine lv_ldcw (v := 858993459) hx hb hown (hts _ k_1046) dJ6_bitCount_0f7a4_18 ?_
  refine lv_iand hx hb dJ6_bitCount_0f7a4_21 ?_
  refine lv_topi (fun t6 et6 => ?_)
  refine lv_iadd hx hb dJ6_bitCount_0f7a4_22 ?_
  refine lv_topi (fun t7 et7 => ?_)
  refine lv_istore_n (lv' := [(0, .int t7)]) hx hb dJ6_bitCount_0f7a4_23 rfl hl (by decide) rfl (fun ls hl => ?_)
  refine lv_iload_n hx hb dJ6_bitCount_0f7a4_24 rfl (lv_at hl 0 rfl) ?_
  refine lv_iload_n hx hb dJ6_bitCount_0f7a4_25 rfl (lv_at hl 0 rfl) ?_
  refine lv_iconst (v := 4) hx hb dJ6_bitCount_0f7a4_26 (by decide) ?_
  refine lv_iushr hx hb dJ6_bitCount_0f7a4_27 rfl ?_
  refine lv_topi (fun t8 et8 => ?_)
  refine lv_iadd hx hb dJ6_bitCount_0f7a4_28 ?_
  refine lv_topi (fun t9 et9 => ?_)
  refine lv_ldcw (v := 252645135) hx hb hown (hts _ k_1047) dJ6_bitCount_0f7a4_29 ?_
  refine lv_iand hx hb dJ6_bitCount_0f7a4_32 ?_
  refine lv_topi (fun t10 et10 => ?_)
  refine lv_istore_n (lv' := [(0, .int t10)]) hx hb dJ6_bitCount_0f7a4_33 rfl hl (by decide) rfl (fun ls hl => ?_)
  refine lv_iload_n hx hb dJ6_bitCount_0f7a4_34 rfl (lv_at hl 0 rfl) ?_
  refine lv_iload_n hx hb dJ6_bitCount_0f7a4_35 rfl (lv_at hl 0 rfl) ?_
  refine lv_bipush (v := 8) hx hb dJ6_bitCount_0f7a4_36 (by decide) ?_
  refine lv_iushr hx hb dJ6_bitCount_0f7a4_38 rfl ?_
  refine lv_topi (fun t11 et11 => ?_)
  refine lv_iadd hx hb dJ6_bitCount_0f7a4_39 ?_
  refine lv_topi (fun t12 et12 => ?_)
  refine lv_istore_n (lv' := [(0, .int t12)]) hx hb dJ6_bitCount_0f7a4_40 rfl hl (by decide) rfl (fun ls hl => ?_)
  refine lv_iload_n hx hb dJ6_bitCount_0f7a4_41 rfl (lv_at hl 0 rfl) ?_
  refine lv_iload_n hx hb dJ6_bitCount_0f7a4_42 rfl (lv_at hl 0 rfl) ?_
  refine lv_bipush (v := 16) hx hb dJ6_bitCount_0f7a4_43 (by decide) ?_
  refine lv_iushr hx hb dJ6_bitCount_0f7a4_45 rfl ?_
  refine lv_topi (fun t13 et13 => ?_)
  refine lv_iadd hx hb dJ6_bitCount_0f7a4_46 ?_
  refine lv_topi (fun t14 et14 => ?_)
  refine lv_istore_n (lv' := [(0, .int t14)]) hx hb dJ6_bitCount_0f7a4_47 rfl hl (by decide) rfl (fun ls hl => ?_)
  refine lv_iload_n hx hb dJ6_bitCount_0f7a4_48 rfl (lv_at hl 0 rfl) ?_
  refine lv_bipush (v := 63) hx hb dJ6_bitCount_0f7a4_49 (by decide) ?_
  refine lv_iand hx hb dJ6_bitCount_0f7a4_51 ?_
  refine lv_topi (fun t15 et15 => ?_)
  have zt15 : 0 ≤ t15.toInt ∧ t15.toInt < 64 := by rw [et15]; exact and_rng _ (k := 6) (by decide) (by decide)
  exact ret t15 () _ _ _ _ _ _ rfl trivial hP hD hS dJ6_bitCount_0f7a4_52 (Nat.le_refl _) (Nat.le_refl _)
