set_option maxHeartbeats 4000000 in
set_option maxRecDepth 100000 in
theorem sX_X10_turning_1 (l : Launch) (dC : Nat → ClassId) (dI : Nat → Nat → Nat) (cy : Nat → ClassId) (x0 : Nat) (x : Nat → Nat)  (v : Nat → Int32) (f : Nat → Nat → Int32) (hIv : XI v)  : ctI l (dC, dI) cy yX10_turning cX10_turning 1 .int 7 201 0 0 ((Nat → Int32) × (Nat → Nat → Int32)) [.ref x0] (XW cy x0 x v f) (fun r u => u.2 0 = f 0 ∧ XI u.1 ∧ u.1 0 = v 0 ∧ u.1 1 = v 1 ∧ u.1 7 = v 7 ∧ u.1 8 = v 8 ∧ u.1 9 = v 9 ∧ u.1 10 = v 10 ∧ u.1 31 = v 31 ∧ u.1 32 = v 32) (fun u => XW cy x0 x u.1 u.2) := by
  refine ctI_of (by decide) (Nat.le_of_ble_eq_true rfl) (fun p e s m below meth c A ls Q hx hb hml hts hown hE hP hD hA hl ret => ?_)
  have ha0_f : f 0 = f 0 := rfl
  have hown : s.vm.findClass RX10 = some m.cls := hown
  have hS : va_S A s.heap s.heap [] := va_S.rf
  have hl : lv_has ls 1 [(0, .ref x0)] := hl
  refine lv_aload_n hx hb dX10_turning_0 rfl (lv_at hl 0 rfl) ?_
  refine va_get (D := (dC, dI)) (ci := 10) (v := .ref (x 25)) (C := RX10) (T := TX10) (N := 10) hx hb hts inB_10 hown hE.1 hP 0 rfl rfl 5 (by decide) (hts _ k_496) (fun _ h9 => h9) rfl dX10_turning_1 ?_
  refine cbVi (n := 0) (rest := []) hx hb hml hown hts hE hP hD hS hA (sX_X3_bestTurning_1 l dC dI cy x0 x  v f hIv ) k_1154 k_1155 k_1156 k_109 k_1157 (by decide +kernel) ⟨Nat.le_of_ble_eq_true rfl, Nat.le_of_ble_eq_true rfl⟩ 26 3 rfl rfl (rfl) hl.1 rfl (Nat.le_of_ble_eq_true rfl) dX10_turning_4 (fun r1 u H locs hw hP hD hS => ?_)
  obtain ⟨v2, f3⟩ := u
  obtain ⟨ka0_f3, hIv2, hk0_v2, hk1_v2, hk7_v2, hk8_v2, hk9_v2, hk10_v2, hk31_v2, hk32_v2⟩ := hw
  have ha0_f3 : f3 0 = f 0 := ka0_f3.trans ha0_f
  have hP : va_P (dC, dI) vwCl (XW cy x0 x v2 f3) H := hP
  have hD : va_D A (XW cy x0 x v2 f3) := hD
  have hq0_v2 : v2 0 = (v 0) := hk0_v2
  have hq1_v2 : v2 1 = (v 1) := hk1_v2
  have hq7_v2 : v2 7 = (v 7) := hk7_v2
  have hq8_v2 : v2 8 = (v 8) := hk8_v2
  have hq9_v2 : v2 9 = (v 9) := hk9_v2
  have hq10_v2 : v2 10 = (v 10) := hk10_v2
  have hq31_v2 : v2 31 = (v 31) := hk31_v2
  have hq32_v2 : v2 32 = (v 32) := hk32_v2
  exact ret r1 (v2, f3) _ _ _ _ _ _ rfl ⟨ha0_f3, hIv2, hk0_v2, hk1_v2, hk7_v2, hk8_v2, hk9_v2, hk10_v2, hk31_v2, hk32_v2⟩ hP hD hS dX10_turning_7 (Nat.le_refl _) (Nat.le_refl _)
set_option maxHeartbeats 4000000 in
set_option maxRecDepth 100000 in
theorem sX_X1_menFitting_1 (l : Launch) (dC : Nat → ClassId) (dI : Nat → Nat → Nat) (cy : Nat → ClassId) (x0 : Nat) (x : Nat → Nat) (p1 : Int32) (v : Nat → Int32) (f : Nat → Nat → Int32) (hIv : XI v)  : ctI l (dC, dI) cy yX1_menFitting cX1_menFitting 4 .int 5 155 0 0 ((Nat → Int32) × (Nat → Nat → Int32)) [.ref (x 21), .int p1] (XW cy x0 x v f) (fun r u => u.2 0 = f 0 ∧ XI u.1 ∧ u.1 0 = v 0 ∧ u.1 1 = v 1 ∧ u.1 7 = v 7 ∧ u.1 8 = v 8 ∧ u.1 9 = v 9 ∧ u.1 10 = v 10 ∧ u.1 31 = v 31 ∧ u.1 32 = v 32) (fun u => XW cy x0 x u.1 u.2) := by
  refine ctI_of (by decide) (Nat.le_of_ble_eq_true rfl) (fun p e s m below meth c A ls Q hx hb hml hts hown hE hP hD hA hl ret => ?_)
  have ha0_f : f 0 = f 0 := rfl
  have hown : s.vm.findClass RX1 = some m.cls := hown
  have hS : va_S A s.heap s.heap [] := va_S.rf
  have hl : lv_has ls 4 [(0, .ref (x 21)), (1, .int p1)] := hl
  refine lv_iconst (v := 0) hx hb dX1_menFitting_0 (by decide) ?_
  refine lv_istore_n (lv' := [(2, .int 0), (0, .ref (x 21)), (1, .int p1)]) hx hb dX1_menFitting_1 rfl hl (by decide) rfl (fun ls hl => ?_)
  refine lv_iconst (v := 0) hx hb dX1_menFitting_2 (by decide) ?_
  refine lv_istore_n (lv' := [(3, .int 0), (2, .int 0), (0, .ref (x 21)), (1, .int p1)]) hx hb dX1_menFitting_3 rfl hl (by decide) rfl (fun ls hl => ?_)
  have lp1 : ∀ (n1 : Nat) (l2_1 : Int32) (l3_1 : Int32) (v1 : Nat → Int32) (f1 : Nat → Nat → Int32), XI v1 → v1 0 = (v 0) → v1 1 = (v 1) → v1 7 = (v 7) → v1 8 = (v 8) → v1 9 = (v 9) → v1 10 = (v 10) → v1 31 = (v 31) → v1 32 = (v 32) → ((0 : Int) ≤ l3_1.toInt ∧ l3_1.toInt ≤ 2147483647) → f1 0 = f 0 → (2147483647 - l3_1.toInt).toNat < n1 → ∀ (H : Heap) (locs : List Loc) (ls : Array Slot), va_P (dC, dI) vwCl (XW cy x0 x v1 f1) H → va_D A (XW cy x0 x v1 f1) → va_S A s.heap H locs → lv_has ls 4 [(3, .int l3_1), (2, .int l2_1), (0, .ref (x 21)), (1, .int p1)] → W p l e { frames := 5, cells := 0, slots := 0, locals := 155 } s m ([.ref (x 21), .int p1] : List Value).toArray below meth c H locs 0 0 Q (F0 m 4 ls []) := by
    intro n1
    induction n1 with
    | zero => intro l2_1 l3_1 v1 f1 hIv1 hq0_v1 hq1_v1 hq7_v1 hq8_v1 hq9_v1 hq10_v1 hq31_v1 hq32_v1 hr3_1 ha0_f1 hm; exact absurd hm (Nat.not_lt_zero _)
    | succ n1 ih1 =>
      intro l2_1 l3_1 v1 f1 hIv1 hq0_v1 hq1_v1 hq7_v1 hq8_v1 hq9_v1 hq10_v1 hq31_v1 hq32_v1 hr3_1 ha0_f1 hm1 H locs ls hP hD hS hl
      refine lv_iload_n hx hb dX1_menFitting_4 rfl (lv_at hl 0 rfl) ?_
      refine lv_aload_n hx hb dX1_menFitting_5 rfl (lv_at hl 2 rfl) ?_
      refine va_get (D := (dC, dI)) (ci := 1) (v := .ref (x 26)) (C := RX1) (T := TX1) (N := 2) hx hb hts inB_1 hown hE.1 hP 22 rfl rfl 0 (by decide) (hts _ k_318) (fun _ h9 => h9) rfl dX1_menFitting_6 ?_
      refine va_getN (D := (dC, dI)) (ci := 7) (v := .int (v1 31)) (C := RX7) (T := TX7) (N := 10) hx hb hts inB_7 hown hE.1 hP 27 rfl rfl 3 (by decide) (va_Nw.use rfl (hE.2 _ k_219)) (fun _ h9 => h9) rfl dX1_menFitting_9 ?_
      refine tI (y := (v 31)) hq31_v1 ?_
      have b31_v : 0 ≤ (v 31).toInt ∧ (v 31).toInt ≤ 6 := XI.b hIv 31 (by decide)
      refine lv_icmp_ge (tgt := 33) hx hb dX1_menFitting_12 (by decide) (fun c2 => ?_) (fun c2 => ?_)
      · skip
        have zc2 : (v 31).toInt ≤ l3_1.toInt := by rw [fa_le] at c2; exact c2
        have rg3 := fb_rng l3_1
        have rg4 := fb_rng (v 31)
        refine lv_iload_n hx hb dX1_menFitting_33 rfl (lv_at hl 1 rfl) ?_
        exact ret l2_1 (v1, f1) _ _ _ _ _ _ rfl ⟨ha0_f1, hIv1, (show v1 0 = v 0 from hq0_v1), (show v1 1 = v 1 from hq1_v1), (show v1 7 = v 7 from hq7_v1), (show v1 8 = v 8 from hq8_v1), (show v1 9 = v 9 from hq9_v1), (show v1 10 = v 10 from hq10_v1), (show v1 31 = v 31 from hq31_v1), (show v1 32 = v 32 from hq32_v1)⟩ hP hD hS dX1_menFitting_34 (Nat.le_refl _) (Nat.le_refl _)
      · skip
        have zc2 : ¬ ((v 31).toInt ≤ l3_1.toInt) := by rw [fa_le] at c2; exact c2
        have rg5 := fb_rng l3_1
        have rg6 := fb_rng (v 31)
        refine lv_aload_n hx hb dX1_menFitting_15 rfl (lv_at hl 2 rfl) ?_
        refine lv_iload_n hx hb dX1_menFitting_16 rfl (lv_at hl 0 rfl) ?_
        refine lv_iload_n hx hb dX1_menFitting_17 rfl (lv_at hl 3 rfl) ?_
        refine cbVi (n := 2) (rest := []) hx hb hml hown hts hE hP hD hS hA (sX_X1_fits_1 l dC dI cy x0 x l3_1 p1 v1 f1 hIv1 ) k_817 k_818 k_819 k_106 k_820 (by decide +kernel) ⟨Nat.le_of_ble_eq_true rfl, Nat.le_of_ble_eq_true rfl⟩ 22 1 rfl rfl (rfl) hl.1 rfl (Nat.le_of_ble_eq_true rfl) dX1_menFitting_18 (fun r7 u H locs hw hP hD hS => ?_)
        obtain ⟨v8, f9⟩ := u
        obtain ⟨ka0_f9, hIv8, hk0_v8, hk1_v8, hk7_v8, hk8_v8, hk9_v8, hk10_v8, hk31_v8, hk32_v8, hw⟩ := hw
        have ha0_f9 : f9 0 = f 0 := ka0_f9.trans ha0_f1
        have hP : va_P (dC, dI) vwCl (XW cy x0 x v8 f9) H := hP
        have hD : va_D A (XW cy x0 x v8 f9) := hD
        have hq0_v8 : v8 0 = (v 0) := hk0_v8.trans hq0_v1
        have hq1_v8 : v8 1 = (v 1) := hk1_v8.trans hq1_v1
        have hq7_v8 : v8 7 = (v 7) := hk7_v8.trans hq7_v1
        have hq8_v8 : v8 8 = (v 8) := hk8_v8.trans hq8_v1
        have hq9_v8 : v8 9 = (v 9) := hk9_v8.trans hq9_v1
        have hq10_v8 : v8 10 = (v 10) := hk10_v8.trans hq10_v1
        have hq31_v8 : v8 31 = (v 31) := hk31_v8.trans hq31_v1
        have hq32_v8 : v8 32 = (v 32) := hk32_v8.trans hq32_v1
        rcases hw with ⟨g10⟩ | ⟨g10⟩
        · skip
          subst g10
          refine lv_if_eq (tgt := 27) hx hb dX1_menFitting_21 (by decide) (fun c0 => absurd c0 (by decide)) (fun _ => ?_)
          obtain ⟨t11, et11⟩ : ∃ y : Int32, y = l2_1 + 1 := ⟨_, rfl⟩
          refine lv_iinc (v := t11) (lv' := [(2, .int t11), (3, .int l3_1), (0, .ref (x 21)), (1, .int p1)]) hx hb dX1_menFitting_24 hl (k := 1) rfl (by rw [et11]; rfl) (by decide) rfl (fun ls hl => ?_)
          obtain ⟨t12, et12⟩ : ∃ y : Int32, y = l3_1 + 1 := ⟨_, rfl⟩
          have zt12 : t12.toInt = l3_1.toInt + 1 := by rw [et12]; exact add_i rfl (by decide) (by omega) (by omega)
          refine lv_iinc (v := t12) (lv' := [(3, .int t12), (2, .int t11), (0, .ref (x 21)), (1, .int p1)]) hx hb dX1_menFitting_27 hl (k := 1) rfl (by rw [et12]; rfl) (by decide) rfl (fun ls hl => ?_)
          refine lv_goto (tgt := 4) hx hb dX1_menFitting_30 (by decide) ?_
          have rg13 := fb_rng t12
          exact ih1 t11 t12 v8 f9 hIv8 hq0_v8 hq1_v8 hq7_v8 hq8_v8 hq9_v8 hq10_v8 hq31_v8 hq32_v8 ⟨show (0 : Int) ≤ t12.toInt by omega, show t12.toInt ≤ (2147483647 : Int) by omega⟩ ha0_f9 (by show (2147483647 - t12.toInt).toNat < n1; omega) _ _ _ hP hD hS (lv_sub hl [0, 1, 2, 3] rfl)
        · skip
          subst g10
          refine lv_if_eq (tgt := 27) hx hb dX1_menFitting_21 (by decide) (fun _ => ?_) (fun c0 => absurd (by decide) c0)
          obtain ⟨t14, et14⟩ : ∃ y : Int32, y = l3_1 + 1 := ⟨_, rfl⟩
          have zt14 : t14.toInt = l3_1.toInt + 1 := by rw [et14]; exact add_i rfl (by decide) (by omega) (by omega)
          refine lv_iinc (v := t14) (lv' := [(3, .int t14), (2, .int l2_1), (0, .ref (x 21)), (1, .int p1)]) hx hb dX1_menFitting_27 hl (k := 0) rfl (by rw [et14]; rfl) (by decide) rfl (fun ls hl => ?_)
          refine lv_goto (tgt := 4) hx hb dX1_menFitting_30 (by decide) ?_
          have rg15 := fb_rng t14
          exact ih1 l2_1 t14 v8 f9 hIv8 hq0_v8 hq1_v8 hq7_v8 hq8_v8 hq9_v8 hq10_v8 hq31_v8 hq32_v8 ⟨show (0 : Int) ≤ t14.toInt by omega, show t14.toInt ≤ (2147483647 : Int) by omega⟩ ha0_f9 (by show (2147483647 - t14.toInt).toNat < n1; omega) _ _ _ hP hD hS (lv_sub hl [0, 1, 2, 3] rfl)
  exact lp1 _ 0 0 v f hIv rfl rfl rfl rfl rfl rfl rfl rfl ⟨by decide, by decide⟩ ha0_f (Nat.lt_succ_self _) _ _ _ hP hD hS (lv_sub hl [0, 1, 2, 3] rfl)
set_option maxHeartbeats 4000000 in
set_option maxRecDepth 100000 in
theorem sX_X10_rags_1 (l : Launch) (dC : Nat → ClassId) (dI : Nat → Nat → Nat) (cy : Nat → ClassId) (x0 : Nat) (x : Nat → Nat)  (v : Nat → Int32) (f : Nat → Nat → Int32) (hIv : XI v)  : ctI l (dC, dI) cy yX10_rags cX10_rags 3 .int 6 178 0 0 ((Nat → Int32) × (Nat → Nat → Int32)) [.ref x0] (XW cy x0 x v f) (fun r u => u.2 0 = f 0 ∧ XI u.1 ∧ u.1 0 = v 0 ∧ u.1 1 = v 1 ∧ u.1 7 = v 7 ∧ u.1 8 = v 8 ∧ u.1 9 = v 9 ∧ u.1 10 = v 10 ∧ u.1 31 = v 31 ∧ u.1 32 = v 32) (fun u => XW cy x0 x u.1 u.2) := by
  refine ctI_of (by decide) (Nat.le_of_ble_eq_true rfl) (fun p e s m below meth c A ls Q hx hb hml hts hown hE hP hD hA hl ret => ?_)
  have ha0_f : f 0 = f 0 := rfl
  have hown : s.vm.findClass RX10 = some m.cls := hown
  have hS : va_S A s.heap s.heap [] := va_S.rf
  have hl : lv_has ls 3 [(0, .ref x0)] := hl
  refine lv_iconst (v := 0) hx hb dX10_rags_0 (by decide) ?_
  refine lv_istore_n (lv' := [(1, .int 0), (0, .ref x0)]) hx hb dX10_rags_1 rfl hl (by decide) rfl (fun ls hl => ?_)
  refine lv_iconst (v := 0) hx hb dX10_rags_2 (by decide) ?_
  refine lv_istore_n (lv' := [(2, .int 0), (1, .int 0), (0, .ref x0)]) hx hb dX10_rags_3 rfl hl (by decide) rfl (fun ls hl => ?_)
  have lp1 : ∀ (n1 : Nat) (l1_1 : Int32) (l2_1 : Int32) (v1 : Nat → Int32) (f1 : Nat → Nat → Int32), XI v1 → v1 0 = (v 0) → v1 1 = (v 1) → v1 7 = (v 7) → v1 8 = (v 8) → v1 9 = (v 9) → v1 10 = (v 10) → v1 31 = (v 31) → v1 32 = (v 32) → ((0 : Int) ≤ l2_1.toInt ∧ l2_1.toInt ≤ 2147483647) → f1 0 = f 0 → (2147483647 - l2_1.toInt).toNat < n1 → ∀ (H : Heap) (locs : List Loc) (ls : Array Slot), va_P (dC, dI) vwCl (XW cy x0 x v1 f1) H → va_D A (XW cy x0 x v1 f1) → va_S A s.heap H locs → lv_has ls 3 [(2, .int l2_1), (1, .int l1_1), (0, .ref x0)] → W p l e { frames := 6, cells := 0, slots := 0, locals := 178 } s m ([.ref x0] : List Value).toArray below meth c H locs 0 0 Q (F0 m 4 ls []) := by
    intro n1
    induction n1 with
    | zero => intro l1_1 l2_1 v1 f1 hIv1 hq0_v1 hq1_v1 hq7_v1 hq8_v1 hq9_v1 hq10_v1 hq31_v1 hq32_v1 hr2_1 ha0_f1 hm; exact absurd hm (Nat.not_lt_zero _)
    | succ n1 ih1 =>
      intro l1_1 l2_1 v1 f1 hIv1 hq0_v1 hq1_v1 hq7_v1 hq8_v1 hq9_v1 hq10_v1 hq31_v1 hq32_v1 hr2_1 ha0_f1 hm1 H locs ls hP hD hS hl
      refine lv_iload_n hx hb dX10_rags_4 rfl (lv_at hl 0 rfl) ?_
      refine lv_aload_n hx hb dX10_rags_5 rfl (lv_at hl 2 rfl) ?_
      refine va_get (D := (dC, dI)) (ci := 10) (v := .ref (x 26)) (C := RX10) (T := TX10) (N := 10) hx hb hts inB_10 hown hE.1 hP 0 rfl rfl 2 (by decide) (hts _ k_493) (fun _ h9 => h9) rfl dX10_rags_6 ?_
      refine va_getN (D := (dC, dI)) (ci := 7) (v := .int (v1 32)) (C := RX7) (T := TX7) (N := 10) hx hb hts inB_7 hown hE.1 hP 27 rfl rfl 4 (by decide) (va_Nw.use rfl (hE.2 _ k_227)) (fun _ h9 => h9) rfl dX10_rags_9 ?_
      refine tI (y := (v 32)) hq32_v1 ?_
      have b32_v : 0 ≤ (v 32).toInt ∧ (v 32).toInt ≤ 6 := XI.b hIv 32 (by decide)
      refine lv_icmp_ge (tgt := 38) hx hb dX10_rags_12 (by decide) (fun c2 => ?_) (fun c2 => ?_)
      · skip
        have zc2 : (v 32).toInt ≤ l2_1.toInt := by rw [fa_le] at c2; exact c2
        have rg3 := fb_rng l2_1
        have rg4 := fb_rng (v 32)
        refine lv_iload_n hx hb dX10_rags_38 rfl (lv_at hl 1 rfl) ?_
        exact ret l1_1 (v1, f1) _ _ _ _ _ _ rfl ⟨ha0_f1, hIv1, (show v1 0 = v 0 from hq0_v1), (show v1 1 = v 1 from hq1_v1), (show v1 7 = v 7 from hq7_v1), (show v1 8 = v 8 from hq8_v1), (show v1 9 = v 9 from hq9_v1), (show v1 10 = v 10 from hq10_v1), (show v1 31 = v 31 from hq31_v1), (show v1 32 = v 32 from hq32_v1)⟩ hP hD hS dX10_rags_39 (Nat.le_refl _) (Nat.le_refl _)
      · skip
        have zc2 : ¬ ((v 32).toInt ≤ l2_1.toInt) := by rw [fa_le] at c2; exact c2
        have rg5 := fb_rng l2_1
        have rg6 := fb_rng (v 32)
        refine lv_aload_n hx hb dX10_rags_15 rfl (lv_at hl 2 rfl) ?_
        refine va_get (D := (dC, dI)) (ci := 10) (v := .ref (x 21)) (C := RX10) (T := TX10) (N := 10) hx hb hts inB_10 hown hE.1 hP 0 rfl rfl 3 (by decide) (hts _ k_494) (fun _ h9 => h9) rfl dX10_rags_16 ?_
        refine lv_iload_n hx hb dX10_rags_19 rfl (lv_at hl 0 rfl) ?_
        refine cbVi (n := 1) (rest := []) hx hb hml hown hts hE hP hD hS hA (sX_X1_menFitting_1 l dC dI cy x0 x l2_1 v1 f1 hIv1 ) k_1163 k_1164 k_1165 k_106 k_1166 (by decide +kernel) ⟨Nat.le_of_ble_eq_true rfl, Nat.le_of_ble_eq_true rfl⟩ 22 1 rfl rfl (rfl) hl.1 rfl (Nat.le_of_ble_eq_true rfl) dX10_rags_20 (fun r7 u H locs hw hP hD hS => ?_)
        obtain ⟨v8, f9⟩ := u
        obtain ⟨ka0_f9, hIv8, hk0_v8, hk1_v8, hk7_v8, hk8_v8, hk9_v8, hk10_v8, hk31_v8, hk32_v8⟩ := hw
        have ha0_f9 : f9 0 = f 0 := ka0_f9.trans ha0_f1
        have hP : va_P (dC, dI) vwCl (XW cy x0 x v8 f9) H := hP
        have hD : va_D A (XW cy x0 x v8 f9) := hD
        have hq0_v8 : v8 0 = (v 0) := hk0_v8.trans hq0_v1
        have hq1_v8 : v8 1 = (v 1) := hk1_v8.trans hq1_v1
        have hq7_v8 : v8 7 = (v 7) := hk7_v8.trans hq7_v1
        have hq8_v8 : v8 8 = (v 8) := hk8_v8.trans hq8_v1
        have hq9_v8 : v8 9 = (v 9) := hk9_v8.trans hq9_v1
        have hq10_v8 : v8 10 = (v 10) := hk10_v8.trans hq10_v1
        have hq31_v8 : v8 31 = (v 31) := hk31_v8.trans hq31_v1
        have hq32_v8 : v8 32 = (v 32) := hk32_v8.trans hq32_v1
        refine lv_if_ne (tgt := 32) hx hb dX10_rags_23 (by decide) (fun c10 => ?_) (fun c10 => ?_)
        · skip
          have zc10 : ¬ (r7.toInt = 0) := by rw [fa_eq, show (0 : Int32).toInt = 0 from by decide] at c10; exact c10
          obtain ⟨t11, et11⟩ : ∃ y : Int32, y = l2_1 + 1 := ⟨_, rfl⟩
          have zt11 : t11.toInt = l2_1.toInt + 1 := by rw [et11]; exact add_i rfl (by decide) (by omega) (by omega)
          refine lv_iinc (v := t11) (lv' := [(2, .int t11), (1, .int l1_1), (0, .ref x0)]) hx hb dX10_rags_32 hl (k := 0) rfl (by rw [et11]; rfl) (by decide) rfl (fun ls hl => ?_)
          refine lv_goto (tgt := 4) hx hb dX10_rags_35 (by decide) ?_
          have rg12 := fb_rng t11
          exact ih1 l1_1 t11 v8 f9 hIv8 hq0_v8 hq1_v8 hq7_v8 hq8_v8 hq9_v8 hq10_v8 hq31_v8 hq32_v8 ⟨show (0 : Int) ≤ t11.toInt by omega, show t11.toInt ≤ (2147483647 : Int) by omega⟩ ha0_f9 (by show (2147483647 - t11.toInt).toNat < n1; omega) _ _ _ hP hD hS (lv_sub hl [0, 1, 2] rfl)
        · skip
          have zc10 : r7.toInt = 0 := by rw [fa_eq, show (0 : Int32).toInt = 0 from by decide] at c10; exact c10
          refine lv_iload_n hx hb dX10_rags_26 rfl (lv_at hl 1 rfl) ?_
          refine lv_iconst (v := 1) hx hb dX10_rags_27 (by decide) ?_
          refine lv_iload_n hx hb dX10_rags_28 rfl (lv_at hl 0 rfl) ?_
          refine lv_ishl hx hb dX10_rags_29 ?_
          refine lv_topi (fun t13 et13 => ?_)
          have zt13 : 1 ≤ t13.toInt ∧ t13.toInt ≤ 32 := by rw [et13]; exact shl1_rng (by omega) (by omega)
          refine lv_ior hx hb dX10_rags_30 ?_
          refine lv_topi (fun t14 et14 => ?_)
          refine lv_istore_n (lv' := [(1, .int t14), (2, .int l2_1), (0, .ref x0)]) hx hb dX10_rags_31 rfl hl (by decide) rfl (fun ls hl => ?_)
          obtain ⟨t15, et15⟩ : ∃ y : Int32, y = l2_1 + 1 := ⟨_, rfl⟩
          have zt15 : t15.toInt = l2_1.toInt + 1 := by rw [et15]; exact add_i rfl (by decide) (by omega) (by omega)
          refine lv_iinc (v := t15) (lv' := [(2, .int t15), (1, .int t14), (0, .ref x0)]) hx hb dX10_rags_32 hl (k := 1) rfl (by rw [et15]; rfl) (by decide) rfl (fun ls hl => ?_)
          refine lv_goto (tgt := 4) hx hb dX10_rags_35 (by decide) ?_
          have rg16 := fb_rng t15
          exact ih1 t14 t15 v8 f9 hIv8 hq0_v8 hq1_v8 hq7_v8 hq8_v8 hq9_v8 hq10_v8 hq31_v8 hq32_v8 ⟨show (0 : Int) ≤ t15.toInt by omega, show t15.toInt ≤ (2147483647 : Int) by omega⟩ ha0_f9 (by show (2147483647 - t15.toInt).toNat < n1; omega) _ _ _ hP hD hS (lv_sub hl [0, 1, 2] rfl)
  exact lp1 _ 0 0 v f hIv rfl rfl rfl rfl rfl rfl rfl rfl ⟨by decide, by decide⟩ ha0_f (Nat.lt_succ_self _) _ _ _ hP hD hS (lv_sub hl [0, 1, 2] rfl)
set_option maxHeartbeats 4000000 in
set_option maxRecDepth 100000 in
theorem sX_X10_naked_1 (l : Launch) (dC : Nat → ClassId) (dI : Nat → Nat → Nat) (cy : Nat → ClassId) (x0 : Nat) (x : Nat → Nat)  (v : Nat → Int32) (f : Nat → Nat → Int32) (hIv : XI v)  : ctI l (dC, dI) cy yX10_naked cX10_naked 3 .int 6 178 0 0 ((Nat → Int32) × (Nat → Nat → Int32)) [.ref x0] (XW cy x0 x v f) (fun r u => u.2 0 = f 0 ∧ XI u.1 ∧ u.1 0 = v 0 ∧ u.1 1 = v 1 ∧ u.1 7 = v 7 ∧ u.1 8 = v 8 ∧ u.1 9 = v 9 ∧ u.1 10 = v 10 ∧ u.1 31 = v 31 ∧ u.1 32 = v 32) (fun u => XW cy x0 x u.1 u.2) := by
  refine ctI_of (by decide) (Nat.le_of_ble_eq_true rfl) (fun p e s m below meth c A ls Q hx hb hml hts hown hE hP hD hA hl ret => ?_)
  have ha0_f : f 0 = f 0 := rfl
  have hown : s.vm.findClass RX10 = some m.cls := hown
  have hS : va_S A s.heap s.heap [] := va_S.rf
  have hl : lv_has ls 3 [(0, .ref x0)] := hl
  refine lv_iconst (v := 0) hx hb dX10_naked_0 (by decide) ?_
  refine lv_istore_n (lv' := [(1, .int 0), (0, .ref x0)]) hx hb dX10_naked_1 rfl hl (by decide) rfl (fun ls hl => ?_)
  refine lv_iconst (v := 0) hx hb dX10_naked_2 (by decide) ?_
  refine lv_istore_n (lv' := [(2, .int 0), (1, .int 0), (0, .ref x0)]) hx hb dX10_naked_3 rfl hl (by decide) rfl (fun ls hl => ?_)
  have lp1 : ∀ (n1 : Nat) (l1_1 : Int32) (l2_1 : Int32) (v1 : Nat → Int32) (f1 : Nat → Nat → Int32), XI v1 → v1 0 = (v 0) → v1 1 = (v 1) → v1 7 = (v 7) → v1 8 = (v 8) → v1 9 = (v 9) → v1 10 = (v 10) → v1 31 = (v 31) → v1 32 = (v 32) → ((0 : Int) ≤ l2_1.toInt ∧ l2_1.toInt ≤ 2147483647) → f1 0 = f 0 → (2147483647 - l2_1.toInt).toNat < n1 → ∀ (H : Heap) (locs : List Loc) (ls : Array Slot), va_P (dC, dI) vwCl (XW cy x0 x v1 f1) H → va_D A (XW cy x0 x v1 f1) → va_S A s.heap H locs → lv_has ls 3 [(2, .int l2_1), (1, .int l1_1), (0, .ref x0)] → W p l e { frames := 6, cells := 0, slots := 0, locals := 178 } s m ([.ref x0] : List Value).toArray below meth c H locs 0 0 Q (F0 m 4 ls []) := by
    intro n1
    induction n1 with
    | zero => intro l1_1 l2_1 v1 f1 hIv1 hq0_v1 hq1_v1 hq7_v1 hq8_v1 hq9_v1 hq10_v1 hq31_v1 hq32_v1 hr2_1 ha0_f1 hm; exact absurd hm (Nat.not_lt_zero _)
    | succ n1 ih1 =>
      intro l1_1 l2_1 v1 f1 hIv1 hq0_v1 hq1_v1 hq7_v1 hq8_v1 hq9_v1 hq10_v1 hq31_v1 hq32_v1 hr2_1 ha0_f1 hm1 H locs ls hP hD hS hl
      refine lv_iload_n hx hb dX10_naked_4 rfl (lv_at hl 0 rfl) ?_
      refine lv_aload_n hx hb dX10_naked_5 rfl (lv_at hl 2 rfl) ?_
      refine va_get (D := (dC, dI)) (ci := 10) (v := .ref (x 26)) (C := RX10) (T := TX10) (N := 10) hx hb hts inB_10 hown hE.1 hP 0 rfl rfl 2 (by decide) (hts _ k_493) (fun _ h9 => h9) rfl dX10_naked_6 ?_
      refine va_getN (D := (dC, dI)) (ci := 7) (v := .int (v1 31)) (C := RX7) (T := TX7) (N := 10) hx hb hts inB_7 hown hE.1 hP 27 rfl rfl 3 (by decide) (va_Nw.use rfl (hE.2 _ k_214)) (fun _ h9 => h9) rfl dX10_naked_9 ?_
      refine tI (y := (v 31)) hq31_v1 ?_
      have b31_v : 0 ≤ (v 31).toInt ∧ (v 31).toInt ≤ 6 := XI.b hIv 31 (by decide)
      refine lv_icmp_ge (tgt := 38) hx hb dX10_naked_12 (by decide) (fun c2 => ?_) (fun c2 => ?_)
      · skip
        have zc2 : (v 31).toInt ≤ l2_1.toInt := by rw [fa_le] at c2; exact c2
        have rg3 := fb_rng l2_1
        have rg4 := fb_rng (v 31)
        refine lv_iload_n hx hb dX10_naked_38 rfl (lv_at hl 1 rfl) ?_
        exact ret l1_1 (v1, f1) _ _ _ _ _ _ rfl ⟨ha0_f1, hIv1, (show v1 0 = v 0 from hq0_v1), (show v1 1 = v 1 from hq1_v1), (show v1 7 = v 7 from hq7_v1), (show v1 8 = v 8 from hq8_v1), (show v1 9 = v 9 from hq9_v1), (show v1 10 = v 10 from hq10_v1), (show v1 31 = v 31 from hq31_v1), (show v1 32 = v 32 from hq32_v1)⟩ hP hD hS dX10_naked_39 (Nat.le_refl _) (Nat.le_refl _)
      · skip
        have zc2 : ¬ ((v 31).toInt ≤ l2_1.toInt) := by rw [fa_le] at c2; exact c2
        have rg5 := fb_rng l2_1
        have rg6 := fb_rng (v 31)
        refine lv_aload_n hx hb dX10_naked_15 rfl (lv_at hl 2 rfl) ?_
        refine va_get (D := (dC, dI)) (ci := 10) (v := .ref (x 21)) (C := RX10) (T := TX10) (N := 10) hx hb hts inB_10 hown hE.1 hP 0 rfl rfl 3 (by decide) (hts _ k_494) (fun _ h9 => h9) rfl dX10_naked_16 ?_
        refine lv_iload_n hx hb dX10_naked_19 rfl (lv_at hl 0 rfl) ?_
        refine cbVi (n := 1) (rest := []) hx hb hml hown hts hE hP hD hS hA (sX_X1_fittingCoats_1 l dC dI cy x0 x l2_1 v1 f1 hIv1 ) k_813 k_814 k_815 k_106 k_816 (by decide +kernel) ⟨Nat.le_of_ble_eq_true rfl, Nat.le_of_ble_eq_true rfl⟩ 22 1 rfl rfl (rfl) hl.1 rfl (Nat.le_of_ble_eq_true rfl) dX10_naked_20 (fun r7 u H locs hw hP hD hS => ?_)
        obtain ⟨v8, f9⟩ := u
        obtain ⟨ka0_f9, hIv8, hk0_v8, hk1_v8, hk7_v8, hk8_v8, hk9_v8, hk10_v8, hk31_v8, hk32_v8⟩ := hw
        have ha0_f9 : f9 0 = f 0 := ka0_f9.trans ha0_f1
        have hP : va_P (dC, dI) vwCl (XW cy x0 x v8 f9) H := hP
        have hD : va_D A (XW cy x0 x v8 f9) := hD
        have hq0_v8 : v8 0 = (v 0) := hk0_v8.trans hq0_v1
        have hq1_v8 : v8 1 = (v 1) := hk1_v8.trans hq1_v1
        have hq7_v8 : v8 7 = (v 7) := hk7_v8.trans hq7_v1
        have hq8_v8 : v8 8 = (v 8) := hk8_v8.trans hq8_v1
        have hq9_v8 : v8 9 = (v 9) := hk9_v8.trans hq9_v1
        have hq10_v8 : v8 10 = (v 10) := hk10_v8.trans hq10_v1
        have hq31_v8 : v8 31 = (v 31) := hk31_v8.trans hq31_v1
        have hq32_v8 : v8 32 = (v 32) := hk32_v8.trans hq32_v1
        refine lv_if_ne (tgt := 32) hx hb dX10_naked_23 (by decide) (fun c10 => ?_) (fun c10 => ?_)
        · skip
          have zc10 : ¬ (r7.toInt = 0) := by rw [fa_eq, show (0 : Int32).toInt = 0 from by decide] at c10; exact c10
          obtain ⟨t11, et11⟩ : ∃ y : Int32, y = l2_1 + 1 := ⟨_, rfl⟩
          have zt11 : t11.toInt = l2_1.toInt + 1 := by rw [et11]; exact add_i rfl (by decide) (by omega) (by omega)
          refine lv_iinc (v := t11) (lv' := [(2, .int t11), (1, .int l1_1), (0, .ref x0)]) hx hb dX10_naked_32 hl (k := 0) rfl (by rw [et11]; rfl) (by decide) rfl (fun ls hl => ?_)
          refine lv_goto (tgt := 4) hx hb dX10_naked_35 (by decide) ?_
          have rg12 := fb_rng t11
          exact ih1 l1_1 t11 v8 f9 hIv8 hq0_v8 hq1_v8 hq7_v8 hq8_v8 hq9_v8 hq10_v8 hq31_v8 hq32_v8 ⟨show (0 : Int) ≤ t11.toInt by omega, show t11.toInt ≤ (2147483647 : Int) by omega⟩ ha0_f9 (by show (2147483647 - t11.toInt).toNat < n1; omega) _ _ _ hP hD hS (lv_sub hl [0, 1, 2] rfl)
        · skip
          have zc10 : r7.toInt = 0 := by rw [fa_eq, show (0 : Int32).toInt = 0 from by decide] at c10; exact c10
          refine lv_iload_n hx hb dX10_naked_26 rfl (lv_at hl 1 rfl) ?_
          refine lv_iconst (v := 1) hx hb dX10_naked_27 (by decide) ?_
          refine lv_iload_n hx hb dX10_naked_28 rfl (lv_at hl 0 rfl) ?_
          refine lv_ishl hx hb dX10_naked_29 ?_
          refine lv_topi (fun t13 et13 => ?_)
          have zt13 : 1 ≤ t13.toInt ∧ t13.toInt ≤ 32 := by rw [et13]; exact shl1_rng (by omega) (by omega)
          refine lv_ior hx hb dX10_naked_30 ?_
          refine lv_topi (fun t14 et14 => ?_)
          refine lv_istore_n (lv' := [(1, .int t14), (2, .int l2_1), (0, .ref x0)]) hx hb dX10_naked_31 rfl hl (by decide) rfl (fun ls hl => ?_)
          obtain ⟨t15, et15⟩ : ∃ y : Int32, y = l2_1 + 1 := ⟨_, rfl⟩
          have zt15 : t15.toInt = l2_1.toInt + 1 := by rw [et15]; exact add_i rfl (by decide) (by omega) (by omega)
          refine lv_iinc (v := t15) (lv' := [(2, .int t15), (1, .int t14), (0, .ref x0)]) hx hb dX10_naked_32 hl (k := 1) rfl (by rw [et15]; rfl) (by decide) rfl (fun ls hl => ?_)
          refine lv_goto (tgt := 4) hx hb dX10_naked_35 (by decide) ?_
          have rg16 := fb_rng t15
          exact ih1 t14 t15 v8 f9 hIv8 hq0_v8 hq1_v8 hq7_v8 hq8_v8 hq9_v8 hq10_v8 hq31_v8 hq32_v8 ⟨show (0 : Int) ≤ t15.toInt by omega, show t15.toInt ≤ (2147483647 : Int) by omega⟩ ha0_f9 (by show (2147483647 - t15.toInt).toNat < n1; omega) _ _ _ hP hD hS (lv_sub hl [0, 1, 2] rfl)
  exact lp1 _ 0 0 v f hIv rfl rfl rfl rfl rfl rfl rfl rfl ⟨by decide, by decide⟩ ha0_f (Nat.lt_succ_self _) _ _ _ hP hD hS (lv_sub hl [0, 1, 2] rfl)
set_option maxHeartbeats 4000000 in
set_option maxRecDepth 100000 in
theorem sX_X10_popular_1 (l : Launch) (dC : Nat → ClassId) (dI : Nat → Nat → Nat) (cy : Nat → ClassId) (x0 : Nat) (x : Nat → Nat) (p1 : Int32) (v : Nat → Int32) (f : Nat → Nat → Int32) (hIv : XI v)  : ctI l (dC, dI) cy yX10_popular cX10_popular 2 .int 6 178 0 0 ((Nat → Int32) × (Nat → Nat → Int32)) [.ref x0, .int p1] (XW cy x0 x v f) (fun r u => u.2 0 = f 0 ∧ XI u.1 ∧ u.1 0 = v 0 ∧ u.1 1 = v 1 ∧ u.1 7 = v 7 ∧ u.1 8 = v 8 ∧ u.1 9 = v 9 ∧ u.1 10 = v 10 ∧ u.1 31 = v 31 ∧ u.1 32 = v 32) (fun u => XW cy x0 x u.1 u.2) := by
  refine ctI_of (by decide) (Nat.le_of_ble_eq_true rfl) (fun p e s m below meth c A ls Q hx hb hml hts hown hE hP hD hA hl ret => ?_)
  have ha0_f : f 0 = f 0 := rfl
  have hown : s.vm.findClass RX10 = some m.cls := hown
  have hS : va_S A s.heap s.heap [] := va_S.rf
  have hl : lv_has ls 2 [(0, .ref x0), (1, .int p1)] := hl
  refine lv_aload_n hx hb dX10_popular_0 rfl (lv_at hl 0 rfl) ?_
  refine va_get (D := (dC, dI)) (ci := 10) (v := .ref (x 26)) (C := RX10) (T := TX10) (N := 10) hx hb hts inB_10 hown hE.1 hP 0 rfl rfl 2 (by decide) (hts _ k_493) (fun _ h9 => h9) rfl dX10_popular_1 ?_
  refine lv_iload_n hx hb dX10_popular_4 rfl (lv_at hl 1 rfl) ?_
  refine cbVi (n := 1) (rest := []) hx hb hml hown hts hE hP hD hS hA (sX_X7_hasCoat_1 0 l dC dI cy x0 x p1 v f hIv ) k_848 k_315 k_316 k_104 k_317 (by decide +kernel) ⟨Nat.le_of_ble_eq_true rfl, Nat.le_of_ble_eq_true rfl⟩ 27 7 rfl rfl (rfl) hl.1 rfl (Nat.le_of_ble_eq_true rfl) dX10_popular_5 (fun r1 u H locs hw hP hD hS => ?_)
  obtain ⟨hG2, hw⟩ := hw
  rcases hw with ⟨g3, g3_0, g3_1, g3_2⟩ | ⟨g3⟩
  · skip
    subst g3
    refine lv_if_eq (tgt := 22) hx hb dX10_popular_8 (by decide) (fun c0 => absurd c0 (by decide)) (fun _ => ?_)
    refine lv_aload_n hx hb dX10_popular_11 rfl (lv_at hl 0 rfl) ?_
    refine va_get (D := (dC, dI)) (ci := 10) (v := .ref (x 21)) (C := RX10) (T := TX10) (N := 10) hx hb hts inB_10 hown hE.1 hP 0 rfl rfl 3 (by decide) (hts _ k_494) (fun _ h9 => h9) rfl dX10_popular_12 ?_
    refine lv_iload_n hx hb dX10_popular_15 rfl (lv_at hl 1 rfl) ?_
    refine cbVi (n := 1) (rest := []) hx hb hml hown hts hE hP hD hS hA (sX_X1_menFitting_1 l dC dI cy x0 x p1 v f hIv ) k_1163 k_1164 k_1165 k_106 k_1166 (by decide +kernel) ⟨Nat.le_of_ble_eq_true rfl, Nat.le_of_ble_eq_true rfl⟩ 22 1 rfl rfl (rfl) hl.1 rfl (Nat.le_of_ble_eq_true rfl) dX10_popular_16 (fun r4 u H locs hw hP hD hS => ?_)
    obtain ⟨v5, f6⟩ := u
    obtain ⟨ka0_f6, hIv5, hk0_v5, hk1_v5, hk7_v5, hk8_v5, hk9_v5, hk10_v5, hk31_v5, hk32_v5⟩ := hw
    have ha0_f6 : f6 0 = f 0 := ka0_f6.trans ha0_f
    have hP : va_P (dC, dI) vwCl (XW cy x0 x v5 f6) H := hP
    have hD : va_D A (XW cy x0 x v5 f6) := hD
    have hq0_v5 : v5 0 = (v 0) := hk0_v5
    have hq1_v5 : v5 1 = (v 1) := hk1_v5
    have hq7_v5 : v5 7 = (v 7) := hk7_v5
    have hq8_v5 : v5 8 = (v 8) := hk8_v5
    have hq9_v5 : v5 9 = (v 9) := hk9_v5
    have hq10_v5 : v5 10 = (v 10) := hk10_v5
    have hq31_v5 : v5 31 = (v 31) := hk31_v5
    have hq32_v5 : v5 32 = (v 32) := hk32_v5
    refine lv_goto (tgt := 23) hx hb dX10_popular_19 (by decide) ?_
    exact ret r4 (v5, f6) _ _ _ _ _ _ rfl ⟨ha0_f6, hIv5, hk0_v5, hk1_v5, hk7_v5, hk8_v5, hk9_v5, hk10_v5, hk31_v5, hk32_v5⟩ hP hD hS dX10_popular_23 (Nat.le_refl _) (Nat.le_refl _)
  · skip
    subst g3
    refine lv_if_eq (tgt := 22) hx hb dX10_popular_8 (by decide) (fun _ => ?_) (fun c0 => absurd (by decide) c0)
    refine lv_iconst (v := (-1)) hx hb dX10_popular_22 (by decide) ?_
    exact ret (-1) (v, f) _ _ _ _ _ _ rfl ⟨ha0_f, hIv, rfl, rfl, rfl, rfl, rfl, rfl, rfl, rfl⟩ hP hD hS dX10_popular_23 (Nat.le_refl _) (Nat.le_refl _)
set_option maxHeartbeats 4000000 in
set_option maxRecDepth 100000 in
theorem sX_X3_fittingBy_1 (l : Launch) (dC : Nat → ClassId) (dI : Nat → Nat → Nat) (cy : Nat → ClassId) (x0 : Nat) (x : Nat → Nat) (p1 : Int32) (v : Nat → Int32) (f : Nat → Nat → Int32) (hIv : XI v)  : ctI l (dC, dI) cy yX3_fittingBy cX3_fittingBy 5 .int 4 133 0 0 ((Nat → Int32) × (Nat → Nat → Int32)) [.ref (x 25), .int p1] (XW cy x0 x v f) (fun r u => u.2 0 = f 0 ∧ XI u.1 ∧ u.1 0 = v 0 ∧ u.1 1 = v 1 ∧ u.1 7 = v 7 ∧ u.1 8 = v 8 ∧ u.1 9 = v 9 ∧ u.1 10 = v 10 ∧ u.1 31 = v 31 ∧ u.1 32 = v 32) (fun u => XW cy x0 x u.1 u.2) := by
  refine ctI_of (by decide) (Nat.le_of_ble_eq_true rfl) (fun p e s m below meth c A ls Q hx hb hml hts hown hE hP hD hA hl ret => ?_)
  have ha0_f : f 0 = f 0 := rfl
  have hown : s.vm.findClass RX3 = some m.cls := hown
  have hS : va_S A s.heap s.heap [] := va_S.rf
  have hl : lv_has ls 5 [(0, .ref (x 25)), (1, .int p1)] := hl
  refine lv_iconst (v := 0) hx hb dX3_fittingBy_0 (by decide) ?_
  refine lv_istore_n (lv' := [(2, .int 0), (0, .ref (x 25)), (1, .int p1)]) hx hb dX3_fittingBy_1 rfl hl (by decide) rfl (fun ls hl => ?_)
  refine lv_iconst (v := 0) hx hb dX3_fittingBy_2 (by decide) ?_
  refine lv_istore_n (lv' := [(3, .int 0), (2, .int 0), (0, .ref (x 25)), (1, .int p1)]) hx hb dX3_fittingBy_3 rfl hl (by decide) rfl (fun ls hl => ?_)
  have lp1 : ∀ (n1 : Nat) (l2_1 : Int32) (l3_1 : Int32) (v1 : Nat → Int32) (f1 : Nat → Nat → Int32), XI v1 → v1 0 = (v 0) → v1 1 = (v 1) → v1 7 = (v 7) → v1 8 = (v 8) → v1 9 = (v 9) → v1 10 = (v 10) → v1 31 = (v 31) → v1 32 = (v 32) → ((0 : Int) ≤ l3_1.toInt ∧ l3_1.toInt ≤ 2147483647) → f1 0 = f 0 → (2147483647 - l3_1.toInt).toNat < n1 → ∀ (H : Heap) (locs : List Loc) (ls : Array Slot), va_P (dC, dI) vwCl (XW cy x0 x v1 f1) H → va_D A (XW cy x0 x v1 f1) → va_S A s.heap H locs → lv_has ls 5 [(3, .int l3_1), (2, .int l2_1), (0, .ref (x 25)), (1, .int p1)] → W p l e { frames := 4, cells := 0, slots := 0, locals := 133 } s m ([.ref (x 25), .int p1] : List Value).toArray below meth c H locs 0 0 Q (F0 m 4 ls []) := by
    intro n1
    induction n1 with
    | zero => intro l2_1 l3_1 v1 f1 hIv1 hq0_v1 hq1_v1 hq7_v1 hq8_v1 hq9_v1 hq10_v1 hq31_v1 hq32_v1 hr3_1 ha0_f1 hm; exact absurd hm (Nat.not_lt_zero _)
    | succ n1 ih1 =>
      intro l2_1 l3_1 v1 f1 hIv1 hq0_v1 hq1_v1 hq7_v1 hq8_v1 hq9_v1 hq10_v1 hq31_v1 hq32_v1 hr3_1 ha0_f1 hm1 H locs ls hP hD hS hl
      refine lv_iload_n hx hb dX3_fittingBy_4 rfl (lv_at hl 0 rfl) ?_
      refine lv_aload_n hx hb dX3_fittingBy_5 rfl (lv_at hl 2 rfl) ?_
      refine va_get (D := (dC, dI)) (ci := 3) (v := .ref (x 26)) (C := RX3) (T := TX3) (N := 10) hx hb hts inB_3 hown hE.1 hP 26 rfl rfl 0 (by decide) (hts _ k_370) (fun _ h9 => h9) rfl dX3_fittingBy_6 ?_
      refine va_getN (D := (dC, dI)) (ci := 7) (v := .int (v1 31)) (C := RX7) (T := TX7) (N := 10) hx hb hts inB_7 hown hE.1 hP 27 rfl rfl 3 (by decide) (va_Nw.use rfl (hE.2 _ k_217)) (fun _ h9 => h9) rfl dX3_fittingBy_9 ?_
      refine tI (y := (v 31)) hq31_v1 ?_
      have b31_v : 0 ≤ (v 31).toInt ∧ (v 31).toInt ≤ 6 := XI.b hIv 31 (by decide)
      refine lv_icmp_ge (tgt := 54) hx hb dX3_fittingBy_12 (by decide) (fun c2 => ?_) (fun c2 => ?_)
      · skip
        have zc2 : (v 31).toInt ≤ l3_1.toInt := by rw [fa_le] at c2; exact c2
        have rg3 := fb_rng l3_1
        have rg4 := fb_rng (v 31)
        refine lv_iload_n hx hb dX3_fittingBy_54 rfl (lv_at hl 1 rfl) ?_
        exact ret l2_1 (v1, f1) _ _ _ _ _ _ rfl ⟨ha0_f1, hIv1, (show v1 0 = v 0 from hq0_v1), (show v1 1 = v 1 from hq1_v1), (show v1 7 = v 7 from hq7_v1), (show v1 8 = v 8 from hq8_v1), (show v1 9 = v 9 from hq9_v1), (show v1 10 = v 10 from hq10_v1), (show v1 31 = v 31 from hq31_v1), (show v1 32 = v 32 from hq32_v1)⟩ hP hD hS dX3_fittingBy_55 (Nat.le_refl _) (Nat.le_refl _)
      · skip
        have zc2 : ¬ ((v 31).toInt ≤ l3_1.toInt) := by rw [fa_le] at c2; exact c2
        have rg5 := fb_rng l3_1
        have rg6 := fb_rng (v 31)
        refine lv_aload_n hx hb dX3_fittingBy_15 rfl (lv_at hl 2 rfl) ?_
        refine va_get (D := (dC, dI)) (ci := 3) (v := .ref (x 21)) (C := RX3) (T := TX3) (N := 10) hx hb hts inB_3 hown hE.1 hP 26 rfl rfl 1 (by decide) (hts _ k_371) (fun _ h9 => h9) rfl dX3_fittingBy_16 ?_
        refine lv_iload_n hx hb dX3_fittingBy_19 rfl (lv_at hl 0 rfl) ?_
        refine cbVi (n := 1) (rest := []) hx hb hml hown hts hE hP hD hS hA (sX_X1_wears_1 l dC dI cy x0 x l3_1 v1 f1 hIv1 ) k_950 k_810 k_811 k_106 k_812 (by decide +kernel) ⟨Nat.le_of_ble_eq_true rfl, Nat.le_of_ble_eq_true rfl⟩ 22 1 rfl rfl (rfl) hl.1 rfl (Nat.le_of_ble_eq_true rfl) dX3_fittingBy_20 (fun r7 u H locs hw hP hD hS => ?_)
        refine lv_istore (lv' := [(4, .int r7), (3, .int l3_1), (2, .int l2_1), (0, .ref (x 25)), (1, .int p1)]) hx hb dX3_fittingBy_23 hl (by decide) rfl (fun ls hl => ?_)
        refine lv_iload hx hb dX3_fittingBy_25 (lv_at hl 0 rfl) ?_
        refine lv_iconst (v := (-1)) hx hb dX3_fittingBy_27 (by decide) ?_
        refine lv_icmp_eq (tgt := 48) hx hb dX3_fittingBy_28 (by decide) (fun c8 => ?_) (fun c8 => ?_)
        · skip
          have zc8 : r7.toInt = (-1) := by rw [fa_eq, show ((-1) : Int32).toInt = -1 from by decide] at c8; exact c8
          obtain ⟨t9, et9⟩ : ∃ y : Int32, y = l3_1 + 1 := ⟨_, rfl⟩
          have zt9 : t9.toInt = l3_1.toInt + 1 := by rw [et9]; exact add_i rfl (by decide) (by omega) (by omega)
          refine lv_iinc (v := t9) (lv' := [(3, .int t9), (4, .int r7), (2, .int l2_1), (0, .ref (x 25)), (1, .int p1)]) hx hb dX3_fittingBy_48 hl (k := 1) rfl (by rw [et9]; rfl) (by decide) rfl (fun ls hl => ?_)
          refine lv_goto (tgt := 4) hx hb dX3_fittingBy_51 (by decide) ?_
          have rg10 := fb_rng t9
          exact ih1 l2_1 t9 v1 f1 hIv1 hq0_v1 hq1_v1 hq7_v1 hq8_v1 hq9_v1 hq10_v1 hq31_v1 hq32_v1 ⟨show (0 : Int) ≤ t9.toInt by omega, show t9.toInt ≤ (2147483647 : Int) by omega⟩ ha0_f1 (by show (2147483647 - t9.toInt).toNat < n1; omega) _ _ _ hP hD hS (lv_sub hl [0, 2, 3, 4] rfl)
        · skip
          have zc8 : ¬ (r7.toInt = (-1)) := by rw [fa_eq, show ((-1) : Int32).toInt = -1 from by decide] at c8; exact c8
          refine lv_aload_n hx hb dX3_fittingBy_31 rfl (lv_at hl 3 rfl) ?_
          refine va_get (D := (dC, dI)) (ci := 3) (v := .ref (x 21)) (C := RX3) (T := TX3) (N := 10) hx hb hts inB_3 hown hE.1 hP 26 rfl rfl 1 (by decide) (hts _ k_371) (fun _ h9 => h9) rfl dX3_fittingBy_32 ?_
          refine lv_iload_n hx hb dX3_fittingBy_35 rfl (lv_at hl 1 rfl) ?_
          refine lv_iload hx hb dX3_fittingBy_36 (lv_at hl 0 rfl) ?_
          refine cbVi (n := 2) (rest := []) hx hb hml hown hts hE hP hD hS hA (sX_X1_illness_1 l dC dI cy x0 x l3_1 r7 v1 f1 hIv1 ) k_1183 k_823 k_824 k_106 k_825 (by decide +kernel) ⟨Nat.le_of_ble_eq_true rfl, Nat.le_of_ble_eq_true rfl⟩ 22 1 rfl rfl (rfl) hl.1 rfl (Nat.le_of_ble_eq_true rfl) dX3_fittingBy_38 (fun r11 u H locs hw hP hD hS => ?_)
          obtain ⟨v12, f13⟩ := u
          obtain ⟨ka0_f13, hIv12, hk0_v12, hk1_v12, hk7_v12, hk8_v12, hk9_v12, hk10_v12, hk31_v12, hk32_v12⟩ := hw
          have ha0_f13 : f13 0 = f 0 := ka0_f13.trans ha0_f1
          have hP : va_P (dC, dI) vwCl (XW cy x0 x v12 f13) H := hP
          have hD : va_D A (XW cy x0 x v12 f13) := hD
          have hq0_v12 : v12 0 = (v 0) := hk0_v12.trans hq0_v1
          have hq1_v12 : v12 1 = (v 1) := hk1_v12.trans hq1_v1
          have hq7_v12 : v12 7 = (v 7) := hk7_v12.trans hq7_v1
          have hq8_v12 : v12 8 = (v 8) := hk8_v12.trans hq8_v1
          have hq9_v12 : v12 9 = (v 9) := hk9_v12.trans hq9_v1
          have hq10_v12 : v12 10 = (v 10) := hk10_v12.trans hq10_v1
          have hq31_v12 : v12 31 = (v 31) := hk31_v12.trans hq31_v1
          have hq32_v12 : v12 32 = (v 32) := hk32_v12.trans hq32_v1
          refine lv_iload_n hx hb dX3_fittingBy_41 rfl (lv_at hl 4 rfl) ?_
          refine lv_icmp_gt (tgt := 48) hx hb dX3_fittingBy_42 (by decide) (fun c14 => ?_) (fun c14 => ?_)
          · skip
            have zc14 : p1.toInt < r11.toInt := by rw [fa_lt] at c14; exact c14
            have rg15 := fb_rng r11
            have rg16 := fb_rng p1
            obtain ⟨t17, et17⟩ : ∃ y : Int32, y = l3_1 + 1 := ⟨_, rfl⟩
            have zt17 : t17.toInt = l3_1.toInt + 1 := by rw [et17]; exact add_i rfl (by decide) (by omega) (by omega)
            refine lv_iinc (v := t17) (lv' := [(3, .int t17), (4, .int r7), (2, .int l2_1), (0, .ref (x 25)), (1, .int p1)]) hx hb dX3_fittingBy_48 hl (k := 1) rfl (by rw [et17]; rfl) (by decide) rfl (fun ls hl => ?_)
            refine lv_goto (tgt := 4) hx hb dX3_fittingBy_51 (by decide) ?_
            have rg18 := fb_rng t17
            exact ih1 l2_1 t17 v12 f13 hIv12 hq0_v12 hq1_v12 hq7_v12 hq8_v12 hq9_v12 hq10_v12 hq31_v12 hq32_v12 ⟨show (0 : Int) ≤ t17.toInt by omega, show t17.toInt ≤ (2147483647 : Int) by omega⟩ ha0_f13 (by show (2147483647 - t17.toInt).toNat < n1; omega) _ _ _ hP hD hS (lv_sub hl [0, 2, 3, 4] rfl)
          · skip
            have zc14 : ¬ (p1.toInt < r11.toInt) := by rw [fa_lt] at c14; exact c14
            have rg19 := fb_rng r11
            have rg20 := fb_rng p1
            obtain ⟨t21, et21⟩ : ∃ y : Int32, y = l2_1 + 1 := ⟨_, rfl⟩
            refine lv_iinc (v := t21) (lv' := [(2, .int t21), (4, .int r7), (3, .int l3_1), (0, .ref (x 25)), (1, .int p1)]) hx hb dX3_fittingBy_45 hl (k := 2) rfl (by rw [et21]; rfl) (by decide) rfl (fun ls hl => ?_)
            obtain ⟨t22, et22⟩ : ∃ y : Int32, y = l3_1 + 1 := ⟨_, rfl⟩
            have zt22 : t22.toInt = l3_1.toInt + 1 := by rw [et22]; exact add_i rfl (by decide) (by omega) (by omega)
            refine lv_iinc (v := t22) (lv' := [(3, .int t22), (2, .int t21), (4, .int r7), (0, .ref (x 25)), (1, .int p1)]) hx hb dX3_fittingBy_48 hl (k := 2) rfl (by rw [et22]; rfl) (by decide) rfl (fun ls hl => ?_)
            refine lv_goto (tgt := 4) hx hb dX3_fittingBy_51 (by decide) ?_
            have rg23 := fb_rng t22
            exact ih1 t21 t22 v12 f13 hIv12 hq0_v12 hq1_v12 hq7_v12 hq8_v12 hq9_v12 hq10_v12 hq31_v12 hq32_v12 ⟨show (0 : Int) ≤ t22.toInt by omega, show t22.toInt ≤ (2147483647 : Int) by omega⟩ ha0_f13 (by show (2147483647 - t22.toInt).toNat < n1; omega) _ _ _ hP hD hS (lv_sub hl [0, 1, 3, 4] rfl)
  exact lp1 _ 0 0 v f hIv rfl rfl rfl rfl rfl rfl rfl rfl ⟨by decide, by decide⟩ ha0_f (Nat.lt_succ_self _) _ _ _ hP hD hS (lv_sub hl [0, 1, 2, 3] rfl)
set_option maxHeartbeats 4000000 in
set_option maxRecDepth 100000 in
theorem sX_X10_law_1 (l : Launch) (dC : Nat → ClassId) (dI : Nat → Nat → Nat) (cy : Nat → ClassId) (x0 : Nat) (x : Nat → Nat) (p1 : Int32) (v : Nat → Int32) (f : Nat → Nat → Int32) (hIv : XI v)  : ctI l (dC, dI) cy yX10_law cX10_law 2 .int 5 157 0 0 ((Nat → Int32) × (Nat → Nat → Int32)) [.ref x0, .int p1] (XW cy x0 x v f) (fun r u => u.2 0 = f 0 ∧ XI u.1 ∧ u.1 0 = v 0 ∧ u.1 1 = v 1 ∧ u.1 7 = v 7 ∧ u.1 8 = v 8 ∧ u.1 9 = v 9 ∧ u.1 10 = v 10 ∧ u.1 31 = v 31 ∧ u.1 32 = v 32) (fun u => XW cy x0 x u.1 u.2) := by
  refine ctI_of (by decide) (Nat.le_of_ble_eq_true rfl) (fun p e s m below meth c A ls Q hx hb hml hts hown hE hP hD hA hl ret => ?_)
  have ha0_f : f 0 = f 0 := rfl
  have hown : s.vm.findClass RX10 = some m.cls := hown
  have hS : va_S A s.heap s.heap [] := va_S.rf
  have hl : lv_has ls 2 [(0, .ref x0), (1, .int p1)] := hl
  refine lv_iload_n hx hb dX10_law_0 rfl (lv_at hl 1 rfl) ?_
  refine lv_if_lt (tgt := 11) hx hb dX10_law_1 (by decide) (fun c1 => ?_) (fun c1 => ?_)
  · skip
    have zc1 : p1.toInt < 0 := by rw [fa_lt, show (0 : Int32).toInt = 0 from by decide] at c1; exact c1
    refine lv_iconst (v := (-1)) hx hb dX10_law_11 (by decide) ?_
    refine lv_goto (tgt := 23) hx hb dX10_law_12 (by decide) ?_
    exact ret (-1) (v, f) _ _ _ _ _ _ rfl ⟨ha0_f, hIv, rfl, rfl, rfl, rfl, rfl, rfl, rfl, rfl⟩ hP hD hS dX10_law_23 (Nat.le_refl _) (Nat.le_refl _)
  · skip
    have zc1 : ¬ (p1.toInt < 0) := by rw [fa_lt, show (0 : Int32).toInt = 0 from by decide] at c1; exact c1
    refine lv_iload_n hx hb dX10_law_4 rfl (lv_at hl 1 rfl) ?_
    refine lv_sipush (v := 999) hx hb dX10_law_5 (by decide) ?_
    refine lv_icmp_le (tgt := 15) hx hb dX10_law_8 (by decide) (fun c2 => ?_) (fun c2 => ?_)
    · skip
      have zc2 : p1.toInt ≤ 999 := by rw [fa_le, show (999 : Int32).toInt = 999 from by decide] at c2; exact c2
      refine lv_aload_n hx hb dX10_law_15 rfl (lv_at hl 0 rfl) ?_
      refine va_get (D := (dC, dI)) (ci := 10) (v := .ref (x 25)) (C := RX10) (T := TX10) (N := 10) hx hb hts inB_10 hown hE.1 hP 0 rfl rfl 5 (by decide) (hts _ k_496) (fun _ h9 => h9) rfl dX10_law_16 ?_
      refine lv_iload_n hx hb dX10_law_19 rfl (lv_at hl 1 rfl) ?_
      refine cbVi (n := 1) (rest := []) hx hb hml hown hts hE hP hD hS hA (sX_X3_fittingBy_1 l dC dI cy x0 x p1 v f hIv ) k_1179 k_1180 k_1181 k_109 k_1182 (by decide +kernel) ⟨Nat.le_of_ble_eq_true rfl, Nat.le_of_ble_eq_true rfl⟩ 26 3 rfl rfl (rfl) hl.1 rfl (Nat.le_of_ble_eq_true rfl) dX10_law_20 (fun r3 u H locs hw hP hD hS => ?_)
      obtain ⟨v4, f5⟩ := u
      obtain ⟨ka0_f5, hIv4, hk0_v4, hk1_v4, hk7_v4, hk8_v4, hk9_v4, hk10_v4, hk31_v4, hk32_v4⟩ := hw
      have ha0_f5 : f5 0 = f 0 := ka0_f5.trans ha0_f
      have hP : va_P (dC, dI) vwCl (XW cy x0 x v4 f5) H := hP
      have hD : va_D A (XW cy x0 x v4 f5) := hD
      have hq0_v4 : v4 0 = (v 0) := hk0_v4
      have hq1_v4 : v4 1 = (v 1) := hk1_v4
      have hq7_v4 : v4 7 = (v 7) := hk7_v4
      have hq8_v4 : v4 8 = (v 8) := hk8_v4
      have hq9_v4 : v4 9 = (v 9) := hk9_v4
      have hq10_v4 : v4 10 = (v 10) := hk10_v4
      have hq31_v4 : v4 31 = (v 31) := hk31_v4
      have hq32_v4 : v4 32 = (v 32) := hk32_v4
      exact ret r3 (v4, f5) _ _ _ _ _ _ rfl ⟨ha0_f5, hIv4, hk0_v4, hk1_v4, hk7_v4, hk8_v4, hk9_v4, hk10_v4, hk31_v4, hk32_v4⟩ hP hD hS dX10_law_23 (Nat.le_refl _) (Nat.le_refl _)
    · skip
      have zc2 : ¬ (p1.toInt ≤ 999) := by rw [fa_le, show (999 : Int32).toInt = 999 from by decide] at c2; exact c2
      refine lv_iconst (v := (-1)) hx hb dX10_law_11 (by decide) ?_
      refine lv_goto (tgt := 23) hx hb dX10_law_12 (by decide) ?_
      exact ret (-1) (v, f) _ _ _ _ _ _ rfl ⟨ha0_f, hIv, rfl, rfl, rfl, rfl, rfl, rfl, rfl, rfl⟩ hP hD hS dX10_law_23 (Nat.le_refl _) (Nat.le_refl _)
set_option maxHeartbeats 4000000 in
set_option maxRecDepth 100000 in
theorem sX_X3_worstIllness_1 (l : Launch) (dC : Nat → ClassId) (dI : Nat → Nat → Nat) (cy : Nat → ClassId) (x0 : Nat) (x : Nat → Nat)  (v : Nat → Int32) (f : Nat → Nat → Int32) (hIv : XI v)  : ctI l (dC, dI) cy yX3_worstIllness cX3_worstIllness 4 .int 4 133 0 0 ((Nat → Int32) × (Nat → Nat → Int32)) [.ref (x 25)] (XW cy x0 x v f) (fun r u => u.2 0 = f 0 ∧ XI u.1 ∧ u.1 0 = v 0 ∧ u.1 1 = v 1 ∧ u.1 7 = v 7 ∧ u.1 8 = v 8 ∧ u.1 9 = v 9 ∧ u.1 10 = v 10 ∧ u.1 31 = v 31 ∧ u.1 32 = v 32) (fun u => XW cy x0 x u.1 u.2) := by
  refine ctI_of (by decide) (Nat.le_of_ble_eq_true rfl) (fun p e s m below meth c A ls Q hx hb hml hts hown hE hP hD hA hl ret => ?_)
  have ha0_f : f 0 = f 0 := rfl
  have hown : s.vm.findClass RX3 = some m.cls := hown
  have hS : va_S A s.heap s.heap [] := va_S.rf
  have hl : lv_has ls 4 [(0, .ref (x 25))] := hl
  refine lv_iconst (v := 0) hx hb dX3_worstIllness_0 (by decide) ?_
  refine lv_istore_n (lv' := [(1, .int 0), (0, .ref (x 25))]) hx hb dX3_worstIllness_1 rfl hl (by decide) rfl (fun ls hl => ?_)
  refine lv_iconst (v := 0) hx hb dX3_worstIllness_2 (by decide) ?_
  refine lv_istore_n (lv' := [(2, .int 0), (1, .int 0), (0, .ref (x 25))]) hx hb dX3_worstIllness_3 rfl hl (by decide) rfl (fun ls hl => ?_)
  have lp1 : ∀ (n1 : Nat) (l1_1 : Int32) (l2_1 : Int32) (v1 : Nat → Int32) (f1 : Nat → Nat → Int32), XI v1 → v1 0 = (v 0) → v1 1 = (v 1) → v1 7 = (v 7) → v1 8 = (v 8) → v1 9 = (v 9) → v1 10 = (v 10) → v1 31 = (v 31) → v1 32 = (v 32) → ((0 : Int) ≤ l2_1.toInt ∧ l2_1.toInt ≤ 2147483647) → f1 0 = f 0 → (2147483647 - l2_1.toInt).toNat < n1 → ∀ (H : Heap) (locs : List Loc) (ls : Array Slot), va_P (dC, dI) vwCl (XW cy x0 x v1 f1) H → va_D A (XW cy x0 x v1 f1) → va_S A s.heap H locs → lv_has ls 4 [(2, .int l2_1), (1, .int l1_1), (0, .ref (x 25))] → W p l e { frames := 4, cells := 0, slots := 0, locals := 133 } s m ([.ref (x 25)] : List Value).toArray below meth c H locs 0 0 Q (F0 m 4 ls []) := by
    intro n1
    induction n1 with
    | zero => intro l1_1 l2_1 v1 f1 hIv1 hq0_v1 hq1_v1 hq7_v1 hq8_v1 hq9_v1 hq10_v1 hq31_v1 hq32_v1 hr2_1 ha0_f1 hm; exact absurd hm (Nat.not_lt_zero _)
    | succ n1 ih1 =>
      intro l1_1 l2_1 v1 f1 hIv1 hq0_v1 hq1_v1 hq7_v1 hq8_v1 hq9_v1 hq10_v1 hq31_v1 hq32_v1 hr2_1 ha0_f1 hm1 H locs ls hP hD hS hl
      refine lv_iload_n hx hb dX3_worstIllness_4 rfl (lv_at hl 0 rfl) ?_
      refine lv_aload_n hx hb dX3_worstIllness_5 rfl (lv_at hl 2 rfl) ?_
      refine va_get (D := (dC, dI)) (ci := 3) (v := .ref (x 26)) (C := RX3) (T := TX3) (N := 10) hx hb hts inB_3 hown hE.1 hP 26 rfl rfl 0 (by decide) (hts _ k_370) (fun _ h9 => h9) rfl dX3_worstIllness_6 ?_
      refine va_getN (D := (dC, dI)) (ci := 7) (v := .int (v1 31)) (C := RX7) (T := TX7) (N := 10) hx hb hts inB_7 hown hE.1 hP 27 rfl rfl 3 (by decide) (va_Nw.use rfl (hE.2 _ k_217)) (fun _ h9 => h9) rfl dX3_worstIllness_9 ?_
      refine tI (y := (v 31)) hq31_v1 ?_
      have b31_v : 0 ≤ (v 31).toInt ∧ (v 31).toInt ≤ 6 := XI.b hIv 31 (by decide)
      refine lv_icmp_ge (tgt := 49) hx hb dX3_worstIllness_12 (by decide) (fun c2 => ?_) (fun c2 => ?_)
      · skip
        have zc2 : (v 31).toInt ≤ l2_1.toInt := by rw [fa_le] at c2; exact c2
        have rg3 := fb_rng l2_1
        have rg4 := fb_rng (v 31)
        refine lv_iload_n hx hb dX3_worstIllness_49 rfl (lv_at hl 1 rfl) ?_
        exact ret l1_1 (v1, f1) _ _ _ _ _ _ rfl ⟨ha0_f1, hIv1, (show v1 0 = v 0 from hq0_v1), (show v1 1 = v 1 from hq1_v1), (show v1 7 = v 7 from hq7_v1), (show v1 8 = v 8 from hq8_v1), (show v1 9 = v 9 from hq9_v1), (show v1 10 = v 10 from hq10_v1), (show v1 31 = v 31 from hq31_v1), (show v1 32 = v 32 from hq32_v1)⟩ hP hD hS dX3_worstIllness_50 (Nat.le_refl _) (Nat.le_refl _)
      · skip
        have zc2 : ¬ ((v 31).toInt ≤ l2_1.toInt) := by rw [fa_le] at c2; exact c2
        have rg5 := fb_rng l2_1
        have rg6 := fb_rng (v 31)
        refine lv_aload_n hx hb dX3_worstIllness_15 rfl (lv_at hl 2 rfl) ?_
        refine va_get (D := (dC, dI)) (ci := 3) (v := .ref (x 21)) (C := RX3) (T := TX3) (N := 10) hx hb hts inB_3 hown hE.1 hP 26 rfl rfl 1 (by decide) (hts _ k_371) (fun _ h9 => h9) rfl dX3_worstIllness_16 ?_
        refine lv_iload_n hx hb dX3_worstIllness_19 rfl (lv_at hl 0 rfl) ?_
        refine cbVi (n := 1) (rest := []) hx hb hml hown hts hE hP hD hS hA (sX_X1_wears_1 l dC dI cy x0 x l2_1 v1 f1 hIv1 ) k_950 k_810 k_811 k_106 k_812 (by decide +kernel) ⟨Nat.le_of_ble_eq_true rfl, Nat.le_of_ble_eq_true rfl⟩ 22 1 rfl rfl (rfl) hl.1 rfl (Nat.le_of_ble_eq_true rfl) dX3_worstIllness_20 (fun r7 u H locs hw hP hD hS => ?_)
        refine lv_istore_n (lv' := [(3, .int r7), (2, .int l2_1), (1, .int l1_1), (0, .ref (x 25))]) hx hb dX3_worstIllness_23 rfl hl (by decide) rfl (fun ls hl => ?_)
        refine lv_iload_n hx hb dX3_worstIllness_24 rfl (lv_at hl 0 rfl) ?_
        refine lv_iconst (v := (-1)) hx hb dX3_worstIllness_25 (by decide) ?_
        refine lv_icmp_eq (tgt := 43) hx hb dX3_worstIllness_26 (by decide) (fun c8 => ?_) (fun c8 => ?_)
        · skip
          have zc8 : r7.toInt = (-1) := by rw [fa_eq, show ((-1) : Int32).toInt = -1 from by decide] at c8; exact c8
          obtain ⟨t9, et9⟩ : ∃ y : Int32, y = l2_1 + 1 := ⟨_, rfl⟩
          have zt9 : t9.toInt = l2_1.toInt + 1 := by rw [et9]; exact add_i rfl (by decide) (by omega) (by omega)
          refine lv_iinc (v := t9) (lv' := [(2, .int t9), (3, .int r7), (1, .int l1_1), (0, .ref (x 25))]) hx hb dX3_worstIllness_43 hl (k := 1) rfl (by rw [et9]; rfl) (by decide) rfl (fun ls hl => ?_)
          refine lv_goto (tgt := 4) hx hb dX3_worstIllness_46 (by decide) ?_
          have rg10 := fb_rng t9
          exact ih1 l1_1 t9 v1 f1 hIv1 hq0_v1 hq1_v1 hq7_v1 hq8_v1 hq9_v1 hq10_v1 hq31_v1 hq32_v1 ⟨show (0 : Int) ≤ t9.toInt by omega, show t9.toInt ≤ (2147483647 : Int) by omega⟩ ha0_f1 (by show (2147483647 - t9.toInt).toNat < n1; omega) _ _ _ hP hD hS (lv_sub hl [0, 2, 3] rfl)
        · skip
          have zc8 : ¬ (r7.toInt = (-1)) := by rw [fa_eq, show ((-1) : Int32).toInt = -1 from by decide] at c8; exact c8
          refine lv_iload_n hx hb dX3_worstIllness_29 rfl (lv_at hl 2 rfl) ?_
          refine lv_aload_n hx hb dX3_worstIllness_30 rfl (lv_at hl 3 rfl) ?_
          refine va_get (D := (dC, dI)) (ci := 3) (v := .ref (x 21)) (C := RX3) (T := TX3) (N := 10) hx hb hts inB_3 hown hE.1 hP 26 rfl rfl 1 (by decide) (hts _ k_371) (fun _ h9 => h9) rfl dX3_worstIllness_31 ?_
          refine lv_iload_n hx hb dX3_worstIllness_34 rfl (lv_at hl 1 rfl) ?_
          refine lv_iload_n hx hb dX3_worstIllness_35 rfl (lv_at hl 0 rfl) ?_
          refine cbVi (n := 2) (rest := [.int l1_1]) hx hb hml hown hts hE hP hD hS hA (sX_X1_illness_1 l dC dI cy x0 x l2_1 r7 v1 f1 hIv1 ) k_1183 k_823 k_824 k_106 k_825 (by decide +kernel) ⟨Nat.le_of_ble_eq_true rfl, Nat.le_of_ble_eq_true rfl⟩ 22 1 rfl rfl (rfl) hl.1 rfl (Nat.le_of_ble_eq_true rfl) dX3_worstIllness_36 (fun r11 u H locs hw hP hD hS => ?_)
          obtain ⟨v12, f13⟩ := u
          obtain ⟨ka0_f13, hIv12, hk0_v12, hk1_v12, hk7_v12, hk8_v12, hk9_v12, hk10_v12, hk31_v12, hk32_v12⟩ := hw
          have ha0_f13 : f13 0 = f 0 := ka0_f13.trans ha0_f1
          have hP : va_P (dC, dI) vwCl (XW cy x0 x v12 f13) H := hP
          have hD : va_D A (XW cy x0 x v12 f13) := hD
          have hq0_v12 : v12 0 = (v 0) := hk0_v12.trans hq0_v1
          have hq1_v12 : v12 1 = (v 1) := hk1_v12.trans hq1_v1
          have hq7_v12 : v12 7 = (v 7) := hk7_v12.trans hq7_v1
          have hq8_v12 : v12 8 = (v 8) := hk8_v12.trans hq8_v1
          have hq9_v12 : v12 9 = (v 9) := hk9_v12.trans hq9_v1
          have hq10_v12 : v12 10 = (v 10) := hk10_v12.trans hq10_v1
          have hq31_v12 : v12 31 = (v 31) := hk31_v12.trans hq31_v1
          have hq32_v12 : v12 32 = (v 32) := hk32_v12.trans hq32_v1
          refine va_mmax hx hb (by rw [hml]; exact hl.1.symm) hown (hts _ k_1007) (hts _ k_640) (hts _ k_119) (hts _ k_641) (Nat.le_of_ble_eq_true rfl) (Nat.le_of_ble_eq_true rfl) (Nat.le_of_ble_eq_true rfl) (Nat.le_of_ble_eq_true rfl) dX3_worstIllness_39 ?_
          refine lv_topi (fun t14 et14 => ?_)
          have zt14 : t14.toInt = max (l1_1.toInt) (r11.toInt) := by rw [et14]; exact mmax_i rfl rfl
          refine lv_istore_n (lv' := [(1, .int t14), (3, .int r7), (2, .int l2_1), (0, .ref (x 25))]) hx hb dX3_worstIllness_42 rfl hl (by decide) rfl (fun ls hl => ?_)
          obtain ⟨t15, et15⟩ : ∃ y : Int32, y = l2_1 + 1 := ⟨_, rfl⟩
          have zt15 : t15.toInt = l2_1.toInt + 1 := by rw [et15]; exact add_i rfl (by decide) (by omega) (by omega)
          refine lv_iinc (v := t15) (lv' := [(2, .int t15), (1, .int t14), (3, .int r7), (0, .ref (x 25))]) hx hb dX3_worstIllness_43 hl (k := 2) rfl (by rw [et15]; rfl) (by decide) rfl (fun ls hl => ?_)
          refine lv_goto (tgt := 4) hx hb dX3_worstIllness_46 (by decide) ?_
          have rg16 := fb_rng t15
          exact ih1 t14 t15 v12 f13 hIv12 hq0_v12 hq1_v12 hq7_v12 hq8_v12 hq9_v12 hq10_v12 hq31_v12 hq32_v12 ⟨show (0 : Int) ≤ t15.toInt by omega, show t15.toInt ≤ (2147483647 : Int) by omega⟩ ha0_f13 (by show (2147483647 - t15.toInt).toNat < n1; omega) _ _ _ hP hD hS (lv_sub hl [0, 1, 3] rfl)
  exact lp1 _ 0 0 v f hIv rfl rfl rfl rfl rfl rfl rfl rfl ⟨by decide, by decide⟩ ha0_f (Nat.lt_succ_self _) _ _ _ hP hD hS (lv_sub hl [0, 1, 2] rfl)
set_option maxHeartbeats 4000000 in
set_option maxRecDepth 100000 in
theorem sX_X10_ease_1 (l : Launch) (dC : Nat → ClassId) (dI : Nat → Nat → Nat) (cy : Nat → ClassId) (x0 : Nat) (x : Nat → Nat)  (v : Nat → Int32) (f : Nat → Nat → Int32) (hIv : XI v)  : ctI l (dC, dI) cy yX10_ease cX10_ease 1 .int 5 156 0 0 ((Nat → Int32) × (Nat → Nat → Int32)) [.ref x0] (XW cy x0 x v f) (fun r u => u.2 0 = f 0 ∧ XI u.1 ∧ u.1 0 = v 0 ∧ u.1 1 = v 1 ∧ u.1 7 = v 7 ∧ u.1 8 = v 8 ∧ u.1 9 = v 9 ∧ u.1 10 = v 10 ∧ u.1 31 = v 31 ∧ u.1 32 = v 32) (fun u => XW cy x0 x u.1 u.2) := by
  refine ctI_of (by decide) (Nat.le_of_ble_eq_true rfl) (fun p e s m below meth c A ls Q hx hb hml hts hown hE hP hD hA hl ret => ?_)
  have ha0_f : f 0 = f 0 := rfl
  have hown : s.vm.findClass RX10 = some m.cls := hown
  have hS : va_S A s.heap s.heap [] := va_S.rf
  have hl : lv_has ls 1 [(0, .ref x0)] := hl
  refine lv_aload_n hx hb dX10_ease_0 rfl (lv_at hl 0 rfl) ?_
  refine va_get (D := (dC, dI)) (ci := 10) (v := .ref (x 25)) (C := RX10) (T := TX10) (N := 10) hx hb hts inB_10 hown hE.1 hP 0 rfl rfl 5 (by decide) (hts _ k_496) (fun _ h9 => h9) rfl dX10_ease_1 ?_
  refine cbVi (n := 0) (rest := []) hx hb hml hown hts hE hP hD hS hA (sX_X3_worstIllness_1 l dC dI cy x0 x  v f hIv ) k_1188 k_1189 k_1190 k_109 k_1191 (by decide +kernel) ⟨Nat.le_of_ble_eq_true rfl, Nat.le_of_ble_eq_true rfl⟩ 26 3 rfl rfl (rfl) hl.1 rfl (Nat.le_of_ble_eq_true rfl) dX10_ease_4 (fun r1 u H locs hw hP hD hS => ?_)
  obtain ⟨v2, f3⟩ := u
  obtain ⟨ka0_f3, hIv2, hk0_v2, hk1_v2, hk7_v2, hk8_v2, hk9_v2, hk10_v2, hk31_v2, hk32_v2⟩ := hw
  have ha0_f3 : f3 0 = f 0 := ka0_f3.trans ha0_f
  have hP : va_P (dC, dI) vwCl (XW cy x0 x v2 f3) H := hP
  have hD : va_D A (XW cy x0 x v2 f3) := hD
  have hq0_v2 : v2 0 = (v 0) := hk0_v2
  have hq1_v2 : v2 1 = (v 1) := hk1_v2
  have hq7_v2 : v2 7 = (v 7) := hk7_v2
  have hq8_v2 : v2 8 = (v 8) := hk8_v2
  have hq9_v2 : v2 9 = (v 9) := hk9_v2
  have hq10_v2 : v2 10 = (v 10) := hk10_v2
  have hq31_v2 : v2 31 = (v 31) := hk31_v2
  have hq32_v2 : v2 32 = (v 32) := hk32_v2
  exact ret r1 (v2, f3) _ _ _ _ _ _ rfl ⟨ha0_f3, hIv2, hk0_v2, hk1_v2, hk7_v2, hk8_v2, hk9_v2, hk10_v2, hk31_v2, hk32_v2⟩ hP hD hS dX10_ease_7 (Nat.le_refl _) (Nat.le_refl _)
set_option maxHeartbeats 4000000 in
set_option maxRecDepth 100000 in
theorem sX_X10_breadth_1 (l : Launch) (dC : Nat → ClassId) (dI : Nat → Nat → Nat) (cy : Nat → ClassId) (x0 : Nat) (x : Nat → Nat)  (v : Nat → Int32) (f : Nat → Nat → Int32) (hIv : XI v)  : ctI l (dC, dI) cy yX10_breadth cX10_breadth 1 .int 4 127 0 0 Unit [.ref x0] (XW cy x0 x v f) (fun r u => True) (fun u => XW cy x0 x v f) := by
  refine ctI_of (by decide) (Nat.le_of_ble_eq_true rfl) (fun p e s m below meth c A ls Q hx hb hml hts hown hE hP hD hA hl ret => ?_)
  have hown : s.vm.findClass RX10 = some m.cls := hown
  have hS : va_S A s.heap s.heap [] := va_S.rf
  have hl : lv_has ls 1 [(0, .ref x0)] := hl
  refine lv_aload_n hx hb dX10_breadth_0 rfl (lv_at hl 0 rfl) ?_
  refine va_get (D := (dC, dI)) (ci := 10) (v := .ref (x 29)) (C := RX10) (T := TX10) (N := 10) hx hb hts inB_10 hown hE.1 hP 0 rfl rfl 6 (by decide) (hts _ k_497) (fun _ h9 => h9) rfl dX10_breadth_1 ?_
  refine lv_aload_n hx hb dX10_breadth_4 rfl (lv_at hl 0 rfl) ?_
  refine va_get (D := (dC, dI)) (ci := 10) (v := .ref (x 21)) (C := RX10) (T := TX10) (N := 10) hx hb hts inB_10 hown hE.1 hP 0 rfl rfl 3 (by decide) (hts _ k_494) (fun _ h9 => h9) rfl dX10_breadth_5 ?_
  refine cbVi (n := 0) (rest := [.ref (x 29)]) hx hb hml hown hts hE hP hD hS hA (sX_X1_wearers_1 l dC dI cy x0 x  v f hIv ) k_1196 k_1061 k_1062 k_106 k_1063 (by decide +kernel) ⟨Nat.le_of_ble_eq_true rfl, Nat.le_of_ble_eq_true rfl⟩ 22 1 rfl rfl (rfl) hl.1 rfl (Nat.le_of_ble_eq_true rfl) dX10_breadth_8 (fun r1 u H locs hw hP hD hS => ?_)
  refine cbVi (n := 1) (rest := []) hx hb hml hown hts hE hP hD hS hA (sX_X2_wideTogether_1 l dC dI cy x0 x r1 v f hIv ) k_1197 k_1066 k_1067 k_110 k_1068 (by decide +kernel) ⟨Nat.le_of_ble_eq_true rfl, Nat.le_of_ble_eq_true rfl⟩ 30 2 rfl rfl (rfl) hl.1 rfl (Nat.le_of_ble_eq_true rfl) dX10_breadth_11 (fun r2 u H locs hw hP hD hS => ?_)
  exact ret r2 () _ _ _ _ _ _ rfl trivial hP hD hS dX10_breadth_14 (Nat.le_refl _) (Nat.le_refl _)
set_option maxHeartbeats 4000000 in
set_option maxRecDepth 100000 in
theorem sX_X1_wearers_2 (l : Launch) (dC : Nat → ClassId) (dI : Nat → Nat → Nat) (cy : Nat → ClassId) (x0 : Nat) (x : Nat → Nat)  (v : Nat → Int32) (f : Nat → Nat → Int32) (hIv : XI v)  : ctI l (dC, dI) cy yX1_wearers cX1_wearers 3 .int 3 102 0 0 Unit [.ref (x 27)] (XW cy x0 x v f) (fun r u => True) (fun u => XW cy x0 x v f) := by
  refine ctI_of (by decide) (Nat.le_of_ble_eq_true rfl) (fun p e s m below meth c A ls Q hx hb hml hts hown hE hP hD hA hl ret => ?_)
  have hown : s.vm.findClass RX1 = some m.cls := hown
  have hS : va_S A s.heap s.heap [] := va_S.rf
  have hl : lv_has ls 3 [(0, .ref (x 27))] := hl
  refine lv_iconst (v := 0) hx hb dX1_wearers_0 (by decide) ?_
  refine lv_istore_n (lv' := [(1, .int 0), (0, .ref (x 27))]) hx hb dX1_wearers_1 rfl hl (by decide) rfl (fun ls hl => ?_)
  refine lv_iconst (v := 0) hx hb dX1_wearers_2 (by decide) ?_
  refine lv_istore_n (lv' := [(2, .int 0), (1, .int 0), (0, .ref (x 27))]) hx hb dX1_wearers_3 rfl hl (by decide) rfl (fun ls hl => ?_)
  have lp1 : ∀ (n1 : Nat) (l1_1 : Int32) (l2_1 : Int32), ((0 : Int) ≤ l2_1.toInt ∧ l2_1.toInt ≤ 2147483647) → (2147483647 - l2_1.toInt).toNat < n1 → ∀ (H : Heap) (locs : List Loc) (ls : Array Slot), va_P (dC, dI) vwCl (XW cy x0 x v f) H → va_D A (XW cy x0 x v f) → va_S A s.heap H locs → lv_has ls 3 [(2, .int l2_1), (1, .int l1_1), (0, .ref (x 27))] → W p l e { frames := 3, cells := 0, slots := 0, locals := 102 } s m ([.ref (x 27)] : List Value).toArray below meth c H locs 0 0 Q (F0 m 4 ls []) := by
    intro n1
    induction n1 with
    | zero => intro l1_1 l2_1 hr2_1 hm; exact absurd hm (Nat.not_lt_zero _)
    | succ n1 ih1 =>
      intro l1_1 l2_1 hr2_1 hm1 H locs ls hP hD hS hl
      refine lv_iload_n hx hb dX1_wearers_4 rfl (lv_at hl 0 rfl) ?_
      refine lv_aload_n hx hb dX1_wearers_5 rfl (lv_at hl 2 rfl) ?_
      refine va_get (D := (dC, dI)) (ci := 1) (v := .ref (x 26)) (C := RX1) (T := TX1) (N := 2) hx hb hts inB_1 hown hE.1 hP 28 rfl rfl 0 (by decide) (hts _ k_318) (fun _ h9 => h9) rfl dX1_wearers_6 ?_
      refine va_getN (D := (dC, dI)) (ci := 7) (v := .int (v 31)) (C := RX7) (T := TX7) (N := 10) hx hb hts inB_7 hown hE.1 hP 27 rfl rfl 3 (by decide) (va_Nw.use rfl (hE.2 _ k_219)) (fun _ h9 => h9) rfl dX1_wearers_9 ?_
      have b31_v : 0 ≤ (v 31).toInt ∧ (v 31).toInt ≤ 6 := XI.b hIv 31 (by decide)
      refine lv_icmp_ge (tgt := 36) hx hb dX1_wearers_12 (by decide) (fun c2 => ?_) (fun c2 => ?_)
      · skip
        have zc2 : (v 31).toInt ≤ l2_1.toInt := by rw [fa_le] at c2; exact c2
        have rg3 := fb_rng l2_1
        have rg4 := fb_rng (v 31)
        refine lv_iload_n hx hb dX1_wearers_36 rfl (lv_at hl 1 rfl) ?_
        exact ret l1_1 () _ _ _ _ _ _ rfl trivial hP hD hS dX1_wearers_37 (Nat.le_refl _) (Nat.le_refl _)
      · skip
        have zc2 : ¬ ((v 31).toInt ≤ l2_1.toInt) := by rw [fa_le] at c2; exact c2
        have rg5 := fb_rng l2_1
        have rg6 := fb_rng (v 31)
        refine lv_aload_n hx hb dX1_wearers_15 rfl (lv_at hl 2 rfl) ?_
        refine lv_iload_n hx hb dX1_wearers_16 rfl (lv_at hl 0 rfl) ?_
        refine cbVi (n := 1) (rest := []) hx hb hml hown hts hE hP hD hS hA (sX_X1_wears_2 l dC dI cy x0 x l2_1 v f hIv ) k_853 k_810 k_811 k_106 k_812 (by decide +kernel) ⟨Nat.le_of_ble_eq_true rfl, Nat.le_of_ble_eq_true rfl⟩ 28 1 rfl rfl (rfl) hl.1 rfl (Nat.le_of_ble_eq_true rfl) dX1_wearers_17 (fun r7 u H locs hw hP hD hS => ?_)
        refine lv_iconst (v := (-1)) hx hb dX1_wearers_20 (by decide) ?_
        refine lv_icmp_eq (tgt := 30) hx hb dX1_wearers_21 (by decide) (fun c8 => ?_) (fun c8 => ?_)
        · skip
          have zc8 : r7.toInt = (-1) := by rw [fa_eq, show ((-1) : Int32).toInt = -1 from by decide] at c8; exact c8
          obtain ⟨t9, et9⟩ : ∃ y : Int32, y = l2_1 + 1 := ⟨_, rfl⟩
          have zt9 : t9.toInt = l2_1.toInt + 1 := by rw [et9]; exact add_i rfl (by decide) (by omega) (by omega)
          refine lv_iinc (v := t9) (lv' := [(2, .int t9), (1, .int l1_1), (0, .ref (x 27))]) hx hb dX1_wearers_30 hl (k := 0) rfl (by rw [et9]; rfl) (by decide) rfl (fun ls hl => ?_)
          refine lv_goto (tgt := 4) hx hb dX1_wearers_33 (by decide) ?_
          have rg10 := fb_rng t9
          exact ih1 l1_1 t9 ⟨show (0 : Int) ≤ t9.toInt by omega, show t9.toInt ≤ (2147483647 : Int) by omega⟩ (by show (2147483647 - t9.toInt).toNat < n1; omega) _ _ _ hP hD hS (lv_sub hl [0, 1, 2] rfl)
        · skip
          have zc8 : ¬ (r7.toInt = (-1)) := by rw [fa_eq, show ((-1) : Int32).toInt = -1 from by decide] at c8; exact c8
          refine lv_iload_n hx hb dX1_wearers_24 rfl (lv_at hl 1 rfl) ?_
          refine lv_iconst (v := 1) hx hb dX1_wearers_25 (by decide) ?_
          refine lv_iload_n hx hb dX1_wearers_26 rfl (lv_at hl 0 rfl) ?_
          refine lv_ishl hx hb dX1_wearers_27 ?_
          refine lv_topi (fun t11 et11 => ?_)
          have zt11 : 1 ≤ t11.toInt ∧ t11.toInt ≤ 32 := by rw [et11]; exact shl1_rng (by omega) (by omega)
          refine lv_ior hx hb dX1_wearers_28 ?_
          refine lv_topi (fun t12 et12 => ?_)
          refine lv_istore_n (lv' := [(1, .int t12), (2, .int l2_1), (0, .ref (x 27))]) hx hb dX1_wearers_29 rfl hl (by decide) rfl (fun ls hl => ?_)
          obtain ⟨t13, et13⟩ : ∃ y : Int32, y = l2_1 + 1 := ⟨_, rfl⟩
          have zt13 : t13.toInt = l2_1.toInt + 1 := by rw [et13]; exact add_i rfl (by decide) (by omega) (by omega)
          refine lv_iinc (v := t13) (lv' := [(2, .int t13), (1, .int t12), (0, .ref (x 27))]) hx hb dX1_wearers_30 hl (k := 1) rfl (by rw [et13]; rfl) (by decide) rfl (fun ls hl => ?_)
          refine lv_goto (tgt := 4) hx hb dX1_wearers_33 (by decide) ?_
          have rg14 := fb_rng t13
          exact ih1 t12 t13 ⟨show (0 : Int) ≤ t13.toInt by omega, show t13.toInt ≤ (2147483647 : Int) by omega⟩ (by show (2147483647 - t13.toInt).toNat < n1; omega) _ _ _ hP hD hS (lv_sub hl [0, 1, 2] rfl)
  exact lp1 _ 0 0 ⟨by decide, by decide⟩ (Nat.lt_succ_self _) _ _ _ hP hD hS (lv_sub hl [0, 1, 2] rfl)
set_option maxHeartbeats 4000000 in
set_option maxRecDepth 100000 in
theorem sX_X3_daysTillRout_1 (l : Launch) (dC : Nat → ClassId) (dI : Nat → Nat → Nat) (cy : Nat → ClassId) (x0 : Nat) (x : Nat → Nat)  (v : Nat → Int32) (f : Nat → Nat → Int32) (hIv : XI v)  : ctI l (dC, dI) cy yX3_daysTillRout cX3_daysTillRout 2 .int 6 179 0 0 ((Nat → Int32) × (Nat → Nat → Int32)) [.ref (x 25)] (XW cy x0 x v f) (fun r u => u.2 0 = f 0 ∧ XI u.1 ∧ u.1 0 = v 0 ∧ u.1 1 = v 1 ∧ u.1 7 = v 7 ∧ u.1 8 = v 8 ∧ u.1 9 = v 9 ∧ u.1 10 = v 10 ∧ u.1 31 = v 31 ∧ u.1 32 = v 32) (fun u => XW cy x0 x u.1 u.2) := by
  refine ctI_of (by decide) (Nat.le_of_ble_eq_true rfl) (fun p e s m below meth c A ls Q hx hb hml hts hown hE hP hD hA hl ret => ?_)
  have ha0_f : f 0 = f 0 := rfl
  have hown : s.vm.findClass RX3 = some m.cls := hown
  have hS : va_S A s.heap s.heap [] := va_S.rf
  have hl : lv_has ls 2 [(0, .ref (x 25))] := hl
  refine lv_aload_n hx hb dX3_daysTillRout_0 rfl (lv_at hl 0 rfl) ?_
  refine va_get (D := (dC, dI)) (ci := 3) (v := .ref (x 27)) (C := RX3) (T := TX3) (N := 10) hx hb hts inB_3 hown hE.1 hP 26 rfl rfl 2 (by decide) (hts _ k_372) (fun _ h9 => h9) rfl dX3_daysTillRout_1 ?_
  refine lv_aload_n hx hb dX3_daysTillRout_4 rfl (lv_at hl 0 rfl) ?_
  refine va_get (D := (dC, dI)) (ci := 3) (v := .ref (x 21)) (C := RX3) (T := TX3) (N := 10) hx hb hts inB_3 hown hE.1 hP 26 rfl rfl 1 (by decide) (hts _ k_371) (fun _ h9 => h9) rfl dX3_daysTillRout_5 ?_
  refine cbVv (n := 1) (rest := []) hx hb hml hown hts hE hP hD hS hA (sX_X1_copy_1 l dC dI cy x0 x  v f hIv ) k_945 k_946 k_947 k_106 k_948 (by decide +kernel) ⟨Nat.le_of_ble_eq_true rfl, Nat.le_of_ble_eq_true rfl⟩ 28 1 rfl rfl (rfl) hl.1 rfl (Nat.le_of_ble_eq_true rfl) dX3_daysTillRout_8 (fun u H locs hw hP hD hS => ?_)
  obtain ⟨v1, f2⟩ := u
  obtain ⟨ka0_f2, hIv1, hk0_v1, hk1_v1, hk7_v1, hk8_v1, hk9_v1, hk10_v1, hk31_v1, hk32_v1⟩ := hw
  have ha0_f2 : f2 0 = f 0 := ka0_f2.trans ha0_f
  have hP : va_P (dC, dI) vwCl (XW cy x0 x v1 f2) H := hP
  have hD : va_D A (XW cy x0 x v1 f2) := hD
  have hq0_v1 : v1 0 = (v 0) := hk0_v1
  have hq1_v1 : v1 1 = (v 1) := hk1_v1
  have hq7_v1 : v1 7 = (v 7) := hk7_v1
  have hq8_v1 : v1 8 = (v 8) := hk8_v1
  have hq9_v1 : v1 9 = (v 9) := hk9_v1
  have hq10_v1 : v1 10 = (v 10) := hk10_v1
  have hq31_v1 : v1 31 = (v 31) := hk31_v1
  have hq32_v1 : v1 32 = (v 32) := hk32_v1
  refine lv_iconst (v := 0) hx hb dX3_daysTillRout_11 (by decide) ?_
  refine lv_istore_n (lv' := [(1, .int 0), (0, .ref (x 25))]) hx hb dX3_daysTillRout_12 rfl hl (by decide) rfl (fun ls hl => ?_)
  have lp3 : ∀ (n3 : Nat) (l1_3 : Int32) (v3 : Nat → Int32) (f3 : Nat → Nat → Int32), XI v3 → v3 0 = (v 0) → v3 1 = (v 1) → v3 7 = (v 7) → v3 8 = (v 8) → v3 9 = (v 9) → v3 10 = (v 10) → v3 31 = (v 31) → v3 32 = (v 32) → ((0 : Int) ≤ l1_3.toInt ∧ l1_3.toInt ≤ 2147483647) → f3 0 = f 0 → (2147483647 - l1_3.toInt).toNat < n3 → ∀ (H : Heap) (locs : List Loc) (ls : Array Slot), va_P (dC, dI) vwCl (XW cy x0 x v3 f3) H → va_D A (XW cy x0 x v3 f3) → va_S A s.heap H locs → lv_has ls 2 [(1, .int l1_3), (0, .ref (x 25))] → W p l e { frames := 6, cells := 0, slots := 0, locals := 179 } s m ([.ref (x 25)] : List Value).toArray below meth c H locs 0 0 Q (F0 m 13 ls []) := by
    intro n3
    induction n3 with
    | zero => intro l1_3 v3 f3 hIv3 hq0_v3 hq1_v3 hq7_v3 hq8_v3 hq9_v3 hq10_v3 hq31_v3 hq32_v3 hr1_3 ha0_f3 hm; exact absurd hm (Nat.not_lt_zero _)
    | succ n3 ih3 =>
      intro l1_3 v3 f3 hIv3 hq0_v3 hq1_v3 hq7_v3 hq8_v3 hq9_v3 hq10_v3 hq31_v3 hq32_v3 hr1_3 ha0_f3 hm3 H locs ls hP hD hS hl
      refine lv_iload_n hx hb dX3_daysTillRout_13 rfl (lv_at hl 0 rfl) ?_
      refine lv_bipush (v := 60) hx hb dX3_daysTillRout_14 (by decide) ?_
      refine lv_icmp_gt (tgt := 46) hx hb dX3_daysTillRout_16 (by decide) (fun c4 => ?_) (fun c4 => ?_)
      · skip
        have zc4 : 60 < l1_3.toInt := by rw [fa_lt, show (60 : Int32).toInt = 60 from by decide] at c4; exact c4
        refine lv_iconst (v := (-1)) hx hb dX3_daysTillRout_46 (by decide) ?_
        exact ret (-1) (v3, f3) _ _ _ _ _ _ rfl ⟨ha0_f3, hIv3, hq0_v3, hq1_v3, hq7_v3, hq8_v3, hq9_v3, hq10_v3, hq31_v3, hq32_v3⟩ hP hD hS dX3_daysTillRout_47 (Nat.le_refl _) (Nat.le_refl _)
      · skip
        have zc4 : ¬ (60 < l1_3.toInt) := by rw [fa_lt, show (60 : Int32).toInt = 60 from by decide] at c4; exact c4
        refine lv_aload_n hx hb dX3_daysTillRout_19 rfl (lv_at hl 1 rfl) ?_
        refine va_get (D := (dC, dI)) (ci := 3) (v := .ref (x 27)) (C := RX3) (T := TX3) (N := 10) hx hb hts inB_3 hown hE.1 hP 26 rfl rfl 2 (by decide) (hts _ k_372) (fun _ h9 => h9) rfl dX3_daysTillRout_20 ?_
        refine cbVi (n := 0) (rest := []) hx hb hml hown hts hE hP hD hS hA (sX_X1_wearers_2 l dC dI cy x0 x  v3 f3 hIv3 ) k_1206 k_1061 k_1062 k_106 k_1063 (by decide +kernel) ⟨Nat.le_of_ble_eq_true rfl, Nat.le_of_ble_eq_true rfl⟩ 28 1 rfl rfl (rfl) hl.1 rfl (Nat.le_of_ble_eq_true rfl) dX3_daysTillRout_23 (fun r5 u H locs hw hP hD hS => ?_)
        refine lv_if_ne (tgt := 31) hx hb dX3_daysTillRout_26 (by decide) (fun c6 => ?_) (fun c6 => ?_)
        · skip
          have zc6 : ¬ (r5.toInt = 0) := by rw [fa_eq, show (0 : Int32).toInt = 0 from by decide] at c6; exact c6
          refine lv_aload_n hx hb dX3_daysTillRout_31 rfl (lv_at hl 1 rfl) ?_
          refine va_get (D := (dC, dI)) (ci := 3) (v := .ref (x 27)) (C := RX3) (T := TX3) (N := 10) hx hb hts inB_3 hown hE.1 hP 26 rfl rfl 2 (by decide) (hts _ k_372) (fun _ h9 => h9) rfl dX3_daysTillRout_32 ?_
          refine lv_iconst (v := 0) hx hb dX3_daysTillRout_35 (by decide) ?_
          refine cbVi (n := 1) (rest := []) hx hb hml hown hts hE hP hD hS hA (sX_X1_passDay_2 l dC dI cy x0 x 0 v3 f3 hIv3 ) k_949 k_866 k_867 k_106 k_868 (by decide +kernel) ⟨Nat.le_of_ble_eq_true rfl, Nat.le_of_ble_eq_true rfl⟩ 28 1 rfl rfl (rfl) hl.1 rfl (Nat.le_of_ble_eq_true rfl) dX3_daysTillRout_36 (fun r7 u H locs hw hP hD hS => ?_)
          obtain ⟨v8, f9⟩ := u
          obtain ⟨ka0_f9, hIv8, hk0_v8, hk1_v8, hk7_v8, hk8_v8, hk9_v8, hk10_v8, hk31_v8, hk32_v8⟩ := hw
          have ha0_f9 : f9 0 = f 0 := ka0_f9.trans ha0_f3
          have hP : va_P (dC, dI) vwCl (XW cy x0 x v8 f9) H := hP
          have hD : va_D A (XW cy x0 x v8 f9) := hD
          have hq0_v8 : v8 0 = (v 0) := hk0_v8.trans hq0_v3
          have hq1_v8 : v8 1 = (v 1) := hk1_v8.trans hq1_v3
          have hq7_v8 : v8 7 = (v 7) := hk7_v8.trans hq7_v3
          have hq8_v8 : v8 8 = (v 8) := hk8_v8.trans hq8_v3
          have hq9_v8 : v8 9 = (v 9) := hk9_v8.trans hq9_v3
          have hq10_v8 : v8 10 = (v 10) := hk10_v8.trans hq10_v3
          have hq31_v8 : v8 31 = (v 31) := hk31_v8.trans hq31_v3
          have hq32_v8 : v8 32 = (v 32) := hk32_v8.trans hq32_v3
          refine lv_pop hx hb dX3_daysTillRout_39 rfl ?_
          obtain ⟨t10, et10⟩ : ∃ y : Int32, y = l1_3 + 1 := ⟨_, rfl⟩
          have rg11 := fb_rng l1_3
          have zt10 : t10.toInt = l1_3.toInt + 1 := by rw [et10]; exact add_i rfl (by decide) (by omega) (by omega)
          refine lv_iinc (v := t10) (lv' := [(1, .int t10), (0, .ref (x 25))]) hx hb dX3_daysTillRout_40 hl (k := 0) rfl (by rw [et10]; rfl) (by decide) rfl (fun ls hl => ?_)
          refine lv_goto (tgt := 13) hx hb dX3_daysTillRout_43 (by decide) ?_
          have rg12 := fb_rng t10
          exact ih3 t10 v8 f9 hIv8 hq0_v8 hq1_v8 hq7_v8 hq8_v8 hq9_v8 hq10_v8 hq31_v8 hq32_v8 ⟨show (0 : Int) ≤ t10.toInt by omega, show t10.toInt ≤ (2147483647 : Int) by omega⟩ ha0_f9 (by show (2147483647 - t10.toInt).toNat < n3; omega) _ _ _ hP hD hS (lv_sub hl [0, 1] rfl)
        · skip
          have zc6 : r5.toInt = 0 := by rw [fa_eq, show (0 : Int32).toInt = 0 from by decide] at c6; exact c6
          refine lv_iload_n hx hb dX3_daysTillRout_29 rfl (lv_at hl 0 rfl) ?_
          exact ret l1_3 (v3, f3) _ _ _ _ _ _ rfl ⟨ha0_f3, hIv3, hq0_v3, hq1_v3, hq7_v3, hq8_v3, hq9_v3, hq10_v3, hq31_v3, hq32_v3⟩ hP hD hS dX3_daysTillRout_30 (Nat.le_refl _) (Nat.le_refl _)
  exact lp3 _ 0 v1 f2 hIv1 hq0_v1 hq1_v1 hq7_v1 hq8_v1 hq9_v1 hq10_v1 hq31_v1 hq32_v1 ⟨by decide, by decide⟩ ha0_f2 (Nat.lt_succ_self _) _ _ _ hP hD hS (lv_sub hl [0, 1] rfl)
set_option maxHeartbeats 4000000 in
set_option maxRecDepth 100000 in
theorem sX_X10_rout_1 (l : Launch) (dC : Nat → ClassId) (dI : Nat → Nat → Nat) (cy : Nat → ClassId) (x0 : Nat) (x : Nat → Nat)  (v : Nat → Int32) (f : Nat → Nat → Int32) (hIv : XI v)  : ctI l (dC, dI) cy yX10_rout cX10_rout 1 .int 7 200 0 0 ((Nat → Int32) × (Nat → Nat → Int32)) [.ref x0] (XW cy x0 x v f) (fun r u => u.2 0 = f 0 ∧ XI u.1 ∧ u.1 0 = v 0 ∧ u.1 1 = v 1 ∧ u.1 7 = v 7 ∧ u.1 8 = v 8 ∧ u.1 9 = v 9 ∧ u.1 10 = v 10 ∧ u.1 31 = v 31 ∧ u.1 32 = v 32) (fun u => XW cy x0 x u.1 u.2) := by
  refine ctI_of (by decide) (Nat.le_of_ble_eq_true rfl) (fun p e s m below meth c A ls Q hx hb hml hts hown hE hP hD hA hl ret => ?_)
  have ha0_f : f 0 = f 0 := rfl
  have hown : s.vm.findClass RX10 = some m.cls := hown
  have hS : va_S A s.heap s.heap [] := va_S.rf
  have hl : lv_has ls 1 [(0, .ref x0)] := hl
  refine lv_aload_n hx hb dX10_rout_0 rfl (lv_at hl 0 rfl) ?_
  refine va_get (D := (dC, dI)) (ci := 10) (v := .ref (x 25)) (C := RX10) (T := TX10) (N := 10) hx hb hts inB_10 hown hE.1 hP 0 rfl rfl 5 (by decide) (hts _ k_496) (fun _ h9 => h9) rfl dX10_rout_1 ?_
  refine cbVi (n := 0) (rest := []) hx hb hml hown hts hE hP hD hS hA (sX_X3_daysTillRout_1 l dC dI cy x0 x  v f hIv ) k_1202 k_1203 k_1204 k_109 k_1205 (by decide +kernel) ⟨Nat.le_of_ble_eq_true rfl, Nat.le_of_ble_eq_true rfl⟩ 26 3 rfl rfl (rfl) hl.1 rfl (Nat.le_of_ble_eq_true rfl) dX10_rout_4 (fun r1 u H locs hw hP hD hS => ?_)
  obtain ⟨v2, f3⟩ := u
  obtain ⟨ka0_f3, hIv2, hk0_v2, hk1_v2, hk7_v2, hk8_v2, hk9_v2, hk10_v2, hk31_v2, hk32_v2⟩ := hw
  have ha0_f3 : f3 0 = f 0 := ka0_f3.trans ha0_f
  have hP : va_P (dC, dI) vwCl (XW cy x0 x v2 f3) H := hP
  have hD : va_D A (XW cy x0 x v2 f3) := hD
  have hq0_v2 : v2 0 = (v 0) := hk0_v2
  have hq1_v2 : v2 1 = (v 1) := hk1_v2
  have hq7_v2 : v2 7 = (v 7) := hk7_v2
  have hq8_v2 : v2 8 = (v 8) := hk8_v2
  have hq9_v2 : v2 9 = (v 9) := hk9_v2
  have hq10_v2 : v2 10 = (v 10) := hk10_v2
  have hq31_v2 : v2 31 = (v 31) := hk31_v2
  have hq32_v2 : v2 32 = (v 32) := hk32_v2
  exact ret r1 (v2, f3) _ _ _ _ _ _ rfl ⟨ha0_f3, hIv2, hk0_v2, hk1_v2, hk7_v2, hk8_v2, hk9_v2, hk10_v2, hk31_v2, hk32_v2⟩ hP hD hS dX10_rout_7 (Nat.le_refl _) (Nat.le_refl _)
set_option maxHeartbeats 4000000 in
set_option maxRecDepth 100000 in
theorem sX_X10_commonDivisor_1 (l : Launch) (dC : Nat → ClassId) (dI : Nat → Nat → Nat) (cy : Nat → ClassId) (x0 : Nat) (x : Nat → Nat) (p0 : Int32) (p1 : Int32) (v : Nat → Int32) (f : Nat → Nat → Int32) (hIv : XI v)  : ctI l (dC, dI) cy yX10_commonDivisor cX10_commonDivisor 6 .int 1 60 0 0 Unit [.int p0, .int p1] (XW cy x0 x v f) (fun r u => True) (fun u => XW cy x0 x v f) := by
  refine ctI_of (by decide) (Nat.le_of_ble_eq_true rfl) (fun p e s m below meth c A ls Q hx hb hml hts hown hE hP hD hA hl ret => ?_)
  have hown : s.vm.findClass RX10 = some m.cls := hown
  have hS : va_S A s.heap s.heap [] := va_S.rf
  have hl : lv_has ls 6 [(0, .int p0), (1, .int p1)] := hl
  refine lv_iload_n hx hb dX10_commonDivisor_0 rfl (lv_at hl 0 rfl) ?_
  refine lv_istore_n (lv' := [(2, .int p0), (0, .int p0), (1, .int p1)]) hx hb dX10_commonDivisor_1 rfl hl (by decide) rfl (fun ls hl => ?_)
  refine lv_iload_n hx hb dX10_commonDivisor_2 rfl (lv_at hl 2 rfl) ?_
  refine lv_istore_n (lv' := [(3, .int p1), (2, .int p0), (0, .int p0), (1, .int p1)]) hx hb dX10_commonDivisor_3 rfl hl (by decide) rfl (fun ls hl => ?_)
  refine lv_iconst (v := 0) hx hb dX10_commonDivisor_4 (by decide) ?_
  refine lv_istore (lv' := [(4, .int 0), (3, .int p1), (2, .int p0), (0, .int p0), (1, .int p1)]) hx hb dX10_commonDivisor_5 hl (by decide) rfl (fun ls hl => ?_)
  have lp1 : ∀ (n1 : Nat) (l2_1 : Int32) (l3_1 : Int32) (l4_1 : Int32), ((0 : Int) ≤ l4_1.toInt ∧ l4_1.toInt ≤ 2147483647) → (2147483647 - l4_1.toInt).toNat < n1 → ∀ (H : Heap) (locs : List Loc) (ls : Array Slot), va_P (dC, dI) vwCl (XW cy x0 x v f) H → va_D A (XW cy x0 x v f) → va_S A s.heap H locs → lv_has ls 6 [(4, .int l4_1), (3, .int l3_1), (2, .int l2_1), (0, .int p0), (1, .int p1)] → W p l e { frames := 1, cells := 0, slots := 0, locals := 60 } s m ([.int p0, .int p1] : List Value).toArray below meth c H locs 0 0 Q (F0 m 7 ls []) := by
    intro n1
    induction n1 with
    | zero => intro l2_1 l3_1 l4_1 hr4_1 hm; exact absurd hm (Nat.not_lt_zero _)
    | succ n1 ih1 =>
      intro l2_1 l3_1 l4_1 hr4_1 hm1 H locs ls hP hD hS hl
      refine lv_iload hx hb dX10_commonDivisor_7 (lv_at hl 0 rfl) ?_
      refine lv_bipush (v := 100) hx hb dX10_commonDivisor_9 (by decide) ?_
      refine lv_icmp_ge (tgt := 34) hx hb dX10_commonDivisor_11 (by decide) (fun c2 => ?_) (fun c2 => ?_)
      · skip
        have zc2 : 100 ≤ l4_1.toInt := by rw [fa_le, show (100 : Int32).toInt = 100 from by decide] at c2; exact c2
        refine lv_iload_n hx hb dX10_commonDivisor_34 rfl (lv_at hl 2 rfl) ?_
        exact ret l2_1 () _ _ _ _ _ _ rfl trivial hP hD hS dX10_commonDivisor_35 (Nat.le_refl _) (Nat.le_refl _)
      · skip
        have zc2 : ¬ (100 ≤ l4_1.toInt) := by rw [fa_le, show (100 : Int32).toInt = 100 from by decide] at c2; exact c2
        refine lv_iload_n hx hb dX10_commonDivisor_14 rfl (lv_at hl 1 rfl) ?_
        refine lv_if_eq (tgt := 34) hx hb dX10_commonDivisor_15 (by decide) (fun c3 => ?_) (fun c3 => ?_)
        · skip
          have zc3 : l3_1.toInt = 0 := by rw [fa_eq, show (0 : Int32).toInt = 0 from by decide] at c3; exact c3
          refine lv_iload_n hx hb dX10_commonDivisor_34 rfl (lv_at hl 2 rfl) ?_
          exact ret l2_1 () _ _ _ _ _ _ rfl trivial hP hD hS dX10_commonDivisor_35 (Nat.le_refl _) (Nat.le_refl _)
        · skip
          have zc3 : ¬ (l3_1.toInt = 0) := by rw [fa_eq, show (0 : Int32).toInt = 0 from by decide] at c3; exact c3
          refine lv_iload_n hx hb dX10_commonDivisor_18 rfl (lv_at hl 2 rfl) ?_
          refine lv_iload_n hx hb dX10_commonDivisor_19 rfl (lv_at hl 1 rfl) ?_
          refine lv_irem hx hb dX10_commonDivisor_20 (ne0 (by omega)) ?_
          refine lv_topi (fun t4 et4 => ?_)
          refine lv_istore (lv' := [(5, .int t4), (4, .int l4_1), (3, .int l3_1), (2, .int l2_1), (0, .int p0), (1, .int p1)]) hx hb dX10_commonDivisor_21 hl (by decide) rfl (fun ls hl => ?_)
          refine lv_iload_n hx hb dX10_commonDivisor_23 rfl (lv_at hl 2 rfl) ?_
          refine lv_istore_n (lv' := [(2, .int l3_1), (5, .int t4), (4, .int l4_1), (3, .int l3_1), (0, .int p0), (1, .int p1)]) hx hb dX10_commonDivisor_24 rfl hl (by decide) rfl (fun ls hl => ?_)
          refine lv_iload hx hb dX10_commonDivisor_25 (lv_at hl 1 rfl) ?_
          refine lv_istore_n (lv' := [(3, .int t4), (2, .int l3_1), (5, .int t4), (4, .int l4_1), (0, .int p0), (1, .int p1)]) hx hb dX10_commonDivisor_27 rfl hl (by decide) rfl (fun ls hl => ?_)
          obtain ⟨t5, et5⟩ : ∃ y : Int32, y = l4_1 + 1 := ⟨_, rfl⟩
          have rg6 := fb_rng l4_1
          have zt5 : t5.toInt = l4_1.toInt + 1 := by rw [et5]; exact add_i rfl (by decide) (by omega) (by omega)
          refine lv_iinc (v := t5) (lv' := [(4, .int t5), (3, .int t4), (2, .int l3_1), (5, .int t4), (0, .int p0), (1, .int p1)]) hx hb dX10_commonDivisor_28 hl (k := 3) rfl (by rw [et5]; rfl) (by decide) rfl (fun ls hl => ?_)
          refine lv_goto (tgt := 7) hx hb dX10_commonDivisor_31 (by decide) ?_
          have rg7 := fb_rng t5
          exact ih1 l3_1 t4 t5 ⟨show (0 : Int) ≤ t5.toInt by omega, show t5.toInt ≤ (2147483647 : Int) by omega⟩ (by show (2147483647 - t5.toInt).toNat < n1; omega) _ _ _ hP hD hS (lv_sub hl [0, 1, 2, 4, 5] rfl)
  exact lp1 _ p0 p1 0 ⟨by decide, by decide⟩ (Nat.lt_succ_self _) _ _ _ hP hD hS (lv_sub hl [0, 1, 2, 3, 4] rfl)
set_option maxHeartbeats 4000000 in
set_option maxRecDepth 100000 in
theorem sX_X10_odds_1 (l : Launch) (dC : Nat → ClassId) (dI : Nat → Nat → Nat) (cy : Nat → ClassId) (x0 : Nat) (x : Nat → Nat) (p1 : Int32) (p2 : Int32) (v : Nat → Int32) (f : Nat → Nat → Int32) (hIv : XI v)  : ctI l (dC, dI) cy yX10_odds cX10_odds 6 .int 2 85 0 0 Unit [.ref x0, .int p1, .int p2] (XW cy x0 x v f) (fun r u => True) (fun u => XW cy x0 x v f) := by
  refine ctI_of (by decide) (Nat.le_of_ble_eq_true rfl) (fun p e s m below meth c A ls Q hx hb hml hts hown hE hP hD hA hl ret => ?_)
  have hown : s.vm.findClass RX10 = some m.cls := hown
  have hS : va_S A s.heap s.heap [] := va_S.rf
  have hl : lv_has ls 6 [(0, .ref x0), (1, .int p1), (2, .int p2)] := hl
  refine lv_iload_n hx hb dX10_odds_0 rfl (lv_at hl 1 rfl) ?_
  refine lv_if_lt (tgt := 18) hx hb dX10_odds_1 (by decide) (fun c1 => ?_) (fun c1 => ?_)
  · skip
    have zc1 : p1.toInt < 0 := by rw [fa_lt, show (0 : Int32).toInt = 0 from by decide] at c1; exact c1
    refine lv_iconst (v := (-1)) hx hb dX10_odds_18 (by decide) ?_
    exact ret (-1) () _ _ _ _ _ _ rfl trivial hP hD hS dX10_odds_19 (Nat.le_refl _) (Nat.le_refl _)
  · skip
    have zc1 : ¬ (p1.toInt < 0) := by rw [fa_lt, show (0 : Int32).toInt = 0 from by decide] at c1; exact c1
    refine lv_iload_n hx hb dX10_odds_4 rfl (lv_at hl 1 rfl) ?_
    refine lv_iconst (v := 4) hx hb dX10_odds_5 (by decide) ?_
    refine lv_icmp_gt (tgt := 18) hx hb dX10_odds_6 (by decide) (fun c2 => ?_) (fun c2 => ?_)
    · skip
      have zc2 : 4 < p1.toInt := by rw [fa_lt, show (4 : Int32).toInt = 4 from by decide] at c2; exact c2
      refine lv_iconst (v := (-1)) hx hb dX10_odds_18 (by decide) ?_
      exact ret (-1) () _ _ _ _ _ _ rfl trivial hP hD hS dX10_odds_19 (Nat.le_refl _) (Nat.le_refl _)
    · skip
      have zc2 : ¬ (4 < p1.toInt) := by rw [fa_lt, show (4 : Int32).toInt = 4 from by decide] at c2; exact c2
      refine lv_iload_n hx hb dX10_odds_9 rfl (lv_at hl 2 rfl) ?_
      refine lv_if_lt (tgt := 18) hx hb dX10_odds_10 (by decide) (fun c3 => ?_) (fun c3 => ?_)
      · skip
        have zc3 : p2.toInt < 0 := by rw [fa_lt, show (0 : Int32).toInt = 0 from by decide] at c3; exact c3
        refine lv_iconst (v := (-1)) hx hb dX10_odds_18 (by decide) ?_
        exact ret (-1) () _ _ _ _ _ _ rfl trivial hP hD hS dX10_odds_19 (Nat.le_refl _) (Nat.le_refl _)
      · skip
        have zc3 : ¬ (p2.toInt < 0) := by rw [fa_lt, show (0 : Int32).toInt = 0 from by decide] at c3; exact c3
        refine lv_iload_n hx hb dX10_odds_13 rfl (lv_at hl 2 rfl) ?_
        refine lv_iconst (v := 1) hx hb dX10_odds_14 (by decide) ?_
        refine lv_icmp_le (tgt := 20) hx hb dX10_odds_15 (by decide) (fun c4 => ?_) (fun c4 => ?_)
        · skip
          have zc4 : p2.toInt ≤ 1 := by rw [fa_le, show (1 : Int32).toInt = 1 from by decide] at c4; exact c4
          refine lv_iconst (v := 1) hx hb dX10_odds_20 (by decide) ?_
          refine lv_istore_n (lv' := [(3, .int 1), (0, .ref x0), (1, .int p1), (2, .int p2)]) hx hb dX10_odds_21 rfl hl (by decide) rfl (fun ls hl => ?_)
          refine lv_iconst (v := 1) hx hb dX10_odds_22 (by decide) ?_
          refine lv_istore (lv' := [(4, .int 1), (3, .int 1), (0, .ref x0), (1, .int p1), (2, .int p2)]) hx hb dX10_odds_23 hl (by decide) rfl (fun ls hl => ?_)
          refine lv_iconst (v := 0) hx hb dX10_odds_25 (by decide) ?_
          refine lv_istore (lv' := [(5, .int 0), (4, .int 1), (3, .int 1), (0, .ref x0), (1, .int p1), (2, .int p2)]) hx hb dX10_odds_26 hl (by decide) rfl (fun ls hl => ?_)
          have lp5 : ∀ (n5 : Nat) (l3_5 : Int32) (l4_5 : Int32) (l5_5 : Int32), ((0 : Int) ≤ l5_5.toInt ∧ l5_5.toInt ≤ 2147483647) → (2147483647 - l5_5.toInt).toNat < n5 → ∀ (H : Heap) (locs : List Loc) (ls : Array Slot), va_P (dC, dI) vwCl (XW cy x0 x v f) H → va_D A (XW cy x0 x v f) → va_S A s.heap H locs → lv_has ls 6 [(5, .int l5_5), (4, .int l4_5), (3, .int l3_5), (0, .ref x0), (1, .int p1), (2, .int p2)] → W p l e { frames := 2, cells := 0, slots := 0, locals := 85 } s m ([.ref x0, .int p1, .int p2] : List Value).toArray below meth c H locs 0 0 Q (F0 m 28 ls []) := by
            intro n5
            induction n5 with
            | zero => intro l3_5 l4_5 l5_5 hr5_5 hm; exact absurd hm (Nat.not_lt_zero _)
            | succ n5 ih5 =>
              intro l3_5 l4_5 l5_5 hr5_5 hm5 H locs ls hP hD hS hl
              refine lv_iload hx hb dX10_odds_28 (lv_at hl 0 rfl) ?_
              refine lv_iload_n hx hb dX10_odds_30 rfl (lv_at hl 4 rfl) ?_
              refine lv_icmp_ge (tgt := 60) hx hb dX10_odds_31 (by decide) (fun c6 => ?_) (fun c6 => ?_)
              · skip
                have zc6 : p1.toInt ≤ l5_5.toInt := by rw [fa_le] at c6; exact c6
                have rg7 := fb_rng l5_5
                have rg8 := fb_rng p1
                refine lv_iload hx hb dX10_odds_60 (lv_at hl 1 rfl) ?_
                refine lv_iload_n hx hb dX10_odds_62 rfl (lv_at hl 2 rfl) ?_
                refine cbSi (n := 2) (rest := []) hx hb hml hown hts hE hP hD hS hA (sX_X10_commonDivisor_1 l dC dI cy x0 x l4_5 l3_5 v f hIv ) k_1211 k_1212 k_101 k_1213 (by decide +kernel) ⟨Nat.le_of_ble_eq_true rfl, Nat.le_of_ble_eq_true rfl⟩ (rfl) hl.1 rfl (Nat.le_of_ble_eq_true rfl) dX10_odds_63 (fun r9 u H locs hw hP hD hS => ?_)
                refine lv_istore (lv' := [(5, .int r9), (4, .int l4_5), (3, .int l3_5), (0, .ref x0), (1, .int p1), (2, .int p2)]) hx hb dX10_odds_66 hl (by decide) rfl (fun ls hl => ?_)
                refine lv_iload hx hb dX10_odds_68 (lv_at hl 0 rfl) ?_
                refine lv_iconst (v := 1) hx hb dX10_odds_70 (by decide) ?_
                refine lv_icmp_ge (tgt := 76) hx hb dX10_odds_71 (by decide) (fun c10 => ?_) (fun c10 => ?_)
                · skip
                  have zc10 : 1 ≤ r9.toInt := by rw [fa_le, show (1 : Int32).toInt = 1 from by decide] at c10; exact c10
                  refine lv_iload_n hx hb dX10_odds_76 rfl (lv_at hl 5 rfl) ?_
                  refine lv_if_ne (tgt := 84) hx hb dX10_odds_77 (by decide) (fun c11 => ?_) (fun c11 => ?_)
                  · skip
                    have zc11 : ¬ (p2.toInt = 0) := by rw [fa_eq, show (0 : Int32).toInt = 0 from by decide] at c11; exact c11
                    refine lv_iload hx hb dX10_odds_84 (lv_at hl 1 rfl) ?_
                    refine lv_iload hx hb dX10_odds_86 (lv_at hl 0 rfl) ?_
                    refine lv_idiv hx hb dX10_odds_88 (ne0 (by omega)) ?_
                    refine lv_topi (fun t12 et12 => ?_)
                    exact ret t12 () _ _ _ _ _ _ rfl trivial hP hD hS dX10_odds_89 (Nat.le_refl _) (Nat.le_refl _)
                  · skip
                    have zc11 : p2.toInt = 0 := by rw [fa_eq, show (0 : Int32).toInt = 0 from by decide] at c11; exact c11
                    refine lv_iload_n hx hb dX10_odds_80 rfl (lv_at hl 2 rfl) ?_
                    refine lv_goto (tgt := 86) hx hb dX10_odds_81 (by decide) ?_
                    refine lv_iload hx hb dX10_odds_86 (lv_at hl 0 rfl) ?_
                    refine lv_idiv hx hb dX10_odds_88 (ne0 (by omega)) ?_
                    refine lv_topi (fun t13 et13 => ?_)
                    exact ret t13 () _ _ _ _ _ _ rfl trivial hP hD hS dX10_odds_89 (Nat.le_refl _) (Nat.le_refl _)
                · skip
                  have zc10 : ¬ (1 ≤ r9.toInt) := by rw [fa_le, show (1 : Int32).toInt = 1 from by decide] at c10; exact c10
                  refine lv_iconst (v := (-1)) hx hb dX10_odds_74 (by decide) ?_
                  exact ret (-1) () _ _ _ _ _ _ rfl trivial hP hD hS dX10_odds_75 (Nat.le_refl _) (Nat.le_refl _)
              · skip
                have zc6 : ¬ (p1.toInt ≤ l5_5.toInt) := by rw [fa_le] at c6; exact c6
                have rg14 := fb_rng l5_5
                have rg15 := fb_rng p1
                refine lv_iload_n hx hb dX10_odds_34 rfl (lv_at hl 2 rfl) ?_
                refine lv_bipush (v := 100) hx hb dX10_odds_35 (by decide) ?_
                refine lv_aload_n hx hb dX10_odds_37 rfl (lv_at hl 3 rfl) ?_
                refine va_get (D := (dC, dI)) (ci := 10) (v := .ref (x 26)) (C := RX10) (T := TX10) (N := 10) hx hb hts inB_10 hown hE.1 hP 0 rfl rfl 2 (by decide) (hts _ k_493) (fun _ h9 => h9) rfl dX10_odds_38 ?_
                refine va_getN (D := (dC, dI)) (ci := 7) (v := .int (v 36)) (C := RX7) (T := TX7) (N := 10) hx hb hts inB_7 hown hE.1 hP 27 rfl rfl 8 (by decide) (va_Nw.use rfl (hE.2 _ k_241)) (fun _ h9 => h9) rfl dX10_odds_41 ?_
                refine lv_isub hx hb dX10_odds_44 ?_
                refine lv_topi (fun t16 et16 => ?_)
                refine lv_imul hx hb dX10_odds_45 ?_
                refine lv_topi (fun t17 et17 => ?_)
                refine lv_istore_n (lv' := [(3, .int t17), (5, .int l5_5), (4, .int l4_5), (0, .ref x0), (1, .int p1), (2, .int p2)]) hx hb dX10_odds_46 rfl hl (by decide) rfl (fun ls hl => ?_)
                refine lv_iload hx hb dX10_odds_47 (lv_at hl 2 rfl) ?_
                refine lv_bipush (v := 100) hx hb dX10_odds_49 (by decide) ?_
                refine lv_imul hx hb dX10_odds_51 ?_
                refine lv_topi (fun t18 et18 => ?_)
                refine lv_istore (lv' := [(4, .int t18), (3, .int t17), (5, .int l5_5), (0, .ref x0), (1, .int p1), (2, .int p2)]) hx hb dX10_odds_52 hl (by decide) rfl (fun ls hl => ?_)
                obtain ⟨t19, et19⟩ : ∃ y : Int32, y = l5_5 + 1 := ⟨_, rfl⟩
                have zt19 : t19.toInt = l5_5.toInt + 1 := by rw [et19]; exact add_i rfl (by decide) (by omega) (by omega)
                refine lv_iinc (v := t19) (lv' := [(5, .int t19), (4, .int t18), (3, .int t17), (0, .ref x0), (1, .int p1), (2, .int p2)]) hx hb dX10_odds_54 hl (k := 2) rfl (by rw [et19]; rfl) (by decide) rfl (fun ls hl => ?_)
                refine lv_goto (tgt := 28) hx hb dX10_odds_57 (by decide) ?_
                have rg20 := fb_rng t19
                exact ih5 t17 t18 t19 ⟨show (0 : Int) ≤ t19.toInt by omega, show t19.toInt ≤ (2147483647 : Int) by omega⟩ (by show (2147483647 - t19.toInt).toNat < n5; omega) _ _ _ hP hD hS (lv_sub hl [0, 1, 2, 3, 4, 5] rfl)
          exact lp5 _ 1 1 0 ⟨by decide, by decide⟩ (Nat.lt_succ_self _) _ _ _ hP hD hS (lv_sub hl [0, 1, 2, 3, 4, 5] rfl)
        · skip
          have zc4 : ¬ (p2.toInt ≤ 1) := by rw [fa_le, show (1 : Int32).toInt = 1 from by decide] at c4; exact c4
          refine lv_iconst (v := (-1)) hx hb dX10_odds_18 (by decide) ?_
          exact ret (-1) () _ _ _ _ _ _ rfl trivial hP hD hS dX10_odds_19 (Nat.le_refl _) (Nat.le_refl _)
set_option maxHeartbeats 4000000 in
set_option maxRecDepth 100000 in
theorem sX_X0_lying_1 (l : Launch) (dC : Nat → ClassId) (dI : Nat → Nat → Nat) (cy : Nat → ClassId) (x0 : Nat) (x : Nat → Nat) (p1 : Int32) (v : Nat → Int32) (f : Nat → Nat → Int32) (hIv : XI v)  : ctI l (dC, dI) cy yX0_lying cX0_lying 2 .int 1 60 0 0 Unit [.ref (x 31), .int p1] (XW cy x0 x v f) (fun r u => True) (fun u => XW cy x0 x v f) := by
  refine ctI_of (by decide) (Nat.le_of_ble_eq_true rfl) (fun p e s m below meth c A ls Q hx hb hml hts hown hE hP hD hA hl ret => ?_)
  have hown : s.vm.findClass RX0 = some m.cls := hown
  have hS : va_S A s.heap s.heap [] := va_S.rf
  have hl : lv_has ls 2 [(0, .ref (x 31)), (1, .int p1)] := hl
  refine lv_iload_n hx hb dX0_lying_0 rfl (lv_at hl 1 rfl) ?_
  refine lv_if_lt (tgt := 30) hx hb dX0_lying_1 (by decide) (fun c1 => ?_) (fun c1 => ?_)
  · skip
    have zc1 : p1.toInt < 0 := by rw [fa_lt, show (0 : Int32).toInt = 0 from by decide] at c1; exact c1
    refine lv_bipush (v := (-2)) hx hb dX0_lying_30 (by decide) ?_
    exact ret (-2) () _ _ _ _ _ _ rfl trivial hP hD hS dX0_lying_32 (Nat.le_refl _) (Nat.le_refl _)
  · skip
    have zc1 : ¬ (p1.toInt < 0) := by rw [fa_lt, show (0 : Int32).toInt = 0 from by decide] at c1; exact c1
    refine lv_iload_n hx hb dX0_lying_4 rfl (lv_at hl 1 rfl) ?_
    refine lv_aload_n hx hb dX0_lying_5 rfl (lv_at hl 0 rfl) ?_
    refine va_get (D := (dC, dI)) (ci := 0) (v := .int (v 38)) (C := RX0) (T := TX0) (N := 8) hx hb hts inB_0 hown hE.1 hP 32 rfl rfl 3 (by decide) (hts _ k_433) (fun _ h9 => h9) rfl dX0_lying_6 ?_
    have b38_v : 0 ≤ (v 38).toInt ∧ (v 38).toInt ≤ 6 := XI.b hIv 38 (by decide)
    refine lv_icmp_ge (tgt := 30) hx hb dX0_lying_9 (by decide) (fun c2 => ?_) (fun c2 => ?_)
    · skip
      have zc2 : (v 38).toInt ≤ p1.toInt := by rw [fa_le] at c2; exact c2
      have rg3 := fb_rng p1
      have rg4 := fb_rng (v 38)
      refine lv_bipush (v := (-2)) hx hb dX0_lying_30 (by decide) ?_
      exact ret (-2) () _ _ _ _ _ _ rfl trivial hP hD hS dX0_lying_32 (Nat.le_refl _) (Nat.le_refl _)
    · skip
      have zc2 : ¬ ((v 38).toInt ≤ p1.toInt) := by rw [fa_le] at c2; exact c2
      have rg5 := fb_rng p1
      have rg6 := fb_rng (v 38)
      refine lv_iload_n hx hb dX0_lying_12 rfl (lv_at hl 1 rfl) ?_
      refine lv_aload_n hx hb dX0_lying_13 rfl (lv_at hl 0 rfl) ?_
      refine va_get (D := (dC, dI)) (ci := 0) (v := .ref (x 32)) (C := RX0) (T := TX0) (N := 8) hx hb hts inB_0 hown hE.1 hP 32 rfl rfl 2 (by decide) (hts _ k_432) (fun _ h9 => h9) rfl dX0_lying_14 ?_
      refine va_alen (v := 6) hx hb hE.1 hP 33 1 rfl rfl rfl dX0_lying_17 ?_
      refine lv_icmp_ge (tgt := 30) hx hb dX0_lying_18 (by decide) (fun c7 => ?_) (fun c7 => ?_)
      · skip
        have zc7 : 6 ≤ p1.toInt := by rw [fa_le, show (6 : Int32).toInt = 6 from by decide] at c7; exact c7
        refine lv_bipush (v := (-2)) hx hb dX0_lying_30 (by decide) ?_
        exact ret (-2) () _ _ _ _ _ _ rfl trivial hP hD hS dX0_lying_32 (Nat.le_refl _) (Nat.le_refl _)
      · skip
        have zc7 : ¬ (6 ≤ p1.toInt) := by rw [fa_le, show (6 : Int32).toInt = 6 from by decide] at c7; exact c7
        refine lv_aload_n hx hb dX0_lying_21 rfl (lv_at hl 0 rfl) ?_
        refine va_get (D := (dC, dI)) (ci := 0) (v := .ref (x 32)) (C := RX0) (T := TX0) (N := 8) hx hb hts inB_0 hown hE.1 hP 32 rfl rfl 2 (by decide) (hts _ k_432) (fun _ h9 => h9) rfl dX0_lying_22 ?_
        refine lv_iload_n hx hb dX0_lying_25 rfl (lv_at hl 1 rfl) ?_
        refine ldI hx hb hE hP 33 rfl (vp_in_iff.mpr ⟨by omega, by omega⟩) rfl rfl dX0_lying_26 ?_
        refine lv_topi (fun t8 et8 => ?_)
        refine lv_goto (tgt := 32) hx hb dX0_lying_27 (by decide) ?_
        exact ret t8 () _ _ _ _ _ _ rfl trivial hP hD hS dX0_lying_32 (Nat.le_refl _) (Nat.le_refl _)
set_option maxHeartbeats 4000000 in
set_option maxRecDepth 100000 in
theorem sX_X10_lies_1 (l : Launch) (dC : Nat → ClassId) (dI : Nat → Nat → Nat) (cy : Nat → ClassId) (x0 : Nat) (x : Nat → Nat) (p1 : Int32) (v : Nat → Int32) (f : Nat → Nat → Int32) (hIv : XI v)  : ctI l (dC, dI) cy yX10_lies cX10_lies 2 .int 2 81 0 0 Unit [.ref x0, .int p1] (XW cy x0 x v f) (fun r u => True) (fun u => XW cy x0 x v f) := by
  refine ctI_of (by decide) (Nat.le_of_ble_eq_true rfl) (fun p e s m below meth c A ls Q hx hb hml hts hown hE hP hD hA hl ret => ?_)
  have hown : s.vm.findClass RX10 = some m.cls := hown
  have hS : va_S A s.heap s.heap [] := va_S.rf
  have hl : lv_has ls 2 [(0, .ref x0), (1, .int p1)] := hl
  refine lv_aload_n hx hb dX10_lies_0 rfl (lv_at hl 0 rfl) ?_
  refine va_get (D := (dC, dI)) (ci := 10) (v := .ref (x 31)) (C := RX10) (T := TX10) (N := 10) hx hb hts inB_10 hown hE.1 hP 0 rfl rfl 7 (by decide) (hts _ k_498) (fun _ h9 => h9) rfl dX10_lies_1 ?_
  refine lv_iload_n hx hb dX10_lies_4 rfl (lv_at hl 1 rfl) ?_
  refine cbVi (n := 1) (rest := []) hx hb hml hown hts hE hP hD hS hA (sX_X0_lying_1 l dC dI cy x0 x p1 v f hIv ) k_1218 k_1219 k_1220 k_111 k_1221 (by decide +kernel) ⟨Nat.le_of_ble_eq_true rfl, Nat.le_of_ble_eq_true rfl⟩ 32 0 rfl rfl (rfl) hl.1 rfl (Nat.le_of_ble_eq_true rfl) dX10_lies_5 (fun r1 u H locs hw hP hD hS => ?_)
  exact ret r1 () _ _ _ _ _ _ rfl trivial hP hD hS dX10_lies_8 (Nat.le_refl _) (Nat.le_refl _)
set_option maxHeartbeats 4000000 in
set_option maxRecDepth 100000 in
theorem sX_X8_tell_1 (l : Launch) (dC : Nat → ClassId) (dI : Nat → Nat → Nat) (cy : Nat → ClassId) (x0 : Nat) (x : Nat → Nat) (p1 : Int32) (p2 : Int32) (p3 : Int32) (v : Nat → Int32) (f : Nat → Nat → Int32) (hIv : XI v)  : ctI l (dC, dI) cy yX8_tell cX8_tell 4 .int 1 60 0 0 ((Nat → Int32) × (Nat → Nat → Int32)) [.ref (x 35), .int p1, .int p2, .int p3] (XW cy x0 x v f) (fun r u => u.2 0 = f 0 ∧ XI u.1 ∧ u.1 0 = v 0 ∧ u.1 1 = v 1 ∧ u.1 7 = v 7 ∧ u.1 8 = v 8 ∧ u.1 9 = v 9 ∧ u.1 10 = v 10 ∧ u.1 31 = v 31 ∧ u.1 32 = v 32) (fun u => XW cy x0 x u.1 u.2) := by
  refine ctI_of (by decide) (Nat.le_of_ble_eq_true rfl) (fun p e s m below meth c A ls Q hx hb hml hts hown hE hP hD hA hl ret => ?_)
  have ha0_f : f 0 = f 0 := rfl
  have hown : s.vm.findClass RX8 = some m.cls := hown
  have hS : va_S A s.heap s.heap [] := va_S.rf
  have hl : lv_has ls 4 [(0, .ref (x 35)), (1, .int p1), (2, .int p2), (3, .int p3)] := hl
  refine lv_iload_n hx hb dX8_tell_0 rfl (lv_at hl 1 rfl) ?_
  refine lv_if_lt (tgt := 19) hx hb dX8_tell_1 (by decide) (fun c1 => ?_) (fun c1 => ?_)
  · skip
    have zc1 : p1.toInt < 0 := by rw [fa_lt, show (0 : Int32).toInt = 0 from by decide] at c1; exact c1
    refine lv_iconst (v := (-1)) hx hb dX8_tell_19 (by decide) ?_
    exact ret (-1) (v, f) _ _ _ _ _ _ rfl ⟨ha0_f, hIv, rfl, rfl, rfl, rfl, rfl, rfl, rfl, rfl⟩ hP hD hS dX8_tell_20 (Nat.le_refl _) (Nat.le_refl _)
  · skip
    have zc1 : ¬ (p1.toInt < 0) := by rw [fa_lt, show (0 : Int32).toInt = 0 from by decide] at c1; exact c1
    refine lv_iload_n hx hb dX8_tell_4 rfl (lv_at hl 1 rfl) ?_
    refine lv_bipush (v := 20) hx hb dX8_tell_5 (by decide) ?_
    refine lv_icmp_gt (tgt := 19) hx hb dX8_tell_7 (by decide) (fun c2 => ?_) (fun c2 => ?_)
    · skip
      have zc2 : 20 < p1.toInt := by rw [fa_lt, show (20 : Int32).toInt = 20 from by decide] at c2; exact c2
      refine lv_iconst (v := (-1)) hx hb dX8_tell_19 (by decide) ?_
      exact ret (-1) (v, f) _ _ _ _ _ _ rfl ⟨ha0_f, hIv, rfl, rfl, rfl, rfl, rfl, rfl, rfl, rfl⟩ hP hD hS dX8_tell_20 (Nat.le_refl _) (Nat.le_refl _)
    · skip
      have zc2 : ¬ (20 < p1.toInt) := by rw [fa_lt, show (20 : Int32).toInt = 20 from by decide] at c2; exact c2
      refine lv_aload_n hx hb dX8_tell_10 rfl (lv_at hl 0 rfl) ?_
      refine va_get (D := (dC, dI)) (ci := 8) (v := .int (v 41)) (C := RX8) (T := TX8) (N := 7) hx hb hts inB_8 hown hE.1 hP 36 rfl rfl 5 (by decide) (hts _ k_472) (fun _ h9 => h9) rfl dX8_tell_11 ?_
      have b41_v : 0 ≤ (v 41).toInt ∧ (v 41).toInt ≤ 30 := XI.b hIv 41 (by decide)
      refine lv_bipush (v := 30) hx hb dX8_tell_14 (by decide) ?_
      refine lv_icmp_lt (tgt := 21) hx hb dX8_tell_16 (by decide) (fun c3 => ?_) (fun c3 => ?_)
      · skip
        have zc3 : (v 41).toInt < 30 := by rw [fa_lt, show (30 : Int32).toInt = 30 from by decide] at c3; exact c3
        refine lv_aload_n hx hb dX8_tell_21 rfl (lv_at hl 0 rfl) ?_
        refine va_get (D := (dC, dI)) (ci := 8) (v := .ref (x 36)) (C := RX8) (T := TX8) (N := 7) hx hb hts inB_8 hown hE.1 hP 36 rfl rfl 1 (by decide) (hts _ k_468) (fun _ h9 => h9) rfl dX8_tell_22 ?_
        refine lv_aload_n hx hb dX8_tell_25 rfl (lv_at hl 0 rfl) ?_
        refine va_get (D := (dC, dI)) (ci := 8) (v := .int (v 41)) (C := RX8) (T := TX8) (N := 7) hx hb hts inB_8 hown hE.1 hP 36 rfl rfl 5 (by decide) (hts _ k_472) (fun _ h9 => h9) rfl dX8_tell_26 ?_
        refine lv_iload_n hx hb dX8_tell_29 rfl (lv_at hl 1 rfl) ?_
        refine stI hx hb hE hP hD hS 37 rfl (vp_in_iff.mpr ⟨by omega, by omega⟩) rfl dX8_tell_30 (fun H locs hP hD hS => ?_)
        obtain ⟨f4, ef4, hP, hD⟩ : ∃ fz9, fz9 = upd2 f 23 (upd (f 23) (v 41).toNatClampNeg p1) ∧ va_P (dC, dI) vwCl (XW cy x0 x v fz9) H ∧ va_D A (XW cy x0 x v fz9) := ⟨_, rfl, hP, hD⟩
        have ha0_f4 : f4 0 = f 0 := by rw [ef4]; exact ha0_f
        refine lv_aload_n hx hb dX8_tell_31 rfl (lv_at hl 0 rfl) ?_
        refine va_get (D := (dC, dI)) (ci := 8) (v := .ref (x 37)) (C := RX8) (T := TX8) (N := 7) hx hb hts inB_8 hown hE.1 hP 36 rfl rfl 2 (by decide) (hts _ k_469) (fun _ h9 => h9) rfl dX8_tell_32 ?_
        refine lv_aload_n hx hb dX8_tell_35 rfl (lv_at hl 0 rfl) ?_
        refine va_get (D := (dC, dI)) (ci := 8) (v := .int (v 41)) (C := RX8) (T := TX8) (N := 7) hx hb hts inB_8 hown hE.1 hP 36 rfl rfl 5 (by decide) (hts _ k_472) (fun _ h9 => h9) rfl dX8_tell_36 ?_
        refine lv_iload_n hx hb dX8_tell_39 rfl (lv_at hl 2 rfl) ?_
        refine stZ hx hb hE hP hD hS 38 rfl (vp_in_iff.mpr ⟨by omega, by omega⟩) rfl dX8_tell_40 (fun H locs hP hD hS => ?_)
        obtain ⟨f5, ef5, hP, hD⟩ : ∃ fz9, fz9 = upd2 f4 24 (upd (f4 24) (v 41).toNatClampNeg (vp_nar .boolean p2)) ∧ va_P (dC, dI) vwCl (XW cy x0 x v fz9) H ∧ va_D A (XW cy x0 x v fz9) := ⟨_, rfl, hP, hD⟩
        have ha0_f5 : f5 0 = f 0 := by rw [ef5]; exact ha0_f4
        refine lv_aload_n hx hb dX8_tell_41 rfl (lv_at hl 0 rfl) ?_
        refine va_get (D := (dC, dI)) (ci := 8) (v := .ref (x 38)) (C := RX8) (T := TX8) (N := 7) hx hb hts inB_8 hown hE.1 hP 36 rfl rfl 3 (by decide) (hts _ k_470) (fun _ h9 => h9) rfl dX8_tell_42 ?_
        refine lv_aload_n hx hb dX8_tell_45 rfl (lv_at hl 0 rfl) ?_
        refine va_get (D := (dC, dI)) (ci := 8) (v := .int (v 41)) (C := RX8) (T := TX8) (N := 7) hx hb hts inB_8 hown hE.1 hP 36 rfl rfl 5 (by decide) (hts _ k_472) (fun _ h9 => h9) rfl dX8_tell_46 ?_
        refine lv_iload_n hx hb dX8_tell_49 rfl (lv_at hl 3 rfl) ?_
        refine stI hx hb hE hP hD hS 39 rfl (vp_in_iff.mpr ⟨by omega, by omega⟩) rfl dX8_tell_50 (fun H locs hP hD hS => ?_)
        obtain ⟨f6, ef6, hP, hD⟩ : ∃ fz9, fz9 = upd2 f5 25 (upd (f5 25) (v 41).toNatClampNeg p3) ∧ va_P (dC, dI) vwCl (XW cy x0 x v fz9) H ∧ va_D A (XW cy x0 x v fz9) := ⟨_, rfl, hP, hD⟩
        have ha0_f6 : f6 0 = f 0 := by rw [ef6]; exact ha0_f5
        refine lv_aload_n hx hb dX8_tell_51 rfl (lv_at hl 0 rfl) ?_
        refine va_get (D := (dC, dI)) (ci := 8) (v := .ref (x 39)) (C := RX8) (T := TX8) (N := 7) hx hb hts inB_8 hown hE.1 hP 36 rfl rfl 4 (by decide) (hts _ k_471) (fun _ h9 => h9) rfl dX8_tell_52 ?_
        refine lv_aload_n hx hb dX8_tell_55 rfl (lv_at hl 0 rfl) ?_
        refine va_get (D := (dC, dI)) (ci := 8) (v := .int (v 41)) (C := RX8) (T := TX8) (N := 7) hx hb hts inB_8 hown hE.1 hP 36 rfl rfl 5 (by decide) (hts _ k_472) (fun _ h9 => h9) rfl dX8_tell_56 ?_
        refine lv_iconst (v := (-1)) hx hb dX8_tell_59 (by decide) ?_
        refine stI hx hb hE hP hD hS 40 rfl (vp_in_iff.mpr ⟨by omega, by omega⟩) rfl dX8_tell_60 (fun H locs hP hD hS => ?_)
        obtain ⟨f7, ef7, hP, hD⟩ : ∃ fz9, fz9 = upd2 f6 26 (upd (f6 26) (v 41).toNatClampNeg (-1)) ∧ va_P (dC, dI) vwCl (XW cy x0 x v fz9) H ∧ va_D A (XW cy x0 x v fz9) := ⟨_, rfl, hP, hD⟩
        have ha0_f7 : f7 0 = f 0 := by rw [ef7]; exact ha0_f6
        refine lv_aload_n hx hb dX8_tell_61 rfl (lv_at hl 0 rfl) ?_
        refine lv_dup hx hb dX8_tell_62 rfl ?_
        refine va_get (D := (dC, dI)) (ci := 8) (v := .int (v 41)) (C := RX8) (T := TX8) (N := 7) hx hb hts inB_8 hown hE.1 hP 36 rfl rfl 5 (by decide) (hts _ k_472) (fun _ h9 => h9) rfl dX8_tell_63 ?_
        refine lv_iconst (v := 1) hx hb dX8_tell_66 (by decide) ?_
        refine lv_iadd hx hb dX8_tell_67 ?_
        refine lv_topi (fun t8 et8 => ?_)
        have rg9 := fb_rng (v 41)
        have zt8 : t8.toInt = (v 41).toInt + 1 := by rw [et8]; exact add_i rfl (by decide) (by omega) (by omega)
        refine va_put (D := (dC, dI)) (ci := 8) (v := .int t8) (ty := tyX8 5) (C := RX8) (T := TX8) (N := 7) hx hb hts inB_8 tyX8 tyX8_ok nmX8 hown hE.1 hP hD hS 36 rfl rfl 5 (by decide) (hts _ k_472) (fun _ h9 => h9) rfl (tyX8_ok 5 (by decide)) rfl rfl (Nat.le_of_ble_eq_true rfl) dX8_tell_68 (fun H locs hP hD hS => ?_)
        have hP : va_P (dC, dI) vwCl (XW cy x0 x (upd v 41 t8) f7) H := hP
        have hD : va_D A (XW cy x0 x (upd v 41 t8) f7) := hD
        refine lv_aload_n hx hb dX8_tell_71 rfl (lv_at hl 0 rfl) ?_
        refine va_get (D := (dC, dI)) (ci := 8) (v := .int t8) (C := RX8) (T := TX8) (N := 7) hx hb hts inB_8 hown hE.1 hP 36 rfl rfl 5 (by decide) (hts _ k_472) (fun _ h9 => h9) rfl dX8_tell_72 ?_
        refine lv_iconst (v := 1) hx hb dX8_tell_75 (by decide) ?_
        refine lv_isub hx hb dX8_tell_76 ?_
        refine lv_topi (fun t10 et10 => ?_)
        have rg11 := fb_rng t8
        have zt10 : t10.toInt = t8.toInt - 1 := by rw [et10]; exact sub_i rfl (by decide) (by omega) (by omega)
        exact ret t10 ((upd v 41 t8), f7) _ _ _ _ _ _ rfl ⟨ha0_f7, (XI.upd (j := 41) (x := t8) hIv (show (0 : Int) ≤ t8.toInt by omega) (show t8.toInt ≤ (30 : Int) by omega)), rfl, rfl, rfl, rfl, rfl, rfl, rfl, rfl⟩ hP hD hS dX8_tell_77 (Nat.le_refl _) (Nat.le_refl _)
      · skip
        have zc3 : ¬ ((v 41).toInt < 30) := by rw [fa_lt, show (30 : Int32).toInt = 30 from by decide] at c3; exact c3
        refine lv_iconst (v := (-1)) hx hb dX8_tell_19 (by decide) ?_
        exact ret (-1) (v, f) _ _ _ _ _ _ rfl ⟨ha0_f, hIv, rfl, rfl, rfl, rfl, rfl, rfl, rfl, rfl⟩ hP hD hS dX8_tell_20 (Nat.le_refl _) (Nat.le_refl _)
set_option maxHeartbeats 4000000 in
set_option maxRecDepth 100000 in
theorem sX_X10_seen_1 (l : Launch) (dC : Nat → ClassId) (dI : Nat → Nat → Nat) (cy : Nat → ClassId) (x0 : Nat) (x : Nat → Nat) (p1 : Int32) (p2 : Int32) (v : Nat → Int32) (f : Nat → Nat → Int32) (hIv : XI v)  : ctI l (dC, dI) cy yX10_seen cX10_seen 3 .int 2 83 0 0 ((Nat → Int32) × (Nat → Nat → Int32)) [.ref x0, .int p1, .int p2] (XW cy x0 x v f) (fun r u => u.2 0 = f 0 ∧ XI u.1 ∧ u.1 0 = v 0 ∧ u.1 1 = v 1 ∧ u.1 7 = v 7 ∧ u.1 8 = v 8 ∧ u.1 9 = v 9 ∧ u.1 10 = v 10 ∧ u.1 31 = v 31 ∧ u.1 32 = v 32) (fun u => XW cy x0 x u.1 u.2) := by
  refine ctI_of (by decide) (Nat.le_of_ble_eq_true rfl) (fun p e s m below meth c A ls Q hx hb hml hts hown hE hP hD hA hl ret => ?_)
  have ha0_f : f 0 = f 0 := rfl
  have hown : s.vm.findClass RX10 = some m.cls := hown
  have hS : va_S A s.heap s.heap [] := va_S.rf
  have hl : lv_has ls 3 [(0, .ref x0), (1, .int p1), (2, .int p2)] := hl
  refine lv_aload_n hx hb dX10_seen_0 rfl (lv_at hl 0 rfl) ?_
  refine va_get (D := (dC, dI)) (ci := 10) (v := .ref (x 26)) (C := RX10) (T := TX10) (N := 10) hx hb hts inB_10 hown hE.1 hP 0 rfl rfl 2 (by decide) (hts _ k_493) (fun _ h9 => h9) rfl dX10_seen_1 ?_
  refine va_getN (D := (dC, dI)) (ci := 7) (v := .int (v 31)) (C := RX7) (T := TX7) (N := 10) hx hb hts inB_7 hown hE.1 hP 27 rfl rfl 3 (by decide) (va_Nw.use rfl (hE.2 _ k_214)) (fun _ h9 => h9) rfl dX10_seen_4 ?_
  have b31_v : 0 ≤ (v 31).toInt ∧ (v 31).toInt ≤ 6 := XI.b hIv 31 (by decide)
  refine lv_if_eq (tgt := 20) hx hb dX10_seen_7 (by decide) (fun c1 => ?_) (fun c1 => ?_)
  · skip
    have zc1 : (v 31).toInt = 0 := by rw [fa_eq, show (0 : Int32).toInt = 0 from by decide] at c1; exact c1
    refine lv_iconst (v := (-1)) hx hb dX10_seen_20 (by decide) ?_
    exact ret (-1) (v, f) _ _ _ _ _ _ rfl ⟨ha0_f, hIv, rfl, rfl, rfl, rfl, rfl, rfl, rfl, rfl⟩ hP hD hS dX10_seen_21 (Nat.le_refl _) (Nat.le_refl _)
  · skip
    have zc1 : ¬ ((v 31).toInt = 0) := by rw [fa_eq, show (0 : Int32).toInt = 0 from by decide] at c1; exact c1
    refine lv_aload_n hx hb dX10_seen_10 rfl (lv_at hl 0 rfl) ?_
    refine va_get (D := (dC, dI)) (ci := 10) (v := .ref (x 26)) (C := RX10) (T := TX10) (N := 10) hx hb hts inB_10 hown hE.1 hP 0 rfl rfl 2 (by decide) (hts _ k_493) (fun _ h9 => h9) rfl dX10_seen_11 ?_
    refine va_getN (D := (dC, dI)) (ci := 7) (v := .int (v 32)) (C := RX7) (T := TX7) (N := 10) hx hb hts inB_7 hown hE.1 hP 27 rfl rfl 4 (by decide) (va_Nw.use rfl (hE.2 _ k_227)) (fun _ h9 => h9) rfl dX10_seen_14 ?_
    have b32_v : 0 ≤ (v 32).toInt ∧ (v 32).toInt ≤ 6 := XI.b hIv 32 (by decide)
    refine lv_if_ne (tgt := 22) hx hb dX10_seen_17 (by decide) (fun c2 => ?_) (fun c2 => ?_)
    · skip
      have zc2 : ¬ ((v 32).toInt = 0) := by rw [fa_eq, show (0 : Int32).toInt = 0 from by decide] at c2; exact c2
      refine lv_aload_n hx hb dX10_seen_22 rfl (lv_at hl 0 rfl) ?_
      refine va_get (D := (dC, dI)) (ci := 10) (v := .ref (x 35)) (C := RX10) (T := TX10) (N := 10) hx hb hts inB_10 hown hE.1 hP 0 rfl rfl 8 (by decide) (hts _ k_499) (fun _ h9 => h9) rfl dX10_seen_23 ?_
      refine lv_iload_n hx hb dX10_seen_26 rfl (lv_at hl 1 rfl) ?_
      refine lv_iload_n hx hb dX10_seen_27 rfl (lv_at hl 2 rfl) ?_
      refine lv_aload_n hx hb dX10_seen_28 rfl (lv_at hl 0 rfl) ?_
      refine va_get (D := (dC, dI)) (ci := 10) (v := .int (v 0)) (C := RX10) (T := TX10) (N := 10) hx hb hts inB_10 hown hE.1 hP 0 rfl rfl 9 (by decide) (hts _ k_500) (fun _ h9 => h9) rfl dX10_seen_29 ?_
      have b0_v : 0 ≤ (v 0).toInt ∧ (v 0).toInt ≤ 100000 := XI.b hIv 0 (by decide)
      refine cbVi (n := 3) (rest := []) hx hb hml hown hts hE hP hD hS hA (sX_X8_tell_1 l dC dI cy x0 x p1 p2 (v 0) v f hIv ) k_1226 k_1227 k_1228 k_112 k_1229 (by decide +kernel) ⟨Nat.le_of_ble_eq_true rfl, Nat.le_of_ble_eq_true rfl⟩ 36 8 rfl rfl (rfl) hl.1 rfl (Nat.le_of_ble_eq_true rfl) dX10_seen_32 (fun r3 u H locs hw hP hD hS => ?_)
      obtain ⟨v4, f5⟩ := u
      obtain ⟨ka0_f5, hIv4, hk0_v4, hk1_v4, hk7_v4, hk8_v4, hk9_v4, hk10_v4, hk31_v4, hk32_v4⟩ := hw
      have ha0_f5 : f5 0 = f 0 := ka0_f5.trans ha0_f
      have hP : va_P (dC, dI) vwCl (XW cy x0 x v4 f5) H := hP
      have hD : va_D A (XW cy x0 x v4 f5) := hD
      have hq0_v4 : v4 0 = (v 0) := hk0_v4
      have hq1_v4 : v4 1 = (v 1) := hk1_v4
      have hq7_v4 : v4 7 = (v 7) := hk7_v4
      have hq8_v4 : v4 8 = (v 8) := hk8_v4
      have hq9_v4 : v4 9 = (v 9) := hk9_v4
      have hq10_v4 : v4 10 = (v 10) := hk10_v4
      have hq31_v4 : v4 31 = (v 31) := hk31_v4
      have hq32_v4 : v4 32 = (v 32) := hk32_v4
      exact ret r3 (v4, f5) _ _ _ _ _ _ rfl ⟨ha0_f5, hIv4, hk0_v4, hk1_v4, hk7_v4, hk8_v4, hk9_v4, hk10_v4, hk31_v4, hk32_v4⟩ hP hD hS dX10_seen_35 (Nat.le_refl _) (Nat.le_refl _)
    · skip
      have zc2 : (v 32).toInt = 0 := by rw [fa_eq, show (0 : Int32).toInt = 0 from by decide] at c2; exact c2
      refine lv_iconst (v := (-1)) hx hb dX10_seen_20 (by decide) ?_
      exact ret (-1) (v, f) _ _ _ _ _ _ rfl ⟨ha0_f, hIv, rfl, rfl, rfl, rfl, rfl, rfl, rfl, rfl⟩ hP hD hS dX10_seen_21 (Nat.le_refl _) (Nat.le_refl _)
set_option maxHeartbeats 4000000 in
set_option maxRecDepth 100000 in
theorem sX_X8_takeBack_1 (l : Launch) (dC : Nat → ClassId) (dI : Nat → Nat → Nat) (cy : Nat → ClassId) (x0 : Nat) (x : Nat → Nat) (p1 : Int32) (p2 : Int32) (v : Nat → Int32) (f : Nat → Nat → Int32) (hIv : XI v)  : ctI l (dC, dI) cy yX8_takeBack cX8_takeBack 3 .boolean 1 60 0 0 ((Nat → Int32) × (Nat → Nat → Int32)) [.ref (x 35), .int p1, .int p2] (XW cy x0 x v f) (fun r u => u.2 0 = f 0 ∧ XI u.1 ∧ u.1 0 = v 0 ∧ u.1 1 = v 1 ∧ u.1 7 = v 7 ∧ u.1 8 = v 8 ∧ u.1 9 = v 9 ∧ u.1 10 = v 10 ∧ u.1 31 = v 31 ∧ u.1 32 = v 32 ∧ ((r = 1) ∨ (r = 0))) (fun u => XW cy x0 x u.1 u.2) := by
  refine ctI_of (by decide) (Nat.le_of_ble_eq_true rfl) (fun p e s m below meth c A ls Q hx hb hml hts hown hE hP hD hA hl ret => ?_)
  have ha0_f : f 0 = f 0 := rfl
  have hown : s.vm.findClass RX8 = some m.cls := hown
  have hS : va_S A s.heap s.heap [] := va_S.rf
  have hl : lv_has ls 3 [(0, .ref (x 35)), (1, .int p1), (2, .int p2)] := hl
  refine lv_iload_n hx hb dX8_takeBack_0 rfl (lv_at hl 1 rfl) ?_
  refine lv_if_lt (tgt := 28) hx hb dX8_takeBack_1 (by decide) (fun c1 => ?_) (fun c1 => ?_)
  · skip
    have zc1 : p1.toInt < 0 := by rw [fa_lt, show (0 : Int32).toInt = 0 from by decide] at c1; exact c1
    refine lv_iconst (v := 0) hx hb dX8_takeBack_28 (by decide) ?_
    exact ret 0 (v, f) _ _ _ _ _ _ rfl ⟨ha0_f, hIv, rfl, rfl, rfl, rfl, rfl, rfl, rfl, rfl, (Or.inr rfl)⟩ hP hD hS dX8_takeBack_29 (Nat.le_refl _) (Nat.le_refl _)
  · skip
    have zc1 : ¬ (p1.toInt < 0) := by rw [fa_lt, show (0 : Int32).toInt = 0 from by decide] at c1; exact c1
    refine lv_iload_n hx hb dX8_takeBack_4 rfl (lv_at hl 1 rfl) ?_
    refine lv_aload_n hx hb dX8_takeBack_5 rfl (lv_at hl 0 rfl) ?_
    refine va_get (D := (dC, dI)) (ci := 8) (v := .int (v 41)) (C := RX8) (T := TX8) (N := 7) hx hb hts inB_8 hown hE.1 hP 36 rfl rfl 5 (by decide) (hts _ k_472) (fun _ h9 => h9) rfl dX8_takeBack_6 ?_
    have b41_v : 0 ≤ (v 41).toInt ∧ (v 41).toInt ≤ 30 := XI.b hIv 41 (by decide)
    refine lv_icmp_ge (tgt := 28) hx hb dX8_takeBack_9 (by decide) (fun c2 => ?_) (fun c2 => ?_)
    · skip
      have zc2 : (v 41).toInt ≤ p1.toInt := by rw [fa_le] at c2; exact c2
      have rg3 := fb_rng p1
      have rg4 := fb_rng (v 41)
      refine lv_iconst (v := 0) hx hb dX8_takeBack_28 (by decide) ?_
      exact ret 0 (v, f) _ _ _ _ _ _ rfl ⟨ha0_f, hIv, rfl, rfl, rfl, rfl, rfl, rfl, rfl, rfl, (Or.inr rfl)⟩ hP hD hS dX8_takeBack_29 (Nat.le_refl _) (Nat.le_refl _)
    · skip
      have zc2 : ¬ ((v 41).toInt ≤ p1.toInt) := by rw [fa_le] at c2; exact c2
      have rg5 := fb_rng p1
      have rg6 := fb_rng (v 41)
      refine lv_iload_n hx hb dX8_takeBack_12 rfl (lv_at hl 1 rfl) ?_
      refine lv_bipush (v := 30) hx hb dX8_takeBack_13 (by decide) ?_
      refine lv_icmp_ge (tgt := 28) hx hb dX8_takeBack_15 (by decide) (fun c7 => ?_) (fun c7 => ?_)
      · skip
        have zc7 : 30 ≤ p1.toInt := by rw [fa_le, show (30 : Int32).toInt = 30 from by decide] at c7; exact c7
        refine lv_iconst (v := 0) hx hb dX8_takeBack_28 (by decide) ?_
        exact ret 0 (v, f) _ _ _ _ _ _ rfl ⟨ha0_f, hIv, rfl, rfl, rfl, rfl, rfl, rfl, rfl, rfl, (Or.inr rfl)⟩ hP hD hS dX8_takeBack_29 (Nat.le_refl _) (Nat.le_refl _)
      · skip
        have zc7 : ¬ (30 ≤ p1.toInt) := by rw [fa_le, show (30 : Int32).toInt = 30 from by decide] at c7; exact c7
        refine lv_aload_n hx hb dX8_takeBack_18 rfl (lv_at hl 0 rfl) ?_
        refine va_get (D := (dC, dI)) (ci := 8) (v := .ref (x 39)) (C := RX8) (T := TX8) (N := 7) hx hb hts inB_8 hown hE.1 hP 36 rfl rfl 4 (by decide) (hts _ k_471) (fun _ h9 => h9) rfl dX8_takeBack_19 ?_
        refine lv_iload_n hx hb dX8_takeBack_22 rfl (lv_at hl 1 rfl) ?_
        refine ldI hx hb hE hP 40 rfl (vp_in_iff.mpr ⟨by omega, by omega⟩) rfl rfl dX8_takeBack_23 ?_
        refine lv_topi (fun t8 et8 => ?_)
        refine lv_iconst (v := (-1)) hx hb dX8_takeBack_24 (by decide) ?_
        refine lv_icmp_eq (tgt := 30) hx hb dX8_takeBack_25 (by decide) (fun c9 => ?_) (fun c9 => ?_)
        · skip
          have zc9 : t8.toInt = (-1) := by rw [fa_eq, show ((-1) : Int32).toInt = -1 from by decide] at c9; exact c9
          refine lv_aload_n hx hb dX8_takeBack_30 rfl (lv_at hl 0 rfl) ?_
          refine va_get (D := (dC, dI)) (ci := 8) (v := .ref (x 39)) (C := RX8) (T := TX8) (N := 7) hx hb hts inB_8 hown hE.1 hP 36 rfl rfl 4 (by decide) (hts _ k_471) (fun _ h9 => h9) rfl dX8_takeBack_31 ?_
          refine lv_iload_n hx hb dX8_takeBack_34 rfl (lv_at hl 1 rfl) ?_
          refine lv_iload_n hx hb dX8_takeBack_35 rfl (lv_at hl 2 rfl) ?_
          refine stI hx hb hE hP hD hS 40 rfl (vp_in_iff.mpr ⟨by omega, by omega⟩) rfl dX8_takeBack_36 (fun H locs hP hD hS => ?_)
          obtain ⟨f10, ef10, hP, hD⟩ : ∃ fz9, fz9 = upd2 f 26 (upd (f 26) p1.toNatClampNeg p2) ∧ va_P (dC, dI) vwCl (XW cy x0 x v fz9) H ∧ va_D A (XW cy x0 x v fz9) := ⟨_, rfl, hP, hD⟩
          have ha0_f10 : f10 0 = f 0 := by rw [ef10]; exact ha0_f
          refine lv_iconst (v := 1) hx hb dX8_takeBack_37 (by decide) ?_
          exact ret 1 (v, f10) _ _ _ _ _ _ rfl ⟨ha0_f10, hIv, rfl, rfl, rfl, rfl, rfl, rfl, rfl, rfl, (Or.inl rfl)⟩ hP hD hS dX8_takeBack_38 (Nat.le_refl _) (Nat.le_refl _)
        · skip
          have zc9 : ¬ (t8.toInt = (-1)) := by rw [fa_eq, show ((-1) : Int32).toInt = -1 from by decide] at c9; exact c9
          refine lv_iconst (v := 0) hx hb dX8_takeBack_28 (by decide) ?_
          exact ret 0 (v, f) _ _ _ _ _ _ rfl ⟨ha0_f, hIv, rfl, rfl, rfl, rfl, rfl, rfl, rfl, rfl, (Or.inr rfl)⟩ hP hD hS dX8_takeBack_29 (Nat.le_refl _) (Nat.le_refl _)
set_option maxHeartbeats 4000000 in
set_option maxRecDepth 100000 in
theorem sX_X10_untell_1 (l : Launch) (dC : Nat → ClassId) (dI : Nat → Nat → Nat) (cy : Nat → ClassId) (x0 : Nat) (x : Nat → Nat) (p1 : Int32) (v : Nat → Int32) (f : Nat → Nat → Int32) (hIv : XI v)  : ctI l (dC, dI) cy yX10_untell cX10_untell 2 .boolean 2 82 0 0 ((Nat → Int32) × (Nat → Nat → Int32)) [.ref x0, .int p1] (XW cy x0 x v f) (fun r u => u.2 0 = f 0 ∧ XI u.1 ∧ u.1 0 = v 0 ∧ u.1 1 = v 1 ∧ u.1 7 = v 7 ∧ u.1 8 = v 8 ∧ u.1 9 = v 9 ∧ u.1 10 = v 10 ∧ u.1 31 = v 31 ∧ u.1 32 = v 32 ∧ ((r = 1) ∨ (r = 0))) (fun u => XW cy x0 x u.1 u.2) := by
  refine ctI_of (by decide) (Nat.le_of_ble_eq_true rfl) (fun p e s m below meth c A ls Q hx hb hml hts hown hE hP hD hA hl ret => ?_)
  have ha0_f : f 0 = f 0 := rfl
  have hown : s.vm.findClass RX10 = some m.cls := hown
  have hS : va_S A s.heap s.heap [] := va_S.rf
  have hl : lv_has ls 2 [(0, .ref x0), (1, .int p1)] := hl
  refine lv_aload_n hx hb dX10_untell_0 rfl (lv_at hl 0 rfl) ?_
  refine va_get (D := (dC, dI)) (ci := 10) (v := .ref (x 35)) (C := RX10) (T := TX10) (N := 10) hx hb hts inB_10 hown hE.1 hP 0 rfl rfl 8 (by decide) (hts _ k_499) (fun _ h9 => h9) rfl dX10_untell_1 ?_
  refine lv_iload_n hx hb dX10_untell_4 rfl (lv_at hl 1 rfl) ?_
  refine lv_aload_n hx hb dX10_untell_5 rfl (lv_at hl 0 rfl) ?_
  refine va_get (D := (dC, dI)) (ci := 10) (v := .int (v 0)) (C := RX10) (T := TX10) (N := 10) hx hb hts inB_10 hown hE.1 hP 0 rfl rfl 9 (by decide) (hts _ k_500) (fun _ h9 => h9) rfl dX10_untell_6 ?_
  have b0_v : 0 ≤ (v 0).toInt ∧ (v 0).toInt ≤ 100000 := XI.b hIv 0 (by decide)
  refine cbVi (n := 2) (rest := []) hx hb hml hown hts hE hP hD hS hA (sX_X8_takeBack_1 l dC dI cy x0 x p1 (v 0) v f hIv ) k_1234 k_1235 k_1236 k_112 k_1237 (by decide +kernel) ⟨Nat.le_of_ble_eq_true rfl, Nat.le_of_ble_eq_true rfl⟩ 36 8 rfl rfl (rfl) hl.1 rfl (Nat.le_of_ble_eq_true rfl) dX10_untell_9 (fun r1 u H locs hw hP hD hS => ?_)
  obtain ⟨v2, f3⟩ := u
  obtain ⟨ka0_f3, hIv2, hk0_v2, hk1_v2, hk7_v2, hk8_v2, hk9_v2, hk10_v2, hk31_v2, hk32_v2, hw⟩ := hw
  have ha0_f3 : f3 0 = f 0 := ka0_f3.trans ha0_f
  have hP : va_P (dC, dI) vwCl (XW cy x0 x v2 f3) H := hP
  have hD : va_D A (XW cy x0 x v2 f3) := hD
  have hq0_v2 : v2 0 = (v 0) := hk0_v2
  have hq1_v2 : v2 1 = (v 1) := hk1_v2
  have hq7_v2 : v2 7 = (v 7) := hk7_v2
  have hq8_v2 : v2 8 = (v 8) := hk8_v2
  have hq9_v2 : v2 9 = (v 9) := hk9_v2
  have hq10_v2 : v2 10 = (v 10) := hk10_v2
  have hq31_v2 : v2 31 = (v 31) := hk31_v2
  have hq32_v2 : v2 32 = (v 32) := hk32_v2
  rcases hw with ⟨g4⟩ | ⟨g4⟩
  · skip
    subst g4
    exact ret 1 (v2, f3) _ _ _ _ _ _ rfl ⟨ha0_f3, hIv2, hk0_v2, hk1_v2, hk7_v2, hk8_v2, hk9_v2, hk10_v2, hk31_v2, hk32_v2, (Or.inl rfl)⟩ hP hD hS dX10_untell_12 (Nat.le_refl _) (Nat.le_refl _)
  · skip
    subst g4
    exact ret 0 (v2, f3) _ _ _ _ _ _ rfl ⟨ha0_f3, hIv2, hk0_v2, hk1_v2, hk7_v2, hk8_v2, hk9_v2, hk10_v2, hk31_v2, hk32_v2, (Or.inr rfl)⟩ hP hD hS dX10_untell_12 (Nat.le_refl _) (Nat.le_refl _)
set_option maxHeartbeats 4000000 in
set_option maxRecDepth 100000 in
theorem sX_X10_later_1 (l : Launch) (dC : Nat → ClassId) (dI : Nat → Nat → Nat) (cy : Nat → ClassId) (x0 : Nat) (x : Nat → Nat) (p1 : Int32) (v : Nat → Int32) (f : Nat → Nat → Int32) (hIv : XI v)  : ctI l (dC, dI) cy yX10_later cX10_later 2 .int 1 60 0 0 ((Nat → Int32) × (Nat → Nat → Int32)) [.ref x0, .int p1] (XW cy x0 x v f) (fun r u => u.2 0 = f 0 ∧ XI u.1 ∧ u.1 1 = v 1 ∧ u.1 7 = v 7 ∧ u.1 8 = v 8 ∧ u.1 9 = v 9 ∧ u.1 10 = v 10 ∧ u.1 31 = v 31 ∧ u.1 32 = v 32) (fun u => XW cy x0 x u.1 u.2) := by
  refine ctI_of (by decide) (Nat.le_of_ble_eq_true rfl) (fun p e s m below meth c A ls Q hx hb hml hts hown hE hP hD hA hl ret => ?_)
  have ha0_f : f 0 = f 0 := rfl
  have hown : s.vm.findClass RX10 = some m.cls := hown
  have hS : va_S A s.heap s.heap [] := va_S.rf
  have hl : lv_has ls 2 [(0, .ref x0), (1, .int p1)] := hl
  refine lv_iload_n hx hb dX10_later_0 rfl (lv_at hl 1 rfl) ?_
  refine lv_if_lt (tgt := 23) hx hb dX10_later_1 (by decide) (fun c1 => ?_) (fun c1 => ?_)
  · skip
    have zc1 : p1.toInt < 0 := by rw [fa_lt, show (0 : Int32).toInt = 0 from by decide] at c1; exact c1
    refine lv_iconst (v := (-1)) hx hb dX10_later_23 (by decide) ?_
    exact ret (-1) (v, f) _ _ _ _ _ _ rfl ⟨ha0_f, hIv, rfl, rfl, rfl, rfl, rfl, rfl, rfl⟩ hP hD hS dX10_later_24 (Nat.le_refl _) (Nat.le_refl _)
  · skip
    have zc1 : ¬ (p1.toInt < 0) := by rw [fa_lt, show (0 : Int32).toInt = 0 from by decide] at c1; exact c1
    refine lv_iload_n hx hb dX10_later_4 rfl (lv_at hl 1 rfl) ?_
    refine lv_sipush (v := 1000) hx hb dX10_later_5 (by decide) ?_
    refine lv_icmp_gt (tgt := 23) hx hb dX10_later_8 (by decide) (fun c2 => ?_) (fun c2 => ?_)
    · skip
      have zc2 : 1000 < p1.toInt := by rw [fa_lt, show (1000 : Int32).toInt = 1000 from by decide] at c2; exact c2
      refine lv_iconst (v := (-1)) hx hb dX10_later_23 (by decide) ?_
      exact ret (-1) (v, f) _ _ _ _ _ _ rfl ⟨ha0_f, hIv, rfl, rfl, rfl, rfl, rfl, rfl, rfl⟩ hP hD hS dX10_later_24 (Nat.le_refl _) (Nat.le_refl _)
    · skip
      have zc2 : ¬ (1000 < p1.toInt) := by rw [fa_lt, show (1000 : Int32).toInt = 1000 from by decide] at c2; exact c2
      refine lv_aload_n hx hb dX10_later_11 rfl (lv_at hl 0 rfl) ?_
      refine va_get (D := (dC, dI)) (ci := 10) (v := .int (v 0)) (C := RX10) (T := TX10) (N := 10) hx hb hts inB_10 hown hE.1 hP 0 rfl rfl 9 (by decide) (hts _ k_500) (fun _ h9 => h9) rfl dX10_later_12 ?_
      have b0_v : 0 ≤ (v 0).toInt ∧ (v 0).toInt ≤ 100000 := XI.b hIv 0 (by decide)
      refine lv_iload_n hx hb dX10_later_15 rfl (lv_at hl 1 rfl) ?_
      refine lv_iadd hx hb dX10_later_16 ?_
      refine lv_topi (fun t3 et3 => ?_)
      have rg4 := fb_rng (v 0)
      have rg5 := fb_rng p1
      have zt3 : t3.toInt = (v 0).toInt + p1.toInt := by rw [et3]; exact add_i rfl rfl (by omega) (by omega)
      refine lv_ldcw (v := 100000) hx hb hown (hts _ k_1242) dX10_later_17 ?_
      refine lv_icmp_le (tgt := 25) hx hb dX10_later_20 (by decide) (fun c6 => ?_) (fun c6 => ?_)
      · skip
        have zc6 : t3.toInt ≤ 100000 := by rw [fa_le, show (100000 : Int32).toInt = 100000 from by decide] at c6; exact c6
        refine lv_aload_n hx hb dX10_later_25 rfl (lv_at hl 0 rfl) ?_
        refine lv_dup hx hb dX10_later_26 rfl ?_
        refine va_get (D := (dC, dI)) (ci := 10) (v := .int (v 0)) (C := RX10) (T := TX10) (N := 10) hx hb hts inB_10 hown hE.1 hP 0 rfl rfl 9 (by decide) (hts _ k_500) (fun _ h9 => h9) rfl dX10_later_27 ?_
        refine lv_iload_n hx hb dX10_later_30 rfl (lv_at hl 1 rfl) ?_
        refine lv_iadd hx hb dX10_later_31 ?_
        refine tI (y := t3) et3.symm ?_
        refine va_put (D := (dC, dI)) (ci := 10) (v := .int t3) (ty := tyX10 9) (C := RX10) (T := TX10) (N := 10) hx hb hts inB_10 tyX10 tyX10_ok nmX10 hown hE.1 hP hD hS 0 rfl rfl 9 (by decide) (hts _ k_500) (fun _ h9 => h9) rfl (tyX10_ok 9 (by decide)) rfl rfl (Nat.le_of_ble_eq_true rfl) dX10_later_32 (fun H locs hP hD hS => ?_)
        have hP : va_P (dC, dI) vwCl (XW cy x0 x (upd v 0 t3) f) H := hP
        have hD : va_D A (XW cy x0 x (upd v 0 t3) f) := hD
        refine lv_aload_n hx hb dX10_later_35 rfl (lv_at hl 0 rfl) ?_
        refine va_get (D := (dC, dI)) (ci := 10) (v := .int t3) (C := RX10) (T := TX10) (N := 10) hx hb hts inB_10 hown hE.1 hP 0 rfl rfl 9 (by decide) (hts _ k_500) (fun _ h9 => h9) rfl dX10_later_36 ?_
        exact ret t3 ((upd v 0 t3), f) _ _ _ _ _ _ rfl ⟨ha0_f, (XI.upd (j := 0) (x := t3) hIv (show (0 : Int) ≤ t3.toInt by omega) (show t3.toInt ≤ (100000 : Int) by omega)), rfl, rfl, rfl, rfl, rfl, rfl, rfl⟩ hP hD hS dX10_later_39 (Nat.le_refl _) (Nat.le_refl _)
      · skip
        have zc6 : ¬ (t3.toInt ≤ 100000) := by rw [fa_le, show (100000 : Int32).toInt = 100000 from by decide] at c6; exact c6
        refine lv_iconst (v := (-1)) hx hb dX10_later_23 (by decide) ?_
        exact ret (-1) (v, f) _ _ _ _ _ _ rfl ⟨ha0_f, hIv, rfl, rfl, rfl, rfl, rfl, rfl, rfl⟩ hP hD hS dX10_later_24 (Nat.le_refl _) (Nat.le_refl _)
