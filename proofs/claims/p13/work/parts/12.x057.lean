set_option maxHeartbeats 4000000 in
set_option maxRecDepth 100000 in
theorem sX_X1_wearers_1 (l : Launch) (dC : Nat → ClassId) (dI : Nat → Nat → Nat) (cy : Nat → ClassId) (x0 : Nat) (x : Nat → Nat)  (v : Nat → Int32) (f : Nat → Nat → Int32) (hIv : XI v)  : ctI l (dC, dI) cy yX1_wearers cX1_wearers 3 .int 3 102 0 0 Unit [.ref (x 21)] (XW cy x0 x v f) (fun r u => True) (fun u => XW cy x0 x v f) := by
  refine ctI_of (by decide) (Nat.le_of_ble_eq_true rfl) (fun p e s m below meth c A ls Q hx hb hml hts hown hE hP hD hA hl ret => ?_)
  have hown : s.vm.findClass RX1 = some m.cls := hown
  have hS : va_S A s.heap s.heap [] := va_S.rf
  have hl : lv_has ls 3 [(0, .ref (x 21))] := hl
  refine lv_iconst (v := 0) hx hb dX1_wearers_0 (by decide) ?_
  refine lv_istore_n (lv' := [(1, .int 0), (0, .ref (x 21))]) hx hb dX1_wearers_1 rfl hl (by decide) rfl (fun ls hl => ?_)
  refine lv_iconst (v := 0) hx hb dX1_wearers_2 (by decide) ?_
  refine lv_istore_n (lv' := [(2, .int 0), (1, .int 0), (0, .ref (x 21))]) hx hb dX1_wearers_3 rfl hl (by decide) rfl (fun ls hl => ?_)
  have lp1 : ∀ (n1 : Nat) (l1_1 : Int32) (l2_1 : Int32), ((0 : Int) ≤ l2_1.toInt ∧ l2_1.toInt ≤ 2147483647) → (2147483647 - l2_1.toInt).toNat < n1 → ∀ (H : Heap) (locs : List Loc) (ls : Array Slot), va_P (dC, dI) vwCl (XW cy x0 x v f) H → va_D A (XW cy x0 x v f) → va_S A s.heap H locs → lv_has ls 3 [(2, .int l2_1), (1, .int l1_1), (0, .ref (x 21))] → W p l e { frames := 3, cells := 0, slots := 0, locals := 102 } s m ([.ref (x 21)] : List Value).toArray below meth c H locs 0 0 Q (F0 m 4 ls []) := by
    intro n1
    induction n1 with
    | zero => intro l1_1 l2_1 hr2_1 hm; exact absurd hm (Nat.not_lt_zero _)
    | succ n1 ih1 =>
      intro l1_1 l2_1 hr2_1 hm1 H locs ls hP hD hS hl
      refine lv_iload_n hx hb dX1_wearers_4 rfl (lv_at hl 0 rfl) ?_
      refine lv_aload_n hx hb dX1_wearers_5 rfl (lv_at hl 2 rfl) ?_
      refine va_get (D := (dC, dI)) (ci := 1) (v := .ref (x 26)) (C := RX1) (T := TX1) (N := 2) hx hb hts inB_1 hown hE.1 hP 22 rfl rfl 0 (by decide) (hts _ k_318) (fun _ h9 => h9) rfl dX1_wearers_6 ?_
      refine va_getN (D := (dC, dI)) (ci := 7) (v := .int (v 31)) (C := RX7) (T := TX7) (N := 10) hx hb hts inB_7 hown hE.1 hP 27 rfl rfl 3 (by decide) (va_Nw.use rfl (hE.2 _ k_219)) (fun _ h9 => h9) rfl dX1_wearers_9 ?_
      have b31_v : 0 ≤ (v 31).toInt ∧ (v 31).toInt ≤ 6 := XI.b hIv 31 (by decide)
      refine lv_icmp_ge (tgt := 36) hx hb dX1_wearers_12 (by decide) (fun c2 => ?_) (fun c2 => ?_)
      · skip
        have zc2 : (v 31).toInt ≤ l2_1.toInt := by rw [fa_le] at c2; exact c2
        have rg3 := fb_rng l2_1
        have rg4 := fb_rng (v 31)
        refine lv_iload_n hx hb dX1_wearers_36 rfl (lv_at hl 1 rfl) ?_
        exact ret l1_1 () _ _ _ _ _ _ rfl trivial hP hD hS dX1_wearers_37 (Nat.le_refl _) (Nat.le_refl _)
      · skip
        have zc2 : ¬ ((v 31).toInt ≤ l2_1.toInt) := by rw [fa_le] at c2; exact c2
        have rg5 := fb_rng l2_1
        have rg6 := fb_rng (v 31)
        refine lv_aload_n hx hb dX1_wearers_15 rfl (lv_at hl 2 rfl) ?_
        refine lv_iload_n hx hb dX1_wearers_16 rfl (lv_at hl 0 rfl) ?_
        refine cbVi (n := 1) (rest := []) hx hb hml hown hts hE hP hD hS hA (sX_X1_wears_1 0 l dC dI cy x0 x l2_1 v f hIv ) k_853 k_810 k_811 k_106 k_812 (by decide +kernel) ⟨Nat.le_of_ble_eq_true rfl, Nat.le_of_ble_eq_true rfl⟩ 22 1 rfl rfl (rfl) hl.1 rfl (Nat.le_of_ble_eq_true rfl) dX1_wearers_17 (fun r7 u H locs hw hP hD hS => ?_)
        have hG8 := hw
        refine lv_iconst (v := (-1)) hx hb dX1_wearers_20 (by decide) ?_
        refine lv_icmp_eq (tgt := 30) hx hb dX1_wearers_21 (by decide) (fun c9 => ?_) (fun c9 => ?_)
        · skip
          have zc9 : r7.toInt = (-1) := by rw [fa_eq, show ((-1) : Int32).toInt = -1 from by decide] at c9; exact c9
          obtain ⟨t10, et10⟩ : ∃ y : Int32, y = l2_1 + 1 := ⟨_, rfl⟩
          have zt10 : t10.toInt = l2_1.toInt + 1 := by rw [et10]; exact add_i rfl (by decide) (by omega) (by omega)
          refine lv_iinc (v := t10) (lv' := [(2, .int t10), (1, .int l1_1), (0, .ref (x 21))]) hx hb dX1_wearers_30 hl (k := 0) rfl (by rw [et10]; rfl) (by decide) rfl (fun ls hl => ?_)
          refine lv_goto (tgt := 4) hx hb dX1_wearers_33 (by decide) ?_
          have rg11 := fb_rng t10
          exact ih1 l1_1 t10 ⟨show (0 : Int) ≤ t10.toInt by omega, show t10.toInt ≤ (2147483647 : Int) by omega⟩ (by show (2147483647 - t10.toInt).toNat < n1; omega) _ _ _ hP hD hS (lv_sub hl [0, 1, 2] rfl)
        · skip
          have zc9 : ¬ (r7.toInt = (-1)) := by rw [fa_eq, show ((-1) : Int32).toInt = -1 from by decide] at c9; exact c9
          refine lv_iload_n hx hb dX1_wearers_24 rfl (lv_at hl 1 rfl) ?_
          refine lv_iconst (v := 1) hx hb dX1_wearers_25 (by decide) ?_
          refine lv_iload_n hx hb dX1_wearers_26 rfl (lv_at hl 0 rfl) ?_
          refine lv_ishl hx hb dX1_wearers_27 ?_
          refine lv_topi (fun t12 et12 => ?_)
          have zt12 : 1 ≤ t12.toInt ∧ t12.toInt ≤ 32 := by rw [et12]; exact shl1_rng (by omega) (by omega)
          refine lv_ior hx hb dX1_wearers_28 ?_
          refine lv_topi (fun t13 et13 => ?_)
          refine lv_istore_n (lv' := [(1, .int t13), (2, .int l2_1), (0, .ref (x 21))]) hx hb dX1_wearers_29 rfl hl (by decide) rfl (fun ls hl => ?_)
          obtain ⟨t14, et14⟩ : ∃ y : Int32, y = l2_1 + 1 := ⟨_, rfl⟩
          have zt14 : t14.toInt = l2_1.toInt + 1 := by rw [et14]; exact add_i rfl (by decide) (by omega) (by omega)
          refine lv_iinc (v := t14) (lv' := [(2, .int t14), (1, .int t13), (0, .ref (x 21))]) hx hb dX1_wearers_30 hl (k := 1) rfl (by rw [et14]; rfl) (by decide) rfl (fun ls hl => ?_)
          refine lv_goto (tgt := 4) hx hb dX1_wearers_33 (by decide) ?_
          have rg15 := fb_rng t14
          exact ih1 t13 t14 ⟨show (0 : Int) ≤ t14.toInt by omega, show t14.toInt ≤ (2147483647 : Int) by omega⟩ (by show (2147483647 - t14.toInt).toNat < n1; omega) _ _ _ hP hD hS (lv_sub hl [0, 1, 2] rfl)
  exact lp1 _ 0 0 ⟨by decide, by decide⟩ (Nat.lt_succ_self _) _ _ _ hP hD hS (lv_sub hl [0, 1, 2] rfl)
set_option maxHeartbeats 4000000 in
set_option maxRecDepth 100000 in
theorem sX_X2_wideTogether_1 (l : Launch) (dC : Nat → ClassId) (dI : Nat → Nat → Nat) (cy : Nat → ClassId) (x0 : Nat) (x : Nat → Nat) (p1 : Int32) (v : Nat → Int32) (f : Nat → Nat → Int32) (hIv : XI v)  : ctI l (dC, dI) cy yX2_wideTogether cX2_wideTogether 4 .int 3 104 0 0 Unit [.ref (x 29), .int p1] (XW cy x0 x v f) (fun r u => True) (fun u => XW cy x0 x v f) := by
  refine ctI_of (by decide) (Nat.le_of_ble_eq_true rfl) (fun p e s m below meth c A ls Q hx hb hml hts hown hE hP hD hA hl ret => ?_)
  have hown : s.vm.findClass RX2 = some m.cls := hown
  have hS : va_S A s.heap s.heap [] := va_S.rf
  have hl : lv_has ls 4 [(0, .ref (x 29)), (1, .int p1)] := hl
  refine lv_iconst (v := 0) hx hb dX2_wideTogether_0 (by decide) ?_
  refine lv_istore_n (lv' := [(2, .int 0), (0, .ref (x 29)), (1, .int p1)]) hx hb dX2_wideTogether_1 rfl hl (by decide) rfl (fun ls hl => ?_)
  refine lv_iconst (v := 0) hx hb dX2_wideTogether_2 (by decide) ?_
  refine lv_istore_n (lv' := [(3, .int 0), (2, .int 0), (0, .ref (x 29)), (1, .int p1)]) hx hb dX2_wideTogether_3 rfl hl (by decide) rfl (fun ls hl => ?_)
  have lp1 : ∀ (n1 : Nat) (l2_1 : Int32) (l3_1 : Int32), ((0 : Int) ≤ l3_1.toInt ∧ l3_1.toInt ≤ 2147483647) → (2147483647 - l3_1.toInt).toNat < n1 → ∀ (H : Heap) (locs : List Loc) (ls : Array Slot), va_P (dC, dI) vwCl (XW cy x0 x v f) H → va_D A (XW cy x0 x v f) → va_S A s.heap H locs → lv_has ls 4 [(3, .int l3_1), (2, .int l2_1), (0, .ref (x 29)), (1, .int p1)] → W p l e { frames := 3, cells := 0, slots := 0, locals := 104 } s m ([.ref (x 29), .int p1] : List Value).toArray below meth c H locs 0 0 Q (F0 m 4 ls []) := by
    intro n1
    induction n1 with
    | zero => intro l2_1 l3_1 hr3_1 hm; exact absurd hm (Nat.not_lt_zero _)
    | succ n1 ih1 =>
      intro l2_1 l3_1 hr3_1 hm1 H locs ls hP hD hS hl
      refine lv_iload_n hx hb dX2_wideTogether_4 rfl (lv_at hl 0 rfl) ?_
      refine lv_aload_n hx hb dX2_wideTogether_5 rfl (lv_at hl 2 rfl) ?_
      refine va_get (D := (dC, dI)) (ci := 2) (v := .ref (x 26)) (C := RX2) (T := TX2) (N := 3) hx hb hts inB_2 hown hE.1 hP 30 rfl rfl 0 (by decide) (hts _ k_414) (fun _ h9 => h9) rfl dX2_wideTogether_6 ?_
      refine va_getN (D := (dC, dI)) (ci := 7) (v := .int (v 31)) (C := RX7) (T := TX7) (N := 10) hx hb hts inB_7 hown hE.1 hP 27 rfl rfl 3 (by decide) (va_Nw.use rfl (hE.2 _ k_213)) (fun _ h9 => h9) rfl dX2_wideTogether_9 ?_
      have b31_v : 0 ≤ (v 31).toInt ∧ (v 31).toInt ≤ 6 := XI.b hIv 31 (by decide)
      refine lv_icmp_ge (tgt := 48) hx hb dX2_wideTogether_12 (by decide) (fun c2 => ?_) (fun c2 => ?_)
      · skip
        have zc2 : (v 31).toInt ≤ l3_1.toInt := by rw [fa_le] at c2; exact c2
        have rg3 := fb_rng l3_1
        have rg4 := fb_rng (v 31)
        refine lv_iload_n hx hb dX2_wideTogether_48 rfl (lv_at hl 1 rfl) ?_
        exact ret l2_1 () _ _ _ _ _ _ rfl trivial hP hD hS dX2_wideTogether_49 (Nat.le_refl _) (Nat.le_refl _)
      · skip
        have zc2 : ¬ ((v 31).toInt ≤ l3_1.toInt) := by rw [fa_le] at c2; exact c2
        have rg5 := fb_rng l3_1
        have rg6 := fb_rng (v 31)
        refine lv_iload_n hx hb dX2_wideTogether_15 rfl (lv_at hl 3 rfl) ?_
        refine lv_iload_n hx hb dX2_wideTogether_16 rfl (lv_at hl 0 rfl) ?_
        refine lv_ishr hx hb dX2_wideTogether_17 ?_
        refine lv_topi (fun t7 et7 => ?_)
        refine lv_iconst (v := 1) hx hb dX2_wideTogether_18 (by decide) ?_
        refine lv_iand hx hb dX2_wideTogether_19 ?_
        refine lv_topi (fun t8 et8 => ?_)
        have zt8 : 0 ≤ t8.toInt ∧ t8.toInt < 2 := by rw [et8]; exact and_rng _ (k := 1) (by decide) (by decide)
        refine lv_if_eq (tgt := 42) hx hb dX2_wideTogether_20 (by decide) (fun c9 => ?_) (fun c9 => ?_)
        · skip
          have zc9 : t8.toInt = 0 := by rw [fa_eq, show (0 : Int32).toInt = 0 from by decide] at c9; exact c9
          obtain ⟨t10, et10⟩ : ∃ y : Int32, y = l3_1 + 1 := ⟨_, rfl⟩
          have zt10 : t10.toInt = l3_1.toInt + 1 := by rw [et10]; exact add_i rfl (by decide) (by omega) (by omega)
          refine lv_iinc (v := t10) (lv' := [(3, .int t10), (2, .int l2_1), (0, .ref (x 29)), (1, .int p1)]) hx hb dX2_wideTogether_42 hl (k := 0) rfl (by rw [et10]; rfl) (by decide) rfl (fun ls hl => ?_)
          refine lv_goto (tgt := 4) hx hb dX2_wideTogether_45 (by decide) ?_
          have rg11 := fb_rng t10
          exact ih1 l2_1 t10 ⟨show (0 : Int) ≤ t10.toInt by omega, show t10.toInt ≤ (2147483647 : Int) by omega⟩ (by show (2147483647 - t10.toInt).toNat < n1; omega) _ _ _ hP hD hS (lv_sub hl [0, 1, 2, 3] rfl)
        · skip
          have zc9 : ¬ (t8.toInt = 0) := by rw [fa_eq, show (0 : Int32).toInt = 0 from by decide] at c9; exact c9
          refine lv_iload_n hx hb dX2_wideTogether_23 rfl (lv_at hl 1 rfl) ?_
          refine lv_aload_n hx hb dX2_wideTogether_24 rfl (lv_at hl 2 rfl) ?_
          refine va_get (D := (dC, dI)) (ci := 2) (v := .ref (x 21)) (C := RX2) (T := TX2) (N := 3) hx hb hts inB_2 hown hE.1 hP 30 rfl rfl 1 (by decide) (hts _ k_415) (fun _ h9 => h9) rfl dX2_wideTogether_25 ?_
          refine lv_iconst (v := 1) hx hb dX2_wideTogether_28 (by decide) ?_
          refine lv_aload_n hx hb dX2_wideTogether_29 rfl (lv_at hl 2 rfl) ?_
          refine va_get (D := (dC, dI)) (ci := 2) (v := .ref (x 21)) (C := RX2) (T := TX2) (N := 3) hx hb hts inB_2 hown hE.1 hP 30 rfl rfl 1 (by decide) (hts _ k_415) (fun _ h9 => h9) rfl dX2_wideTogether_30 ?_
          refine lv_iload_n hx hb dX2_wideTogether_33 rfl (lv_at hl 0 rfl) ?_
          refine cbVi (n := 1) (rest := [.int 1, .ref (x 21), .int l2_1]) hx hb hml hown hts hE hP hD hS hA (sX_X1_wears_1 0 l dC dI cy x0 x l3_1 v f hIv ) k_1069 k_810 k_811 k_106 k_812 (by decide +kernel) ⟨Nat.le_of_ble_eq_true rfl, Nat.le_of_ble_eq_true rfl⟩ 22 1 rfl rfl (rfl) hl.1 rfl (Nat.le_of_ble_eq_true rfl) dX2_wideTogether_34 (fun r12 u H locs hw hP hD hS => ?_)
          have hG13 := hw
          refine cbVi (n := 2) (rest := [.int l2_1]) hx hb hml hown hts hE hP hD hS hA (sX_X1_part_1 0 l dC dI cy x0 x 1 r12 v f hIv ) k_1070 k_828 k_829 k_106 k_830 (by decide +kernel) ⟨Nat.le_of_ble_eq_true rfl, Nat.le_of_ble_eq_true rfl⟩ 22 1 rfl rfl (rfl) hl.1 rfl (Nat.le_of_ble_eq_true rfl) dX2_wideTogether_37 (fun r14 u H locs hw hP hD hS => ?_)
          have hG15 := hw
          refine lv_iadd hx hb dX2_wideTogether_40 ?_
          refine lv_topi (fun t16 et16 => ?_)
          refine lv_istore_n (lv' := [(2, .int t16), (3, .int l3_1), (0, .ref (x 29)), (1, .int p1)]) hx hb dX2_wideTogether_41 rfl hl (by decide) rfl (fun ls hl => ?_)
          obtain ⟨t17, et17⟩ : ∃ y : Int32, y = l3_1 + 1 := ⟨_, rfl⟩
          have zt17 : t17.toInt = l3_1.toInt + 1 := by rw [et17]; exact add_i rfl (by decide) (by omega) (by omega)
          refine lv_iinc (v := t17) (lv' := [(3, .int t17), (2, .int t16), (0, .ref (x 29)), (1, .int p1)]) hx hb dX2_wideTogether_42 hl (k := 1) rfl (by rw [et17]; rfl) (by decide) rfl (fun ls hl => ?_)
          refine lv_goto (tgt := 4) hx hb dX2_wideTogether_45 (by decide) ?_
          have rg18 := fb_rng t17
          exact ih1 t16 t17 ⟨show (0 : Int) ≤ t17.toInt by omega, show t17.toInt ≤ (2147483647 : Int) by omega⟩ (by show (2147483647 - t17.toInt).toNat < n1; omega) _ _ _ hP hD hS (lv_sub hl [0, 1, 2, 3] rfl)
  exact lp1 _ 0 0 ⟨by decide, by decide⟩ (Nat.lt_succ_self _) _ _ _ hP hD hS (lv_sub hl [0, 1, 2, 3] rfl)
set_option maxHeartbeats 4000000 in
set_option maxRecDepth 100000 in
theorem sX_X2_frontOf_1 (l : Launch) (dC : Nat → ClassId) (dI : Nat → Nat → Nat) (cy : Nat → ClassId) (x0 : Nat) (x : Nat → Nat) (p1 : Int32) (v : Nat → Int32) (f : Nat → Nat → Int32) (hIv : XI v)  : ctI l (dC, dI) cy yX2_frontOf cX2_frontOf 6 .int 4 127 0 0 Unit [.ref (x 29), .int p1] (XW cy x0 x v f) (fun r u => True) (fun u => XW cy x0 x v f) := by
  refine ctI_of (by decide) (Nat.le_of_ble_eq_true rfl) (fun p e s m below meth c A ls Q hx hb hml hts hown hE hP hD hA hl ret => ?_)
  have hown : s.vm.findClass RX2 = some m.cls := hown
  have hS : va_S A s.heap s.heap [] := va_S.rf
  have hl : lv_has ls 6 [(0, .ref (x 29)), (1, .int p1)] := hl
  refine lv_iconst (v := (-1)) hx hb dX2_frontOf_0 (by decide) ?_
  refine lv_istore_n (lv' := [(2, .int (-1)), (0, .ref (x 29)), (1, .int p1)]) hx hb dX2_frontOf_1 rfl hl (by decide) rfl (fun ls hl => ?_)
  refine lv_aload_n hx hb dX2_frontOf_2 rfl (lv_at hl 1 rfl) ?_
  refine va_get (D := (dC, dI)) (ci := 2) (v := .ref (x 21)) (C := RX2) (T := TX2) (N := 3) hx hb hts inB_2 hown hE.1 hP 30 rfl rfl 1 (by decide) (hts _ k_415) (fun _ h9 => h9) rfl dX2_frontOf_3 ?_
  refine cbVi (n := 0) (rest := []) hx hb hml hown hts hE hP hD hS hA (sX_X1_wearers_1 l dC dI cy x0 x  v f hIv ) k_1060 k_1061 k_1062 k_106 k_1063 (by decide +kernel) ⟨Nat.le_of_ble_eq_true rfl, Nat.le_of_ble_eq_true rfl⟩ 22 1 rfl rfl (rfl) hl.1 rfl (Nat.le_of_ble_eq_true rfl) dX2_frontOf_6 (fun r1 u H locs hw hP hD hS => ?_)
  refine lv_iconst (v := (-1)) hx hb dX2_frontOf_9 (by decide) ?_
  refine lv_ixor hx hb dX2_frontOf_10 ?_
  refine lv_topi (fun t2 et2 => ?_)
  refine lv_istore_n (lv' := [(3, .int t2), (2, .int (-1)), (0, .ref (x 29)), (1, .int p1)]) hx hb dX2_frontOf_11 rfl hl (by decide) rfl (fun ls hl => ?_)
  refine lv_iconst (v := 0) hx hb dX2_frontOf_12 (by decide) ?_
  refine lv_istore (lv' := [(4, .int 0), (3, .int t2), (2, .int (-1)), (0, .ref (x 29)), (1, .int p1)]) hx hb dX2_frontOf_13 hl (by decide) rfl (fun ls hl => ?_)
  have lp3 : ∀ (n3 : Nat) (l2_3 : Int32) (l4_3 : Int32), ((0 : Int) ≤ l4_3.toInt ∧ l4_3.toInt ≤ 2147483647) → (2147483647 - l4_3.toInt).toNat < n3 → ∀ (H : Heap) (locs : List Loc) (ls : Array Slot), va_P (dC, dI) vwCl (XW cy x0 x v f) H → va_D A (XW cy x0 x v f) → va_S A s.heap H locs → lv_has ls 6 [(4, .int l4_3), (3, .int t2), (2, .int l2_3), (0, .ref (x 29)), (1, .int p1)] → W p l e { frames := 4, cells := 0, slots := 0, locals := 127 } s m ([.ref (x 29), .int p1] : List Value).toArray below meth c H locs 0 0 Q (F0 m 15 ls []) := by
    intro n3
    induction n3 with
    | zero => intro l2_3 l4_3 hr4_3 hm; exact absurd hm (Nat.not_lt_zero _)
    | succ n3 ih3 =>
      intro l2_3 l4_3 hr4_3 hm3 H locs ls hP hD hS hl
      refine lv_iload hx hb dX2_frontOf_15 (lv_at hl 0 rfl) ?_
      refine lv_bipush (v := 64) hx hb dX2_frontOf_17 (by decide) ?_
      refine lv_icmp_ge (tgt := 77) hx hb dX2_frontOf_19 (by decide) (fun c4 => ?_) (fun c4 => ?_)
      · skip
        have zc4 : 64 ≤ l4_3.toInt := by rw [fa_le, show (64 : Int32).toInt = 64 from by decide] at c4; exact c4
        refine lv_iload_n hx hb dX2_frontOf_77 rfl (lv_at hl 2 rfl) ?_
        exact ret l2_3 () _ _ _ _ _ _ rfl trivial hP hD hS dX2_frontOf_78 (Nat.le_refl _) (Nat.le_refl _)
      · skip
        have zc4 : ¬ (64 ≤ l4_3.toInt) := by rw [fa_le, show (64 : Int32).toInt = 64 from by decide] at c4; exact c4
        refine lv_iload_n hx hb dX2_frontOf_22 rfl (lv_at hl 2 rfl) ?_
        refine lv_iconst (v := (-1)) hx hb dX2_frontOf_23 (by decide) ?_
        refine lv_icmp_eq (tgt := 39) hx hb dX2_frontOf_24 (by decide) (fun c5 => ?_) (fun c5 => ?_)
        · skip
          have zc5 : l2_3.toInt = (-1) := by rw [fa_eq, show ((-1) : Int32).toInt = -1 from by decide] at c5; exact c5
          refine lv_iconst (v := 1) hx hb dX2_frontOf_39 (by decide) ?_
          refine lv_goto (tgt := 44) hx hb dX2_frontOf_40 (by decide) ?_
          refine lv_istore (lv' := [(5, .int 1), (4, .int l4_3), (3, .int t2), (2, .int l2_3), (0, .ref (x 29)), (1, .int p1)]) hx hb dX2_frontOf_44 hl (by decide) rfl (fun ls hl => ?_)
          refine lv_iload hx hb dX2_frontOf_46 (lv_at hl 1 rfl) ?_
          refine lv_iload_n hx hb dX2_frontOf_48 rfl (lv_at hl 2 rfl) ?_
          refine lv_iand hx hb dX2_frontOf_49 ?_
          refine lv_topi (fun t6 et6 => ?_)
          refine lv_if_ne (tgt := 71) hx hb dX2_frontOf_50 (by decide) (fun c7 => ?_) (fun c7 => ?_)
          · skip
            have zc7 : ¬ (t6.toInt = 0) := by rw [fa_eq, show (0 : Int32).toInt = 0 from by decide] at c7; exact c7
            obtain ⟨t8, et8⟩ : ∃ y : Int32, y = l4_3 + 1 := ⟨_, rfl⟩
            have rg9 := fb_rng l4_3
            have zt8 : t8.toInt = l4_3.toInt + 1 := by rw [et8]; exact add_i rfl (by decide) (by omega) (by omega)
            refine lv_iinc (v := t8) (lv' := [(4, .int t8), (5, .int 1), (3, .int t2), (2, .int l2_3), (0, .ref (x 29)), (1, .int p1)]) hx hb dX2_frontOf_71 hl (k := 1) rfl (by rw [et8]; rfl) (by decide) rfl (fun ls hl => ?_)
            refine lv_goto (tgt := 15) hx hb dX2_frontOf_74 (by decide) ?_
            have rg10 := fb_rng t8
            exact ih3 l2_3 t8 ⟨show (0 : Int) ≤ t8.toInt by omega, show t8.toInt ≤ (2147483647 : Int) by omega⟩ (by show (2147483647 - t8.toInt).toNat < n3; omega) _ _ _ hP hD hS (lv_sub hl [0, 2, 3, 4, 5] rfl)
          · skip
            have zc7 : t6.toInt = 0 := by rw [fa_eq, show (0 : Int32).toInt = 0 from by decide] at c7; exact c7
            refine lv_iload hx hb dX2_frontOf_53 (lv_at hl 0 rfl) ?_
            refine lv_if_eq (tgt := 71) hx hb dX2_frontOf_55 (by decide) (fun c0 => absurd c0 (by decide)) (fun _ => ?_)
            refine lv_aload_n hx hb dX2_frontOf_58 rfl (lv_at hl 4 rfl) ?_
            refine lv_iload hx hb dX2_frontOf_59 (lv_at hl 1 rfl) ?_
            refine cbVi (n := 1) (rest := []) hx hb hml hown hts hE hP hD hS hA (sX_X2_wideTogether_1 l dC dI cy x0 x l4_3 v f hIv ) k_1065 k_1066 k_1067 k_110 k_1068 (by decide +kernel) ⟨Nat.le_of_ble_eq_true rfl, Nat.le_of_ble_eq_true rfl⟩ 30 2 rfl rfl (rfl) hl.1 rfl (Nat.le_of_ble_eq_true rfl) dX2_frontOf_61 (fun r11 u H locs hw hP hD hS => ?_)
            refine lv_iload_n hx hb dX2_frontOf_64 rfl (lv_at hl 5 rfl) ?_
            refine lv_icmp_lt (tgt := 71) hx hb dX2_frontOf_65 (by decide) (fun c12 => ?_) (fun c12 => ?_)
            · skip
              have zc12 : r11.toInt < p1.toInt := by rw [fa_lt] at c12; exact c12
              have rg13 := fb_rng r11
              have rg14 := fb_rng p1
              obtain ⟨t15, et15⟩ : ∃ y : Int32, y = l4_3 + 1 := ⟨_, rfl⟩
              have rg16 := fb_rng l4_3
              have zt15 : t15.toInt = l4_3.toInt + 1 := by rw [et15]; exact add_i rfl (by decide) (by omega) (by omega)
              refine lv_iinc (v := t15) (lv' := [(4, .int t15), (5, .int 1), (3, .int t2), (2, .int l2_3), (0, .ref (x 29)), (1, .int p1)]) hx hb dX2_frontOf_71 hl (k := 1) rfl (by rw [et15]; rfl) (by decide) rfl (fun ls hl => ?_)
              refine lv_goto (tgt := 15) hx hb dX2_frontOf_74 (by decide) ?_
              have rg17 := fb_rng t15
              exact ih3 l2_3 t15 ⟨show (0 : Int) ≤ t15.toInt by omega, show t15.toInt ≤ (2147483647 : Int) by omega⟩ (by show (2147483647 - t15.toInt).toNat < n3; omega) _ _ _ hP hD hS (lv_sub hl [0, 2, 3, 4, 5] rfl)
            · skip
              have zc12 : ¬ (r11.toInt < p1.toInt) := by rw [fa_lt] at c12; exact c12
              have rg18 := fb_rng r11
              have rg19 := fb_rng p1
              refine lv_iload hx hb dX2_frontOf_68 (lv_at hl 1 rfl) ?_
              refine lv_istore_n (lv' := [(2, .int l4_3), (5, .int 1), (4, .int l4_3), (3, .int t2), (0, .ref (x 29)), (1, .int p1)]) hx hb dX2_frontOf_70 rfl hl (by decide) rfl (fun ls hl => ?_)
              obtain ⟨t20, et20⟩ : ∃ y : Int32, y = l4_3 + 1 := ⟨_, rfl⟩
              have rg21 := fb_rng l4_3
              have zt20 : t20.toInt = l4_3.toInt + 1 := by rw [et20]; exact add_i rfl (by decide) (by omega) (by omega)
              refine lv_iinc (v := t20) (lv' := [(4, .int t20), (2, .int l4_3), (5, .int 1), (3, .int t2), (0, .ref (x 29)), (1, .int p1)]) hx hb dX2_frontOf_71 hl (k := 2) rfl (by rw [et20]; rfl) (by decide) rfl (fun ls hl => ?_)
              refine lv_goto (tgt := 15) hx hb dX2_frontOf_74 (by decide) ?_
              have rg22 := fb_rng t20
              exact ih3 l4_3 t20 ⟨show (0 : Int) ≤ t20.toInt by omega, show t20.toInt ≤ (2147483647 : Int) by omega⟩ (by show (2147483647 - t20.toInt).toNat < n3; omega) _ _ _ hP hD hS (lv_sub hl [0, 3, 1, 4, 5] rfl)
        · skip
          have zc5 : ¬ (l2_3.toInt = (-1)) := by rw [fa_eq, show ((-1) : Int32).toInt = -1 from by decide] at c5; exact c5
          refine lv_iload hx hb dX2_frontOf_27 (lv_at hl 0 rfl) ?_
          refine cbSi (n := 1) (rest := []) hx hb hml hown hts hE hP hD hS hA (sX_J6_bitCount_0f7a4_1 l dC dI cy x0 x l4_3 v f hIv ) k_1064 k_1043 k_121 k_1044 (by decide +kernel) ⟨Nat.le_of_ble_eq_true rfl, Nat.le_of_ble_eq_true rfl⟩ (rfl) hl.1 rfl (Nat.le_of_ble_eq_true rfl) dX2_frontOf_29 (fun r23 u H locs hw hP hD hS => ?_)
          refine lv_iload_n hx hb dX2_frontOf_32 rfl (lv_at hl 2 rfl) ?_
          refine cbSi (n := 1) (rest := [.int r23]) hx hb hml hown hts hE hP hD hS hA (sX_J6_bitCount_0f7a4_1 l dC dI cy x0 x l2_3 v f hIv ) k_1064 k_1043 k_121 k_1044 (by decide +kernel) ⟨Nat.le_of_ble_eq_true rfl, Nat.le_of_ble_eq_true rfl⟩ (rfl) hl.1 rfl (Nat.le_of_ble_eq_true rfl) dX2_frontOf_33 (fun r24 u H locs hw hP hD hS => ?_)
          refine lv_icmp_ge (tgt := 43) hx hb dX2_frontOf_36 (by decide) (fun c25 => ?_) (fun c25 => ?_)
          · skip
            have zc25 : r24.toInt ≤ r23.toInt := by rw [fa_le] at c25; exact c25
            have rg26 := fb_rng r23
            have rg27 := fb_rng r24
            refine lv_iconst (v := 0) hx hb dX2_frontOf_43 (by decide) ?_
            refine lv_istore (lv' := [(5, .int 0), (4, .int l4_3), (3, .int t2), (2, .int l2_3), (0, .ref (x 29)), (1, .int p1)]) hx hb dX2_frontOf_44 hl (by decide) rfl (fun ls hl => ?_)
            refine lv_iload hx hb dX2_frontOf_46 (lv_at hl 1 rfl) ?_
            refine lv_iload_n hx hb dX2_frontOf_48 rfl (lv_at hl 2 rfl) ?_
            refine lv_iand hx hb dX2_frontOf_49 ?_
            refine lv_topi (fun t28 et28 => ?_)
            refine lv_if_ne (tgt := 71) hx hb dX2_frontOf_50 (by decide) (fun c29 => ?_) (fun c29 => ?_)
            · skip
              have zc29 : ¬ (t28.toInt = 0) := by rw [fa_eq, show (0 : Int32).toInt = 0 from by decide] at c29; exact c29
              obtain ⟨t30, et30⟩ : ∃ y : Int32, y = l4_3 + 1 := ⟨_, rfl⟩
              have rg31 := fb_rng l4_3
              have zt30 : t30.toInt = l4_3.toInt + 1 := by rw [et30]; exact add_i rfl (by decide) (by omega) (by omega)
              refine lv_iinc (v := t30) (lv' := [(4, .int t30), (5, .int 0), (3, .int t2), (2, .int l2_3), (0, .ref (x 29)), (1, .int p1)]) hx hb dX2_frontOf_71 hl (k := 1) rfl (by rw [et30]; rfl) (by decide) rfl (fun ls hl => ?_)
              refine lv_goto (tgt := 15) hx hb dX2_frontOf_74 (by decide) ?_
              have rg32 := fb_rng t30
              exact ih3 l2_3 t30 ⟨show (0 : Int) ≤ t30.toInt by omega, show t30.toInt ≤ (2147483647 : Int) by omega⟩ (by show (2147483647 - t30.toInt).toNat < n3; omega) _ _ _ hP hD hS (lv_sub hl [0, 2, 3, 4, 5] rfl)
            · skip
              have zc29 : t28.toInt = 0 := by rw [fa_eq, show (0 : Int32).toInt = 0 from by decide] at c29; exact c29
              refine lv_iload hx hb dX2_frontOf_53 (lv_at hl 0 rfl) ?_
              refine lv_if_eq (tgt := 71) hx hb dX2_frontOf_55 (by decide) (fun _ => ?_) (fun c0 => absurd (by decide) c0)
              obtain ⟨t33, et33⟩ : ∃ y : Int32, y = l4_3 + 1 := ⟨_, rfl⟩
              have rg34 := fb_rng l4_3
              have zt33 : t33.toInt = l4_3.toInt + 1 := by rw [et33]; exact add_i rfl (by decide) (by omega) (by omega)
              refine lv_iinc (v := t33) (lv' := [(4, .int t33), (5, .int 0), (3, .int t2), (2, .int l2_3), (0, .ref (x 29)), (1, .int p1)]) hx hb dX2_frontOf_71 hl (k := 1) rfl (by rw [et33]; rfl) (by decide) rfl (fun ls hl => ?_)
              refine lv_goto (tgt := 15) hx hb dX2_frontOf_74 (by decide) ?_
              have rg35 := fb_rng t33
              exact ih3 l2_3 t33 ⟨show (0 : Int) ≤ t33.toInt by omega, show t33.toInt ≤ (2147483647 : Int) by omega⟩ (by show (2147483647 - t33.toInt).toNat < n3; omega) _ _ _ hP hD hS (lv_sub hl [0, 2, 3, 4, 5] rfl)
          · skip
            have zc25 : ¬ (r24.toInt ≤ r23.toInt) := by rw [fa_le] at c25; exact c25
            have rg36 := fb_rng r23
            have rg37 := fb_rng r24
            refine lv_iconst (v := 1) hx hb dX2_frontOf_39 (by decide) ?_
            refine lv_goto (tgt := 44) hx hb dX2_frontOf_40 (by decide) ?_
            refine lv_istore (lv' := [(5, .int 1), (4, .int l4_3), (3, .int t2), (2, .int l2_3), (0, .ref (x 29)), (1, .int p1)]) hx hb dX2_frontOf_44 hl (by decide) rfl (fun ls hl => ?_)
            refine lv_iload hx hb dX2_frontOf_46 (lv_at hl 1 rfl) ?_
            refine lv_iload_n hx hb dX2_frontOf_48 rfl (lv_at hl 2 rfl) ?_
            refine lv_iand hx hb dX2_frontOf_49 ?_
            refine lv_topi (fun t38 et38 => ?_)
            refine lv_if_ne (tgt := 71) hx hb dX2_frontOf_50 (by decide) (fun c39 => ?_) (fun c39 => ?_)
            · skip
              have zc39 : ¬ (t38.toInt = 0) := by rw [fa_eq, show (0 : Int32).toInt = 0 from by decide] at c39; exact c39
              obtain ⟨t40, et40⟩ : ∃ y : Int32, y = l4_3 + 1 := ⟨_, rfl⟩
              have rg41 := fb_rng l4_3
              have zt40 : t40.toInt = l4_3.toInt + 1 := by rw [et40]; exact add_i rfl (by decide) (by omega) (by omega)
              refine lv_iinc (v := t40) (lv' := [(4, .int t40), (5, .int 1), (3, .int t2), (2, .int l2_3), (0, .ref (x 29)), (1, .int p1)]) hx hb dX2_frontOf_71 hl (k := 1) rfl (by rw [et40]; rfl) (by decide) rfl (fun ls hl => ?_)
              refine lv_goto (tgt := 15) hx hb dX2_frontOf_74 (by decide) ?_
              have rg42 := fb_rng t40
              exact ih3 l2_3 t40 ⟨show (0 : Int) ≤ t40.toInt by omega, show t40.toInt ≤ (2147483647 : Int) by omega⟩ (by show (2147483647 - t40.toInt).toNat < n3; omega) _ _ _ hP hD hS (lv_sub hl [0, 2, 3, 4, 5] rfl)
            · skip
              have zc39 : t38.toInt = 0 := by rw [fa_eq, show (0 : Int32).toInt = 0 from by decide] at c39; exact c39
              refine lv_iload hx hb dX2_frontOf_53 (lv_at hl 0 rfl) ?_
              refine lv_if_eq (tgt := 71) hx hb dX2_frontOf_55 (by decide) (fun c0 => absurd c0 (by decide)) (fun _ => ?_)
              refine lv_aload_n hx hb dX2_frontOf_58 rfl (lv_at hl 4 rfl) ?_
              refine lv_iload hx hb dX2_frontOf_59 (lv_at hl 1 rfl) ?_
              refine cbVi (n := 1) (rest := []) hx hb hml hown hts hE hP hD hS hA (sX_X2_wideTogether_1 l dC dI cy x0 x l4_3 v f hIv ) k_1065 k_1066 k_1067 k_110 k_1068 (by decide +kernel) ⟨Nat.le_of_ble_eq_true rfl, Nat.le_of_ble_eq_true rfl⟩ 30 2 rfl rfl (rfl) hl.1 rfl (Nat.le_of_ble_eq_true rfl) dX2_frontOf_61 (fun r43 u H locs hw hP hD hS => ?_)
              refine lv_iload_n hx hb dX2_frontOf_64 rfl (lv_at hl 5 rfl) ?_
              refine lv_icmp_lt (tgt := 71) hx hb dX2_frontOf_65 (by decide) (fun c44 => ?_) (fun c44 => ?_)
              · skip
                have zc44 : r43.toInt < p1.toInt := by rw [fa_lt] at c44; exact c44
                have rg45 := fb_rng r43
                have rg46 := fb_rng p1
                obtain ⟨t47, et47⟩ : ∃ y : Int32, y = l4_3 + 1 := ⟨_, rfl⟩
                have rg48 := fb_rng l4_3
                have zt47 : t47.toInt = l4_3.toInt + 1 := by rw [et47]; exact add_i rfl (by decide) (by omega) (by omega)
                refine lv_iinc (v := t47) (lv' := [(4, .int t47), (5, .int 1), (3, .int t2), (2, .int l2_3), (0, .ref (x 29)), (1, .int p1)]) hx hb dX2_frontOf_71 hl (k := 1) rfl (by rw [et47]; rfl) (by decide) rfl (fun ls hl => ?_)
                refine lv_goto (tgt := 15) hx hb dX2_frontOf_74 (by decide) ?_
                have rg49 := fb_rng t47
                exact ih3 l2_3 t47 ⟨show (0 : Int) ≤ t47.toInt by omega, show t47.toInt ≤ (2147483647 : Int) by omega⟩ (by show (2147483647 - t47.toInt).toNat < n3; omega) _ _ _ hP hD hS (lv_sub hl [0, 2, 3, 4, 5] rfl)
              · skip
                have zc44 : ¬ (r43.toInt < p1.toInt) := by rw [fa_lt] at c44; exact c44
                have rg50 := fb_rng r43
                have rg51 := fb_rng p1
                refine lv_iload hx hb dX2_frontOf_68 (lv_at hl 1 rfl) ?_
                refine lv_istore_n (lv' := [(2, .int l4_3), (5, .int 1), (4, .int l4_3), (3, .int t2), (0, .ref (x 29)), (1, .int p1)]) hx hb dX2_frontOf_70 rfl hl (by decide) rfl (fun ls hl => ?_)
                obtain ⟨t52, et52⟩ : ∃ y : Int32, y = l4_3 + 1 := ⟨_, rfl⟩
                have rg53 := fb_rng l4_3
                have zt52 : t52.toInt = l4_3.toInt + 1 := by rw [et52]; exact add_i rfl (by decide) (by omega) (by omega)
                refine lv_iinc (v := t52) (lv' := [(4, .int t52), (2, .int l4_3), (5, .int 1), (3, .int t2), (0, .ref (x 29)), (1, .int p1)]) hx hb dX2_frontOf_71 hl (k := 2) rfl (by rw [et52]; rfl) (by decide) rfl (fun ls hl => ?_)
                refine lv_goto (tgt := 15) hx hb dX2_frontOf_74 (by decide) ?_
                have rg54 := fb_rng t52
                exact ih3 l4_3 t52 ⟨show (0 : Int) ≤ t52.toInt by omega, show t52.toInt ≤ (2147483647 : Int) by omega⟩ (by show (2147483647 - t52.toInt).toNat < n3; omega) _ _ _ hP hD hS (lv_sub hl [0, 3, 1, 4, 5] rfl)
  exact lp3 _ (-1) 0 ⟨by decide, by decide⟩ (Nat.lt_succ_self _) _ _ _ hP hD hS (lv_sub hl [0, 1, 2, 3, 4] rfl)
set_option maxHeartbeats 4000000 in
set_option maxRecDepth 100000 in
theorem sX_X10_front_1 (l : Launch) (dC : Nat → ClassId) (dI : Nat → Nat → Nat) (cy : Nat → ClassId) (x0 : Nat) (x : Nat → Nat) (p1 : Int32) (p2 : Int32) (v : Nat → Int32) (f : Nat → Nat → Int32) (hIv : XI v)  : ctI l (dC, dI) cy yX10_front cX10_front 4 .int 5 152 0 0 Unit [.ref x0, .int p1, .int p2] (XW cy x0 x v f) (fun r u => True) (fun u => XW cy x0 x v f) := by
  refine ctI_of (by decide) (Nat.le_of_ble_eq_true rfl) (fun p e s m below meth c A ls Q hx hb hml hts hown hE hP hD hA hl ret => ?_)
  have hown : s.vm.findClass RX10 = some m.cls := hown
  have hS : va_S A s.heap s.heap [] := va_S.rf
  have hl : lv_has ls 4 [(0, .ref x0), (1, .int p1), (2, .int p2)] := hl
  refine lv_iload_n hx hb dX10_front_0 rfl (lv_at hl 1 rfl) ?_
  refine lv_if_lt (tgt := 20) hx hb dX10_front_1 (by decide) (fun c1 => ?_) (fun c1 => ?_)
  · skip
    have zc1 : p1.toInt < 0 := by rw [fa_lt, show (0 : Int32).toInt = 0 from by decide] at c1; exact c1
    refine lv_iconst (v := (-1)) hx hb dX10_front_20 (by decide) ?_
    exact ret (-1) () _ _ _ _ _ _ rfl trivial hP hD hS dX10_front_21 (Nat.le_refl _) (Nat.le_refl _)
  · skip
    have zc1 : ¬ (p1.toInt < 0) := by rw [fa_lt, show (0 : Int32).toInt = 0 from by decide] at c1; exact c1
    refine lv_iload_n hx hb dX10_front_4 rfl (lv_at hl 1 rfl) ?_
    refine lv_sipush (v := 999) hx hb dX10_front_5 (by decide) ?_
    refine lv_icmp_gt (tgt := 20) hx hb dX10_front_8 (by decide) (fun c2 => ?_) (fun c2 => ?_)
    · skip
      have zc2 : 999 < p1.toInt := by rw [fa_lt, show (999 : Int32).toInt = 999 from by decide] at c2; exact c2
      refine lv_iconst (v := (-1)) hx hb dX10_front_20 (by decide) ?_
      exact ret (-1) () _ _ _ _ _ _ rfl trivial hP hD hS dX10_front_21 (Nat.le_refl _) (Nat.le_refl _)
    · skip
      have zc2 : ¬ (999 < p1.toInt) := by rw [fa_lt, show (999 : Int32).toInt = 999 from by decide] at c2; exact c2
      refine lv_iload_n hx hb dX10_front_11 rfl (lv_at hl 2 rfl) ?_
      refine lv_if_lt (tgt := 20) hx hb dX10_front_12 (by decide) (fun c3 => ?_) (fun c3 => ?_)
      · skip
        have zc3 : p2.toInt < 0 := by rw [fa_lt, show (0 : Int32).toInt = 0 from by decide] at c3; exact c3
        refine lv_iconst (v := (-1)) hx hb dX10_front_20 (by decide) ?_
        exact ret (-1) () _ _ _ _ _ _ rfl trivial hP hD hS dX10_front_21 (Nat.le_refl _) (Nat.le_refl _)
      · skip
        have zc3 : ¬ (p2.toInt < 0) := by rw [fa_lt, show (0 : Int32).toInt = 0 from by decide] at c3; exact c3
        refine lv_iload_n hx hb dX10_front_15 rfl (lv_at hl 2 rfl) ?_
        refine lv_iconst (v := 1) hx hb dX10_front_16 (by decide) ?_
        refine lv_icmp_le (tgt := 22) hx hb dX10_front_17 (by decide) (fun c4 => ?_) (fun c4 => ?_)
        · skip
          have zc4 : p2.toInt ≤ 1 := by rw [fa_le, show (1 : Int32).toInt = 1 from by decide] at c4; exact c4
          refine lv_aload_n hx hb dX10_front_22 rfl (lv_at hl 0 rfl) ?_
          refine va_get (D := (dC, dI)) (ci := 10) (v := .ref (x 29)) (C := RX10) (T := TX10) (N := 10) hx hb hts inB_10 hown hE.1 hP 0 rfl rfl 6 (by decide) (hts _ k_497) (fun _ h9 => h9) rfl dX10_front_23 ?_
          refine lv_iload_n hx hb dX10_front_26 rfl (lv_at hl 1 rfl) ?_
          refine cbVi (n := 1) (rest := []) hx hb hml hown hts hE hP hD hS hA (sX_X2_frontOf_1 l dC dI cy x0 x p1 v f hIv ) k_1056 k_1057 k_1058 k_110 k_1059 (by decide +kernel) ⟨Nat.le_of_ble_eq_true rfl, Nat.le_of_ble_eq_true rfl⟩ 30 2 rfl rfl (rfl) hl.1 rfl (Nat.le_of_ble_eq_true rfl) dX10_front_27 (fun r5 u H locs hw hP hD hS => ?_)
          refine lv_istore_n (lv' := [(3, .int r5), (0, .ref x0), (1, .int p1), (2, .int p2)]) hx hb dX10_front_30 rfl hl (by decide) rfl (fun ls hl => ?_)
          refine lv_iload_n hx hb dX10_front_31 rfl (lv_at hl 3 rfl) ?_
          refine lv_iconst (v := 1) hx hb dX10_front_32 (by decide) ?_
          refine lv_icmp_eq (tgt := 41) hx hb dX10_front_33 (by decide) (fun c6 => ?_) (fun c6 => ?_)
          · skip
            have zc6 : p2.toInt = 1 := by rw [fa_eq, show (1 : Int32).toInt = 1 from by decide] at c6; exact c6
            refine lv_iload_n hx hb dX10_front_41 rfl (lv_at hl 0 rfl) ?_
            refine lv_goto (tgt := 49) hx hb dX10_front_42 (by decide) ?_
            exact ret r5 () _ _ _ _ _ _ rfl trivial hP hD hS dX10_front_49 (Nat.le_refl _) (Nat.le_refl _)
          · skip
            have zc6 : ¬ (p2.toInt = 1) := by rw [fa_eq, show (1 : Int32).toInt = 1 from by decide] at c6; exact c6
            refine lv_iload_n hx hb dX10_front_36 rfl (lv_at hl 0 rfl) ?_
            refine lv_iconst (v := (-1)) hx hb dX10_front_37 (by decide) ?_
            refine lv_icmp_ne (tgt := 45) hx hb dX10_front_38 (by decide) (fun c7 => ?_) (fun c7 => ?_)
            · skip
              have zc7 : ¬ (r5.toInt = (-1)) := by rw [fa_eq, show ((-1) : Int32).toInt = -1 from by decide] at c7; exact c7
              refine lv_iload_n hx hb dX10_front_45 rfl (lv_at hl 0 rfl) ?_
              refine cbSi (n := 1) (rest := []) hx hb hml hown hts hE hP hD hS hA (sX_J6_bitCount_0f7a4_1 l dC dI cy x0 x r5 v f hIv ) k_1071 k_1043 k_121 k_1044 (by decide +kernel) ⟨Nat.le_of_ble_eq_true rfl, Nat.le_of_ble_eq_true rfl⟩ (rfl) hl.1 rfl (Nat.le_of_ble_eq_true rfl) dX10_front_46 (fun r8 u H locs hw hP hD hS => ?_)
              exact ret r8 () _ _ _ _ _ _ rfl trivial hP hD hS dX10_front_49 (Nat.le_refl _) (Nat.le_refl _)
            · skip
              have zc7 : r5.toInt = (-1) := by rw [fa_eq, show ((-1) : Int32).toInt = -1 from by decide] at c7; exact c7
              refine lv_iload_n hx hb dX10_front_41 rfl (lv_at hl 0 rfl) ?_
              refine lv_goto (tgt := 49) hx hb dX10_front_42 (by decide) ?_
              exact ret r5 () _ _ _ _ _ _ rfl trivial hP hD hS dX10_front_49 (Nat.le_refl _) (Nat.le_refl _)
        · skip
          have zc4 : ¬ (p2.toInt ≤ 1) := by rw [fa_le, show (1 : Int32).toInt = 1 from by decide] at c4; exact c4
          refine lv_iconst (v := (-1)) hx hb dX10_front_20 (by decide) ?_
          exact ret (-1) () _ _ _ _ _ _ rfl trivial hP hD hS dX10_front_21 (Nat.le_refl _) (Nat.le_refl _)
set_option maxHeartbeats 4000000 in
set_option maxRecDepth 100000 in
theorem sX_J6_lowestOneBit_0f7a4_1 (l : Launch) (dC : Nat → ClassId) (dI : Nat → Nat → Nat) (cy : Nat → ClassId) (x0 : Nat) (x : Nat → Nat) (p0 : Int32) (v : Nat → Int32) (f : Nat → Nat → Int32) (hIv : XI v)  : ctI l (dC, dI) cy yJ6_lowestOneBit_0f7a4 cJ6_lowestOneBit_0f7a4 1 .int 1 60 0 0 Unit [.int p0] (XW cy x0 x v f) (fun r u => True) (fun u => XW cy x0 x v f) := by
  refine ctI_of (by decide) (Nat.le_of_ble_eq_true rfl) (fun p e s m below meth c A ls Q hx hb hml hts hown hE hP hD hA hl ret => ?_)
  have hown : s.vm.findClass RJ6 = some m.cls := hown
  have hS : va_S A s.heap s.heap [] := va_S.rf
  have hl : lv_has ls 1 [(0, .int p0)] := hl
  refine lv_iload_n hx hb dJ6_lowestOneBit_0f7a4_0 rfl (lv_at hl 0 rfl) ?_
  refine lv_iload_n hx hb dJ6_lowestOneBit_0f7a4_1 rfl (lv_at hl 0 rfl) ?_
  refine lv_ineg hx hb dJ6_lowestOneBit_0f7a4_2 ?_
  refine lv_topi (fun t1 et1 => ?_)
  refine lv_iand hx hb dJ6_lowestOneBit_0f7a4_3 ?_
  refine lv_topi (fun t2 et2 => ?_)
  exact ret t2 () _ _ _ _ _ _ rfl trivial hP hD hS dJ6_lowestOneBit_0f7a4_4 (Nat.le_refl _) (Nat.le_refl _)
set_option maxHeartbeats 4000000 in
set_option maxRecDepth 100000 in
theorem sX_X2_difference_1 (l : Launch) (dC : Nat → ClassId) (dI : Nat → Nat → Nat) (cy : Nat → ClassId) (x0 : Nat) (x : Nat → Nat) (p1 : Int32) (v : Nat → Int32) (f : Nat → Nat → Int32) (hIv : XI v)  : ctI l (dC, dI) cy yX2_difference cX2_difference 2 .int 4 127 0 0 Unit [.ref (x 29), .int p1] (XW cy x0 x v f) (fun r u => True) (fun u => XW cy x0 x v f) := by
  refine ctI_of (by decide) (Nat.le_of_ble_eq_true rfl) (fun p e s m below meth c A ls Q hx hb hml hts hown hE hP hD hA hl ret => ?_)
  have hown : s.vm.findClass RX2 = some m.cls := hown
  have hS : va_S A s.heap s.heap [] := va_S.rf
  have hl : lv_has ls 2 [(0, .ref (x 29)), (1, .int p1)] := hl
  refine lv_aload_n hx hb dX2_difference_0 rfl (lv_at hl 0 rfl) ?_
  refine lv_aload_n hx hb dX2_difference_1 rfl (lv_at hl 0 rfl) ?_
  refine va_get (D := (dC, dI)) (ci := 2) (v := .ref (x 21)) (C := RX2) (T := TX2) (N := 3) hx hb hts inB_2 hown hE.1 hP 30 rfl rfl 1 (by decide) (hts _ k_415) (fun _ h9 => h9) rfl dX2_difference_2 ?_
  refine cbVi (n := 0) (rest := [.ref (x 29)]) hx hb hml hown hts hE hP hD hS hA (sX_X1_wearers_1 l dC dI cy x0 x  v f hIv ) k_1060 k_1061 k_1062 k_106 k_1063 (by decide +kernel) ⟨Nat.le_of_ble_eq_true rfl, Nat.le_of_ble_eq_true rfl⟩ 22 1 rfl rfl (rfl) hl.1 rfl (Nat.le_of_ble_eq_true rfl) dX2_difference_5 (fun r1 u H locs hw hP hD hS => ?_)
  refine cbVi (n := 1) (rest := []) hx hb hml hown hts hE hP hD hS hA (sX_X2_wideTogether_1 l dC dI cy x0 x r1 v f hIv ) k_1065 k_1066 k_1067 k_110 k_1068 (by decide +kernel) ⟨Nat.le_of_ble_eq_true rfl, Nat.le_of_ble_eq_true rfl⟩ 30 2 rfl rfl (rfl) hl.1 rfl (Nat.le_of_ble_eq_true rfl) dX2_difference_8 (fun r2 u H locs hw hP hD hS => ?_)
  refine lv_iconst (v := 2) hx hb dX2_difference_11 (by decide) ?_
  refine lv_aload_n hx hb dX2_difference_12 rfl (lv_at hl 0 rfl) ?_
  refine lv_iload_n hx hb dX2_difference_13 rfl (lv_at hl 1 rfl) ?_
  refine cbVi (n := 1) (rest := [.int 2, .int r2]) hx hb hml hown hts hE hP hD hS hA (sX_X2_wideTogether_1 l dC dI cy x0 x p1 v f hIv ) k_1065 k_1066 k_1067 k_110 k_1068 (by decide +kernel) ⟨Nat.le_of_ble_eq_true rfl, Nat.le_of_ble_eq_true rfl⟩ 30 2 rfl rfl (rfl) hl.1 rfl (Nat.le_of_ble_eq_true rfl) dX2_difference_14 (fun r3 u H locs hw hP hD hS => ?_)
  refine lv_imul hx hb dX2_difference_17 ?_
  refine lv_topi (fun t4 et4 => ?_)
  refine lv_isub hx hb dX2_difference_18 ?_
  refine lv_topi (fun t5 et5 => ?_)
  refine va_mabs hx hb (by rw [hml]; exact hl.1.symm) hown (hts _ k_1091) (hts _ k_1018) (hts _ k_119) (hts _ k_1019) (Nat.le_of_ble_eq_true rfl) (Nat.le_of_ble_eq_true rfl) (Nat.le_of_ble_eq_true rfl) (Nat.le_of_ble_eq_true rfl) dX2_difference_19 ?_
  refine lv_topi (fun t6 et6 => ?_)
  exact ret t6 () _ _ _ _ _ _ rfl trivial hP hD hS dX2_difference_22 (Nat.le_refl _) (Nat.le_refl _)
