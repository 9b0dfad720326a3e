set_option maxHeartbeats 4000000 in
set_option maxRecDepth 100000 in
theorem sX_X10_wings_1 (l : Launch) (dC : Nat → ClassId) (dI : Nat → Nat → Nat) (cy : Nat → ClassId) (x0 : Nat) (x : Nat → Nat) (p1 : Int32) (v : Nat → Int32) (f : Nat → Nat → Int32) (hIv : XI v)  : ctI l (dC, dI) cy yX10_wings cX10_wings 3 .int 7 196 0 0 Unit [.ref x0, .int p1] (XW cy x0 x v f) (fun r u => True) (fun u => XW cy x0 x v f) := by
  refine ctI_of (by decide) (Nat.le_of_ble_eq_true rfl) (fun p e s m below meth c A ls Q hx hb hml hts hown hE hP hD hA hl ret => ?_)
  have hown : s.vm.findClass RX10 = some m.cls := hown
  have hS : va_S A s.heap s.heap [] := va_S.rf
  have hl : lv_has ls 3 [(0, .ref x0), (1, .int p1)] := hl
  refine lv_iload_n hx hb dX10_wings_0 rfl (lv_at hl 1 rfl) ?_
  refine lv_if_lt (tgt := 9) hx hb dX10_wings_1 rfl (fun c1 => ?_) (fun c1 => ?_)
  · skip
    refine lv_iconst (v := (-1)) hx hb dX10_wings_9 rfl ?_
    exact ret (-1) () _ _ _ _ _ _ rfl trivial hP hD hS dX10_wings_10 (Nat.le_refl _) (Nat.le_refl _)
  · skip
    refine lv_iload_n hx hb dX10_wings_4 rfl (lv_at hl 1 rfl) ?_
    refine lv_iconst (v := 1) hx hb dX10_wings_5 rfl ?_
    refine lv_icmp_le (tgt := 11) hx hb dX10_wings_6 rfl (fun c2 => ?_) (fun c2 => ?_)
    · skip
      refine lv_aload_n hx hb dX10_wings_11 rfl (lv_at hl 0 rfl) ?_
      refine va_get (D := (dC, dI)) (ci := 10) (v := .ref (x 29)) (C := RX10) (T := TX10) (N := 10) hx hb hts inB_10 hown hE.1 hP 0 rfl rfl 6 (Nat.le_of_ble_eq_true rfl) (hts _ k_497) (fun _ h9 => h9) rfl dX10_wings_12 ?_
      refine cbVi (n := 0) (rest := []) hx hb hml hown hts hE hP hD hS hA (sX_X2_leftWing_1 l dC dI cy x0 x  v f hIv ) k_1076 k_1077 k_1078 k_110 k_1079 hd_yX2_leftWing ⟨Nat.le_of_ble_eq_true rfl, Nat.le_of_ble_eq_true rfl⟩ 30 2 rfl rfl (rfl) hl.1 rfl (Nat.le_of_ble_eq_true rfl) dX10_wings_15 (fun r3 u H locs hw hP hD hS => ?_)
      refine lv_istore_n (lv' := [(2, .int r3), (0, .ref x0), (1, .int p1)]) hx hb dX10_wings_18 rfl hl (Nat.le_of_ble_eq_true rfl) rfl (fun ls hl => ?_)
      refine lv_iload_n hx hb dX10_wings_19 rfl (lv_at hl 2 rfl) ?_
      refine lv_iconst (v := 1) hx hb dX10_wings_20 rfl ?_
      refine lv_icmp_ne (tgt := 28) hx hb dX10_wings_21 rfl (fun c4 => ?_) (fun c4 => ?_)
      · skip
        refine lv_aload_n hx hb dX10_wings_28 rfl (lv_at hl 1 rfl) ?_
        refine va_get (D := (dC, dI)) (ci := 10) (v := .ref (x 29)) (C := RX10) (T := TX10) (N := 10) hx hb hts inB_10 hown hE.1 hP 0 rfl rfl 6 (Nat.le_of_ble_eq_true rfl) (hts _ k_497) (fun _ h9 => h9) rfl dX10_wings_29 ?_
        refine lv_iload_n hx hb dX10_wings_32 rfl (lv_at hl 0 rfl) ?_
        refine cbVi (n := 1) (rest := []) hx hb hml hown hts hE hP hD hS hA (sX_X2_difference_1 l dC dI cy x0 x r3 v f hIv ) k_1092 k_1088 k_1089 k_110 k_1090 hd_yX2_difference ⟨Nat.le_of_ble_eq_true rfl, Nat.le_of_ble_eq_true rfl⟩ 30 2 rfl rfl (rfl) hl.1 rfl (Nat.le_of_ble_eq_true rfl) dX10_wings_33 (fun r5 u H locs hw hP hD hS => ?_)
        exact ret r5 () _ _ _ _ _ _ rfl trivial hP hD hS dX10_wings_36 (Nat.le_refl _) (Nat.le_refl _)
      · skip
        refine lv_iload_n hx hb dX10_wings_24 rfl (lv_at hl 0 rfl) ?_
        refine lv_goto (tgt := 36) hx hb dX10_wings_25 rfl ?_
        exact ret r3 () _ _ _ _ _ _ rfl trivial hP hD hS dX10_wings_36 (Nat.le_refl _) (Nat.le_refl _)
    · skip
      refine lv_iconst (v := (-1)) hx hb dX10_wings_9 rfl ?_
      exact ret (-1) () _ _ _ _ _ _ rfl trivial hP hD hS dX10_wings_10 (Nat.le_refl _) (Nat.le_refl _)
set_option maxHeartbeats 4000000 in
set_option maxRecDepth 100000 in
theorem sX_X2_rowLength_1 (l : Launch) (dC : Nat → ClassId) (dI : Nat → Nat → Nat) (cy : Nat → ClassId) (x0 : Nat) (x : Nat → Nat) (p1 : Int32) (v : Nat → Int32) (f : Nat → Nat → Int32) (hIv : XI v)  : ctI l (dC, dI) cy yX2_rowLength cX2_rowLength 5 .int 3 104 0 0 Unit [.ref (x 29), .int p1] (XW cy x0 x v f) (fun r u => True) (fun u => XW cy x0 x v f) := by
  refine ctI_of (by decide) (Nat.le_of_ble_eq_true rfl) (fun p e s m below meth c A ls Q hx hb hml hts hown hE hP hD hA hl ret => ?_)
  have hown : s.vm.findClass RX2 = some m.cls := hown
  have hS : va_S A s.heap s.heap [] := va_S.rf
  have hl : lv_has ls 5 [(0, .ref (x 29)), (1, .int p1)] := hl
  refine lv_iconst (v := 0) hx hb dX2_rowLength_0 rfl ?_
  refine lv_istore_n (lv' := [(2, .int 0), (0, .ref (x 29)), (1, .int p1)]) hx hb dX2_rowLength_1 rfl hl (Nat.le_of_ble_eq_true rfl) rfl (fun ls hl => ?_)
  refine lv_iconst (v := 0) hx hb dX2_rowLength_2 rfl ?_
  refine lv_istore_n (lv' := [(3, .int 0), (2, .int 0), (0, .ref (x 29)), (1, .int p1)]) hx hb dX2_rowLength_3 rfl hl (Nat.le_of_ble_eq_true rfl) rfl (fun ls hl => ?_)
  refine lv_iconst (v := 0) hx hb dX2_rowLength_4 rfl ?_
  refine lv_istore (lv' := [(4, .int 0), (3, .int 0), (2, .int 0), (0, .ref (x 29)), (1, .int p1)]) hx hb dX2_rowLength_5 hl (Nat.le_of_ble_eq_true rfl) rfl (fun ls hl => ?_)
  have lp1 : ∀ (n1 : Nat) (l2_1 : Int32) (l3_1 : Int32) (l4_1 : Int32), ((0 : Int) ≤ l4_1.toInt ∧ l4_1.toInt ≤ 2147483647) → (2147483647 - l4_1.toInt).toNat < n1 → ∀ (H : Heap) (locs : List Loc) (ls : Array Slot), va_P (dC, dI) vwCl (XW cy x0 x v f) H → va_D A (XW cy x0 x v f) → va_S A s.heap H locs → lv_has ls 5 [(4, .int l4_1), (3, .int l3_1), (2, .int l2_1), (0, .ref (x 29)), (1, .int p1)] → W p l e { frames := 3, cells := 0, slots := 0, locals := 104 } s m ([.ref (x 29), .int p1] : List Value).toArray below meth c H locs 0 0 Q (F0 m 7 ls []) := by
    intro n1
    induction n1 with
    | zero => intro l2_1 l3_1 l4_1 hr4_1 hm; exact absurd hm (Nat.not_lt_zero _)
    | succ n1 ih1 =>
      intro l2_1 l3_1 l4_1 hr4_1 hm1 H locs ls hP hD hS hl
      refine lv_iload hx hb dX2_rowLength_7 (lv_at hl 0 rfl) ?_
      refine lv_aload_n hx hb dX2_rowLength_9 rfl (lv_at hl 3 rfl) ?_
      refine va_get (D := (dC, dI)) (ci := 2) (v := .ref (x 26)) (C := RX2) (T := TX2) (N := 3) hx hb hts inB_2 hown hE.1 hP 30 rfl rfl 0 (Nat.le_of_ble_eq_true rfl) (hts _ k_414) (fun _ h9 => h9) rfl dX2_rowLength_10 ?_
      refine va_getN (D := (dC, dI)) (ci := 7) (v := .int (v 32)) (C := RX7) (T := TX7) (N := 10) hx hb hts inB_7 hown hE.1 hP 27 rfl rfl 4 (Nat.le_of_ble_eq_true rfl) (va_Nw.use rfl (hE.2 _ k_223)) (fun _ h9 => h9) rfl dX2_rowLength_13 ?_
      have b32_v : 0 ≤ (v 32).toInt ∧ (v 32).toInt ≤ 6 := Xb_32 hIv
      refine lv_icmp_ge (tgt := 62) hx hb dX2_rowLength_16 rfl (fun c2 => ?_) (fun c2 => ?_)
      · skip
        refine lv_iload_n hx hb dX2_rowLength_62 rfl (lv_at hl 2 rfl) ?_
        refine lv_aload_n hx hb dX2_rowLength_63 rfl (lv_at hl 3 rfl) ?_
        refine va_get (D := (dC, dI)) (ci := 2) (v := .ref (x 26)) (C := RX2) (T := TX2) (N := 3) hx hb hts inB_2 hown hE.1 hP 30 rfl rfl 0 (Nat.le_of_ble_eq_true rfl) (hts _ k_414) (fun _ h9 => h9) rfl dX2_rowLength_64 ?_
        refine va_getN (D := (dC, dI)) (ci := 7) (v := .int (v 34)) (C := RX7) (T := TX7) (N := 10) hx hb hts inB_7 hown hE.1 hP 27 rfl rfl 6 (Nat.le_of_ble_eq_true rfl) (va_Nw.use rfl (hE.2 _ k_235)) (fun _ h9 => h9) rfl dX2_rowLength_67 ?_
        refine lv_icmp_le (tgt := 77) hx hb dX2_rowLength_70 rfl (fun c5 => ?_) (fun c5 => ?_)
        · skip
          refine lv_iload_n hx hb dX2_rowLength_77 rfl (lv_at hl 1 rfl) ?_
          exact ret l3_1 () _ _ _ _ _ _ rfl trivial hP hD hS dX2_rowLength_78 (Nat.le_refl _) (Nat.le_refl _)
        · skip
          refine lv_iconst (v := (-1)) hx hb dX2_rowLength_73 rfl ?_
          refine lv_goto (tgt := 78) hx hb dX2_rowLength_74 rfl ?_
          exact ret (-1) () _ _ _ _ _ _ rfl trivial hP hD hS dX2_rowLength_78 (Nat.le_refl _) (Nat.le_refl _)
      · skip
        have zc2 : ¬ ((v 32).toInt ≤ l4_1.toInt) := zMn rfl rfl c2
        refine lv_iload_n hx hb dX2_rowLength_19 rfl (lv_at hl 4 rfl) ?_
        refine lv_iload hx hb dX2_rowLength_20 (lv_at hl 0 rfl) ?_
        refine lv_ishr hx hb dX2_rowLength_22 ?_
        refine lv_topi (fun t12 et12 => ?_)
        refine lv_iconst (v := 1) hx hb dX2_rowLength_23 rfl ?_
        refine lv_iand hx hb dX2_rowLength_24 ?_
        refine lv_topi (fun t13 et13 => ?_)
        refine lv_if_eq (tgt := 56) hx hb dX2_rowLength_25 rfl (fun c14 => ?_) (fun c14 => ?_)
        · skip
          obtain ⟨t15, et15⟩ : ∃ y : Int32, y = l4_1 + 1 := ⟨_, rfl⟩
          have zt15 : t15.toInt = l4_1.toInt + 1 := (congrArg Int32.toInt et15).trans (add_i rfl tc_1 (om_41 hr4_1) (om_187 b32_v zc2))
          refine lv_iinc (v := t15) (lv' := [(4, .int t15), (3, .int l3_1), (2, .int l2_1), (0, .ref (x 29)), (1, .int p1)]) hx hb dX2_rowLength_56 hl (k := 0) rfl et15.symm (Nat.le_of_ble_eq_true rfl) rfl (fun ls hl => ?_)
          refine lv_goto (tgt := 7) hx hb dX2_rowLength_59 rfl ?_
          have rg16 := fb_rng t15
          exact ih1 l2_1 l3_1 t15 ⟨show (0 : Int) ≤ t15.toInt from om_43 hr4_1 zt15, show t15.toInt ≤ (2147483647 : Int) from om_44 rg16⟩ (show (2147483647 - t15.toInt).toNat < n1 from om_33 hm1 zt15 rg16) _ _ _ hP hD hS (lv_sub hl [0, 1, 2, 3, 4] rfl)
        · skip
          refine lv_iload_n hx hb dX2_rowLength_28 rfl (lv_at hl 2 rfl) ?_
          refine lv_aload_n hx hb dX2_rowLength_29 rfl (lv_at hl 3 rfl) ?_
          refine va_get (D := (dC, dI)) (ci := 2) (v := .ref (x 21)) (C := RX2) (T := TX2) (N := 3) hx hb hts inB_2 hown hE.1 hP 30 rfl rfl 1 (Nat.le_of_ble_eq_true rfl) (hts _ k_415) (fun _ h9 => h9) rfl dX2_rowLength_30 ?_
          refine lv_iconst (v := 1) hx hb dX2_rowLength_33 rfl ?_
          refine lv_iload hx hb dX2_rowLength_34 (lv_at hl 0 rfl) ?_
          refine cbVi (n := 2) (rest := [.int l2_1]) hx hb hml hown hts hE hP hD hS hA (sX_X1_part_1 0 l dC dI cy x0 x 1 l4_1 v f hIv ) k_1070 k_828 k_829 k_106 k_830 hd_yX1_part ⟨Nat.le_of_ble_eq_true rfl, Nat.le_of_ble_eq_true rfl⟩ 22 1 rfl rfl (rfl) hl.1 rfl (Nat.le_of_ble_eq_true rfl) dX2_rowLength_36 (fun r17 u H locs hw hP hD hS => ?_)
          have hG18 := hw
          refine lv_iadd hx hb dX2_rowLength_39 ?_
          refine lv_topi (fun t19 et19 => ?_)
          refine lv_istore_n (lv' := [(2, .int t19), (4, .int l4_1), (3, .int l3_1), (0, .ref (x 29)), (1, .int p1)]) hx hb dX2_rowLength_40 rfl hl (Nat.le_of_ble_eq_true rfl) rfl (fun ls hl => ?_)
          refine lv_iload_n hx hb dX2_rowLength_41 rfl (lv_at hl 2 rfl) ?_
          refine lv_aload_n hx hb dX2_rowLength_42 rfl (lv_at hl 3 rfl) ?_
          refine va_get (D := (dC, dI)) (ci := 2) (v := .ref (x 21)) (C := RX2) (T := TX2) (N := 3) hx hb hts inB_2 hown hE.1 hP 30 rfl rfl 1 (Nat.le_of_ble_eq_true rfl) (hts _ k_415) (fun _ h9 => h9) rfl dX2_rowLength_43 ?_
          refine lv_iconst (v := 0) hx hb dX2_rowLength_46 rfl ?_
          refine lv_iload hx hb dX2_rowLength_47 (lv_at hl 1 rfl) ?_
          refine cbVi (n := 2) (rest := [.int l3_1]) hx hb hml hown hts hE hP hD hS hA (sX_X1_part_1 0 l dC dI cy x0 x 0 l4_1 v f hIv ) k_1070 k_828 k_829 k_106 k_830 hd_yX1_part ⟨Nat.le_of_ble_eq_true rfl, Nat.le_of_ble_eq_true rfl⟩ 22 1 rfl rfl (rfl) hl.1 rfl (Nat.le_of_ble_eq_true rfl) dX2_rowLength_49 (fun r20 u H locs hw hP hD hS => ?_)
          have hG21 := hw
          refine va_mmax hx hb (by rw [hml]; exact hl.1.symm) hown (hts _ k_1109) (hts _ k_640) (hts _ k_119) (hts _ k_641) (Nat.le_of_ble_eq_true rfl) (Nat.le_of_ble_eq_true rfl) (Nat.le_of_ble_eq_true rfl) (Nat.le_of_ble_eq_true rfl) dX2_rowLength_52 ?_
          refine lv_topi (fun t22 et22 => ?_)
          refine lv_istore_n (lv' := [(3, .int t22), (2, .int t19), (4, .int l4_1), (0, .ref (x 29)), (1, .int p1)]) hx hb dX2_rowLength_55 rfl hl (Nat.le_of_ble_eq_true rfl) rfl (fun ls hl => ?_)
          obtain ⟨t23, et23⟩ : ∃ y : Int32, y = l4_1 + 1 := ⟨_, rfl⟩
          have zt23 : t23.toInt = l4_1.toInt + 1 := (congrArg Int32.toInt et23).trans (add_i rfl tc_1 (om_41 hr4_1) (om_187 b32_v zc2))
          refine lv_iinc (v := t23) (lv' := [(4, .int t23), (3, .int t22), (2, .int t19), (0, .ref (x 29)), (1, .int p1)]) hx hb dX2_rowLength_56 hl (k := 2) rfl et23.symm (Nat.le_of_ble_eq_true rfl) rfl (fun ls hl => ?_)
          refine lv_goto (tgt := 7) hx hb dX2_rowLength_59 rfl ?_
          have rg24 := fb_rng t23
          exact ih1 t19 t22 t23 ⟨show (0 : Int) ≤ t23.toInt from om_43 hr4_1 zt23, show t23.toInt ≤ (2147483647 : Int) from om_44 rg24⟩ (show (2147483647 - t23.toInt).toNat < n1 from om_33 hm1 zt23 rg24) _ _ _ hP hD hS (lv_sub hl [0, 1, 2, 3, 4] rfl)
  exact lp1 _ 0 0 0 ⟨by decide, by decide⟩ (Nat.lt_succ_self _) _ _ _ hP hD hS (lv_sub hl [0, 1, 2, 3, 4] rfl)
set_option maxHeartbeats 4000000 in
set_option maxRecDepth 100000 in
theorem sX_X2_leastLength_1 (l : Launch) (dC : Nat → ClassId) (dI : Nat → Nat → Nat) (cy : Nat → ClassId) (x0 : Nat) (x : Nat → Nat) (p1 : Int32) (v : Nat → Int32) (f : Nat → Nat → Int32) (hIv : XI v) (hp1 : (0 : Int) ≤ p1.toInt ∧ p1.toInt ≤ 63) : ctI l (dC, dI) cy yX2_leastLength cX2_leastLength 6 .int 4 128 0 0 Unit [.ref (x 29), .int p1] (XW cy x0 x v f) (fun r u => True) (fun u => XW cy x0 x v f) := by
  refine ctI_of (by decide) (Nat.le_of_ble_eq_true rfl) (fun p e s m below meth c A ls Q hx hb hml hts hown hE hP hD hA hl ret => ?_)
  have hown : s.vm.findClass RX2 = some m.cls := hown
  have hS : va_S A s.heap s.heap [] := va_S.rf
  have hl : lv_has ls 6 [(0, .ref (x 29)), (1, .int p1)] := hl
  refine lv_sipush (v := 1000) hx hb dX2_leastLength_0 rfl ?_
  refine lv_istore_n (lv' := [(2, .int 1000), (0, .ref (x 29)), (1, .int p1)]) hx hb dX2_leastLength_3 rfl hl (Nat.le_of_ble_eq_true rfl) rfl (fun ls hl => ?_)
  refine lv_iload_n hx hb dX2_leastLength_4 rfl (lv_at hl 2 rfl) ?_
  refine cbSi (n := 1) (rest := []) hx hb hml hown hts hE hP hD hS hA (sX_J6_lowestOneBit_0f7a4_1 l dC dI cy x0 x p1 v f hIv ) k_1080 k_1081 k_121 k_1082 he_yJ6_lowestOneBit_0f7a4 ⟨Nat.le_of_ble_eq_true rfl, Nat.le_of_ble_eq_true rfl⟩ (rfl) hl.1 rfl (Nat.le_of_ble_eq_true rfl) dX2_leastLength_5 (fun r1 u H locs hw hP hD hS => ?_)
  refine lv_istore_n (lv' := [(3, .int r1), (2, .int 1000), (0, .ref (x 29)), (1, .int p1)]) hx hb dX2_leastLength_8 rfl hl (Nat.le_of_ble_eq_true rfl) rfl (fun ls hl => ?_)
  refine lv_iload_n hx hb dX2_leastLength_9 rfl (lv_at hl 0 rfl) ?_
  refine lv_istore (lv' := [(4, .int r1), (3, .int r1), (2, .int 1000), (0, .ref (x 29)), (1, .int p1)]) hx hb dX2_leastLength_10 hl (Nat.le_of_ble_eq_true rfl) rfl (fun ls hl => ?_)
  have lp2 : ∀ (n2 : Nat) (l2_2 : Int32) (l4_2 : Int32), (2147483647 - l4_2.toInt).toNat < n2 → ∀ (H : Heap) (locs : List Loc) (ls : Array Slot), va_P (dC, dI) vwCl (XW cy x0 x v f) H → va_D A (XW cy x0 x v f) → va_S A s.heap H locs → lv_has ls 6 [(4, .int l4_2), (3, .int r1), (2, .int l2_2), (0, .ref (x 29)), (1, .int p1)] → W p l e { frames := 4, cells := 0, slots := 0, locals := 128 } s m ([.ref (x 29), .int p1] : List Value).toArray below meth c H locs 0 0 Q (F0 m 12 ls []) := by
    intro n2
    induction n2 with
    | zero => intro l2_2 l4_2 hm; exact absurd hm (Nat.not_lt_zero _)
    | succ n2 ih2 =>
      intro l2_2 l4_2 hm2 H locs ls hP hD hS hl
      refine lv_iload hx hb dX2_leastLength_12 (lv_at hl 0 rfl) ?_
      refine lv_iload_n hx hb dX2_leastLength_14 rfl (lv_at hl 4 rfl) ?_
      refine lv_icmp_gt (tgt := 76) hx hb dX2_leastLength_15 rfl (fun c3 => ?_) (fun c3 => ?_)
      · skip
        refine lv_iload_n hx hb dX2_leastLength_76 rfl (lv_at hl 2 rfl) ?_
        exact ret l2_2 () _ _ _ _ _ _ rfl trivial hP hD hS dX2_leastLength_77 (Nat.le_refl _) (Nat.le_refl _)
      · skip
        have zc3 : ¬ (p1.toInt < l4_2.toInt) := zLn rfl rfl c3
        have rg6 := fb_rng l4_2
        refine lv_iload hx hb dX2_leastLength_18 (lv_at hl 0 rfl) ?_
        refine lv_iload_n hx hb dX2_leastLength_20 rfl (lv_at hl 4 rfl) ?_
        refine lv_iconst (v := (-1)) hx hb dX2_leastLength_21 rfl ?_
        refine lv_ixor hx hb dX2_leastLength_22 ?_
        refine lv_topi (fun t8 et8 => ?_)
        refine lv_iand hx hb dX2_leastLength_23 ?_
        refine lv_topi (fun t9 et9 => ?_)
        refine lv_if_ne (tgt := 70) hx hb dX2_leastLength_24 rfl (fun c10 => ?_) (fun c10 => ?_)
        · skip
          obtain ⟨t11, et11⟩ : ∃ y : Int32, y = l4_2 + 1 := ⟨_, rfl⟩
          have zt11 : t11.toInt = l4_2.toInt + 1 := (congrArg Int32.toInt et11).trans (add_i rfl tc_1 (om_95 rg6) (om_262 hp1 zc3))
          refine lv_iinc (v := t11) (lv' := [(4, .int t11), (3, .int r1), (2, .int l2_2), (0, .ref (x 29)), (1, .int p1)]) hx hb dX2_leastLength_70 hl (k := 0) rfl et11.symm (Nat.le_of_ble_eq_true rfl) rfl (fun ls hl => ?_)
          refine lv_goto (tgt := 12) hx hb dX2_leastLength_73 rfl ?_
          exact ih2 l2_2 t11  (show (2147483647 - t11.toInt).toNat < n2 from om_263 hp1 hm2 zc3 zt11) _ _ _ hP hD hS (lv_sub hl [0, 1, 2, 3, 4] rfl)
        · skip
          refine lv_iload hx hb dX2_leastLength_27 (lv_at hl 0 rfl) ?_
          refine lv_iload_n hx hb dX2_leastLength_29 rfl (lv_at hl 1 rfl) ?_
          refine lv_iand hx hb dX2_leastLength_30 ?_
          refine lv_topi (fun t12 et12 => ?_)
          refine lv_if_eq (tgt := 70) hx hb dX2_leastLength_31 rfl (fun c13 => ?_) (fun c13 => ?_)
          · skip
            obtain ⟨t14, et14⟩ : ∃ y : Int32, y = l4_2 + 1 := ⟨_, rfl⟩
            have zt14 : t14.toInt = l4_2.toInt + 1 := (congrArg Int32.toInt et14).trans (add_i rfl tc_1 (om_95 rg6) (om_262 hp1 zc3))
            refine lv_iinc (v := t14) (lv' := [(4, .int t14), (3, .int r1), (2, .int l2_2), (0, .ref (x 29)), (1, .int p1)]) hx hb dX2_leastLength_70 hl (k := 0) rfl et14.symm (Nat.le_of_ble_eq_true rfl) rfl (fun ls hl => ?_)
            refine lv_goto (tgt := 12) hx hb dX2_leastLength_73 rfl ?_
            exact ih2 l2_2 t14  (show (2147483647 - t14.toInt).toNat < n2 from om_263 hp1 hm2 zc3 zt14) _ _ _ hP hD hS (lv_sub hl [0, 1, 2, 3, 4] rfl)
          · skip
            refine lv_aload_n hx hb dX2_leastLength_34 rfl (lv_at hl 3 rfl) ?_
            refine lv_iload hx hb dX2_leastLength_35 (lv_at hl 0 rfl) ?_
            refine cbVi (n := 1) (rest := []) hx hb hml hown hts hE hP hD hS hA (sX_X2_rowLength_1 l dC dI cy x0 x l4_2 v f hIv ) k_1105 k_1107 k_32 k_110 k_1108 hd_yX2_rowLength ⟨Nat.le_of_ble_eq_true rfl, Nat.le_of_ble_eq_true rfl⟩ 30 2 rfl rfl (rfl) hl.1 rfl (Nat.le_of_ble_eq_true rfl) dX2_leastLength_37 (fun r15 u H locs hw hP hD hS => ?_)
            refine lv_istore (lv' := [(5, .int r15), (4, .int l4_2), (3, .int r1), (2, .int l2_2), (0, .ref (x 29)), (1, .int p1)]) hx hb dX2_leastLength_40 hl (Nat.le_of_ble_eq_true rfl) rfl (fun ls hl => ?_)
            refine lv_iload hx hb dX2_leastLength_42 (lv_at hl 0 rfl) ?_
            refine lv_iconst (v := (-1)) hx hb dX2_leastLength_44 rfl ?_
            refine lv_icmp_eq (tgt := 70) hx hb dX2_leastLength_45 rfl (fun c16 => ?_) (fun c16 => ?_)
            · skip
              obtain ⟨t17, et17⟩ : ∃ y : Int32, y = l4_2 + 1 := ⟨_, rfl⟩
              have zt17 : t17.toInt = l4_2.toInt + 1 := (congrArg Int32.toInt et17).trans (add_i rfl tc_1 (om_95 rg6) (om_262 hp1 zc3))
              refine lv_iinc (v := t17) (lv' := [(4, .int t17), (5, .int r15), (3, .int r1), (2, .int l2_2), (0, .ref (x 29)), (1, .int p1)]) hx hb dX2_leastLength_70 hl (k := 1) rfl et17.symm (Nat.le_of_ble_eq_true rfl) rfl (fun ls hl => ?_)
              refine lv_goto (tgt := 12) hx hb dX2_leastLength_73 rfl ?_
              exact ih2 l2_2 t17  (show (2147483647 - t17.toInt).toNat < n2 from om_263 hp1 hm2 zc3 zt17) _ _ _ hP hD hS (lv_sub hl [0, 2, 3, 4, 5] rfl)
            · skip
              refine lv_iload_n hx hb dX2_leastLength_48 rfl (lv_at hl 3 rfl) ?_
              refine lv_iload hx hb dX2_leastLength_49 (lv_at hl 0 rfl) ?_
              refine lv_aload_n hx hb dX2_leastLength_51 rfl (lv_at hl 4 rfl) ?_
              refine va_get (D := (dC, dI)) (ci := 2) (v := .ref (x 30)) (C := RX2) (T := TX2) (N := 3) hx hb hts inB_2 hown hE.1 hP 30 rfl rfl 2 (Nat.le_of_ble_eq_true rfl) (hts _ k_416) (fun _ h9 => h9) rfl dX2_leastLength_52 ?_
              refine lv_iload_n hx hb dX2_leastLength_55 rfl (lv_at hl 5 rfl) ?_
              refine lv_iload hx hb dX2_leastLength_56 (lv_at hl 1 rfl) ?_
              refine lv_iconst (v := (-1)) hx hb dX2_leastLength_58 rfl ?_
              refine lv_ixor hx hb dX2_leastLength_59 ?_
              refine lv_topi (fun t18 et18 => ?_)
              refine lv_iand hx hb dX2_leastLength_60 ?_
              refine lv_topi (fun t19 et19 => ?_)
              refine lv_bipush (v := 63) hx hb dX2_leastLength_61 rfl ?_
              refine lv_iand hx hb dX2_leastLength_63 ?_
              refine lv_topi (fun t20 et20 => ?_)
              have zt20 : 0 ≤ t20.toInt ∧ t20.toInt < 64 := by rw [et20]; exact and_rng _ (k := 6) (by decide) (by decide)
              refine ldI hx hb hE hP 31 rfl (vpI (k := 64) rfl (show 0 ≤ t20.toInt from om_264 zt20) (show t20.toInt < 64 from om_265 zt20)) rfl rfl dX2_leastLength_64 ?_
              refine lv_topi (fun t21 et21 => ?_)
              refine lv_iadd hx hb dX2_leastLength_65 ?_
              refine lv_topi (fun t22 et22 => ?_)
              refine va_mmin hx hb (by rw [hml]; exact hl.1.symm) hown (hts _ k_1110) (hts _ k_643) (hts _ k_119) (hts _ k_644) (Nat.le_of_ble_eq_true rfl) (Nat.le_of_ble_eq_true rfl) (Nat.le_of_ble_eq_true rfl) (Nat.le_of_ble_eq_true rfl) dX2_leastLength_66 ?_
              refine lv_topi (fun t23 et23 => ?_)
              refine lv_istore_n (lv' := [(2, .int t23), (5, .int r15), (4, .int l4_2), (3, .int r1), (0, .ref (x 29)), (1, .int p1)]) hx hb dX2_leastLength_69 rfl hl (Nat.le_of_ble_eq_true rfl) rfl (fun ls hl => ?_)
              obtain ⟨t24, et24⟩ : ∃ y : Int32, y = l4_2 + 1 := ⟨_, rfl⟩
              have zt24 : t24.toInt = l4_2.toInt + 1 := (congrArg Int32.toInt et24).trans (add_i rfl tc_1 (om_95 rg6) (om_262 hp1 zc3))
              refine lv_iinc (v := t24) (lv' := [(4, .int t24), (2, .int t23), (5, .int r15), (3, .int r1), (0, .ref (x 29)), (1, .int p1)]) hx hb dX2_leastLength_70 hl (k := 2) rfl et24.symm (Nat.le_of_ble_eq_true rfl) rfl (fun ls hl => ?_)
              refine lv_goto (tgt := 12) hx hb dX2_leastLength_73 rfl ?_
              exact ih2 t23 t24  (show (2147483647 - t24.toInt).toNat < n2 from om_263 hp1 hm2 zc3 zt24) _ _ _ hP hD hS (lv_sub hl [0, 3, 1, 4, 5] rfl)
  exact lp2 _ 1000 r1  (Nat.lt_succ_self _) _ _ _ hP hD hS (lv_sub hl [0, 1, 2, 3, 4] rfl)
set_option maxHeartbeats 4000000 in
set_option maxRecDepth 100000 in
theorem sX_X2_leastCloth_1 (l : Launch) (dC : Nat → ClassId) (dI : Nat → Nat → Nat) (cy : Nat → ClassId) (x0 : Nat) (x : Nat → Nat)  (v : Nat → Int32) (f : Nat → Nat → Int32) (hIv : XI v)  : ctI l (dC, dI) cy yX2_leastCloth cX2_leastCloth 3 .int 5 153 0 0 ((Nat → Int32) × (Nat → Nat → Int32)) [.ref (x 29)] (XW cy x0 x v f) (fun r u => KV [] u.1 v ∧ KF [19] u.2 f ∧ XI u.1 ∧ u.1 0 = v 0 ∧ u.1 1 = v 1 ∧ u.1 7 = v 7 ∧ u.1 8 = v 8 ∧ u.1 9 = v 9 ∧ u.1 10 = v 10 ∧ u.1 31 = v 31 ∧ u.1 32 = v 32) (fun u => XW cy x0 x u.1 u.2) := by
  refine ctI_of (by decide) (Nat.le_of_ble_eq_true rfl) (fun p e s m below meth c A ls Q hx hb hml hts hown hE hP hD hA hl ret => ?_)
  have hM_v : KV [] v v := fun _ _ => rfl
  have hA_f : KF [19] f f := fun _ _ => rfl
  have hown : s.vm.findClass RX2 = some m.cls := hown
  have hS : va_S A s.heap s.heap [] := va_S.rf
  have hl : lv_has ls 3 [(0, .ref (x 29))] := hl
  refine lv_iconst (v := 1) hx hb dX2_leastCloth_0 rfl ?_
  refine lv_aload_n hx hb dX2_leastCloth_1 rfl (lv_at hl 0 rfl) ?_
  refine va_get (D := (dC, dI)) (ci := 2) (v := .ref (x 26)) (C := RX2) (T := TX2) (N := 3) hx hb hts inB_2 hown hE.1 hP 30 rfl rfl 0 (Nat.le_of_ble_eq_true rfl) (hts _ k_414) (fun _ h9 => h9) rfl dX2_leastCloth_2 ?_
  refine va_getN (D := (dC, dI)) (ci := 7) (v := .int (v 32)) (C := RX7) (T := TX7) (N := 10) hx hb hts inB_7 hown hE.1 hP 27 rfl rfl 4 (Nat.le_of_ble_eq_true rfl) (va_Nw.use rfl (hE.2 _ k_223)) (fun _ h9 => h9) rfl dX2_leastCloth_5 ?_
  have b32_v : 0 ≤ (v 32).toInt ∧ (v 32).toInt ≤ 6 := Xb_32 hIv
  refine lv_ishl hx hb dX2_leastCloth_8 ?_
  refine lv_topi (fun t1 et1 => ?_)
  refine lv_iconst (v := 1) hx hb dX2_leastCloth_9 rfl ?_
  refine lv_isub hx hb dX2_leastCloth_10 ?_
  refine lv_topi (fun t2 et2 => ?_)
  refine lv_istore_n (lv' := [(1, .int t2), (0, .ref (x 29))]) hx hb dX2_leastCloth_11 rfl hl (Nat.le_of_ble_eq_true rfl) rfl (fun ls hl => ?_)
  refine lv_iconst (v := 0) hx hb dX2_leastCloth_12 rfl ?_
  refine lv_istore_n (lv' := [(2, .int 0), (1, .int t2), (0, .ref (x 29))]) hx hb dX2_leastCloth_13 rfl hl (Nat.le_of_ble_eq_true rfl) rfl (fun ls hl => ?_)
  have lp3 : ∀ (n3 : Nat) (l2_3 : Int32), ((0 : Int) ≤ l2_3.toInt ∧ l2_3.toInt ≤ 2147483647) → (2147483647 - l2_3.toInt).toNat < n3 → ∀ (H : Heap) (locs : List Loc) (ls : Array Slot), va_P (dC, dI) vwCl (XW cy x0 x v f) H → va_D A (XW cy x0 x v f) → va_S A s.heap H locs → lv_has ls 3 [(2, .int l2_3), (1, .int t2), (0, .ref (x 29))] → W p l e { frames := 5, cells := 0, slots := 0, locals := 153 } s m ([.ref (x 29)] : List Value).toArray below meth c H locs 0 0 Q (F0 m 14 ls []) := by
    intro n3
    induction n3 with
    | zero => intro l2_3 hr2_3 hm; exact absurd hm (Nat.not_lt_zero _)
    | succ n3 ih3 =>
      intro l2_3 hr2_3 hm3 H locs ls hP hD hS hl
      refine lv_iload_n hx hb dX2_leastCloth_14 rfl (lv_at hl 0 rfl) ?_
      refine lv_aload_n hx hb dX2_leastCloth_15 rfl (lv_at hl 2 rfl) ?_
      refine va_get (D := (dC, dI)) (ci := 2) (v := .ref (x 26)) (C := RX2) (T := TX2) (N := 3) hx hb hts inB_2 hown hE.1 hP 30 rfl rfl 0 (Nat.le_of_ble_eq_true rfl) (hts _ k_414) (fun _ h9 => h9) rfl dX2_leastCloth_16 ?_
      refine va_getN (D := (dC, dI)) (ci := 7) (v := .int (v 32)) (C := RX7) (T := TX7) (N := 10) hx hb hts inB_7 hown hE.1 hP 27 rfl rfl 4 (Nat.le_of_ble_eq_true rfl) (va_Nw.use rfl (hE.2 _ k_223)) (fun _ h9 => h9) rfl dX2_leastCloth_19 ?_
      refine lv_icmp_ge (tgt := 52) hx hb dX2_leastCloth_22 rfl (fun c4 => ?_) (fun c4 => ?_)
      · skip
        refine lv_aload_n hx hb dX2_leastCloth_52 rfl (lv_at hl 2 rfl) ?_
        refine va_get (D := (dC, dI)) (ci := 2) (v := .ref (x 30)) (C := RX2) (T := TX2) (N := 3) hx hb hts inB_2 hown hE.1 hP 30 rfl rfl 2 (Nat.le_of_ble_eq_true rfl) (hts _ k_416) (fun _ h9 => h9) rfl dX2_leastCloth_53 ?_
        refine lv_iconst (v := 0) hx hb dX2_leastCloth_56 rfl ?_
        refine lv_iconst (v := 0) hx hb dX2_leastCloth_57 rfl ?_
        refine stI hx hb hE hP hD hS 31 rfl (vp_in_nI (n := 0) (by decide) (by decide)) rfl dX2_leastCloth_58 (fun H locs hP hD hS => ?_)
        obtain ⟨f7, ef7, hP, hD⟩ : ∃ fz9, fz9 = upd2 f 19 (upd (f 19) (0 : Int32).toNatClampNeg 0) ∧ va_P (dC, dI) vwCl (XW cy x0 x v fz9) H ∧ va_D A (XW cy x0 x v fz9) := ⟨_, rfl, hP, hD⟩
        have hA_f7 : KF [19] f7 f := by rw [ef7]; exact KF.up hA_f rfl
        refine lv_iconst (v := 1) hx hb dX2_leastCloth_59 rfl ?_
        refine lv_istore_n (lv' := [(2, .int 1), (1, .int t2), (0, .ref (x 29))]) hx hb dX2_leastCloth_60 rfl hl (Nat.le_of_ble_eq_true rfl) rfl (fun ls hl => ?_)
        have lp8 : ∀ (n8 : Nat) (l2_8 : Int32) (v8 : Nat → Int32) (f8 : Nat → Nat → Int32), XI v8 → v8 0 = (v 0) → v8 1 = (v 1) → v8 7 = (v 7) → v8 8 = (v 8) → v8 9 = (v 9) → v8 10 = (v 10) → v8 31 = (v 31) → v8 32 = (v 32) → ((1 : Int) ≤ l2_8.toInt ∧ l2_8.toInt ≤ 2147483647) → KV [] v8 v → KF [19] f8 f → (2147483647 - l2_8.toInt).toNat < n8 → ∀ (H : Heap) (locs : List Loc) (ls : Array Slot), va_P (dC, dI) vwCl (XW cy x0 x v8 f8) H → va_D A (XW cy x0 x v8 f8) → va_S A s.heap H locs → lv_has ls 3 [(2, .int l2_8), (1, .int t2), (0, .ref (x 29))] → W p l e { frames := 5, cells := 0, slots := 0, locals := 153 } s m ([.ref (x 29)] : List Value).toArray below meth c H locs 0 0 Q (F0 m 61 ls []) := by
          intro n8
          induction n8 with
          | zero => intro l2_8 v8 f8 hIv8 hq0_v8 hq1_v8 hq7_v8 hq8_v8 hq9_v8 hq10_v8 hq31_v8 hq32_v8 hr2_8 hM_v8 hA_f8 hm; exact absurd hm (Nat.not_lt_zero _)
          | succ n8 ih8 =>
            intro l2_8 v8 f8 hIv8 hq0_v8 hq1_v8 hq7_v8 hq8_v8 hq9_v8 hq10_v8 hq31_v8 hq32_v8 hr2_8 hM_v8 hA_f8 hm8 H locs ls hP hD hS hl
            refine lv_iload_n hx hb dX2_leastCloth_61 rfl (lv_at hl 0 rfl) ?_
            refine lv_iload_n hx hb dX2_leastCloth_62 rfl (lv_at hl 1 rfl) ?_
            refine lv_icmp_gt (tgt := 89) hx hb dX2_leastCloth_63 rfl (fun c9 => ?_) (fun c9 => ?_)
            · skip
              refine lv_iload_n hx hb dX2_leastCloth_89 rfl (lv_at hl 1 rfl) ?_
              refine lv_if_lt (tgt := 108) hx hb dX2_leastCloth_90 rfl (fun c12 => ?_) (fun c12 => ?_)
              · skip
                refine lv_iconst (v := (-1)) hx hb dX2_leastCloth_108 rfl ?_
                exact ret (-1) (v8, f8) _ _ _ _ _ _ rfl ⟨hM_v8, hA_f8, hIv8, (show v8 0 = v 0 from hq0_v8), (show v8 1 = v 1 from hq1_v8), (show v8 7 = v 7 from hq7_v8), (show v8 8 = v 8 from hq8_v8), (show v8 9 = v 9 from hq9_v8), (show v8 10 = v 10 from hq10_v8), (show v8 31 = v 31 from hq31_v8), (show v8 32 = v 32 from hq32_v8)⟩ hP hD hS dX2_leastCloth_109 (Nat.le_refl _) (Nat.le_refl _)
              · skip
                have zc12 : ¬ (t2.toInt < 0) := zLn rfl tc_0 c12
                refine lv_iload_n hx hb dX2_leastCloth_93 rfl (lv_at hl 1 rfl) ?_
                refine lv_bipush (v := 64) hx hb dX2_leastCloth_94 rfl ?_
                refine lv_icmp_ge (tgt := 108) hx hb dX2_leastCloth_96 rfl (fun c13 => ?_) (fun c13 => ?_)
                · skip
                  refine lv_iconst (v := (-1)) hx hb dX2_leastCloth_108 rfl ?_
                  exact ret (-1) (v8, f8) _ _ _ _ _ _ rfl ⟨hM_v8, hA_f8, hIv8, (show v8 0 = v 0 from hq0_v8), (show v8 1 = v 1 from hq1_v8), (show v8 7 = v 7 from hq7_v8), (show v8 8 = v 8 from hq8_v8), (show v8 9 = v 9 from hq9_v8), (show v8 10 = v 10 from hq10_v8), (show v8 31 = v 31 from hq31_v8), (show v8 32 = v 32 from hq32_v8)⟩ hP hD hS dX2_leastCloth_109 (Nat.le_refl _) (Nat.le_refl _)
                · skip
                  have zc13 : ¬ (64 ≤ t2.toInt) := zMn tc_64 rfl c13
                  refine lv_aload_n hx hb dX2_leastCloth_99 rfl (lv_at hl 2 rfl) ?_
                  refine va_get (D := (dC, dI)) (ci := 2) (v := .ref (x 30)) (C := RX2) (T := TX2) (N := 3) hx hb hts inB_2 hown hE.1 hP 30 rfl rfl 2 (Nat.le_of_ble_eq_true rfl) (hts _ k_416) (fun _ h9 => h9) rfl dX2_leastCloth_100 ?_
                  refine lv_iload_n hx hb dX2_leastCloth_103 rfl (lv_at hl 1 rfl) ?_
                  refine ldI hx hb hE hP 31 rfl (vpI (k := 64) rfl (show 0 ≤ t2.toInt from om_14 zc12) (show t2.toInt < 64 from om_266 zc13)) rfl rfl dX2_leastCloth_104 ?_
                  refine lv_topi (fun t14 et14 => ?_)
                  refine lv_goto (tgt := 109) hx hb dX2_leastCloth_105 rfl ?_
                  exact ret t14 (v8, f8) _ _ _ _ _ _ rfl ⟨hM_v8, hA_f8, hIv8, (show v8 0 = v 0 from hq0_v8), (show v8 1 = v 1 from hq1_v8), (show v8 7 = v 7 from hq7_v8), (show v8 8 = v 8 from hq8_v8), (show v8 9 = v 9 from hq9_v8), (show v8 10 = v 10 from hq10_v8), (show v8 31 = v 31 from hq31_v8), (show v8 32 = v 32 from hq32_v8)⟩ hP hD hS dX2_leastCloth_109 (Nat.le_refl _) (Nat.le_refl _)
            · skip
              refine lv_iload_n hx hb dX2_leastCloth_66 rfl (lv_at hl 0 rfl) ?_
              refine lv_bipush (v := 64) hx hb dX2_leastCloth_67 rfl ?_
              refine lv_icmp_ge (tgt := 89) hx hb dX2_leastCloth_69 rfl (fun c17 => ?_) (fun c17 => ?_)
              · skip
                refine lv_iload_n hx hb dX2_leastCloth_89 rfl (lv_at hl 1 rfl) ?_
                refine lv_if_lt (tgt := 108) hx hb dX2_leastCloth_90 rfl (fun c18 => ?_) (fun c18 => ?_)
                · skip
                  refine lv_iconst (v := (-1)) hx hb dX2_leastCloth_108 rfl ?_
                  exact ret (-1) (v8, f8) _ _ _ _ _ _ rfl ⟨hM_v8, hA_f8, hIv8, (show v8 0 = v 0 from hq0_v8), (show v8 1 = v 1 from hq1_v8), (show v8 7 = v 7 from hq7_v8), (show v8 8 = v 8 from hq8_v8), (show v8 9 = v 9 from hq9_v8), (show v8 10 = v 10 from hq10_v8), (show v8 31 = v 31 from hq31_v8), (show v8 32 = v 32 from hq32_v8)⟩ hP hD hS dX2_leastCloth_109 (Nat.le_refl _) (Nat.le_refl _)
                · skip
                  have zc18 : ¬ (t2.toInt < 0) := zLn rfl tc_0 c18
                  refine lv_iload_n hx hb dX2_leastCloth_93 rfl (lv_at hl 1 rfl) ?_
                  refine lv_bipush (v := 64) hx hb dX2_leastCloth_94 rfl ?_
                  refine lv_icmp_ge (tgt := 108) hx hb dX2_leastCloth_96 rfl (fun c19 => ?_) (fun c19 => ?_)
                  · skip
                    refine lv_iconst (v := (-1)) hx hb dX2_leastCloth_108 rfl ?_
                    exact ret (-1) (v8, f8) _ _ _ _ _ _ rfl ⟨hM_v8, hA_f8, hIv8, (show v8 0 = v 0 from hq0_v8), (show v8 1 = v 1 from hq1_v8), (show v8 7 = v 7 from hq7_v8), (show v8 8 = v 8 from hq8_v8), (show v8 9 = v 9 from hq9_v8), (show v8 10 = v 10 from hq10_v8), (show v8 31 = v 31 from hq31_v8), (show v8 32 = v 32 from hq32_v8)⟩ hP hD hS dX2_leastCloth_109 (Nat.le_refl _) (Nat.le_refl _)
                  · skip
                    have zc19 : ¬ (64 ≤ t2.toInt) := zMn tc_64 rfl c19
                    refine lv_aload_n hx hb dX2_leastCloth_99 rfl (lv_at hl 2 rfl) ?_
                    refine va_get (D := (dC, dI)) (ci := 2) (v := .ref (x 30)) (C := RX2) (T := TX2) (N := 3) hx hb hts inB_2 hown hE.1 hP 30 rfl rfl 2 (Nat.le_of_ble_eq_true rfl) (hts _ k_416) (fun _ h9 => h9) rfl dX2_leastCloth_100 ?_
                    refine lv_iload_n hx hb dX2_leastCloth_103 rfl (lv_at hl 1 rfl) ?_
                    refine ldI hx hb hE hP 31 rfl (vpI (k := 64) rfl (show 0 ≤ t2.toInt from om_14 zc18) (show t2.toInt < 64 from om_266 zc19)) rfl rfl dX2_leastCloth_104 ?_
                    refine lv_topi (fun t20 et20 => ?_)
                    refine lv_goto (tgt := 109) hx hb dX2_leastCloth_105 rfl ?_
                    exact ret t20 (v8, f8) _ _ _ _ _ _ rfl ⟨hM_v8, hA_f8, hIv8, (show v8 0 = v 0 from hq0_v8), (show v8 1 = v 1 from hq1_v8), (show v8 7 = v 7 from hq7_v8), (show v8 8 = v 8 from hq8_v8), (show v8 9 = v 9 from hq9_v8), (show v8 10 = v 10 from hq10_v8), (show v8 31 = v 31 from hq31_v8), (show v8 32 = v 32 from hq32_v8)⟩ hP hD hS dX2_leastCloth_109 (Nat.le_refl _) (Nat.le_refl _)
              · skip
                have zc17 : ¬ (64 ≤ l2_8.toInt) := zMn tc_64 rfl c17
                refine lv_aload_n hx hb dX2_leastCloth_72 rfl (lv_at hl 2 rfl) ?_
                refine va_get (D := (dC, dI)) (ci := 2) (v := .ref (x 30)) (C := RX2) (T := TX2) (N := 3) hx hb hts inB_2 hown hE.1 hP 30 rfl rfl 2 (Nat.le_of_ble_eq_true rfl) (hts _ k_416) (fun _ h9 => h9) rfl dX2_leastCloth_73 ?_
                refine lv_iload_n hx hb dX2_leastCloth_76 rfl (lv_at hl 0 rfl) ?_
                refine lv_aload_n hx hb dX2_leastCloth_77 rfl (lv_at hl 2 rfl) ?_
                refine lv_iload_n hx hb dX2_leastCloth_78 rfl (lv_at hl 0 rfl) ?_
                refine cbVi (n := 1) (rest := [.int l2_8, .ref (x 30)]) hx hb hml hown hts hE hP hD hS hA (sX_X2_leastLength_1 l dC dI cy x0 x l2_8 v8 f8 hIv8 ⟨show (0 : Int) ≤ l2_8.toInt from om_267 hr2_8, show l2_8.toInt ≤ (63 : Int) from om_242 zc17⟩) k_1101 k_1103 k_31 k_110 k_1104 hd_yX2_leastLength ⟨Nat.le_of_ble_eq_true rfl, Nat.le_of_ble_eq_true rfl⟩ 30 2 rfl rfl (rfl) hl.1 rfl (Nat.le_of_ble_eq_true rfl) dX2_leastCloth_79 (fun r21 u H locs hw hP hD hS => ?_)
                refine stI hx hb hE hP hD hS 31 rfl (vpI (k := 64) rfl (show 0 ≤ l2_8.toInt from om_267 hr2_8) (show l2_8.toInt < 64 from om_266 zc17)) rfl dX2_leastCloth_82 (fun H locs hP hD hS => ?_)
                obtain ⟨f22, ef22, hP, hD⟩ : ∃ fz9, fz9 = upd2 f8 19 (upd (f8 19) l2_8.toNatClampNeg r21) ∧ va_P (dC, dI) vwCl (XW cy x0 x v8 fz9) H ∧ va_D A (XW cy x0 x v8 fz9) := ⟨_, rfl, hP, hD⟩
                have hA_f22 : KF [19] f22 f := by rw [ef22]; exact KF.up hA_f8 rfl
                obtain ⟨t23, et23⟩ : ∃ y : Int32, y = l2_8 + 1 := ⟨_, rfl⟩
                have zt23 : t23.toInt = l2_8.toInt + 1 := (congrArg Int32.toInt et23).trans (add_i rfl tc_1 (om_259 hr2_8) (om_194 zc17))
                refine lv_iinc (v := t23) (lv' := [(2, .int t23), (1, .int t2), (0, .ref (x 29))]) hx hb dX2_leastCloth_83 hl (k := 0) rfl et23.symm (Nat.le_of_ble_eq_true rfl) rfl (fun ls hl => ?_)
                refine lv_goto (tgt := 61) hx hb dX2_leastCloth_86 rfl ?_
                have rg24 := fb_rng t23
                exact ih8 t23 v8 f22 hIv8 hq0_v8 hq1_v8 hq7_v8 hq8_v8 hq9_v8 hq10_v8 hq31_v8 hq32_v8 ⟨show (1 : Int) ≤ t23.toInt from om_260 hr2_8 zt23, show t23.toInt ≤ (2147483647 : Int) from om_44 rg24⟩ hM_v8 hA_f22 (show (2147483647 - t23.toInt).toNat < n8 from om_33 hm8 zt23 rg24) _ _ _ hP hD hS (lv_sub hl [0, 1, 2] rfl)
        exact lp8 _ 1 v f7 hIv rfl rfl rfl rfl rfl rfl rfl rfl ⟨by decide, by decide⟩ hM_v hA_f7 (Nat.lt_succ_self _) _ _ _ hP hD hS (lv_sub hl [0, 1, 2] rfl)
      · skip
        have zc4 : ¬ ((v 32).toInt ≤ l2_3.toInt) := zMn rfl rfl c4
        refine lv_aload_n hx hb dX2_leastCloth_25 rfl (lv_at hl 2 rfl) ?_
        refine va_get (D := (dC, dI)) (ci := 2) (v := .ref (x 21)) (C := RX2) (T := TX2) (N := 3) hx hb hts inB_2 hown hE.1 hP 30 rfl rfl 1 (Nat.le_of_ble_eq_true rfl) (hts _ k_415) (fun _ h9 => h9) rfl dX2_leastCloth_26 ?_
        refine lv_iconst (v := 1) hx hb dX2_leastCloth_29 rfl ?_
        refine lv_iload_n hx hb dX2_leastCloth_30 rfl (lv_at hl 0 rfl) ?_
        refine cbVi (n := 2) (rest := []) hx hb hml hown hts hE hP hD hS hA (sX_X1_part_1 0 l dC dI cy x0 x 1 l2_3 v f hIv ) k_1070 k_828 k_829 k_106 k_830 hd_yX1_part ⟨Nat.le_of_ble_eq_true rfl, Nat.le_of_ble_eq_true rfl⟩ 22 1 rfl rfl (rfl) hl.1 rfl (Nat.le_of_ble_eq_true rfl) dX2_leastCloth_31 (fun r27 u H locs hw hP hD hS => ?_)
        have hG28 := hw
        refine lv_aload_n hx hb dX2_leastCloth_34 rfl (lv_at hl 2 rfl) ?_
        refine va_get (D := (dC, dI)) (ci := 2) (v := .ref (x 26)) (C := RX2) (T := TX2) (N := 3) hx hb hts inB_2 hown hE.1 hP 30 rfl rfl 0 (Nat.le_of_ble_eq_true rfl) (hts _ k_414) (fun _ h9 => h9) rfl dX2_leastCloth_35 ?_
        refine va_getN (D := (dC, dI)) (ci := 7) (v := .int (v 34)) (C := RX7) (T := TX7) (N := 10) hx hb hts inB_7 hown hE.1 hP 27 rfl rfl 6 (Nat.le_of_ble_eq_true rfl) (va_Nw.use rfl (hE.2 _ k_235)) (fun _ h9 => h9) rfl dX2_leastCloth_38 ?_
        refine lv_icmp_le (tgt := 46) hx hb dX2_leastCloth_41 rfl (fun c29 => ?_) (fun c29 => ?_)
        · skip
          obtain ⟨t32, et32⟩ : ∃ y : Int32, y = l2_3 + 1 := ⟨_, rfl⟩
          have zt32 : t32.toInt = l2_3.toInt + 1 := (congrArg Int32.toInt et32).trans (add_i rfl tc_1 (om_41 hr2_3) (om_187 b32_v zc4))
          refine lv_iinc (v := t32) (lv' := [(2, .int t32), (1, .int t2), (0, .ref (x 29))]) hx hb dX2_leastCloth_46 hl (k := 0) rfl et32.symm (Nat.le_of_ble_eq_true rfl) rfl (fun ls hl => ?_)
          refine lv_goto (tgt := 14) hx hb dX2_leastCloth_49 rfl ?_
          have rg33 := fb_rng t32
          exact ih3 t32 ⟨show (0 : Int) ≤ t32.toInt from om_43 hr2_3 zt32, show t32.toInt ≤ (2147483647 : Int) from om_44 rg33⟩ (show (2147483647 - t32.toInt).toNat < n3 from om_33 hm3 zt32 rg33) _ _ _ hP hD hS (lv_sub hl [0, 1, 2] rfl)
        · skip
          refine lv_iconst (v := (-1)) hx hb dX2_leastCloth_44 rfl ?_
          exact ret (-1) (v, f) _ _ _ _ _ _ rfl ⟨hM_v, hA_f, hIv, rfl, rfl, rfl, rfl, rfl, rfl, rfl, rfl⟩ hP hD hS dX2_leastCloth_45 (Nat.le_refl _) (Nat.le_refl _)
  exact lp3 _ 0 ⟨by decide, by decide⟩ (Nat.lt_succ_self _) _ _ _ hP hD hS (lv_sub hl [0, 1, 2] rfl)
set_option maxHeartbeats 4000000 in
set_option maxRecDepth 100000 in
theorem sX_X10_cloth_1 (l : Launch) (dC : Nat → ClassId) (dI : Nat → Nat → Nat) (cy : Nat → ClassId) (x0 : Nat) (x : Nat → Nat)  (v : Nat → Int32) (f : Nat → Nat → Int32) (hIv : XI v)  : ctI l (dC, dI) cy yX10_cloth cX10_cloth 1 .int 6 175 0 0 ((Nat → Int32) × (Nat → Nat → Int32)) [.ref x0] (XW cy x0 x v f) (fun r u => KV [] u.1 v ∧ KF [19] u.2 f ∧ XI u.1 ∧ u.1 0 = v 0 ∧ u.1 1 = v 1 ∧ u.1 7 = v 7 ∧ u.1 8 = v 8 ∧ u.1 9 = v 9 ∧ u.1 10 = v 10 ∧ u.1 31 = v 31 ∧ u.1 32 = v 32) (fun u => XW cy x0 x u.1 u.2) := by
  refine ctI_of (by decide) (Nat.le_of_ble_eq_true rfl) (fun p e s m below meth c A ls Q hx hb hml hts hown hE hP hD hA hl ret => ?_)
  have hM_v : KV [] v v := fun _ _ => rfl
  have hA_f : KF [19] f f := fun _ _ => rfl
  have hown : s.vm.findClass RX10 = some m.cls := hown
  have hS : va_S A s.heap s.heap [] := va_S.rf
  have hl : lv_has ls 1 [(0, .ref x0)] := hl
  refine lv_aload_n hx hb dX10_cloth_0 rfl (lv_at hl 0 rfl) ?_
  refine va_get (D := (dC, dI)) (ci := 10) (v := .ref (x 29)) (C := RX10) (T := TX10) (N := 10) hx hb hts inB_10 hown hE.1 hP 0 rfl rfl 6 (Nat.le_of_ble_eq_true rfl) (hts _ k_497) (fun _ h9 => h9) rfl dX10_cloth_1 ?_
  refine cbVi (n := 0) (rest := []) hx hb hml hown hts hE hP hD hS hA (sX_X2_leastCloth_1 l dC dI cy x0 x  v f hIv ) k_1097 k_1098 k_1099 k_110 k_1100 hd_yX2_leastCloth ⟨Nat.le_of_ble_eq_true rfl, Nat.le_of_ble_eq_true rfl⟩ 30 2 rfl rfl (rfl) hl.1 rfl (Nat.le_of_ble_eq_true rfl) dX10_cloth_4 (fun r1 u H locs hw hP hD hS => ?_)
  obtain ⟨v2, f3⟩ := u
  obtain ⟨kV_v2, kF_f3, hIv2, hk0_v2, hk1_v2, hk7_v2, hk8_v2, hk9_v2, hk10_v2, hk31_v2, hk32_v2⟩ := hw
  have hM_v2 : KV [] v2 v := KV.tr kV_v2 hM_v rfl
  have hA_f3 : KF [19] f3 f := KF.tr kF_f3 hA_f rfl
  have hP : va_P (dC, dI) vwCl (XW cy x0 x v2 f3) H := hP
  have hD : va_D A (XW cy x0 x v2 f3) := hD
  have hq0_v2 : v2 0 = (v 0) := hk0_v2
  have hq1_v2 : v2 1 = (v 1) := hk1_v2
  have hq7_v2 : v2 7 = (v 7) := hk7_v2
  have hq8_v2 : v2 8 = (v 8) := hk8_v2
  have hq9_v2 : v2 9 = (v 9) := hk9_v2
  have hq10_v2 : v2 10 = (v 10) := hk10_v2
  have hq31_v2 : v2 31 = (v 31) := hk31_v2
  have hq32_v2 : v2 32 = (v 32) := hk32_v2
  exact ret r1 (v2, f3) _ _ _ _ _ _ rfl ⟨hM_v2, hA_f3, hIv2, hk0_v2, hk1_v2, hk7_v2, hk8_v2, hk9_v2, hk10_v2, hk31_v2, hk32_v2⟩ hP hD hS dX10_cloth_7 (Nat.le_refl _) (Nat.le_refl _)
set_option maxHeartbeats 4000000 in
set_option maxRecDepth 100000 in
theorem sX_X0_isClear_1 (l : Launch) (dC : Nat → ClassId) (dI : Nat → Nat → Nat) (cy : Nat → ClassId) (x0 : Nat) (x : Nat → Nat) (p1 : Int32) (p2 : Int32) (v : Nat → Int32) (f : Nat → Nat → Int32) (hIv : XI v)  : ctI l (dC, dI) cy yX0_isClear cX0_isClear 6 .boolean 3 103 0 0 Unit [.ref (x 31), .int p1, .int p2] (XW cy x0 x v f) (fun r u => ((r = 1) ∨ (r = 0))) (fun u => XW cy x0 x v f) := by
  refine ctI_of (by decide) (Nat.le_of_ble_eq_true rfl) (fun p e s m below meth c A ls Q hx hb hml hts hown hE hP hD hA hl ret => ?_)
  have hown : s.vm.findClass RX0 = some m.cls := hown
  have hS : va_S A s.heap s.heap [] := va_S.rf
  have hl : lv_has ls 6 [(0, .ref (x 31)), (1, .int p1), (2, .int p2)] := hl
  refine lv_aload_n hx hb dX0_isClear_0 rfl (lv_at hl 0 rfl) ?_
  refine va_get (D := (dC, dI)) (ci := 0) (v := .ref (x 26)) (C := RX0) (T := TX0) (N := 8) hx hb hts inB_0 hown hE.1 hP 32 rfl rfl 0 (Nat.le_of_ble_eq_true rfl) (hts _ k_430) (fun _ h9 => h9) rfl dX0_isClear_1 ?_
  refine lv_iconst (v := 0) hx hb dX0_isClear_4 rfl ?_
  refine lv_iload_n hx hb dX0_isClear_5 rfl (lv_at hl 1 rfl) ?_
  refine cbVi (n := 2) (rest := []) hx hb hml hown hts hE hP hD hS hA (sX_X7_manPart_1 0 l dC dI cy x0 x 0 p1 v f hIv ) k_1127 k_303 k_304 k_104 k_305 hd_yX7_manPart ⟨Nat.le_of_ble_eq_true rfl, Nat.le_of_ble_eq_true rfl⟩ 27 7 rfl rfl (rfl) hl.1 rfl (Nat.le_of_ble_eq_true rfl) dX0_isClear_6 (fun r1 u H locs hw hP hD hS => ?_)
  have hG2 := hw
  refine lv_istore_n (lv' := [(3, .int r1), (0, .ref (x 31)), (1, .int p1), (2, .int p2)]) hx hb dX0_isClear_9 rfl hl (Nat.le_of_ble_eq_true rfl) rfl (fun ls hl => ?_)
  refine lv_iconst (v := 0) hx hb dX0_isClear_10 rfl ?_
  refine lv_istore (lv' := [(4, .int 0), (3, .int r1), (0, .ref (x 31)), (1, .int p1), (2, .int p2)]) hx hb dX0_isClear_11 hl (Nat.le_of_ble_eq_true rfl) rfl (fun ls hl => ?_)
  have lp3 : ∀ (n3 : Nat) (l4_3 : Int32), ((0 : Int) ≤ l4_3.toInt ∧ l4_3.toInt ≤ 2147483647) → (2147483647 - l4_3.toInt).toNat < n3 → ∀ (H : Heap) (locs : List Loc) (ls : Array Slot), va_P (dC, dI) vwCl (XW cy x0 x v f) H → va_D A (XW cy x0 x v f) → va_S A s.heap H locs → lv_has ls 6 [(4, .int l4_3), (3, .int r1), (0, .ref (x 31)), (1, .int p1), (2, .int p2)] → W p l e { frames := 3, cells := 0, slots := 0, locals := 103 } s m ([.ref (x 31), .int p1, .int p2] : List Value).toArray below meth c H locs 0 0 Q (F0 m 13 ls []) := by
    intro n3
    induction n3 with
    | zero => intro l4_3 hr4_3 hm; exact absurd hm (Nat.not_lt_zero _)
    | succ n3 ih3 =>
      intro l4_3 hr4_3 hm3 H locs ls hP hD hS hl
      refine lv_iload hx hb dX0_isClear_13 (lv_at hl 0 rfl) ?_
      refine lv_iload_n hx hb dX0_isClear_15 rfl (lv_at hl 3 rfl) ?_
      refine lv_icmp_ge (tgt := 77) hx hb dX0_isClear_16 rfl (fun c4 => ?_) (fun c4 => ?_)
      · skip
        refine lv_iconst (v := 1) hx hb dX0_isClear_77 rfl ?_
        exact ret 1 () _ _ _ _ _ _ rfl (Or.inl rfl) hP hD hS dX0_isClear_78 (Nat.le_refl _) (Nat.le_refl _)
      · skip
        refine lv_iload hx hb dX0_isClear_19 (lv_at hl 0 rfl) ?_
        refine lv_aload_n hx hb dX0_isClear_21 rfl (lv_at hl 2 rfl) ?_
        refine va_get (D := (dC, dI)) (ci := 0) (v := .ref (x 32)) (C := RX0) (T := TX0) (N := 8) hx hb hts inB_0 hown hE.1 hP 32 rfl rfl 2 (Nat.le_of_ble_eq_true rfl) (hts _ k_432) (fun _ h9 => h9) rfl dX0_isClear_22 ?_
        refine va_alen (v := 6) hx hb hE.1 hP 33 1 rfl rfl rfl dX0_isClear_25 ?_
        refine lv_icmp_ge (tgt := 77) hx hb dX0_isClear_26 rfl (fun c9 => ?_) (fun c9 => ?_)
        · skip
          refine lv_iconst (v := 1) hx hb dX0_isClear_77 rfl ?_
          exact ret 1 () _ _ _ _ _ _ rfl (Or.inl rfl) hP hD hS dX0_isClear_78 (Nat.le_refl _) (Nat.le_refl _)
        · skip
          have zc9 : ¬ (6 ≤ l4_3.toInt) := zMn tc_6 rfl c9
          refine lv_iload_n hx hb dX0_isClear_29 rfl (lv_at hl 1 rfl) ?_
          refine lv_aload_n hx hb dX0_isClear_30 rfl (lv_at hl 2 rfl) ?_
          refine va_get (D := (dC, dI)) (ci := 0) (v := .ref (x 26)) (C := RX0) (T := TX0) (N := 8) hx hb hts inB_0 hown hE.1 hP 32 rfl rfl 0 (Nat.le_of_ble_eq_true rfl) (hts _ k_430) (fun _ h9 => h9) rfl dX0_isClear_31 ?_
          refine lv_iconst (v := 0) hx hb dX0_isClear_34 rfl ?_
          refine lv_iload hx hb dX0_isClear_35 (lv_at hl 0 rfl) ?_
          refine cbVi (n := 2) (rest := [.int r1]) hx hb hml hown hts hE hP hD hS hA (sX_X7_manPart_1 0 l dC dI cy x0 x 0 l4_3 v f hIv ) k_1127 k_303 k_304 k_104 k_305 hd_yX7_manPart ⟨Nat.le_of_ble_eq_true rfl, Nat.le_of_ble_eq_true rfl⟩ 27 7 rfl rfl (rfl) hl.1 rfl (Nat.le_of_ble_eq_true rfl) dX0_isClear_37 (fun r10 u H locs hw hP hD hS => ?_)
          have hG11 := hw
          refine lv_isub hx hb dX0_isClear_40 ?_
          refine lv_topi (fun t12 et12 => ?_)
          refine va_mabs hx hb (by rw [hml]; exact hl.1.symm) hown (hts _ k_1128) (hts _ k_1018) (hts _ k_119) (hts _ k_1019) (Nat.le_of_ble_eq_true rfl) (Nat.le_of_ble_eq_true rfl) (Nat.le_of_ble_eq_true rfl) (Nat.le_of_ble_eq_true rfl) dX0_isClear_41 ?_
          refine lv_topi (fun t13 et13 => ?_)
          refine lv_istore (lv' := [(5, .int t13), (4, .int l4_3), (3, .int r1), (0, .ref (x 31)), (1, .int p1), (2, .int p2)]) hx hb dX0_isClear_44 hl (Nat.le_of_ble_eq_true rfl) rfl (fun ls hl => ?_)
          refine lv_aload_n hx hb dX0_isClear_46 rfl (lv_at hl 3 rfl) ?_
          refine va_get (D := (dC, dI)) (ci := 0) (v := .ref (x 32)) (C := RX0) (T := TX0) (N := 8) hx hb hts inB_0 hown hE.1 hP 32 rfl rfl 2 (Nat.le_of_ble_eq_true rfl) (hts _ k_432) (fun _ h9 => h9) rfl dX0_isClear_47 ?_
          refine lv_iload hx hb dX0_isClear_50 (lv_at hl 1 rfl) ?_
          refine ldI hx hb hE hP 33 rfl (vpI (k := 6) rfl (show 0 ≤ l4_3.toInt from om_39 hr4_3) (show l4_3.toInt < 6 from om_64 zc9)) rfl rfl dX0_isClear_52 ?_
          refine lv_topi (fun t14 et14 => ?_)
          refine lv_iload_n hx hb dX0_isClear_53 rfl (lv_at hl 5 rfl) ?_
          refine lv_icmp_ne (tgt := 71) hx hb dX0_isClear_54 rfl (fun c15 => ?_) (fun c15 => ?_)
          · skip
            obtain ⟨t18, et18⟩ : ∃ y : Int32, y = l4_3 + 1 := ⟨_, rfl⟩
            have zt18 : t18.toInt = l4_3.toInt + 1 := (congrArg Int32.toInt et18).trans (add_i rfl tc_1 (om_41 hr4_3) (om_65 zc9))
            refine lv_iinc (v := t18) (lv' := [(4, .int t18), (5, .int t13), (3, .int r1), (0, .ref (x 31)), (1, .int p1), (2, .int p2)]) hx hb dX0_isClear_71 hl (k := 1) rfl et18.symm (Nat.le_of_ble_eq_true rfl) rfl (fun ls hl => ?_)
            refine lv_goto (tgt := 13) hx hb dX0_isClear_74 rfl ?_
            have rg19 := fb_rng t18
            exact ih3 t18 ⟨show (0 : Int) ≤ t18.toInt from om_43 hr4_3 zt18, show t18.toInt ≤ (2147483647 : Int) from om_44 rg19⟩ (show (2147483647 - t18.toInt).toNat < n3 from om_33 hm3 zt18 rg19) _ _ _ hP hD hS (lv_sub hl [0, 2, 3, 4, 5] rfl)
          · skip
            refine lv_iload hx hb dX0_isClear_57 (lv_at hl 0 rfl) ?_
            refine lv_aload_n hx hb dX0_isClear_59 rfl (lv_at hl 3 rfl) ?_
            refine va_get (D := (dC, dI)) (ci := 0) (v := .ref (x 26)) (C := RX0) (T := TX0) (N := 8) hx hb hts inB_0 hown hE.1 hP 32 rfl rfl 0 (Nat.le_of_ble_eq_true rfl) (hts _ k_430) (fun _ h9 => h9) rfl dX0_isClear_60 ?_
            refine va_getN (D := (dC, dI)) (ci := 7) (v := .int (v 35)) (C := RX7) (T := TX7) (N := 10) hx hb hts inB_7 hown hE.1 hP 27 rfl rfl 7 (Nat.le_of_ble_eq_true rfl) (va_Nw.use rfl (hE.2 _ k_238)) (fun _ h9 => h9) rfl dX0_isClear_63 ?_
            refine lv_icmp_gt (tgt := 71) hx hb dX0_isClear_66 rfl (fun c22 => ?_) (fun c22 => ?_)
            · skip
              obtain ⟨t25, et25⟩ : ∃ y : Int32, y = l4_3 + 1 := ⟨_, rfl⟩
              have zt25 : t25.toInt = l4_3.toInt + 1 := (congrArg Int32.toInt et25).trans (add_i rfl tc_1 (om_41 hr4_3) (om_65 zc9))
              refine lv_iinc (v := t25) (lv' := [(4, .int t25), (5, .int t13), (3, .int r1), (0, .ref (x 31)), (1, .int p1), (2, .int p2)]) hx hb dX0_isClear_71 hl (k := 1) rfl et25.symm (Nat.le_of_ble_eq_true rfl) rfl (fun ls hl => ?_)
              refine lv_goto (tgt := 13) hx hb dX0_isClear_74 rfl ?_
              have rg26 := fb_rng t25
              exact ih3 t25 ⟨show (0 : Int) ≤ t25.toInt from om_43 hr4_3 zt25, show t25.toInt ≤ (2147483647 : Int) from om_44 rg26⟩ (show (2147483647 - t25.toInt).toNat < n3 from om_33 hm3 zt25 rg26) _ _ _ hP hD hS (lv_sub hl [0, 2, 3, 4, 5] rfl)
            · skip
              refine lv_iconst (v := 0) hx hb dX0_isClear_69 rfl ?_
              exact ret 0 () _ _ _ _ _ _ rfl (Or.inr rfl) hP hD hS dX0_isClear_70 (Nat.le_refl _) (Nat.le_refl _)
  exact lp3 _ 0 ⟨by decide, by decide⟩ (Nat.lt_succ_self _) _ _ _ hP hD hS (lv_sub hl [0, 1, 2, 3, 4] rfl)
set_option maxHeartbeats 4000000 in
set_option maxRecDepth 100000 in
theorem sX_X0_painted_7 (l : Launch) (dC : Nat → ClassId) (dI : Nat → Nat → Nat) (cy : Nat → ClassId) (x0 : Nat) (x : Nat → Nat) (p2 : Int32) (v : Nat → Int32) (f : Nat → Nat → Int32) (hIv : XI v)  : ctI l (dC, dI) cy yX0_painted cX0_painted 4 .boolean 1 60 0 0 ((Nat → Int32) × (Nat → Nat → Int32)) [.ref (x 31), .int 6, .int p2] (XW cy x0 x v f) (fun r u => KV [] u.1 v ∧ KF [] u.2 f ∧ XI u.1 ∧ u.1 0 = v 0 ∧ u.1 1 = v 1 ∧ u.1 7 = v 7 ∧ u.1 8 = v 8 ∧ u.1 9 = v 9 ∧ u.1 10 = v 10 ∧ u.1 31 = v 31 ∧ u.1 32 = v 32 ∧ ((r = 1) ∨ (r = 0))) (fun u => XW cy x0 x u.1 u.2) := by
  refine ctI_of (by decide) (Nat.le_of_ble_eq_true rfl) (fun p e s m below meth c A ls Q hx hb hml hts hown hE hP hD hA hl ret => ?_)
  have hM_v : KV [] v v := fun _ _ => rfl
  have hA_f : KF [] f f := fun _ _ => rfl
  have hown : s.vm.findClass RX0 = some m.cls := hown
  have hS : va_S A s.heap s.heap [] := va_S.rf
  have hl : lv_has ls 4 [(0, .ref (x 31)), (1, .int 6), (2, .int p2)] := hl
  refine lv_iload_n hx hb dX0_painted_0 rfl (lv_at hl 1 rfl) ?_
  refine lv_aload_n hx hb dX0_painted_1 rfl (lv_at hl 0 rfl) ?_
  refine va_get (D := (dC, dI)) (ci := 0) (v := .ref (x 26)) (C := RX0) (T := TX0) (N := 8) hx hb hts inB_0 hown hE.1 hP 32 rfl rfl 0 (Nat.le_of_ble_eq_true rfl) (hts _ k_430) (fun _ h9 => h9) rfl dX0_painted_2 ?_
  refine va_getN (D := (dC, dI)) (ci := 7) (v := .int (v 31)) (C := RX7) (T := TX7) (N := 10) hx hb hts inB_7 hown hE.1 hP 27 rfl rfl 3 (Nat.le_of_ble_eq_true rfl) (va_Nw.use rfl (hE.2 _ k_216)) (fun _ h9 => h9) rfl dX0_painted_5 ?_
  refine lv_icmp_ge (tgt := 17) hx hb dX0_painted_8 rfl (fun c1 => ?_) (fun c1 => ?_)
  · skip
    refine lv_iconst (v := 1) hx hb dX0_painted_17 rfl ?_
    exact ret 1 (v, f) _ _ _ _ _ _ rfl ⟨hM_v, hA_f, hIv, rfl, rfl, rfl, rfl, rfl, rfl, rfl, rfl, (Or.inl rfl)⟩ hP hD hS dX0_painted_18 (Nat.le_refl _) (Nat.le_refl _)
  · skip
    refine lv_iload_n hx hb dX0_painted_11 rfl (lv_at hl 1 rfl) ?_
    refine lv_bipush (v := 6) hx hb dX0_painted_12 rfl ?_
    refine lv_icmp_lt (tgt := 19) hx hb dX0_painted_14 rfl (fun c0 => absurd c0 (by decide)) (fun _ => ?_)
    refine lv_iconst (v := 1) hx hb dX0_painted_17 rfl ?_
    exact ret 1 (v, f) _ _ _ _ _ _ rfl ⟨hM_v, hA_f, hIv, rfl, rfl, rfl, rfl, rfl, rfl, rfl, rfl, (Or.inl rfl)⟩ hP hD hS dX0_painted_18 (Nat.le_refl _) (Nat.le_refl _)
set_option maxHeartbeats 4000000 in
set_option maxRecDepth 100000 in
theorem sX_X0_painted_6 (l : Launch) (dC : Nat → ClassId) (dI : Nat → Nat → Nat) (cy : Nat → ClassId) (x0 : Nat) (x : Nat → Nat) (p2 : Int32) (v : Nat → Int32) (f : Nat → Nat → Int32) (hIv : XI v)  : ctI l (dC, dI) cy yX0_painted cX0_painted 4 .boolean 4 128 0 0 ((Nat → Int32) × (Nat → Nat → Int32)) [.ref (x 31), .int 5, .int p2] (XW cy x0 x v f) (fun r u => KV [38] u.1 v ∧ KF [20] u.2 f ∧ XI u.1 ∧ u.1 0 = v 0 ∧ u.1 1 = v 1 ∧ u.1 7 = v 7 ∧ u.1 8 = v 8 ∧ u.1 9 = v 9 ∧ u.1 10 = v 10 ∧ u.1 31 = v 31 ∧ u.1 32 = v 32 ∧ ((r = 1) ∨ (r = 0))) (fun u => XW cy x0 x u.1 u.2) := by
  refine ctI_of (by decide) (Nat.le_of_ble_eq_true rfl) (fun p e s m below meth c A ls Q hx hb hml hts hown hE hP hD hA hl ret => ?_)
  have hM_v : KV [38] v v := fun _ _ => rfl
  have hA_f : KF [20] f f := fun _ _ => rfl
  have hown : s.vm.findClass RX0 = some m.cls := hown
  have hS : va_S A s.heap s.heap [] := va_S.rf
  have hl : lv_has ls 4 [(0, .ref (x 31)), (1, .int 5), (2, .int p2)] := hl
  refine lv_iload_n hx hb dX0_painted_0 rfl (lv_at hl 1 rfl) ?_
  refine lv_aload_n hx hb dX0_painted_1 rfl (lv_at hl 0 rfl) ?_
  refine va_get (D := (dC, dI)) (ci := 0) (v := .ref (x 26)) (C := RX0) (T := TX0) (N := 8) hx hb hts inB_0 hown hE.1 hP 32 rfl rfl 0 (Nat.le_of_ble_eq_true rfl) (hts _ k_430) (fun _ h9 => h9) rfl dX0_painted_2 ?_
  refine va_getN (D := (dC, dI)) (ci := 7) (v := .int (v 31)) (C := RX7) (T := TX7) (N := 10) hx hb hts inB_7 hown hE.1 hP 27 rfl rfl 3 (Nat.le_of_ble_eq_true rfl) (va_Nw.use rfl (hE.2 _ k_216)) (fun _ h9 => h9) rfl dX0_painted_5 ?_
  refine lv_icmp_ge (tgt := 17) hx hb dX0_painted_8 rfl (fun c1 => ?_) (fun c1 => ?_)
  · skip
    refine lv_iconst (v := 1) hx hb dX0_painted_17 rfl ?_
    exact ret 1 (v, f) _ _ _ _ _ _ rfl ⟨hM_v, hA_f, hIv, rfl, rfl, rfl, rfl, rfl, rfl, rfl, rfl, (Or.inl rfl)⟩ hP hD hS dX0_painted_18 (Nat.le_refl _) (Nat.le_refl _)
  · skip
    refine lv_iload_n hx hb dX0_painted_11 rfl (lv_at hl 1 rfl) ?_
    refine lv_bipush (v := 6) hx hb dX0_painted_12 rfl ?_
    refine lv_icmp_lt (tgt := 19) hx hb dX0_painted_14 rfl (fun _ => ?_) (fun c0 => absurd (by decide) c0)
    refine lv_iconst (v := 0) hx hb dX0_painted_19 rfl ?_
    refine lv_istore_n (lv' := [(3, .int 0), (0, .ref (x 31)), (1, .int 5), (2, .int p2)]) hx hb dX0_painted_20 rfl hl (Nat.le_of_ble_eq_true rfl) rfl (fun ls hl => ?_)
    have lp2 : ∀ (n2 : Nat) (l3_2 : Int32) (v2 : Nat → Int32) (f2 : Nat → Nat → Int32), XI v2 → v2 0 = (v 0) → v2 1 = (v 1) → v2 7 = (v 7) → v2 8 = (v 8) → v2 9 = (v 9) → v2 10 = (v 10) → v2 31 = (v 31) → v2 32 = (v 32) → ((0 : Int) ≤ l3_2.toInt ∧ l3_2.toInt ≤ 2147483647) → KV [38] v2 v → KF [20] f2 f → (2147483647 - l3_2.toInt).toNat < n2 → ∀ (H : Heap) (locs : List Loc) (ls : Array Slot), va_P (dC, dI) vwCl (XW cy x0 x v2 f2) H → va_D A (XW cy x0 x v2 f2) → va_S A s.heap H locs → lv_has ls 4 [(3, .int l3_2), (0, .ref (x 31)), (1, .int 5), (2, .int p2)] → W p l e { frames := 4, cells := 0, slots := 0, locals := 128 } s m ([.ref (x 31), .int 5, .int p2] : List Value).toArray below meth c H locs 0 0 Q (F0 m 21 ls []) := by
      intro n2
      induction n2 with
      | zero => intro l3_2 v2 f2 hIv2 hq0_v2 hq1_v2 hq7_v2 hq8_v2 hq9_v2 hq10_v2 hq31_v2 hq32_v2 hr3_2 hM_v2 hA_f2 hm; exact absurd hm (Nat.not_lt_zero _)
      | succ n2 ih2 =>
        intro l3_2 v2 f2 hIv2 hq0_v2 hq1_v2 hq7_v2 hq8_v2 hq9_v2 hq10_v2 hq31_v2 hq32_v2 hr3_2 hM_v2 hA_f2 hm2 H locs ls hP hD hS hl
        refine lv_iload_n hx hb dX0_painted_21 rfl (lv_at hl 0 rfl) ?_
        refine lv_iload_n hx hb dX0_painted_22 rfl (lv_at hl 3 rfl) ?_
        refine lv_icmp_ge (tgt := 64) hx hb dX0_painted_23 rfl (fun c3 => ?_) (fun c3 => ?_)
        · skip
          refine lv_iconst (v := 0) hx hb dX0_painted_64 rfl ?_
          exact ret 0 (v2, f2) _ _ _ _ _ _ rfl ⟨hM_v2, hA_f2, hIv2, (show v2 0 = v 0 from hq0_v2), (show v2 1 = v 1 from hq1_v2), (show v2 7 = v 7 from hq7_v2), (show v2 8 = v 8 from hq8_v2), (show v2 9 = v 9 from hq9_v2), (show v2 10 = v 10 from hq10_v2), (show v2 31 = v 31 from hq31_v2), (show v2 32 = v 32 from hq32_v2), (Or.inr rfl)⟩ hP hD hS dX0_painted_65 (Nat.le_refl _) (Nat.le_refl _)
        · skip
          have zc3 : ¬ (p2.toInt ≤ l3_2.toInt) := zMn rfl rfl c3
          have rg7 := fb_rng p2
          refine lv_aload_n hx hb dX0_painted_26 rfl (lv_at hl 1 rfl) ?_
          refine lv_iload_n hx hb dX0_painted_27 rfl (lv_at hl 2 rfl) ?_
          refine lv_iload_n hx hb dX0_painted_28 rfl (lv_at hl 0 rfl) ?_
          refine cbVi (n := 2) (rest := []) hx hb hml hown hts hE hP hD hS hA (sX_X0_isClear_1 l dC dI cy x0 x 5 l3_2 v2 f2 hIv2 ) k_1123 k_1125 k_34 k_111 k_1126 hd_yX0_isClear ⟨Nat.le_of_ble_eq_true rfl, Nat.le_of_ble_eq_true rfl⟩ 32 0 rfl rfl (rfl) hl.1 rfl (Nat.le_of_ble_eq_true rfl) dX0_painted_29 (fun r8 u H locs hw hP hD hS => ?_)
          rcases hw with ⟨g9⟩ | ⟨g9⟩
          · skip
            subst g9
            refine lv_if_eq (tgt := 58) hx hb dX0_painted_32 rfl (fun c0 => absurd c0 (by decide)) (fun _ => ?_)
            refine lv_aload_n hx hb dX0_painted_35 rfl (lv_at hl 1 rfl) ?_
            refine lv_iload_n hx hb dX0_painted_36 rfl (lv_at hl 2 rfl) ?_
            refine va_put (D := (dC, dI)) (ci := 0) (v := .int 5) (ty := tyX0 3) (C := RX0) (T := TX0) (N := 8) hx hb hts inB_0 tyX0 tyX0_ok nmX0 hown hE.1 hP hD hS 32 rfl rfl 3 (Nat.le_of_ble_eq_true rfl) (hts _ k_433) (fun _ h9 => h9) rfl (tyX0_ok 3 (Nat.le_of_ble_eq_true rfl)) rfl rfl (Nat.le_of_ble_eq_true rfl) dX0_painted_37 (fun H locs hP hD hS => ?_)
            have hP : va_P (dC, dI) vwCl (XW cy x0 x (upd v2 38 5) f2) H := hP
            have hD : va_D A (XW cy x0 x (upd v2 38 5) f2) := hD
            refine lv_aload_n hx hb dX0_painted_40 rfl (lv_at hl 1 rfl) ?_
            refine lv_iload_n hx hb dX0_painted_41 rfl (lv_at hl 0 rfl) ?_
            refine cbVv (n := 1) (rest := []) hx hb hml hown hts hE hP hD hS hA (sX_X0_lay_1 l dC dI cy x0 x l3_2 (upd v2 38 5) f2 (Xu_38 (x := 5) hIv2 (by decide) (by decide)) ) k_995 k_997 k_26 k_111 k_998 hd_yX0_lay ⟨Nat.le_of_ble_eq_true rfl, Nat.le_of_ble_eq_true rfl⟩ 32 0 rfl rfl (rfl) hl.1 rfl (Nat.le_of_ble_eq_true rfl) dX0_painted_42 (fun u H locs hw hP hD hS => ?_)
            obtain ⟨v10, f11⟩ := u
            obtain ⟨kV_v10, kF_f11, hIv10, hk0_v10, hk1_v10, hk7_v10, hk8_v10, hk9_v10, hk10_v10, hk31_v10, hk32_v10⟩ := hw
            have hM_v10 : KV [38] v10 v := KV.tr kV_v10 (KV.up (j := 38) (x := 5) hM_v2 rfl) rfl
            have hA_f11 : KF [20] f11 f := KF.tr kF_f11 hA_f2 rfl
            have hP : va_P (dC, dI) vwCl (XW cy x0 x v10 f11) H := hP
            have hD : va_D A (XW cy x0 x v10 f11) := hD
            have hq0_v10 : v10 0 = (v 0) := hk0_v10.trans hq0_v2
            have hq1_v10 : v10 1 = (v 1) := hk1_v10.trans hq1_v2
            have hq7_v10 : v10 7 = (v 7) := hk7_v10.trans hq7_v2
            have hq8_v10 : v10 8 = (v 8) := hk8_v10.trans hq8_v2
            have hq9_v10 : v10 9 = (v 9) := hk9_v10.trans hq9_v2
            have hq10_v10 : v10 10 = (v 10) := hk10_v10.trans hq10_v2
            have hq31_v10 : v10 31 = (v 31) := hk31_v10.trans hq31_v2
            have hq32_v10 : v10 32 = (v 32) := hk32_v10.trans hq32_v2
            refine lv_aload_n hx hb dX0_painted_45 rfl (lv_at hl 1 rfl) ?_
            refine lv_iload_n hx hb dX0_painted_46 rfl (lv_at hl 2 rfl) ?_
            refine lv_iconst (v := 1) hx hb dX0_painted_47 rfl ?_
            refine lv_iadd hx hb dX0_painted_48 ?_
            refine tI (y := 6) (by decide) ?_
            refine lv_iload_n hx hb dX0_painted_49 rfl (lv_at hl 3 rfl) ?_
            refine cbVi (n := 2) (rest := []) hx hb hml hown hts hE hP hD hS hA (sX_X0_painted_7 l dC dI cy x0 x p2 v10 f11 hIv10 ) k_1119 k_1121 k_33 k_111 k_1122 hd_yX0_painted ⟨Nat.le_of_ble_eq_true rfl, Nat.le_of_ble_eq_true rfl⟩ 32 0 rfl rfl (rfl) hl.1 rfl (Nat.le_of_ble_eq_true rfl) dX0_painted_50 (fun r12 u H locs hw hP hD hS => ?_)
            obtain ⟨v13, f14⟩ := u
            obtain ⟨kV_v13, kF_f14, hIv13, hk0_v13, hk1_v13, hk7_v13, hk8_v13, hk9_v13, hk10_v13, hk31_v13, hk32_v13, hw⟩ := hw
            have hM_v13 : KV [38] v13 v := KV.tr kV_v13 hM_v10 rfl
            have hA_f14 : KF [20] f14 f := KF.tr kF_f14 hA_f11 rfl
            have hP : va_P (dC, dI) vwCl (XW cy x0 x v13 f14) H := hP
            have hD : va_D A (XW cy x0 x v13 f14) := hD
            have hq0_v13 : v13 0 = (v 0) := hk0_v13.trans hq0_v10
            have hq1_v13 : v13 1 = (v 1) := hk1_v13.trans hq1_v10
            have hq7_v13 : v13 7 = (v 7) := hk7_v13.trans hq7_v10
            have hq8_v13 : v13 8 = (v 8) := hk8_v13.trans hq8_v10
            have hq9_v13 : v13 9 = (v 9) := hk9_v13.trans hq9_v10
            have hq10_v13 : v13 10 = (v 10) := hk10_v13.trans hq10_v10
            have hq31_v13 : v13 31 = (v 31) := hk31_v13.trans hq31_v10
            have hq32_v13 : v13 32 = (v 32) := hk32_v13.trans hq32_v10
            rcases hw with ⟨g15⟩ | ⟨g15⟩
            · skip
              subst g15
              refine lv_if_eq (tgt := 58) hx hb dX0_painted_53 rfl (fun c0 => absurd c0 (by decide)) (fun _ => ?_)
              refine lv_iconst (v := 1) hx hb dX0_painted_56 rfl ?_
              exact ret 1 (v13, f14) _ _ _ _ _ _ rfl ⟨hM_v13, hA_f14, hIv13, (hk0_v13.trans (hk0_v10.trans (show v2 0 = v 0 from hq0_v2))), (hk1_v13.trans (hk1_v10.trans (show v2 1 = v 1 from hq1_v2))), (hk7_v13.trans (hk7_v10.trans (show v2 7 = v 7 from hq7_v2))), (hk8_v13.trans (hk8_v10.trans (show v2 8 = v 8 from hq8_v2))), (hk9_v13.trans (hk9_v10.trans (show v2 9 = v 9 from hq9_v2))), (hk10_v13.trans (hk10_v10.trans (show v2 10 = v 10 from hq10_v2))), (hk31_v13.trans (hk31_v10.trans (show v2 31 = v 31 from hq31_v2))), (hk32_v13.trans (hk32_v10.trans (show v2 32 = v 32 from hq32_v2))), (Or.inl rfl)⟩ hP hD hS dX0_painted_57 (Nat.le_refl _) (Nat.le_refl _)
            · skip
              subst g15
              refine lv_if_eq (tgt := 58) hx hb dX0_painted_53 rfl (fun _ => ?_) (fun c0 => absurd (by decide) c0)
              obtain ⟨t16, et16⟩ : ∃ y : Int32, y = l3_2 + 1 := ⟨_, rfl⟩
              have zt16 : t16.toInt = l3_2.toInt + 1 := (congrArg Int32.toInt et16).trans (add_i rfl tc_1 (om_41 hr3_2) (om_196 zc3 rg7))
              refine lv_iinc (v := t16) (lv' := [(3, .int t16), (0, .ref (x 31)), (1, .int 5), (2, .int p2)]) hx hb dX0_painted_58 hl (k := 0) rfl et16.symm (Nat.le_of_ble_eq_true rfl) rfl (fun ls hl => ?_)
              refine lv_goto (tgt := 21) hx hb dX0_painted_61 rfl ?_
              have rg17 := fb_rng t16
              exact ih2 t16 v13 f14 hIv13 hq0_v13 hq1_v13 hq7_v13 hq8_v13 hq9_v13 hq10_v13 hq31_v13 hq32_v13 ⟨show (0 : Int) ≤ t16.toInt from om_43 hr3_2 zt16, show t16.toInt ≤ (2147483647 : Int) from om_44 rg17⟩ hM_v13 hA_f14 (show (2147483647 - t16.toInt).toNat < n2 from om_33 hm2 zt16 rg17) _ _ _ hP hD hS (lv_sub hl [0, 1, 2, 3] rfl)
          · skip
            subst g9
            refine lv_if_eq (tgt := 58) hx hb dX0_painted_32 rfl (fun _ => ?_) (fun c0 => absurd (by decide) c0)
            obtain ⟨t18, et18⟩ : ∃ y : Int32, y = l3_2 + 1 := ⟨_, rfl⟩
            have zt18 : t18.toInt = l3_2.toInt + 1 := (congrArg Int32.toInt et18).trans (add_i rfl tc_1 (om_41 hr3_2) (om_196 zc3 rg7))
            refine lv_iinc (v := t18) (lv' := [(3, .int t18), (0, .ref (x 31)), (1, .int 5), (2, .int p2)]) hx hb dX0_painted_58 hl (k := 0) rfl et18.symm (Nat.le_of_ble_eq_true rfl) rfl (fun ls hl => ?_)
            refine lv_goto (tgt := 21) hx hb dX0_painted_61 rfl ?_
            have rg19 := fb_rng t18
            exact ih2 t18 v2 f2 hIv2 hq0_v2 hq1_v2 hq7_v2 hq8_v2 hq9_v2 hq10_v2 hq31_v2 hq32_v2 ⟨show (0 : Int) ≤ t18.toInt from om_43 hr3_2 zt18, show t18.toInt ≤ (2147483647 : Int) from om_44 rg19⟩ hM_v2 hA_f2 (show (2147483647 - t18.toInt).toNat < n2 from om_33 hm2 zt18 rg19) _ _ _ hP hD hS (lv_sub hl [0, 1, 2, 3] rfl)
    exact lp2 _ 0 v f hIv rfl rfl rfl rfl rfl rfl rfl rfl ⟨by decide, by decide⟩ hM_v hA_f (Nat.lt_succ_self _) _ _ _ hP hD hS (lv_sub hl [0, 1, 2, 3] rfl)
set_option maxHeartbeats 4000000 in
set_option maxRecDepth 100000 in
theorem sX_X0_painted_5 (l : Launch) (dC : Nat → ClassId) (dI : Nat → Nat → Nat) (cy : Nat → ClassId) (x0 : Nat) (x : Nat → Nat) (p2 : Int32) (v : Nat → Int32) (f : Nat → Nat → Int32) (hIv : XI v)  : ctI l (dC, dI) cy yX0_painted cX0_painted 4 .boolean 5 151 0 0 ((Nat → Int32) × (Nat → Nat → Int32)) [.ref (x 31), .int 4, .int p2] (XW cy x0 x v f) (fun r u => KV [38] u.1 v ∧ KF [20] u.2 f ∧ XI u.1 ∧ u.1 0 = v 0 ∧ u.1 1 = v 1 ∧ u.1 7 = v 7 ∧ u.1 8 = v 8 ∧ u.1 9 = v 9 ∧ u.1 10 = v 10 ∧ u.1 31 = v 31 ∧ u.1 32 = v 32 ∧ ((r = 1) ∨ (r = 0))) (fun u => XW cy x0 x u.1 u.2) := by
  refine ctI_of (by decide) (Nat.le_of_ble_eq_true rfl) (fun p e s m below meth c A ls Q hx hb hml hts hown hE hP hD hA hl ret => ?_)
  have hM_v : KV [38] v v := fun _ _ => rfl
  have hA_f : KF [20] f f := fun _ _ => rfl
  have hown : s.vm.findClass RX0 = some m.cls := hown
  have hS : va_S A s.heap s.heap [] := va_S.rf
  have hl : lv_has ls 4 [(0, .ref (x 31)), (1, .int 4), (2, .int p2)] := hl
  refine lv_iload_n hx hb dX0_painted_0 rfl (lv_at hl 1 rfl) ?_
  refine lv_aload_n hx hb dX0_painted_1 rfl (lv_at hl 0 rfl) ?_
  refine va_get (D := (dC, dI)) (ci := 0) (v := .ref (x 26)) (C := RX0) (T := TX0) (N := 8) hx hb hts inB_0 hown hE.1 hP 32 rfl rfl 0 (Nat.le_of_ble_eq_true rfl) (hts _ k_430) (fun _ h9 => h9) rfl dX0_painted_2 ?_
  refine va_getN (D := (dC, dI)) (ci := 7) (v := .int (v 31)) (C := RX7) (T := TX7) (N := 10) hx hb hts inB_7 hown hE.1 hP 27 rfl rfl 3 (Nat.le_of_ble_eq_true rfl) (va_Nw.use rfl (hE.2 _ k_216)) (fun _ h9 => h9) rfl dX0_painted_5 ?_
  refine lv_icmp_ge (tgt := 17) hx hb dX0_painted_8 rfl (fun c1 => ?_) (fun c1 => ?_)
  · skip
    refine lv_iconst (v := 1) hx hb dX0_painted_17 rfl ?_
    exact ret 1 (v, f) _ _ _ _ _ _ rfl ⟨hM_v, hA_f, hIv, rfl, rfl, rfl, rfl, rfl, rfl, rfl, rfl, (Or.inl rfl)⟩ hP hD hS dX0_painted_18 (Nat.le_refl _) (Nat.le_refl _)
  · skip
    refine lv_iload_n hx hb dX0_painted_11 rfl (lv_at hl 1 rfl) ?_
    refine lv_bipush (v := 6) hx hb dX0_painted_12 rfl ?_
    refine lv_icmp_lt (tgt := 19) hx hb dX0_painted_14 rfl (fun _ => ?_) (fun c0 => absurd (by decide) c0)
    refine lv_iconst (v := 0) hx hb dX0_painted_19 rfl ?_
    refine lv_istore_n (lv' := [(3, .int 0), (0, .ref (x 31)), (1, .int 4), (2, .int p2)]) hx hb dX0_painted_20 rfl hl (Nat.le_of_ble_eq_true rfl) rfl (fun ls hl => ?_)
    have lp2 : ∀ (n2 : Nat) (l3_2 : Int32) (v2 : Nat → Int32) (f2 : Nat → Nat → Int32), XI v2 → v2 0 = (v 0) → v2 1 = (v 1) → v2 7 = (v 7) → v2 8 = (v 8) → v2 9 = (v 9) → v2 10 = (v 10) → v2 31 = (v 31) → v2 32 = (v 32) → ((0 : Int) ≤ l3_2.toInt ∧ l3_2.toInt ≤ 2147483647) → KV [38] v2 v → KF [20] f2 f → (2147483647 - l3_2.toInt).toNat < n2 → ∀ (H : Heap) (locs : List Loc) (ls : Array Slot), va_P (dC, dI) vwCl (XW cy x0 x v2 f2) H → va_D A (XW cy x0 x v2 f2) → va_S A s.heap H locs → lv_has ls 4 [(3, .int l3_2), (0, .ref (x 31)), (1, .int 4), (2, .int p2)] → W p l e { frames := 5, cells := 0, slots := 0, locals := 151 } s m ([.ref (x 31), .int 4, .int p2] : List Value).toArray below meth c H locs 0 0 Q (F0 m 21 ls []) := by
      intro n2
      induction n2 with
      | zero => intro l3_2 v2 f2 hIv2 hq0_v2 hq1_v2 hq7_v2 hq8_v2 hq9_v2 hq10_v2 hq31_v2 hq32_v2 hr3_2 hM_v2 hA_f2 hm; exact absurd hm (Nat.not_lt_zero _)
      | succ n2 ih2 =>
        intro l3_2 v2 f2 hIv2 hq0_v2 hq1_v2 hq7_v2 hq8_v2 hq9_v2 hq10_v2 hq31_v2 hq32_v2 hr3_2 hM_v2 hA_f2 hm2 H locs ls hP hD hS hl
        refine lv_iload_n hx hb dX0_painted_21 rfl (lv_at hl 0 rfl) ?_
        refine lv_iload_n hx hb dX0_painted_22 rfl (lv_at hl 3 rfl) ?_
        refine lv_icmp_ge (tgt := 64) hx hb dX0_painted_23 rfl (fun c3 => ?_) (fun c3 => ?_)
        · skip
          refine lv_iconst (v := 0) hx hb dX0_painted_64 rfl ?_
          exact ret 0 (v2, f2) _ _ _ _ _ _ rfl ⟨hM_v2, hA_f2, hIv2, (show v2 0 = v 0 from hq0_v2), (show v2 1 = v 1 from hq1_v2), (show v2 7 = v 7 from hq7_v2), (show v2 8 = v 8 from hq8_v2), (show v2 9 = v 9 from hq9_v2), (show v2 10 = v 10 from hq10_v2), (show v2 31 = v 31 from hq31_v2), (show v2 32 = v 32 from hq32_v2), (Or.inr rfl)⟩ hP hD hS dX0_painted_65 (Nat.le_refl _) (Nat.le_refl _)
        · skip
          have zc3 : ¬ (p2.toInt ≤ l3_2.toInt) := zMn rfl rfl c3
          have rg7 := fb_rng p2
          refine lv_aload_n hx hb dX0_painted_26 rfl (lv_at hl 1 rfl) ?_
          refine lv_iload_n hx hb dX0_painted_27 rfl (lv_at hl 2 rfl) ?_
          refine lv_iload_n hx hb dX0_painted_28 rfl (lv_at hl 0 rfl) ?_
          refine cbVi (n := 2) (rest := []) hx hb hml hown hts hE hP hD hS hA (sX_X0_isClear_1 l dC dI cy x0 x 4 l3_2 v2 f2 hIv2 ) k_1123 k_1125 k_34 k_111 k_1126 hd_yX0_isClear ⟨Nat.le_of_ble_eq_true rfl, Nat.le_of_ble_eq_true rfl⟩ 32 0 rfl rfl (rfl) hl.1 rfl (Nat.le_of_ble_eq_true rfl) dX0_painted_29 (fun r8 u H locs hw hP hD hS => ?_)
          rcases hw with ⟨g9⟩ | ⟨g9⟩
          · skip
            subst g9
            refine lv_if_eq (tgt := 58) hx hb dX0_painted_32 rfl (fun c0 => absurd c0 (by decide)) (fun _ => ?_)
            refine lv_aload_n hx hb dX0_painted_35 rfl (lv_at hl 1 rfl) ?_
            refine lv_iload_n hx hb dX0_painted_36 rfl (lv_at hl 2 rfl) ?_
            refine va_put (D := (dC, dI)) (ci := 0) (v := .int 4) (ty := tyX0 3) (C := RX0) (T := TX0) (N := 8) hx hb hts inB_0 tyX0 tyX0_ok nmX0 hown hE.1 hP hD hS 32 rfl rfl 3 (Nat.le_of_ble_eq_true rfl) (hts _ k_433) (fun _ h9 => h9) rfl (tyX0_ok 3 (Nat.le_of_ble_eq_true rfl)) rfl rfl (Nat.le_of_ble_eq_true rfl) dX0_painted_37 (fun H locs hP hD hS => ?_)
            have hP : va_P (dC, dI) vwCl (XW cy x0 x (upd v2 38 4) f2) H := hP
            have hD : va_D A (XW cy x0 x (upd v2 38 4) f2) := hD
            refine lv_aload_n hx hb dX0_painted_40 rfl (lv_at hl 1 rfl) ?_
            refine lv_iload_n hx hb dX0_painted_41 rfl (lv_at hl 0 rfl) ?_
            refine cbVv (n := 1) (rest := []) hx hb hml hown hts hE hP hD hS hA (sX_X0_lay_1 l dC dI cy x0 x l3_2 (upd v2 38 4) f2 (Xu_38 (x := 4) hIv2 (by decide) (by decide)) ) k_995 k_997 k_26 k_111 k_998 hd_yX0_lay ⟨Nat.le_of_ble_eq_true rfl, Nat.le_of_ble_eq_true rfl⟩ 32 0 rfl rfl (rfl) hl.1 rfl (Nat.le_of_ble_eq_true rfl) dX0_painted_42 (fun u H locs hw hP hD hS => ?_)
            obtain ⟨v10, f11⟩ := u
            obtain ⟨kV_v10, kF_f11, hIv10, hk0_v10, hk1_v10, hk7_v10, hk8_v10, hk9_v10, hk10_v10, hk31_v10, hk32_v10⟩ := hw
            have hM_v10 : KV [38] v10 v := KV.tr kV_v10 (KV.up (j := 38) (x := 4) hM_v2 rfl) rfl
            have hA_f11 : KF [20] f11 f := KF.tr kF_f11 hA_f2 rfl
            have hP : va_P (dC, dI) vwCl (XW cy x0 x v10 f11) H := hP
            have hD : va_D A (XW cy x0 x v10 f11) := hD
            have hq0_v10 : v10 0 = (v 0) := hk0_v10.trans hq0_v2
            have hq1_v10 : v10 1 = (v 1) := hk1_v10.trans hq1_v2
            have hq7_v10 : v10 7 = (v 7) := hk7_v10.trans hq7_v2
            have hq8_v10 : v10 8 = (v 8) := hk8_v10.trans hq8_v2
            have hq9_v10 : v10 9 = (v 9) := hk9_v10.trans hq9_v2
            have hq10_v10 : v10 10 = (v 10) := hk10_v10.trans hq10_v2
            have hq31_v10 : v10 31 = (v 31) := hk31_v10.trans hq31_v2
            have hq32_v10 : v10 32 = (v 32) := hk32_v10.trans hq32_v2
            refine lv_aload_n hx hb dX0_painted_45 rfl (lv_at hl 1 rfl) ?_
            refine lv_iload_n hx hb dX0_painted_46 rfl (lv_at hl 2 rfl) ?_
            refine lv_iconst (v := 1) hx hb dX0_painted_47 rfl ?_
            refine lv_iadd hx hb dX0_painted_48 ?_
            refine tI (y := 5) (by decide) ?_
            refine lv_iload_n hx hb dX0_painted_49 rfl (lv_at hl 3 rfl) ?_
            refine cbVi (n := 2) (rest := []) hx hb hml hown hts hE hP hD hS hA (sX_X0_painted_6 l dC dI cy x0 x p2 v10 f11 hIv10 ) k_1119 k_1121 k_33 k_111 k_1122 hd_yX0_painted ⟨Nat.le_of_ble_eq_true rfl, Nat.le_of_ble_eq_true rfl⟩ 32 0 rfl rfl (rfl) hl.1 rfl (Nat.le_of_ble_eq_true rfl) dX0_painted_50 (fun r12 u H locs hw hP hD hS => ?_)
            obtain ⟨v13, f14⟩ := u
            obtain ⟨kV_v13, kF_f14, hIv13, hk0_v13, hk1_v13, hk7_v13, hk8_v13, hk9_v13, hk10_v13, hk31_v13, hk32_v13, hw⟩ := hw
            have hM_v13 : KV [38] v13 v := KV.tr kV_v13 hM_v10 rfl
            have hA_f14 : KF [20] f14 f := KF.tr kF_f14 hA_f11 rfl
            have hP : va_P (dC, dI) vwCl (XW cy x0 x v13 f14) H := hP
            have hD : va_D A (XW cy x0 x v13 f14) := hD
            have hq0_v13 : v13 0 = (v 0) := hk0_v13.trans hq0_v10
            have hq1_v13 : v13 1 = (v 1) := hk1_v13.trans hq1_v10
            have hq7_v13 : v13 7 = (v 7) := hk7_v13.trans hq7_v10
            have hq8_v13 : v13 8 = (v 8) := hk8_v13.trans hq8_v10
            have hq9_v13 : v13 9 = (v 9) := hk9_v13.trans hq9_v10
            have hq10_v13 : v13 10 = (v 10) := hk10_v13.trans hq10_v10
            have hq31_v13 : v13 31 = (v 31) := hk31_v13.trans hq31_v10
            have hq32_v13 : v13 32 = (v 32) := hk32_v13.trans hq32_v10
            rcases hw with ⟨g15⟩ | ⟨g15⟩
            · skip
              subst g15
              refine lv_if_eq (tgt := 58) hx hb dX0_painted_53 rfl (fun c0 => absurd c0 (by decide)) (fun _ => ?_)
              refine lv_iconst (v := 1) hx hb dX0_painted_56 rfl ?_
              exact ret 1 (v13, f14) _ _ _ _ _ _ rfl ⟨hM_v13, hA_f14, hIv13, (hk0_v13.trans (hk0_v10.trans (show v2 0 = v 0 from hq0_v2))), (hk1_v13.trans (hk1_v10.trans (show v2 1 = v 1 from hq1_v2))), (hk7_v13.trans (hk7_v10.trans (show v2 7 = v 7 from hq7_v2))), (hk8_v13.trans (hk8_v10.trans (show v2 8 = v 8 from hq8_v2))), (hk9_v13.trans (hk9_v10.trans (show v2 9 = v 9 from hq9_v2))), (hk10_v13.trans (hk10_v10.trans (show v2 10 = v 10 from hq10_v2))), (hk31_v13.trans (hk31_v10.trans (show v2 31 = v 31 from hq31_v2))), (hk32_v13.trans (hk32_v10.trans (show v2 32 = v 32 from hq32_v2))), (Or.inl rfl)⟩ hP hD hS dX0_painted_57 (Nat.le_refl _) (Nat.le_refl _)
            · skip
              subst g15
              refine lv_if_eq (tgt := 58) hx hb dX0_painted_53 rfl (fun _ => ?_) (fun c0 => absurd (by decide) c0)
              obtain ⟨t16, et16⟩ : ∃ y : Int32, y = l3_2 + 1 := ⟨_, rfl⟩
              have zt16 : t16.toInt = l3_2.toInt + 1 := (congrArg Int32.toInt et16).trans (add_i rfl tc_1 (om_41 hr3_2) (om_196 zc3 rg7))
              refine lv_iinc (v := t16) (lv' := [(3, .int t16), (0, .ref (x 31)), (1, .int 4), (2, .int p2)]) hx hb dX0_painted_58 hl (k := 0) rfl et16.symm (Nat.le_of_ble_eq_true rfl) rfl (fun ls hl => ?_)
              refine lv_goto (tgt := 21) hx hb dX0_painted_61 rfl ?_
              have rg17 := fb_rng t16
              exact ih2 t16 v13 f14 hIv13 hq0_v13 hq1_v13 hq7_v13 hq8_v13 hq9_v13 hq10_v13 hq31_v13 hq32_v13 ⟨show (0 : Int) ≤ t16.toInt from om_43 hr3_2 zt16, show t16.toInt ≤ (2147483647 : Int) from om_44 rg17⟩ hM_v13 hA_f14 (show (2147483647 - t16.toInt).toNat < n2 from om_33 hm2 zt16 rg17) _ _ _ hP hD hS (lv_sub hl [0, 1, 2, 3] rfl)
          · skip
            subst g9
            refine lv_if_eq (tgt := 58) hx hb dX0_painted_32 rfl (fun _ => ?_) (fun c0 => absurd (by decide) c0)
            obtain ⟨t18, et18⟩ : ∃ y : Int32, y = l3_2 + 1 := ⟨_, rfl⟩
            have zt18 : t18.toInt = l3_2.toInt + 1 := (congrArg Int32.toInt et18).trans (add_i rfl tc_1 (om_41 hr3_2) (om_196 zc3 rg7))
            refine lv_iinc (v := t18) (lv' := [(3, .int t18), (0, .ref (x 31)), (1, .int 4), (2, .int p2)]) hx hb dX0_painted_58 hl (k := 0) rfl et18.symm (Nat.le_of_ble_eq_true rfl) rfl (fun ls hl => ?_)
            refine lv_goto (tgt := 21) hx hb dX0_painted_61 rfl ?_
            have rg19 := fb_rng t18
            exact ih2 t18 v2 f2 hIv2 hq0_v2 hq1_v2 hq7_v2 hq8_v2 hq9_v2 hq10_v2 hq31_v2 hq32_v2 ⟨show (0 : Int) ≤ t18.toInt from om_43 hr3_2 zt18, show t18.toInt ≤ (2147483647 : Int) from om_44 rg19⟩ hM_v2 hA_f2 (show (2147483647 - t18.toInt).toNat < n2 from om_33 hm2 zt18 rg19) _ _ _ hP hD hS (lv_sub hl [0, 1, 2, 3] rfl)
    exact lp2 _ 0 v f hIv rfl rfl rfl rfl rfl rfl rfl rfl ⟨by decide, by decide⟩ hM_v hA_f (Nat.lt_succ_self _) _ _ _ hP hD hS (lv_sub hl [0, 1, 2, 3] rfl)
set_option maxHeartbeats 4000000 in
set_option maxRecDepth 100000 in
theorem sX_X0_painted_4 (l : Launch) (dC : Nat → ClassId) (dI : Nat → Nat → Nat) (cy : Nat → ClassId) (x0 : Nat) (x : Nat → Nat) (p2 : Int32) (v : Nat → Int32) (f : Nat → Nat → Int32) (hIv : XI v)  : ctI l (dC, dI) cy yX0_painted cX0_painted 4 .boolean 6 174 0 0 ((Nat → Int32) × (Nat → Nat → Int32)) [.ref (x 31), .int 3, .int p2] (XW cy x0 x v f) (fun r u => KV [38] u.1 v ∧ KF [20] u.2 f ∧ XI u.1 ∧ u.1 0 = v 0 ∧ u.1 1 = v 1 ∧ u.1 7 = v 7 ∧ u.1 8 = v 8 ∧ u.1 9 = v 9 ∧ u.1 10 = v 10 ∧ u.1 31 = v 31 ∧ u.1 32 = v 32 ∧ ((r = 1) ∨ (r = 0))) (fun u => XW cy x0 x u.1 u.2) := by
  refine ctI_of (by decide) (Nat.le_of_ble_eq_true rfl) (fun p e s m below meth c A ls Q hx hb hml hts hown hE hP hD hA hl ret => ?_)
  have hM_v : KV [38] v v := fun _ _ => rfl
  have hA_f : KF [20] f f := fun _ _ => rfl
  have hown : s.vm.findClass RX0 = some m.cls := hown
  have hS : va_S A s.heap s.heap [] := va_S.rf
  have hl : lv_has ls 4 [(0, .ref (x 31)), (1, .int 3), (2, .int p2)] := hl
  refine lv_iload_n hx hb dX0_painted_0 rfl (lv_at hl 1 rfl) ?_
  refine lv_aload_n hx hb dX0_painted_1 rfl (lv_at hl 0 rfl) ?_
  refine va_get (D := (dC, dI)) (ci := 0) (v := .ref (x 26)) (C := RX0) (T := TX0) (N := 8) hx hb hts inB_0 hown hE.1 hP 32 rfl rfl 0 (Nat.le_of_ble_eq_true rfl) (hts _ k_430) (fun _ h9 => h9) rfl dX0_painted_2 ?_
  refine va_getN (D := (dC, dI)) (ci := 7) (v := .int (v 31)) (C := RX7) (T := TX7) (N := 10) hx hb hts inB_7 hown hE.1 hP 27 rfl rfl 3 (Nat.le_of_ble_eq_true rfl) (va_Nw.use rfl (hE.2 _ k_216)) (fun _ h9 => h9) rfl dX0_painted_5 ?_
  refine lv_icmp_ge (tgt := 17) hx hb dX0_painted_8 rfl (fun c1 => ?_) (fun c1 => ?_)
  · skip
    refine lv_iconst (v := 1) hx hb dX0_painted_17 rfl ?_
    exact ret 1 (v, f) _ _ _ _ _ _ rfl ⟨hM_v, hA_f, hIv, rfl, rfl, rfl, rfl, rfl, rfl, rfl, rfl, (Or.inl rfl)⟩ hP hD hS dX0_painted_18 (Nat.le_refl _) (Nat.le_refl _)
  · skip
    refine lv_iload_n hx hb dX0_painted_11 rfl (lv_at hl 1 rfl) ?_
    refine lv_bipush (v := 6) hx hb dX0_painted_12 rfl ?_
    refine lv_icmp_lt (tgt := 19) hx hb dX0_painted_14 rfl (fun _ => ?_) (fun c0 => absurd (by decide) c0)
    refine lv_iconst (v := 0) hx hb dX0_painted_19 rfl ?_
    refine lv_istore_n (lv' := [(3, .int 0), (0, .ref (x 31)), (1, .int 3), (2, .int p2)]) hx hb dX0_painted_20 rfl hl (Nat.le_of_ble_eq_true rfl) rfl (fun ls hl => ?_)
    have lp2 : ∀ (n2 : Nat) (l3_2 : Int32) (v2 : Nat → Int32) (f2 : Nat → Nat → Int32), XI v2 → v2 0 = (v 0) → v2 1 = (v 1) → v2 7 = (v 7) → v2 8 = (v 8) → v2 9 = (v 9) → v2 10 = (v 10) → v2 31 = (v 31) → v2 32 = (v 32) → ((0 : Int) ≤ l3_2.toInt ∧ l3_2.toInt ≤ 2147483647) → KV [38] v2 v → KF [20] f2 f → (2147483647 - l3_2.toInt).toNat < n2 → ∀ (H : Heap) (locs : List Loc) (ls : Array Slot), va_P (dC, dI) vwCl (XW cy x0 x v2 f2) H → va_D A (XW cy x0 x v2 f2) → va_S A s.heap H locs → lv_has ls 4 [(3, .int l3_2), (0, .ref (x 31)), (1, .int 3), (2, .int p2)] → W p l e { frames := 6, cells := 0, slots := 0, locals := 174 } s m ([.ref (x 31), .int 3, .int p2] : List Value).toArray below meth c H locs 0 0 Q (F0 m 21 ls []) := by
      intro n2
      induction n2 with
      | zero => intro l3_2 v2 f2 hIv2 hq0_v2 hq1_v2 hq7_v2 hq8_v2 hq9_v2 hq10_v2 hq31_v2 hq32_v2 hr3_2 hM_v2 hA_f2 hm; exact absurd hm (Nat.not_lt_zero _)
      | succ n2 ih2 =>
        intro l3_2 v2 f2 hIv2 hq0_v2 hq1_v2 hq7_v2 hq8_v2 hq9_v2 hq10_v2 hq31_v2 hq32_v2 hr3_2 hM_v2 hA_f2 hm2 H locs ls hP hD hS hl
        refine lv_iload_n hx hb dX0_painted_21 rfl (lv_at hl 0 rfl) ?_
        refine lv_iload_n hx hb dX0_painted_22 rfl (lv_at hl 3 rfl) ?_
        refine lv_icmp_ge (tgt := 64) hx hb dX0_painted_23 rfl (fun c3 => ?_) (fun c3 => ?_)
        · skip
          refine lv_iconst (v := 0) hx hb dX0_painted_64 rfl ?_
          exact ret 0 (v2, f2) _ _ _ _ _ _ rfl ⟨hM_v2, hA_f2, hIv2, (show v2 0 = v 0 from hq0_v2), (show v2 1 = v 1 from hq1_v2), (show v2 7 = v 7 from hq7_v2), (show v2 8 = v 8 from hq8_v2), (show v2 9 = v 9 from hq9_v2), (show v2 10 = v 10 from hq10_v2), (show v2 31 = v 31 from hq31_v2), (show v2 32 = v 32 from hq32_v2), (Or.inr rfl)⟩ hP hD hS dX0_painted_65 (Nat.le_refl _) (Nat.le_refl _)
        · skip
          have zc3 : ¬ (p2.toInt ≤ l3_2.toInt) := zMn rfl rfl c3
          have rg7 := fb_rng p2
          refine lv_aload_n hx hb dX0_painted_26 rfl (lv_at hl 1 rfl) ?_
          refine lv_iload_n hx hb dX0_painted_27 rfl (lv_at hl 2 rfl) ?_
          refine lv_iload_n hx hb dX0_painted_28 rfl (lv_at hl 0 rfl) ?_
          refine cbVi (n := 2) (rest := []) hx hb hml hown hts hE hP hD hS hA (sX_X0_isClear_1 l dC dI cy x0 x 3 l3_2 v2 f2 hIv2 ) k_1123 k_1125 k_34 k_111 k_1126 hd_yX0_isClear ⟨Nat.le_of_ble_eq_true rfl, Nat.le_of_ble_eq_true rfl⟩ 32 0 rfl rfl (rfl) hl.1 rfl (Nat.le_of_ble_eq_true rfl) dX0_painted_29 (fun r8 u H locs hw hP hD hS => ?_)
          rcases hw with ⟨g9⟩ | ⟨g9⟩
          · skip
            subst g9
            refine lv_if_eq (tgt := 58) hx hb dX0_painted_32 rfl (fun c0 => absurd c0 (by decide)) (fun _ => ?_)
            refine lv_aload_n hx hb dX0_painted_35 rfl (lv_at hl 1 rfl) ?_
            refine lv_iload_n hx hb dX0_painted_36 rfl (lv_at hl 2 rfl) ?_
            refine va_put (D := (dC, dI)) (ci := 0) (v := .int 3) (ty := tyX0 3) (C := RX0) (T := TX0) (N := 8) hx hb hts inB_0 tyX0 tyX0_ok nmX0 hown hE.1 hP hD hS 32 rfl rfl 3 (Nat.le_of_ble_eq_true rfl) (hts _ k_433) (fun _ h9 => h9) rfl (tyX0_ok 3 (Nat.le_of_ble_eq_true rfl)) rfl rfl (Nat.le_of_ble_eq_true rfl) dX0_painted_37 (fun H locs hP hD hS => ?_)
            have hP : va_P (dC, dI) vwCl (XW cy x0 x (upd v2 38 3) f2) H := hP
            have hD : va_D A (XW cy x0 x (upd v2 38 3) f2) := hD
            refine lv_aload_n hx hb dX0_painted_40 rfl (lv_at hl 1 rfl) ?_
            refine lv_iload_n hx hb dX0_painted_41 rfl (lv_at hl 0 rfl) ?_
            refine cbVv (n := 1) (rest := []) hx hb hml hown hts hE hP hD hS hA (sX_X0_lay_1 l dC dI cy x0 x l3_2 (upd v2 38 3) f2 (Xu_38 (x := 3) hIv2 (by decide) (by decide)) ) k_995 k_997 k_26 k_111 k_998 hd_yX0_lay ⟨Nat.le_of_ble_eq_true rfl, Nat.le_of_ble_eq_true rfl⟩ 32 0 rfl rfl (rfl) hl.1 rfl (Nat.le_of_ble_eq_true rfl) dX0_painted_42 (fun u H locs hw hP hD hS => ?_)
            obtain ⟨v10, f11⟩ := u
            obtain ⟨kV_v10, kF_f11, hIv10, hk0_v10, hk1_v10, hk7_v10, hk8_v10, hk9_v10, hk10_v10, hk31_v10, hk32_v10⟩ := hw
            have hM_v10 : KV [38] v10 v := KV.tr kV_v10 (KV.up (j := 38) (x := 3) hM_v2 rfl) rfl
            have hA_f11 : KF [20] f11 f := KF.tr kF_f11 hA_f2 rfl
            have hP : va_P (dC, dI) vwCl (XW cy x0 x v10 f11) H := hP
            have hD : va_D A (XW cy x0 x v10 f11) := hD
            have hq0_v10 : v10 0 = (v 0) := hk0_v10.trans hq0_v2
            have hq1_v10 : v10 1 = (v 1) := hk1_v10.trans hq1_v2
            have hq7_v10 : v10 7 = (v 7) := hk7_v10.trans hq7_v2
            have hq8_v10 : v10 8 = (v 8) := hk8_v10.trans hq8_v2
            have hq9_v10 : v10 9 = (v 9) := hk9_v10.trans hq9_v2
            have hq10_v10 : v10 10 = (v 10) := hk10_v10.trans hq10_v2
            have hq31_v10 : v10 31 = (v 31) := hk31_v10.trans hq31_v2
            have hq32_v10 : v10 32 = (v 32) := hk32_v10.trans hq32_v2
            refine lv_aload_n hx hb dX0_painted_45 rfl (lv_at hl 1 rfl) ?_
            refine lv_iload_n hx hb dX0_painted_46 rfl (lv_at hl 2 rfl) ?_
            refine lv_iconst (v := 1) hx hb dX0_painted_47 rfl ?_
            refine lv_iadd hx hb dX0_painted_48 ?_
            refine tI (y := 4) (by decide) ?_
            refine lv_iload_n hx hb dX0_painted_49 rfl (lv_at hl 3 rfl) ?_
            refine cbVi (n := 2) (rest := []) hx hb hml hown hts hE hP hD hS hA (sX_X0_painted_5 l dC dI cy x0 x p2 v10 f11 hIv10 ) k_1119 k_1121 k_33 k_111 k_1122 hd_yX0_painted ⟨Nat.le_of_ble_eq_true rfl, Nat.le_of_ble_eq_true rfl⟩ 32 0 rfl rfl (rfl) hl.1 rfl (Nat.le_of_ble_eq_true rfl) dX0_painted_50 (fun r12 u H locs hw hP hD hS => ?_)
            obtain ⟨v13, f14⟩ := u
            obtain ⟨kV_v13, kF_f14, hIv13, hk0_v13, hk1_v13, hk7_v13, hk8_v13, hk9_v13, hk10_v13, hk31_v13, hk32_v13, hw⟩ := hw
            have hM_v13 : KV [38] v13 v := KV.tr kV_v13 hM_v10 rfl
            have hA_f14 : KF [20] f14 f := KF.tr kF_f14 hA_f11 rfl
            have hP : va_P (dC, dI) vwCl (XW cy x0 x v13 f14) H := hP
            have hD : va_D A (XW cy x0 x v13 f14) := hD
            have hq0_v13 : v13 0 = (v 0) := hk0_v13.trans hq0_v10
            have hq1_v13 : v13 1 = (v 1) := hk1_v13.trans hq1_v10
            have hq7_v13 : v13 7 = (v 7) := hk7_v13.trans hq7_v10
            have hq8_v13 : v13 8 = (v 8) := hk8_v13.trans hq8_v10
            have hq9_v13 : v13 9 = (v 9) := hk9_v13.trans hq9_v10
            have hq10_v13 : v13 10 = (v 10) := hk10_v13.trans hq10_v10
            have hq31_v13 : v13 31 = (v 31) := hk31_v13.trans hq31_v10
            have hq32_v13 : v13 32 = (v 32) := hk32_v13.trans hq32_v10
            rcases hw with ⟨g15⟩ | ⟨g15⟩
            · skip
              subst g15
              refine lv_if_eq (tgt := 58) hx hb dX0_painted_53 rfl (fun c0 => absurd c0 (by decide)) (fun _ => ?_)
              refine lv_iconst (v := 1) hx hb dX0_painted_56 rfl ?_
              exact ret 1 (v13, f14) _ _ _ _ _ _ rfl ⟨hM_v13, hA_f14, hIv13, (hk0_v13.trans (hk0_v10.trans (show v2 0 = v 0 from hq0_v2))), (hk1_v13.trans (hk1_v10.trans (show v2 1 = v 1 from hq1_v2))), (hk7_v13.trans (hk7_v10.trans (show v2 7 = v 7 from hq7_v2))), (hk8_v13.trans (hk8_v10.trans (show v2 8 = v 8 from hq8_v2))), (hk9_v13.trans (hk9_v10.trans (show v2 9 = v 9 from hq9_v2))), (hk10_v13.trans (hk10_v10.trans (show v2 10 = v 10 from hq10_v2))), (hk31_v13.trans (hk31_v10.trans (show v2 31 = v 31 from hq31_v2))), (hk32_v13.trans (hk32_v10.trans (show v2 32 = v 32 from hq32_v2))), (Or.inl rfl)⟩ hP hD hS dX0_painted_57 (Nat.le_refl _) (Nat.le_refl _)
            · skip
              subst g15
              refine lv_if_eq (tgt := 58) hx hb dX0_painted_53 rfl (fun _ => ?_) (fun c0 => absurd (by decide) c0)
              obtain ⟨t16, et16⟩ : ∃ y : Int32, y = l3_2 + 1 := ⟨_, rfl⟩
              have zt16 : t16.toInt = l3_2.toInt + 1 := (congrArg Int32.toInt et16).trans (add_i rfl tc_1 (om_41 hr3_2) (om_196 zc3 rg7))
              refine lv_iinc (v := t16) (lv' := [(3, .int t16), (0, .ref (x 31)), (1, .int 3), (2, .int p2)]) hx hb dX0_painted_58 hl (k := 0) rfl et16.symm (Nat.le_of_ble_eq_true rfl) rfl (fun ls hl => ?_)
              refine lv_goto (tgt := 21) hx hb dX0_painted_61 rfl ?_
              have rg17 := fb_rng t16
              exact ih2 t16 v13 f14 hIv13 hq0_v13 hq1_v13 hq7_v13 hq8_v13 hq9_v13 hq10_v13 hq31_v13 hq32_v13 ⟨show (0 : Int) ≤ t16.toInt from om_43 hr3_2 zt16, show t16.toInt ≤ (2147483647 : Int) from om_44 rg17⟩ hM_v13 hA_f14 (show (2147483647 - t16.toInt).toNat < n2 from om_33 hm2 zt16 rg17) _ _ _ hP hD hS (lv_sub hl [0, 1, 2, 3] rfl)
          · skip
            subst g9
            refine lv_if_eq (tgt := 58) hx hb dX0_painted_32 rfl (fun _ => ?_) (fun c0 => absurd (by decide) c0)
            obtain ⟨t18, et18⟩ : ∃ y : Int32, y = l3_2 + 1 := ⟨_, rfl⟩
            have zt18 : t18.toInt = l3_2.toInt + 1 := (congrArg Int32.toInt et18).trans (add_i rfl tc_1 (om_41 hr3_2) (om_196 zc3 rg7))
            refine lv_iinc (v := t18) (lv' := [(3, .int t18), (0, .ref (x 31)), (1, .int 3), (2, .int p2)]) hx hb dX0_painted_58 hl (k := 0) rfl et18.symm (Nat.le_of_ble_eq_true rfl) rfl (fun ls hl => ?_)
            refine lv_goto (tgt := 21) hx hb dX0_painted_61 rfl ?_
            have rg19 := fb_rng t18
            exact ih2 t18 v2 f2 hIv2 hq0_v2 hq1_v2 hq7_v2 hq8_v2 hq9_v2 hq10_v2 hq31_v2 hq32_v2 ⟨show (0 : Int) ≤ t18.toInt from om_43 hr3_2 zt18, show t18.toInt ≤ (2147483647 : Int) from om_44 rg19⟩ hM_v2 hA_f2 (show (2147483647 - t18.toInt).toNat < n2 from om_33 hm2 zt18 rg19) _ _ _ hP hD hS (lv_sub hl [0, 1, 2, 3] rfl)
    exact lp2 _ 0 v f hIv rfl rfl rfl rfl rfl rfl rfl rfl ⟨by decide, by decide⟩ hM_v hA_f (Nat.lt_succ_self _) _ _ _ hP hD hS (lv_sub hl [0, 1, 2, 3] rfl)
set_option maxHeartbeats 4000000 in
set_option maxRecDepth 100000 in
theorem sX_X0_painted_3 (l : Launch) (dC : Nat → ClassId) (dI : Nat → Nat → Nat) (cy : Nat → ClassId) (x0 : Nat) (x : Nat → Nat) (p2 : Int32) (v : Nat → Int32) (f : Nat → Nat → Int32) (hIv : XI v)  : ctI l (dC, dI) cy yX0_painted cX0_painted 4 .boolean 7 197 0 0 ((Nat → Int32) × (Nat → Nat → Int32)) [.ref (x 31), .int 2, .int p2] (XW cy x0 x v f) (fun r u => KV [38] u.1 v ∧ KF [20] u.2 f ∧ XI u.1 ∧ u.1 0 = v 0 ∧ u.1 1 = v 1 ∧ u.1 7 = v 7 ∧ u.1 8 = v 8 ∧ u.1 9 = v 9 ∧ u.1 10 = v 10 ∧ u.1 31 = v 31 ∧ u.1 32 = v 32 ∧ ((r = 1) ∨ (r = 0))) (fun u => XW cy x0 x u.1 u.2) := by
  refine ctI_of (by decide) (Nat.le_of_ble_eq_true rfl) (fun p e s m below meth c A ls Q hx hb hml hts hown hE hP hD hA hl ret => ?_)
  have hM_v : KV [38] v v := fun _ _ => rfl
  have hA_f : KF [20] f f := fun _ _ => rfl
  have hown : s.vm.findClass RX0 = some m.cls := hown
  have hS : va_S A s.heap s.heap [] := va_S.rf
  have hl : lv_has ls 4 [(0, .ref (x 31)), (1, .int 2), (2, .int p2)] := hl
  refine lv_iload_n hx hb dX0_painted_0 rfl (lv_at hl 1 rfl) ?_
  refine lv_aload_n hx hb dX0_painted_1 rfl (lv_at hl 0 rfl) ?_
  refine va_get (D := (dC, dI)) (ci := 0) (v := .ref (x 26)) (C := RX0) (T := TX0) (N := 8) hx hb hts inB_0 hown hE.1 hP 32 rfl rfl 0 (Nat.le_of_ble_eq_true rfl) (hts _ k_430) (fun _ h9 => h9) rfl dX0_painted_2 ?_
  refine va_getN (D := (dC, dI)) (ci := 7) (v := .int (v 31)) (C := RX7) (T := TX7) (N := 10) hx hb hts inB_7 hown hE.1 hP 27 rfl rfl 3 (Nat.le_of_ble_eq_true rfl) (va_Nw.use rfl (hE.2 _ k_216)) (fun _ h9 => h9) rfl dX0_painted_5 ?_
  refine lv_icmp_ge (tgt := 17) hx hb dX0_painted_8 rfl (fun c1 => ?_) (fun c1 => ?_)
  · skip
    refine lv_iconst (v := 1) hx hb dX0_painted_17 rfl ?_
    exact ret 1 (v, f) _ _ _ _ _ _ rfl ⟨hM_v, hA_f, hIv, rfl, rfl, rfl, rfl, rfl, rfl, rfl, rfl, (Or.inl rfl)⟩ hP hD hS dX0_painted_18 (Nat.le_refl _) (Nat.le_refl _)
  · skip
    refine lv_iload_n hx hb dX0_painted_11 rfl (lv_at hl 1 rfl) ?_
    refine lv_bipush (v := 6) hx hb dX0_painted_12 rfl ?_
    refine lv_icmp_lt (tgt := 19) hx hb dX0_painted_14 rfl (fun _ => ?_) (fun c0 => absurd (by decide) c0)
    refine lv_iconst (v := 0) hx hb dX0_painted_19 rfl ?_
    refine lv_istore_n (lv' := [(3, .int 0), (0, .ref (x 31)), (1, .int 2), (2, .int p2)]) hx hb dX0_painted_20 rfl hl (Nat.le_of_ble_eq_true rfl) rfl (fun ls hl => ?_)
    have lp2 : ∀ (n2 : Nat) (l3_2 : Int32) (v2 : Nat → Int32) (f2 : Nat → Nat → Int32), XI v2 → v2 0 = (v 0) → v2 1 = (v 1) → v2 7 = (v 7) → v2 8 = (v 8) → v2 9 = (v 9) → v2 10 = (v 10) → v2 31 = (v 31) → v2 32 = (v 32) → ((0 : Int) ≤ l3_2.toInt ∧ l3_2.toInt ≤ 2147483647) → KV [38] v2 v → KF [20] f2 f → (2147483647 - l3_2.toInt).toNat < n2 → ∀ (H : Heap) (locs : List Loc) (ls : Array Slot), va_P (dC, dI) vwCl (XW cy x0 x v2 f2) H → va_D A (XW cy x0 x v2 f2) → va_S A s.heap H locs → lv_has ls 4 [(3, .int l3_2), (0, .ref (x 31)), (1, .int 2), (2, .int p2)] → W p l e { frames := 7, cells := 0, slots := 0, locals := 197 } s m ([.ref (x 31), .int 2, .int p2] : List Value).toArray below meth c H locs 0 0 Q (F0 m 21 ls []) := by
      intro n2
      induction n2 with
      | zero => intro l3_2 v2 f2 hIv2 hq0_v2 hq1_v2 hq7_v2 hq8_v2 hq9_v2 hq10_v2 hq31_v2 hq32_v2 hr3_2 hM_v2 hA_f2 hm; exact absurd hm (Nat.not_lt_zero _)
      | succ n2 ih2 =>
        intro l3_2 v2 f2 hIv2 hq0_v2 hq1_v2 hq7_v2 hq8_v2 hq9_v2 hq10_v2 hq31_v2 hq32_v2 hr3_2 hM_v2 hA_f2 hm2 H locs ls hP hD hS hl
        refine lv_iload_n hx hb dX0_painted_21 rfl (lv_at hl 0 rfl) ?_
        refine lv_iload_n hx hb dX0_painted_22 rfl (lv_at hl 3 rfl) ?_
        refine lv_icmp_ge (tgt := 64) hx hb dX0_painted_23 rfl (fun c3 => ?_) (fun c3 => ?_)
        · skip
          refine lv_iconst (v := 0) hx hb dX0_painted_64 rfl ?_
          exact ret 0 (v2, f2) _ _ _ _ _ _ rfl ⟨hM_v2, hA_f2, hIv2, (show v2 0 = v 0 from hq0_v2), (show v2 1 = v 1 from hq1_v2), (show v2 7 = v 7 from hq7_v2), (show v2 8 = v 8 from hq8_v2), (show v2 9 = v 9 from hq9_v2), (show v2 10 = v 10 from hq10_v2), (show v2 31 = v 31 from hq31_v2), (show v2 32 = v 32 from hq32_v2), (Or.inr rfl)⟩ hP hD hS dX0_painted_65 (Nat.le_refl _) (Nat.le_refl _)
        · skip
          have zc3 : ¬ (p2.toInt ≤ l3_2.toInt) := zMn rfl rfl c3
          have rg7 := fb_rng p2
          refine lv_aload_n hx hb dX0_painted_26 rfl (lv_at hl 1 rfl) ?_
          refine lv_iload_n hx hb dX0_painted_27 rfl (lv_at hl 2 rfl) ?_
          refine lv_iload_n hx hb dX0_painted_28 rfl (lv_at hl 0 rfl) ?_
          refine cbVi (n := 2) (rest := []) hx hb hml hown hts hE hP hD hS hA (sX_X0_isClear_1 l dC dI cy x0 x 2 l3_2 v2 f2 hIv2 ) k_1123 k_1125 k_34 k_111 k_1126 hd_yX0_isClear ⟨Nat.le_of_ble_eq_true rfl, Nat.le_of_ble_eq_true rfl⟩ 32 0 rfl rfl (rfl) hl.1 rfl (Nat.le_of_ble_eq_true rfl) dX0_painted_29 (fun r8 u H locs hw hP hD hS => ?_)
          rcases hw with ⟨g9⟩ | ⟨g9⟩
          · skip
            subst g9
            refine lv_if_eq (tgt := 58) hx hb dX0_painted_32 rfl (fun c0 => absurd c0 (by decide)) (fun _ => ?_)
            refine lv_aload_n hx hb dX0_painted_35 rfl (lv_at hl 1 rfl) ?_
            refine lv_iload_n hx hb dX0_painted_36 rfl (lv_at hl 2 rfl) ?_
            refine va_put (D := (dC, dI)) (ci := 0) (v := .int 2) (ty := tyX0 3) (C := RX0) (T := TX0) (N := 8) hx hb hts inB_0 tyX0 tyX0_ok nmX0 hown hE.1 hP hD hS 32 rfl rfl 3 (Nat.le_of_ble_eq_true rfl) (hts _ k_433) (fun _ h9 => h9) rfl (tyX0_ok 3 (Nat.le_of_ble_eq_true rfl)) rfl rfl (Nat.le_of_ble_eq_true rfl) dX0_painted_37 (fun H locs hP hD hS => ?_)
            have hP : va_P (dC, dI) vwCl (XW cy x0 x (upd v2 38 2) f2) H := hP
            have hD : va_D A (XW cy x0 x (upd v2 38 2) f2) := hD
            refine lv_aload_n hx hb dX0_painted_40 rfl (lv_at hl 1 rfl) ?_
            refine lv_iload_n hx hb dX0_painted_41 rfl (lv_at hl 0 rfl) ?_
            refine cbVv (n := 1) (rest := []) hx hb hml hown hts hE hP hD hS hA (sX_X0_lay_1 l dC dI cy x0 x l3_2 (upd v2 38 2) f2 (Xu_38 (x := 2) hIv2 (by decide) (by decide)) ) k_995 k_997 k_26 k_111 k_998 hd_yX0_lay ⟨Nat.le_of_ble_eq_true rfl, Nat.le_of_ble_eq_true rfl⟩ 32 0 rfl rfl (rfl) hl.1 rfl (Nat.le_of_ble_eq_true rfl) dX0_painted_42 (fun u H locs hw hP hD hS => ?_)
            obtain ⟨v10, f11⟩ := u
            obtain ⟨kV_v10, kF_f11, hIv10, hk0_v10, hk1_v10, hk7_v10, hk8_v10, hk9_v10, hk10_v10, hk31_v10, hk32_v10⟩ := hw
            have hM_v10 : KV [38] v10 v := KV.tr kV_v10 (KV.up (j := 38) (x := 2) hM_v2 rfl) rfl
            have hA_f11 : KF [20] f11 f := KF.tr kF_f11 hA_f2 rfl
            have hP : va_P (dC, dI) vwCl (XW cy x0 x v10 f11) H := hP
            have hD : va_D A (XW cy x0 x v10 f11) := hD
            have hq0_v10 : v10 0 = (v 0) := hk0_v10.trans hq0_v2
            have hq1_v10 : v10 1 = (v 1) := hk1_v10.trans hq1_v2
            have hq7_v10 : v10 7 = (v 7) := hk7_v10.trans hq7_v2
            have hq8_v10 : v10 8 = (v 8) := hk8_v10.trans hq8_v2
            have hq9_v10 : v10 9 = (v 9) := hk9_v10.trans hq9_v2
            have hq10_v10 : v10 10 = (v 10) := hk10_v10.trans hq10_v2
            have hq31_v10 : v10 31 = (v 31) := hk31_v10.trans hq31_v2
            have hq32_v10 : v10 32 = (v 32) := hk32_v10.trans hq32_v2
            refine lv_aload_n hx hb dX0_painted_45 rfl (lv_at hl 1 rfl) ?_
            refine lv_iload_n hx hb dX0_painted_46 rfl (lv_at hl 2 rfl) ?_
            refine lv_iconst (v := 1) hx hb dX0_painted_47 rfl ?_
            refine lv_iadd hx hb dX0_painted_48 ?_
            refine tI (y := 3) (by decide) ?_
            refine lv_iload_n hx hb dX0_painted_49 rfl (lv_at hl 3 rfl) ?_
            refine cbVi (n := 2) (rest := []) hx hb hml hown hts hE hP hD hS hA (sX_X0_painted_4 l dC dI cy x0 x p2 v10 f11 hIv10 ) k_1119 k_1121 k_33 k_111 k_1122 hd_yX0_painted ⟨Nat.le_of_ble_eq_true rfl, Nat.le_of_ble_eq_true rfl⟩ 32 0 rfl rfl (rfl) hl.1 rfl (Nat.le_of_ble_eq_true rfl) dX0_painted_50 (fun r12 u H locs hw hP hD hS => ?_)
            obtain ⟨v13, f14⟩ := u
            obtain ⟨kV_v13, kF_f14, hIv13, hk0_v13, hk1_v13, hk7_v13, hk8_v13, hk9_v13, hk10_v13, hk31_v13, hk32_v13, hw⟩ := hw
            have hM_v13 : KV [38] v13 v := KV.tr kV_v13 hM_v10 rfl
            have hA_f14 : KF [20] f14 f := KF.tr kF_f14 hA_f11 rfl
            have hP : va_P (dC, dI) vwCl (XW cy x0 x v13 f14) H := hP
            have hD : va_D A (XW cy x0 x v13 f14) := hD
            have hq0_v13 : v13 0 = (v 0) := hk0_v13.trans hq0_v10
            have hq1_v13 : v13 1 = (v 1) := hk1_v13.trans hq1_v10
            have hq7_v13 : v13 7 = (v 7) := hk7_v13.trans hq7_v10
            have hq8_v13 : v13 8 = (v 8) := hk8_v13.trans hq8_v10
            have hq9_v13 : v13 9 = (v 9) := hk9_v13.trans hq9_v10
            have hq10_v13 : v13 10 = (v 10) := hk10_v13.trans hq10_v10
            have hq31_v13 : v13 31 = (v 31) := hk31_v13.trans hq31_v10
            have hq32_v13 : v13 32 = (v 32) := hk32_v13.trans hq32_v10
            rcases hw with ⟨g15⟩ | ⟨g15⟩
            · skip
              subst g15
              refine lv_if_eq (tgt := 58) hx hb dX0_painted_53 rfl (fun c0 => absurd c0 (by decide)) (fun _ => ?_)
              refine lv_iconst (v := 1) hx hb dX0_painted_56 rfl ?_
              exact ret 1 (v13, f14) _ _ _ _ _ _ rfl ⟨hM_v13, hA_f14, hIv13, (hk0_v13.trans (hk0_v10.trans (show v2 0 = v 0 from hq0_v2))), (hk1_v13.trans (hk1_v10.trans (show v2 1 = v 1 from hq1_v2))), (hk7_v13.trans (hk7_v10.trans (show v2 7 = v 7 from hq7_v2))), (hk8_v13.trans (hk8_v10.trans (show v2 8 = v 8 from hq8_v2))), (hk9_v13.trans (hk9_v10.trans (show v2 9 = v 9 from hq9_v2))), (hk10_v13.trans (hk10_v10.trans (show v2 10 = v 10 from hq10_v2))), (hk31_v13.trans (hk31_v10.trans (show v2 31 = v 31 from hq31_v2))), (hk32_v13.trans (hk32_v10.trans (show v2 32 = v 32 from hq32_v2))), (Or.inl rfl)⟩ hP hD hS dX0_painted_57 (Nat.le_refl _) (Nat.le_refl _)
            · skip
              subst g15
              refine lv_if_eq (tgt := 58) hx hb dX0_painted_53 rfl (fun _ => ?_) (fun c0 => absurd (by decide) c0)
              obtain ⟨t16, et16⟩ : ∃ y : Int32, y = l3_2 + 1 := ⟨_, rfl⟩
              have zt16 : t16.toInt = l3_2.toInt + 1 := (congrArg Int32.toInt et16).trans (add_i rfl tc_1 (om_41 hr3_2) (om_196 zc3 rg7))
              refine lv_iinc (v := t16) (lv' := [(3, .int t16), (0, .ref (x 31)), (1, .int 2), (2, .int p2)]) hx hb dX0_painted_58 hl (k := 0) rfl et16.symm (Nat.le_of_ble_eq_true rfl) rfl (fun ls hl => ?_)
              refine lv_goto (tgt := 21) hx hb dX0_painted_61 rfl ?_
              have rg17 := fb_rng t16
              exact ih2 t16 v13 f14 hIv13 hq0_v13 hq1_v13 hq7_v13 hq8_v13 hq9_v13 hq10_v13 hq31_v13 hq32_v13 ⟨show (0 : Int) ≤ t16.toInt from om_43 hr3_2 zt16, show t16.toInt ≤ (2147483647 : Int) from om_44 rg17⟩ hM_v13 hA_f14 (show (2147483647 - t16.toInt).toNat < n2 from om_33 hm2 zt16 rg17) _ _ _ hP hD hS (lv_sub hl [0, 1, 2, 3] rfl)
          · skip
            subst g9
            refine lv_if_eq (tgt := 58) hx hb dX0_painted_32 rfl (fun _ => ?_) (fun c0 => absurd (by decide) c0)
            obtain ⟨t18, et18⟩ : ∃ y : Int32, y = l3_2 + 1 := ⟨_, rfl⟩
            have zt18 : t18.toInt = l3_2.toInt + 1 := (congrArg Int32.toInt et18).trans (add_i rfl tc_1 (om_41 hr3_2) (om_196 zc3 rg7))
            refine lv_iinc (v := t18) (lv' := [(3, .int t18), (0, .ref (x 31)), (1, .int 2), (2, .int p2)]) hx hb dX0_painted_58 hl (k := 0) rfl et18.symm (Nat.le_of_ble_eq_true rfl) rfl (fun ls hl => ?_)
            refine lv_goto (tgt := 21) hx hb dX0_painted_61 rfl ?_
            have rg19 := fb_rng t18
            exact ih2 t18 v2 f2 hIv2 hq0_v2 hq1_v2 hq7_v2 hq8_v2 hq9_v2 hq10_v2 hq31_v2 hq32_v2 ⟨show (0 : Int) ≤ t18.toInt from om_43 hr3_2 zt18, show t18.toInt ≤ (2147483647 : Int) from om_44 rg19⟩ hM_v2 hA_f2 (show (2147483647 - t18.toInt).toNat < n2 from om_33 hm2 zt18 rg19) _ _ _ hP hD hS (lv_sub hl [0, 1, 2, 3] rfl)
    exact lp2 _ 0 v f hIv rfl rfl rfl rfl rfl rfl rfl rfl ⟨by decide, by decide⟩ hM_v hA_f (Nat.lt_succ_self _) _ _ _ hP hD hS (lv_sub hl [0, 1, 2, 3] rfl)
set_option maxHeartbeats 4000000 in
set_option maxRecDepth 100000 in
theorem sX_X0_painted_2 (l : Launch) (dC : Nat → ClassId) (dI : Nat → Nat → Nat) (cy : Nat → ClassId) (x0 : Nat) (x : Nat → Nat) (p2 : Int32) (v : Nat → Int32) (f : Nat → Nat → Int32) (hIv : XI v)  : ctI l (dC, dI) cy yX0_painted cX0_painted 4 .boolean 8 220 0 0 ((Nat → Int32) × (Nat → Nat → Int32)) [.ref (x 31), .int 1, .int p2] (XW cy x0 x v f) (fun r u => KV [38] u.1 v ∧ KF [20] u.2 f ∧ XI u.1 ∧ u.1 0 = v 0 ∧ u.1 1 = v 1 ∧ u.1 7 = v 7 ∧ u.1 8 = v 8 ∧ u.1 9 = v 9 ∧ u.1 10 = v 10 ∧ u.1 31 = v 31 ∧ u.1 32 = v 32 ∧ ((r = 1) ∨ (r = 0))) (fun u => XW cy x0 x u.1 u.2) := by
  refine ctI_of (by decide) (Nat.le_of_ble_eq_true rfl) (fun p e s m below meth c A ls Q hx hb hml hts hown hE hP hD hA hl ret => ?_)
  have hM_v : KV [38] v v := fun _ _ => rfl
  have hA_f : KF [20] f f := fun _ _ => rfl
  have hown : s.vm.findClass RX0 = some m.cls := hown
  have hS : va_S A s.heap s.heap [] := va_S.rf
  have hl : lv_has ls 4 [(0, .ref (x 31)), (1, .int 1), (2, .int p2)] := hl
  refine lv_iload_n hx hb dX0_painted_0 rfl (lv_at hl 1 rfl) ?_
  refine lv_aload_n hx hb dX0_painted_1 rfl (lv_at hl 0 rfl) ?_
  refine va_get (D := (dC, dI)) (ci := 0) (v := .ref (x 26)) (C := RX0) (T := TX0) (N := 8) hx hb hts inB_0 hown hE.1 hP 32 rfl rfl 0 (Nat.le_of_ble_eq_true rfl) (hts _ k_430) (fun _ h9 => h9) rfl dX0_painted_2 ?_
  refine va_getN (D := (dC, dI)) (ci := 7) (v := .int (v 31)) (C := RX7) (T := TX7) (N := 10) hx hb hts inB_7 hown hE.1 hP 27 rfl rfl 3 (Nat.le_of_ble_eq_true rfl) (va_Nw.use rfl (hE.2 _ k_216)) (fun _ h9 => h9) rfl dX0_painted_5 ?_
  refine lv_icmp_ge (tgt := 17) hx hb dX0_painted_8 rfl (fun c1 => ?_) (fun c1 => ?_)
  · skip
    refine lv_iconst (v := 1) hx hb dX0_painted_17 rfl ?_
    exact ret 1 (v, f) _ _ _ _ _ _ rfl ⟨hM_v, hA_f, hIv, rfl, rfl, rfl, rfl, rfl, rfl, rfl, rfl, (Or.inl rfl)⟩ hP hD hS dX0_painted_18 (Nat.le_refl _) (Nat.le_refl _)
  · skip
    refine lv_iload_n hx hb dX0_painted_11 rfl (lv_at hl 1 rfl) ?_
    refine lv_bipush (v := 6) hx hb dX0_painted_12 rfl ?_
    refine lv_icmp_lt (tgt := 19) hx hb dX0_painted_14 rfl (fun _ => ?_) (fun c0 => absurd (by decide) c0)
    refine lv_iconst (v := 0) hx hb dX0_painted_19 rfl ?_
    refine lv_istore_n (lv' := [(3, .int 0), (0, .ref (x 31)), (1, .int 1), (2, .int p2)]) hx hb dX0_painted_20 rfl hl (Nat.le_of_ble_eq_true rfl) rfl (fun ls hl => ?_)
    have lp2 : ∀ (n2 : Nat) (l3_2 : Int32) (v2 : Nat → Int32) (f2 : Nat → Nat → Int32), XI v2 → v2 0 = (v 0) → v2 1 = (v 1) → v2 7 = (v 7) → v2 8 = (v 8) → v2 9 = (v 9) → v2 10 = (v 10) → v2 31 = (v 31) → v2 32 = (v 32) → ((0 : Int) ≤ l3_2.toInt ∧ l3_2.toInt ≤ 2147483647) → KV [38] v2 v → KF [20] f2 f → (2147483647 - l3_2.toInt).toNat < n2 → ∀ (H : Heap) (locs : List Loc) (ls : Array Slot), va_P (dC, dI) vwCl (XW cy x0 x v2 f2) H → va_D A (XW cy x0 x v2 f2) → va_S A s.heap H locs → lv_has ls 4 [(3, .int l3_2), (0, .ref (x 31)), (1, .int 1), (2, .int p2)] → W p l e { frames := 8, cells := 0, slots := 0, locals := 220 } s m ([.ref (x 31), .int 1, .int p2] : List Value).toArray below meth c H locs 0 0 Q (F0 m 21 ls []) := by
      intro n2
      induction n2 with
      | zero => intro l3_2 v2 f2 hIv2 hq0_v2 hq1_v2 hq7_v2 hq8_v2 hq9_v2 hq10_v2 hq31_v2 hq32_v2 hr3_2 hM_v2 hA_f2 hm; exact absurd hm (Nat.not_lt_zero _)
      | succ n2 ih2 =>
        intro l3_2 v2 f2 hIv2 hq0_v2 hq1_v2 hq7_v2 hq8_v2 hq9_v2 hq10_v2 hq31_v2 hq32_v2 hr3_2 hM_v2 hA_f2 hm2 H locs ls hP hD hS hl
        refine lv_iload_n hx hb dX0_painted_21 rfl (lv_at hl 0 rfl) ?_
        refine lv_iload_n hx hb dX0_painted_22 rfl (lv_at hl 3 rfl) ?_
        refine lv_icmp_ge (tgt := 64) hx hb dX0_painted_23 rfl (fun c3 => ?_) (fun c3 => ?_)
        · skip
          refine lv_iconst (v := 0) hx hb dX0_painted_64 rfl ?_
          exact ret 0 (v2, f2) _ _ _ _ _ _ rfl ⟨hM_v2, hA_f2, hIv2, (show v2 0 = v 0 from hq0_v2), (show v2 1 = v 1 from hq1_v2), (show v2 7 = v 7 from hq7_v2), (show v2 8 = v 8 from hq8_v2), (show v2 9 = v 9 from hq9_v2), (show v2 10 = v 10 from hq10_v2), (show v2 31 = v 31 from hq31_v2), (show v2 32 = v 32 from hq32_v2), (Or.inr rfl)⟩ hP hD hS dX0_painted_65 (Nat.le_refl _) (Nat.le_refl _)
        · skip
          have zc3 : ¬ (p2.toInt ≤ l3_2.toInt) := zMn rfl rfl c3
          have rg7 := fb_rng p2
          refine lv_aload_n hx hb dX0_painted_26 rfl (lv_at hl 1 rfl) ?_
          refine lv_iload_n hx hb dX0_painted_27 rfl (lv_at hl 2 rfl) ?_
          refine lv_iload_n hx hb dX0_painted_28 rfl (lv_at hl 0 rfl) ?_
          refine cbVi (n := 2) (rest := []) hx hb hml hown hts hE hP hD hS hA (sX_X0_isClear_1 l dC dI cy x0 x 1 l3_2 v2 f2 hIv2 ) k_1123 k_1125 k_34 k_111 k_1126 hd_yX0_isClear ⟨Nat.le_of_ble_eq_true rfl, Nat.le_of_ble_eq_true rfl⟩ 32 0 rfl rfl (rfl) hl.1 rfl (Nat.le_of_ble_eq_true rfl) dX0_painted_29 (fun r8 u H locs hw hP hD hS => ?_)
          rcases hw with ⟨g9⟩ | ⟨g9⟩
          · skip
            subst g9
            refine lv_if_eq (tgt := 58) hx hb dX0_painted_32 rfl (fun c0 => absurd c0 (by decide)) (fun _ => ?_)
            refine lv_aload_n hx hb dX0_painted_35 rfl (lv_at hl 1 rfl) ?_
            refine lv_iload_n hx hb dX0_painted_36 rfl (lv_at hl 2 rfl) ?_
            refine va_put (D := (dC, dI)) (ci := 0) (v := .int 1) (ty := tyX0 3) (C := RX0) (T := TX0) (N := 8) hx hb hts inB_0 tyX0 tyX0_ok nmX0 hown hE.1 hP hD hS 32 rfl rfl 3 (Nat.le_of_ble_eq_true rfl) (hts _ k_433) (fun _ h9 => h9) rfl (tyX0_ok 3 (Nat.le_of_ble_eq_true rfl)) rfl rfl (Nat.le_of_ble_eq_true rfl) dX0_painted_37 (fun H locs hP hD hS => ?_)
            have hP : va_P (dC, dI) vwCl (XW cy x0 x (upd v2 38 1) f2) H := hP
            have hD : va_D A (XW cy x0 x (upd v2 38 1) f2) := hD
            refine lv_aload_n hx hb dX0_painted_40 rfl (lv_at hl 1 rfl) ?_
            refine lv_iload_n hx hb dX0_painted_41 rfl (lv_at hl 0 rfl) ?_
            refine cbVv (n := 1) (rest := []) hx hb hml hown hts hE hP hD hS hA (sX_X0_lay_1 l dC dI cy x0 x l3_2 (upd v2 38 1) f2 (Xu_38 (x := 1) hIv2 (by decide) (by decide)) ) k_995 k_997 k_26 k_111 k_998 hd_yX0_lay ⟨Nat.le_of_ble_eq_true rfl, Nat.le_of_ble_eq_true rfl⟩ 32 0 rfl rfl (rfl) hl.1 rfl (Nat.le_of_ble_eq_true rfl) dX0_painted_42 (fun u H locs hw hP hD hS => ?_)
            obtain ⟨v10, f11⟩ := u
            obtain ⟨kV_v10, kF_f11, hIv10, hk0_v10, hk1_v10, hk7_v10, hk8_v10, hk9_v10, hk10_v10, hk31_v10, hk32_v10⟩ := hw
            have hM_v10 : KV [38] v10 v := KV.tr kV_v10 (KV.up (j := 38) (x := 1) hM_v2 rfl) rfl
            have hA_f11 : KF [20] f11 f := KF.tr kF_f11 hA_f2 rfl
            have hP : va_P (dC, dI) vwCl (XW cy x0 x v10 f11) H := hP
            have hD : va_D A (XW cy x0 x v10 f11) := hD
            have hq0_v10 : v10 0 = (v 0) := hk0_v10.trans hq0_v2
            have hq1_v10 : v10 1 = (v 1) := hk1_v10.trans hq1_v2
            have hq7_v10 : v10 7 = (v 7) := hk7_v10.trans hq7_v2
            have hq8_v10 : v10 8 = (v 8) := hk8_v10.trans hq8_v2
            have hq9_v10 : v10 9 = (v 9) := hk9_v10.trans hq9_v2
            have hq10_v10 : v10 10 = (v 10) := hk10_v10.trans hq10_v2
            have hq31_v10 : v10 31 = (v 31) := hk31_v10.trans hq31_v2
            have hq32_v10 : v10 32 = (v 32) := hk32_v10.trans hq32_v2
            refine lv_aload_n hx hb dX0_painted_45 rfl (lv_at hl 1 rfl) ?_
            refine lv_iload_n hx hb dX0_painted_46 rfl (lv_at hl 2 rfl) ?_
            refine lv_iconst (v := 1) hx hb dX0_painted_47 rfl ?_
            refine lv_iadd hx hb dX0_painted_48 ?_
            refine tI (y := 2) (by decide) ?_
            refine lv_iload_n hx hb dX0_painted_49 rfl (lv_at hl 3 rfl) ?_
            refine cbVi (n := 2) (rest := []) hx hb hml hown hts hE hP hD hS hA (sX_X0_painted_3 l dC dI cy x0 x p2 v10 f11 hIv10 ) k_1119 k_1121 k_33 k_111 k_1122 hd_yX0_painted ⟨Nat.le_of_ble_eq_true rfl, Nat.le_of_ble_eq_true rfl⟩ 32 0 rfl rfl (rfl) hl.1 rfl (Nat.le_of_ble_eq_true rfl) dX0_painted_50 (fun r12 u H locs hw hP hD hS => ?_)
            obtain ⟨v13, f14⟩ := u
            obtain ⟨kV_v13, kF_f14, hIv13, hk0_v13, hk1_v13, hk7_v13, hk8_v13, hk9_v13, hk10_v13, hk31_v13, hk32_v13, hw⟩ := hw
            have hM_v13 : KV [38] v13 v := KV.tr kV_v13 hM_v10 rfl
            have hA_f14 : KF [20] f14 f := KF.tr kF_f14 hA_f11 rfl
            have hP : va_P (dC, dI) vwCl (XW cy x0 x v13 f14) H := hP
            have hD : va_D A (XW cy x0 x v13 f14) := hD
            have hq0_v13 : v13 0 = (v 0) := hk0_v13.trans hq0_v10
            have hq1_v13 : v13 1 = (v 1) := hk1_v13.trans hq1_v10
            have hq7_v13 : v13 7 = (v 7) := hk7_v13.trans hq7_v10
            have hq8_v13 : v13 8 = (v 8) := hk8_v13.trans hq8_v10
            have hq9_v13 : v13 9 = (v 9) := hk9_v13.trans hq9_v10
            have hq10_v13 : v13 10 = (v 10) := hk10_v13.trans hq10_v10
            have hq31_v13 : v13 31 = (v 31) := hk31_v13.trans hq31_v10
            have hq32_v13 : v13 32 = (v 32) := hk32_v13.trans hq32_v10
            rcases hw with ⟨g15⟩ | ⟨g15⟩
            · skip
              subst g15
              refine lv_if_eq (tgt := 58) hx hb dX0_painted_53 rfl (fun c0 => absurd c0 (by decide)) (fun _ => ?_)
              refine lv_iconst (v := 1) hx hb dX0_painted_56 rfl ?_
              exact ret 1 (v13, f14) _ _ _ _ _ _ rfl ⟨hM_v13, hA_f14, hIv13, (hk0_v13.trans (hk0_v10.trans (show v2 0 = v 0 from hq0_v2))), (hk1_v13.trans (hk1_v10.trans (show v2 1 = v 1 from hq1_v2))), (hk7_v13.trans (hk7_v10.trans (show v2 7 = v 7 from hq7_v2))), (hk8_v13.trans (hk8_v10.trans (show v2 8 = v 8 from hq8_v2))), (hk9_v13.trans (hk9_v10.trans (show v2 9 = v 9 from hq9_v2))), (hk10_v13.trans (hk10_v10.trans (show v2 10 = v 10 from hq10_v2))), (hk31_v13.trans (hk31_v10.trans (show v2 31 = v 31 from hq31_v2))), (hk32_v13.trans (hk32_v10.trans (show v2 32 = v 32 from hq32_v2))), (Or.inl rfl)⟩ hP hD hS dX0_painted_57 (Nat.le_refl _) (Nat.le_refl _)
            · skip
              subst g15
              refine lv_if_eq (tgt := 58) hx hb dX0_painted_53 rfl (fun _ => ?_) (fun c0 => absurd (by decide) c0)
              obtain ⟨t16, et16⟩ : ∃ y : Int32, y = l3_2 + 1 := ⟨_, rfl⟩
              have zt16 : t16.toInt = l3_2.toInt + 1 := (congrArg Int32.toInt et16).trans (add_i rfl tc_1 (om_41 hr3_2) (om_196 zc3 rg7))
              refine lv_iinc (v := t16) (lv' := [(3, .int t16), (0, .ref (x 31)), (1, .int 1), (2, .int p2)]) hx hb dX0_painted_58 hl (k := 0) rfl et16.symm (Nat.le_of_ble_eq_true rfl) rfl (fun ls hl => ?_)
              refine lv_goto (tgt := 21) hx hb dX0_painted_61 rfl ?_
              have rg17 := fb_rng t16
              exact ih2 t16 v13 f14 hIv13 hq0_v13 hq1_v13 hq7_v13 hq8_v13 hq9_v13 hq10_v13 hq31_v13 hq32_v13 ⟨show (0 : Int) ≤ t16.toInt from om_43 hr3_2 zt16, show t16.toInt ≤ (2147483647 : Int) from om_44 rg17⟩ hM_v13 hA_f14 (show (2147483647 - t16.toInt).toNat < n2 from om_33 hm2 zt16 rg17) _ _ _ hP hD hS (lv_sub hl [0, 1, 2, 3] rfl)
          · skip
            subst g9
            refine lv_if_eq (tgt := 58) hx hb dX0_painted_32 rfl (fun _ => ?_) (fun c0 => absurd (by decide) c0)
            obtain ⟨t18, et18⟩ : ∃ y : Int32, y = l3_2 + 1 := ⟨_, rfl⟩
            have zt18 : t18.toInt = l3_2.toInt + 1 := (congrArg Int32.toInt et18).trans (add_i rfl tc_1 (om_41 hr3_2) (om_196 zc3 rg7))
            refine lv_iinc (v := t18) (lv' := [(3, .int t18), (0, .ref (x 31)), (1, .int 1), (2, .int p2)]) hx hb dX0_painted_58 hl (k := 0) rfl et18.symm (Nat.le_of_ble_eq_true rfl) rfl (fun ls hl => ?_)
            refine lv_goto (tgt := 21) hx hb dX0_painted_61 rfl ?_
            have rg19 := fb_rng t18
            exact ih2 t18 v2 f2 hIv2 hq0_v2 hq1_v2 hq7_v2 hq8_v2 hq9_v2 hq10_v2 hq31_v2 hq32_v2 ⟨show (0 : Int) ≤ t18.toInt from om_43 hr3_2 zt18, show t18.toInt ≤ (2147483647 : Int) from om_44 rg19⟩ hM_v2 hA_f2 (show (2147483647 - t18.toInt).toNat < n2 from om_33 hm2 zt18 rg19) _ _ _ hP hD hS (lv_sub hl [0, 1, 2, 3] rfl)
    exact lp2 _ 0 v f hIv rfl rfl rfl rfl rfl rfl rfl rfl ⟨by decide, by decide⟩ hM_v hA_f (Nat.lt_succ_self _) _ _ _ hP hD hS (lv_sub hl [0, 1, 2, 3] rfl)
set_option maxHeartbeats 4000000 in
set_option maxRecDepth 100000 in
theorem sX_X0_painted_1 (l : Launch) (dC : Nat → ClassId) (dI : Nat → Nat → Nat) (cy : Nat → ClassId) (x0 : Nat) (x : Nat → Nat) (p2 : Int32) (v : Nat → Int32) (f : Nat → Nat → Int32) (hIv : XI v)  : ctI l (dC, dI) cy yX0_painted cX0_painted 4 .boolean 9 243 0 0 ((Nat → Int32) × (Nat → Nat → Int32)) [.ref (x 31), .int 0, .int p2] (XW cy x0 x v f) (fun r u => KV [38] u.1 v ∧ KF [20] u.2 f ∧ XI u.1 ∧ u.1 0 = v 0 ∧ u.1 1 = v 1 ∧ u.1 7 = v 7 ∧ u.1 8 = v 8 ∧ u.1 9 = v 9 ∧ u.1 10 = v 10 ∧ u.1 31 = v 31 ∧ u.1 32 = v 32 ∧ ((r = 1) ∨ (r = 0))) (fun u => XW cy x0 x u.1 u.2) := by
  refine ctI_of (by decide) (Nat.le_of_ble_eq_true rfl) (fun p e s m below meth c A ls Q hx hb hml hts hown hE hP hD hA hl ret => ?_)
  have hM_v : KV [38] v v := fun _ _ => rfl
  have hA_f : KF [20] f f := fun _ _ => rfl
  have hown : s.vm.findClass RX0 = some m.cls := hown
  have hS : va_S A s.heap s.heap [] := va_S.rf
  have hl : lv_has ls 4 [(0, .ref (x 31)), (1, .int 0), (2, .int p2)] := hl
  refine lv_iload_n hx hb dX0_painted_0 rfl (lv_at hl 1 rfl) ?_
  refine lv_aload_n hx hb dX0_painted_1 rfl (lv_at hl 0 rfl) ?_
  refine va_get (D := (dC, dI)) (ci := 0) (v := .ref (x 26)) (C := RX0) (T := TX0) (N := 8) hx hb hts inB_0 hown hE.1 hP 32 rfl rfl 0 (Nat.le_of_ble_eq_true rfl) (hts _ k_430) (fun _ h9 => h9) rfl dX0_painted_2 ?_
  refine va_getN (D := (dC, dI)) (ci := 7) (v := .int (v 31)) (C := RX7) (T := TX7) (N := 10) hx hb hts inB_7 hown hE.1 hP 27 rfl rfl 3 (Nat.le_of_ble_eq_true rfl) (va_Nw.use rfl (hE.2 _ k_216)) (fun _ h9 => h9) rfl dX0_painted_5 ?_
  refine lv_icmp_ge (tgt := 17) hx hb dX0_painted_8 rfl (fun c1 => ?_) (fun c1 => ?_)
  · skip
    refine lv_iconst (v := 1) hx hb dX0_painted_17 rfl ?_
    exact ret 1 (v, f) _ _ _ _ _ _ rfl ⟨hM_v, hA_f, hIv, rfl, rfl, rfl, rfl, rfl, rfl, rfl, rfl, (Or.inl rfl)⟩ hP hD hS dX0_painted_18 (Nat.le_refl _) (Nat.le_refl _)
  · skip
    refine lv_iload_n hx hb dX0_painted_11 rfl (lv_at hl 1 rfl) ?_
    refine lv_bipush (v := 6) hx hb dX0_painted_12 rfl ?_
    refine lv_icmp_lt (tgt := 19) hx hb dX0_painted_14 rfl (fun _ => ?_) (fun c0 => absurd (by decide) c0)
    refine lv_iconst (v := 0) hx hb dX0_painted_19 rfl ?_
    refine lv_istore_n (lv' := [(3, .int 0), (0, .ref (x 31)), (1, .int 0), (2, .int p2)]) hx hb dX0_painted_20 rfl hl (Nat.le_of_ble_eq_true rfl) rfl (fun ls hl => ?_)
    have lp2 : ∀ (n2 : Nat) (l3_2 : Int32) (v2 : Nat → Int32) (f2 : Nat → Nat → Int32), XI v2 → v2 0 = (v 0) → v2 1 = (v 1) → v2 7 = (v 7) → v2 8 = (v 8) → v2 9 = (v 9) → v2 10 = (v 10) → v2 31 = (v 31) → v2 32 = (v 32) → ((0 : Int) ≤ l3_2.toInt ∧ l3_2.toInt ≤ 2147483647) → KV [38] v2 v → KF [20] f2 f → (2147483647 - l3_2.toInt).toNat < n2 → ∀ (H : Heap) (locs : List Loc) (ls : Array Slot), va_P (dC, dI) vwCl (XW cy x0 x v2 f2) H → va_D A (XW cy x0 x v2 f2) → va_S A s.heap H locs → lv_has ls 4 [(3, .int l3_2), (0, .ref (x 31)), (1, .int 0), (2, .int p2)] → W p l e { frames := 9, cells := 0, slots := 0, locals := 243 } s m ([.ref (x 31), .int 0, .int p2] : List Value).toArray below meth c H locs 0 0 Q (F0 m 21 ls []) := by
      intro n2
      induction n2 with
      | zero => intro l3_2 v2 f2 hIv2 hq0_v2 hq1_v2 hq7_v2 hq8_v2 hq9_v2 hq10_v2 hq31_v2 hq32_v2 hr3_2 hM_v2 hA_f2 hm; exact absurd hm (Nat.not_lt_zero _)
      | succ n2 ih2 =>
        intro l3_2 v2 f2 hIv2 hq0_v2 hq1_v2 hq7_v2 hq8_v2 hq9_v2 hq10_v2 hq31_v2 hq32_v2 hr3_2 hM_v2 hA_f2 hm2 H locs ls hP hD hS hl
        refine lv_iload_n hx hb dX0_painted_21 rfl (lv_at hl 0 rfl) ?_
        refine lv_iload_n hx hb dX0_painted_22 rfl (lv_at hl 3 rfl) ?_
        refine lv_icmp_ge (tgt := 64) hx hb dX0_painted_23 rfl (fun c3 => ?_) (fun c3 => ?_)
        · skip
          refine lv_iconst (v := 0) hx hb dX0_painted_64 rfl ?_
          exact ret 0 (v2, f2) _ _ _ _ _ _ rfl ⟨hM_v2, hA_f2, hIv2, (show v2 0 = v 0 from hq0_v2), (show v2 1 = v 1 from hq1_v2), (show v2 7 = v 7 from hq7_v2), (show v2 8 = v 8 from hq8_v2), (show v2 9 = v 9 from hq9_v2), (show v2 10 = v 10 from hq10_v2), (show v2 31 = v 31 from hq31_v2), (show v2 32 = v 32 from hq32_v2), (Or.inr rfl)⟩ hP hD hS dX0_painted_65 (Nat.le_refl _) (Nat.le_refl _)
        · skip
          have zc3 : ¬ (p2.toInt ≤ l3_2.toInt) := zMn rfl rfl c3
          have rg7 := fb_rng p2
          refine lv_aload_n hx hb dX0_painted_26 rfl (lv_at hl 1 rfl) ?_
          refine lv_iload_n hx hb dX0_painted_27 rfl (lv_at hl 2 rfl) ?_
          refine lv_iload_n hx hb dX0_painted_28 rfl (lv_at hl 0 rfl) ?_
          refine cbVi (n := 2) (rest := []) hx hb hml hown hts hE hP hD hS hA (sX_X0_isClear_1 l dC dI cy x0 x 0 l3_2 v2 f2 hIv2 ) k_1123 k_1125 k_34 k_111 k_1126 hd_yX0_isClear ⟨Nat.le_of_ble_eq_true rfl, Nat.le_of_ble_eq_true rfl⟩ 32 0 rfl rfl (rfl) hl.1 rfl (Nat.le_of_ble_eq_true rfl) dX0_painted_29 (fun r8 u H locs hw hP hD hS => ?_)
          rcases hw with ⟨g9⟩ | ⟨g9⟩
          · skip
            subst g9
            refine lv_if_eq (tgt := 58) hx hb dX0_painted_32 rfl (fun c0 => absurd c0 (by decide)) (fun _ => ?_)
            refine lv_aload_n hx hb dX0_painted_35 rfl (lv_at hl 1 rfl) ?_
            refine lv_iload_n hx hb dX0_painted_36 rfl (lv_at hl 2 rfl) ?_
            refine va_put (D := (dC, dI)) (ci := 0) (v := .int 0) (ty := tyX0 3) (C := RX0) (T := TX0) (N := 8) hx hb hts inB_0 tyX0 tyX0_ok nmX0 hown hE.1 hP hD hS 32 rfl rfl 3 (Nat.le_of_ble_eq_true rfl) (hts _ k_433) (fun _ h9 => h9) rfl (tyX0_ok 3 (Nat.le_of_ble_eq_true rfl)) rfl rfl (Nat.le_of_ble_eq_true rfl) dX0_painted_37 (fun H locs hP hD hS => ?_)
            have hP : va_P (dC, dI) vwCl (XW cy x0 x (upd v2 38 0) f2) H := hP
            have hD : va_D A (XW cy x0 x (upd v2 38 0) f2) := hD
            refine lv_aload_n hx hb dX0_painted_40 rfl (lv_at hl 1 rfl) ?_
            refine lv_iload_n hx hb dX0_painted_41 rfl (lv_at hl 0 rfl) ?_
            refine cbVv (n := 1) (rest := []) hx hb hml hown hts hE hP hD hS hA (sX_X0_lay_1 l dC dI cy x0 x l3_2 (upd v2 38 0) f2 (Xu_38 (x := 0) hIv2 (by decide) (by decide)) ) k_995 k_997 k_26 k_111 k_998 hd_yX0_lay ⟨Nat.le_of_ble_eq_true rfl, Nat.le_of_ble_eq_true rfl⟩ 32 0 rfl rfl (rfl) hl.1 rfl (Nat.le_of_ble_eq_true rfl) dX0_painted_42 (fun u H locs hw hP hD hS => ?_)
            obtain ⟨v10, f11⟩ := u
            obtain ⟨kV_v10, kF_f11, hIv10, hk0_v10, hk1_v10, hk7_v10, hk8_v10, hk9_v10, hk10_v10, hk31_v10, hk32_v10⟩ := hw
            have hM_v10 : KV [38] v10 v := KV.tr kV_v10 (KV.up (j := 38) (x := 0) hM_v2 rfl) rfl
            have hA_f11 : KF [20] f11 f := KF.tr kF_f11 hA_f2 rfl
            have hP : va_P (dC, dI) vwCl (XW cy x0 x v10 f11) H := hP
            have hD : va_D A (XW cy x0 x v10 f11) := hD
            have hq0_v10 : v10 0 = (v 0) := hk0_v10.trans hq0_v2
            have hq1_v10 : v10 1 = (v 1) := hk1_v10.trans hq1_v2
            have hq7_v10 : v10 7 = (v 7) := hk7_v10.trans hq7_v2
            have hq8_v10 : v10 8 = (v 8) := hk8_v10.trans hq8_v2
            have hq9_v10 : v10 9 = (v 9) := hk9_v10.trans hq9_v2
            have hq10_v10 : v10 10 = (v 10) := hk10_v10.trans hq10_v2
            have hq31_v10 : v10 31 = (v 31) := hk31_v10.trans hq31_v2
            have hq32_v10 : v10 32 = (v 32) := hk32_v10.trans hq32_v2
            refine lv_aload_n hx hb dX0_painted_45 rfl (lv_at hl 1 rfl) ?_
            refine lv_iload_n hx hb dX0_painted_46 rfl (lv_at hl 2 rfl) ?_
            refine lv_iconst (v := 1) hx hb dX0_painted_47 rfl ?_
            refine lv_iadd hx hb dX0_painted_48 ?_
            refine tI (y := 1) (by decide) ?_
            refine lv_iload_n hx hb dX0_painted_49 rfl (lv_at hl 3 rfl) ?_
            refine cbVi (n := 2) (rest := []) hx hb hml hown hts hE hP hD hS hA (sX_X0_painted_2 l dC dI cy x0 x p2 v10 f11 hIv10 ) k_1119 k_1121 k_33 k_111 k_1122 hd_yX0_painted ⟨Nat.le_of_ble_eq_true rfl, Nat.le_of_ble_eq_true rfl⟩ 32 0 rfl rfl (rfl) hl.1 rfl (Nat.le_of_ble_eq_true rfl) dX0_painted_50 (fun r12 u H locs hw hP hD hS => ?_)
            obtain ⟨v13, f14⟩ := u
            obtain ⟨kV_v13, kF_f14, hIv13, hk0_v13, hk1_v13, hk7_v13, hk8_v13, hk9_v13, hk10_v13, hk31_v13, hk32_v13, hw⟩ := hw
            have hM_v13 : KV [38] v13 v := KV.tr kV_v13 hM_v10 rfl
            have hA_f14 : KF [20] f14 f := KF.tr kF_f14 hA_f11 rfl
            have hP : va_P (dC, dI) vwCl (XW cy x0 x v13 f14) H := hP
            have hD : va_D A (XW cy x0 x v13 f14) := hD
            have hq0_v13 : v13 0 = (v 0) := hk0_v13.trans hq0_v10
            have hq1_v13 : v13 1 = (v 1) := hk1_v13.trans hq1_v10
            have hq7_v13 : v13 7 = (v 7) := hk7_v13.trans hq7_v10
            have hq8_v13 : v13 8 = (v 8) := hk8_v13.trans hq8_v10
            have hq9_v13 : v13 9 = (v 9) := hk9_v13.trans hq9_v10
            have hq10_v13 : v13 10 = (v 10) := hk10_v13.trans hq10_v10
            have hq31_v13 : v13 31 = (v 31) := hk31_v13.trans hq31_v10
            have hq32_v13 : v13 32 = (v 32) := hk32_v13.trans hq32_v10
            rcases hw with ⟨g15⟩ | ⟨g15⟩
            · skip
              subst g15
              refine lv_if_eq (tgt := 58) hx hb dX0_painted_53 rfl (fun c0 => absurd c0 (by decide)) (fun _ => ?_)
              refine lv_iconst (v := 1) hx hb dX0_painted_56 rfl ?_
              exact ret 1 (v13, f14) _ _ _ _ _ _ rfl ⟨hM_v13, hA_f14, hIv13, (hk0_v13.trans (hk0_v10.trans (show v2 0 = v 0 from hq0_v2))), (hk1_v13.trans (hk1_v10.trans (show v2 1 = v 1 from hq1_v2))), (hk7_v13.trans (hk7_v10.trans (show v2 7 = v 7 from hq7_v2))), (hk8_v13.trans (hk8_v10.trans (show v2 8 = v 8 from hq8_v2))), (hk9_v13.trans (hk9_v10.trans (show v2 9 = v 9 from hq9_v2))), (hk10_v13.trans (hk10_v10.trans (show v2 10 = v 10 from hq10_v2))), (hk31_v13.trans (hk31_v10.trans (show v2 31 = v 31 from hq31_v2))), (hk32_v13.trans (hk32_v10.trans (show v2 32 = v 32 from hq32_v2))), (Or.inl rfl)⟩ hP hD hS dX0_painted_57 (Nat.le_refl _) (Nat.le_refl _)
            · skip
              subst g15
              refine lv_if_eq (tgt := 58) hx hb dX0_painted_53 rfl (fun _ => ?_) (fun c0 => absurd (by decide) c0)
              obtain ⟨t16, et16⟩ : ∃ y : Int32, y = l3_2 + 1 := ⟨_, rfl⟩
              have zt16 : t16.toInt = l3_2.toInt + 1 := (congrArg Int32.toInt et16).trans (add_i rfl tc_1 (om_41 hr3_2) (om_196 zc3 rg7))
              refine lv_iinc (v := t16) (lv' := [(3, .int t16), (0, .ref (x 31)), (1, .int 0), (2, .int p2)]) hx hb dX0_painted_58 hl (k := 0) rfl et16.symm (Nat.le_of_ble_eq_true rfl) rfl (fun ls hl => ?_)
              refine lv_goto (tgt := 21) hx hb dX0_painted_61 rfl ?_
              have rg17 := fb_rng t16
              exact ih2 t16 v13 f14 hIv13 hq0_v13 hq1_v13 hq7_v13 hq8_v13 hq9_v13 hq10_v13 hq31_v13 hq32_v13 ⟨show (0 : Int) ≤ t16.toInt from om_43 hr3_2 zt16, show t16.toInt ≤ (2147483647 : Int) from om_44 rg17⟩ hM_v13 hA_f14 (show (2147483647 - t16.toInt).toNat < n2 from om_33 hm2 zt16 rg17) _ _ _ hP hD hS (lv_sub hl [0, 1, 2, 3] rfl)
          · skip
            subst g9
            refine lv_if_eq (tgt := 58) hx hb dX0_painted_32 rfl (fun _ => ?_) (fun c0 => absurd (by decide) c0)
            obtain ⟨t18, et18⟩ : ∃ y : Int32, y = l3_2 + 1 := ⟨_, rfl⟩
            have zt18 : t18.toInt = l3_2.toInt + 1 := (congrArg Int32.toInt et18).trans (add_i rfl tc_1 (om_41 hr3_2) (om_196 zc3 rg7))
            refine lv_iinc (v := t18) (lv' := [(3, .int t18), (0, .ref (x 31)), (1, .int 0), (2, .int p2)]) hx hb dX0_painted_58 hl (k := 0) rfl et18.symm (Nat.le_of_ble_eq_true rfl) rfl (fun ls hl => ?_)
            refine lv_goto (tgt := 21) hx hb dX0_painted_61 rfl ?_
            have rg19 := fb_rng t18
            exact ih2 t18 v2 f2 hIv2 hq0_v2 hq1_v2 hq7_v2 hq8_v2 hq9_v2 hq10_v2 hq31_v2 hq32_v2 ⟨show (0 : Int) ≤ t18.toInt from om_43 hr3_2 zt18, show t18.toInt ≤ (2147483647 : Int) from om_44 rg19⟩ hM_v2 hA_f2 (show (2147483647 - t18.toInt).toNat < n2 from om_33 hm2 zt18 rg19) _ _ _ hP hD hS (lv_sub hl [0, 1, 2, 3] rfl)
    exact lp2 _ 0 v f hIv rfl rfl rfl rfl rfl rfl rfl rfl ⟨by decide, by decide⟩ hM_v hA_f (Nat.lt_succ_self _) _ _ _ hP hD hS (lv_sub hl [0, 1, 2, 3] rfl)
set_option maxHeartbeats 4000000 in
set_option maxRecDepth 100000 in
theorem sX_X0_layColours_1 (l : Launch) (dC : Nat → ClassId) (dI : Nat → Nat → Nat) (cy : Nat → ClassId) (x0 : Nat) (x : Nat → Nat)  (v : Nat → Int32) (f : Nat → Nat → Int32) (hIv : XI v)  : ctI l (dC, dI) cy yX0_layColours cX0_layColours 2 .int 10 266 0 0 ((Nat → Int32) × (Nat → Nat → Int32)) [.ref (x 31)] (XW cy x0 x v f) (fun r u => KV [38] u.1 v ∧ KF [20] u.2 f ∧ XI u.1 ∧ u.1 0 = v 0 ∧ u.1 1 = v 1 ∧ u.1 7 = v 7 ∧ u.1 8 = v 8 ∧ u.1 9 = v 9 ∧ u.1 10 = v 10 ∧ u.1 31 = v 31 ∧ u.1 32 = v 32) (fun u => XW cy x0 x u.1 u.2) := by
  refine ctI_of (by decide) (Nat.le_of_ble_eq_true rfl) (fun p e s m below meth c A ls Q hx hb hml hts hown hE hP hD hA hl ret => ?_)
  have hM_v : KV [38] v v := fun _ _ => rfl
  have hA_f : KF [20] f f := fun _ _ => rfl
  have hown : s.vm.findClass RX0 = some m.cls := hown
  have hS : va_S A s.heap s.heap [] := va_S.rf
  have hl : lv_has ls 2 [(0, .ref (x 31))] := hl
  refine lv_aload_n hx hb dX0_layColours_0 rfl (lv_at hl 0 rfl) ?_
  refine cbVv (n := 0) (rest := []) hx hb hml hown hts hE hP hD hS hA (sX_X0_clear_1 0 l dC dI cy x0 x  v f hIv ) k_990 k_787 k_788 k_111 k_789 hd_yX0_clear ⟨Nat.le_of_ble_eq_true rfl, Nat.le_of_ble_eq_true rfl⟩ 32 0 rfl rfl (rfl) hl.1 rfl (Nat.le_of_ble_eq_true rfl) dX0_layColours_1 (fun u H locs hw hP hD hS => ?_)
  obtain ⟨hG1, hw⟩ := hw
  obtain ⟨v2, f3⟩ := u
  obtain ⟨kV_v2, kF_f3, hIv2, hk0_v2, hk1_v2, hk7_v2, hk8_v2, hk9_v2, hk10_v2, hk31_v2, hk32_v2⟩ := hw
  have hM_v2 : KV [38] v2 v := KV.tr kV_v2 hM_v rfl
  have hA_f3 : KF [20] f3 f := KF.tr kF_f3 hA_f rfl
  have hP : va_P (dC, dI) vwCl (XW cy x0 x v2 f3) H := hP
  have hD : va_D A (XW cy x0 x v2 f3) := hD
  have hq0_v2 : v2 0 = (v 0) := hk0_v2
  have hq1_v2 : v2 1 = (v 1) := hk1_v2
  have hq7_v2 : v2 7 = (v 7) := hk7_v2
  have hq8_v2 : v2 8 = (v 8) := hk8_v2
  have hq9_v2 : v2 9 = (v 9) := hk9_v2
  have hq10_v2 : v2 10 = (v 10) := hk10_v2
  have hq31_v2 : v2 31 = (v 31) := hk31_v2
  have hq32_v2 : v2 32 = (v 32) := hk32_v2
  refine lv_iconst (v := 0) hx hb dX0_layColours_4 rfl ?_
  refine lv_istore_n (lv' := [(1, .int 0), (0, .ref (x 31))]) hx hb dX0_layColours_5 rfl hl (Nat.le_of_ble_eq_true rfl) rfl (fun ls hl => ?_)
  have lp4 : ∀ (n4 : Nat) (l1_4 : Int32) (v4 : Nat → Int32) (f4 : Nat → Nat → Int32), XI v4 → v4 0 = (v 0) → v4 1 = (v 1) → v4 7 = (v 7) → v4 8 = (v 8) → v4 9 = (v 9) → v4 10 = (v 10) → v4 31 = (v 31) → v4 32 = (v 32) → ((0 : Int) ≤ l1_4.toInt ∧ l1_4.toInt ≤ 2147483647) → KV [38] v4 v → KF [20] f4 f → (2147483647 - l1_4.toInt).toNat < n4 → ∀ (H : Heap) (locs : List Loc) (ls : Array Slot), va_P (dC, dI) vwCl (XW cy x0 x v4 f4) H → va_D A (XW cy x0 x v4 f4) → va_S A s.heap H locs → lv_has ls 2 [(1, .int l1_4), (0, .ref (x 31))] → W p l e { frames := 10, cells := 0, slots := 0, locals := 266 } s m ([.ref (x 31)] : List Value).toArray below meth c H locs 0 0 Q (F0 m 6 ls []) := by
    intro n4
    induction n4 with
    | zero => intro l1_4 v4 f4 hIv4 hq0_v4 hq1_v4 hq7_v4 hq8_v4 hq9_v4 hq10_v4 hq31_v4 hq32_v4 hr1_4 hM_v4 hA_f4 hm; exact absurd hm (Nat.not_lt_zero _)
    | succ n4 ih4 =>
      intro l1_4 v4 f4 hIv4 hq0_v4 hq1_v4 hq7_v4 hq8_v4 hq9_v4 hq10_v4 hq31_v4 hq32_v4 hr1_4 hM_v4 hA_f4 hm4 H locs ls hP hD hS hl
      refine lv_iload_n hx hb dX0_layColours_6 rfl (lv_at hl 0 rfl) ?_
      refine lv_aload_n hx hb dX0_layColours_7 rfl (lv_at hl 1 rfl) ?_
      refine va_get (D := (dC, dI)) (ci := 0) (v := .ref (x 26)) (C := RX0) (T := TX0) (N := 8) hx hb hts inB_0 hown hE.1 hP 32 rfl rfl 0 (Nat.le_of_ble_eq_true rfl) (hts _ k_430) (fun _ h9 => h9) rfl dX0_layColours_8 ?_
      refine va_getN (D := (dC, dI)) (ci := 7) (v := .int (v4 31)) (C := RX7) (T := TX7) (N := 10) hx hb hts inB_7 hown hE.1 hP 27 rfl rfl 3 (Nat.le_of_ble_eq_true rfl) (va_Nw.use rfl (hE.2 _ k_216)) (fun _ h9 => h9) rfl dX0_layColours_11 ?_
      refine tI (y := (v 31)) hq31_v4 ?_
      have b31_v : 0 ≤ (v 31).toInt ∧ (v 31).toInt ≤ 6 := Xb_31 hIv
      refine lv_icmp_gt (tgt := 34) hx hb dX0_layColours_14 rfl (fun c5 => ?_) (fun c5 => ?_)
      · skip
        refine lv_aload_n hx hb dX0_layColours_34 rfl (lv_at hl 1 rfl) ?_
        refine va_get (D := (dC, dI)) (ci := 0) (v := .ref (x 26)) (C := RX0) (T := TX0) (N := 8) hx hb hts inB_0 hown hE.1 hP 32 rfl rfl 0 (Nat.le_of_ble_eq_true rfl) (hts _ k_430) (fun _ h9 => h9) rfl dX0_layColours_35 ?_
        refine va_getN (D := (dC, dI)) (ci := 7) (v := .int (v4 31)) (C := RX7) (T := TX7) (N := 10) hx hb hts inB_7 hown hE.1 hP 27 rfl rfl 3 (Nat.le_of_ble_eq_true rfl) (va_Nw.use rfl (hE.2 _ k_216)) (fun _ h9 => h9) rfl dX0_layColours_38 ?_
        refine tI (y := (v 31)) hq31_v4 ?_
        exact ret (v 31) (v4, f4) _ _ _ _ _ _ rfl ⟨hM_v4, hA_f4, hIv4, hq0_v4, hq1_v4, hq7_v4, hq8_v4, hq9_v4, hq10_v4, hq31_v4, hq32_v4⟩ hP hD hS dX0_layColours_41 (Nat.le_refl _) (Nat.le_refl _)
      · skip
        have zc5 : ¬ ((v 31).toInt < l1_4.toInt) := zLn rfl rfl c5
        refine lv_aload_n hx hb dX0_layColours_17 rfl (lv_at hl 1 rfl) ?_
        refine lv_iconst (v := 0) hx hb dX0_layColours_18 rfl ?_
        refine lv_iload_n hx hb dX0_layColours_19 rfl (lv_at hl 0 rfl) ?_
        refine cbVi (n := 2) (rest := []) hx hb hml hown hts hE hP hD hS hA (sX_X0_painted_1 l dC dI cy x0 x l1_4 v4 f4 hIv4 ) k_1119 k_1121 k_33 k_111 k_1122 hd_yX0_painted ⟨Nat.le_of_ble_eq_true rfl, Nat.le_of_ble_eq_true rfl⟩ 32 0 rfl rfl (rfl) hl.1 rfl (Nat.le_of_ble_eq_true rfl) dX0_layColours_20 (fun r10 u H locs hw hP hD hS => ?_)
        obtain ⟨v11, f12⟩ := u
        obtain ⟨kV_v11, kF_f12, hIv11, hk0_v11, hk1_v11, hk7_v11, hk8_v11, hk9_v11, hk10_v11, hk31_v11, hk32_v11, hw⟩ := hw
        have hM_v11 : KV [38] v11 v := KV.tr kV_v11 hM_v4 rfl
        have hA_f12 : KF [20] f12 f := KF.tr kF_f12 hA_f4 rfl
        have hP : va_P (dC, dI) vwCl (XW cy x0 x v11 f12) H := hP
        have hD : va_D A (XW cy x0 x v11 f12) := hD
        have hq0_v11 : v11 0 = (v 0) := hk0_v11.trans hq0_v4
        have hq1_v11 : v11 1 = (v 1) := hk1_v11.trans hq1_v4
        have hq7_v11 : v11 7 = (v 7) := hk7_v11.trans hq7_v4
        have hq8_v11 : v11 8 = (v 8) := hk8_v11.trans hq8_v4
        have hq9_v11 : v11 9 = (v 9) := hk9_v11.trans hq9_v4
        have hq10_v11 : v11 10 = (v 10) := hk10_v11.trans hq10_v4
        have hq31_v11 : v11 31 = (v 31) := hk31_v11.trans hq31_v4
        have hq32_v11 : v11 32 = (v 32) := hk32_v11.trans hq32_v4
        rcases hw with ⟨g13⟩ | ⟨g13⟩
        · skip
          subst g13
          refine lv_if_eq (tgt := 28) hx hb dX0_layColours_23 rfl (fun c0 => absurd c0 (by decide)) (fun _ => ?_)
          refine lv_iload_n hx hb dX0_layColours_26 rfl (lv_at hl 0 rfl) ?_
          exact ret l1_4 (v11, f12) _ _ _ _ _ _ rfl ⟨hM_v11, hA_f12, hIv11, (hk0_v11.trans hq0_v4), (hk1_v11.trans hq1_v4), (hk7_v11.trans hq7_v4), (hk8_v11.trans hq8_v4), (hk9_v11.trans hq9_v4), (hk10_v11.trans hq10_v4), (hk31_v11.trans hq31_v4), (hk32_v11.trans hq32_v4)⟩ hP hD hS dX0_layColours_27 (Nat.le_refl _) (Nat.le_refl _)
        · skip
          subst g13
          refine lv_if_eq (tgt := 28) hx hb dX0_layColours_23 rfl (fun _ => ?_) (fun c0 => absurd (by decide) c0)
          obtain ⟨t14, et14⟩ : ∃ y : Int32, y = l1_4 + 1 := ⟨_, rfl⟩
          have zt14 : t14.toInt = l1_4.toInt + 1 := (congrArg Int32.toInt et14).trans (add_i rfl tc_1 (om_41 hr1_4) (om_268 b31_v zc5))
          refine lv_iinc (v := t14) (lv' := [(1, .int t14), (0, .ref (x 31))]) hx hb dX0_layColours_28 hl (k := 0) rfl et14.symm (Nat.le_of_ble_eq_true rfl) rfl (fun ls hl => ?_)
          refine lv_goto (tgt := 6) hx hb dX0_layColours_31 rfl ?_
          have rg15 := fb_rng t14
          exact ih4 t14 v11 f12 hIv11 hq0_v11 hq1_v11 hq7_v11 hq8_v11 hq9_v11 hq10_v11 hq31_v11 hq32_v11 ⟨show (0 : Int) ≤ t14.toInt from om_43 hr1_4 zt14, show t14.toInt ≤ (2147483647 : Int) from om_44 rg15⟩ hM_v11 hA_f12 (show (2147483647 - t14.toInt).toNat < n4 from om_33 hm4 zt14 rg15) _ _ _ hP hD hS (lv_sub hl [0, 1] rfl)
  exact lp4 _ 0 v2 f3 hIv2 hq0_v2 hq1_v2 hq7_v2 hq8_v2 hq9_v2 hq10_v2 hq31_v2 hq32_v2 ⟨by decide, by decide⟩ hM_v2 hA_f3 (Nat.lt_succ_self _) _ _ _ hP hD hS (lv_sub hl [0, 1] rfl)
set_option maxHeartbeats 4000000 in
set_option maxRecDepth 100000 in
theorem sX_X10_buttons_1 (l : Launch) (dC : Nat → ClassId) (dI : Nat → Nat → Nat) (cy : Nat → ClassId) (x0 : Nat) (x : Nat → Nat)  (v : Nat → Int32) (f : Nat → Nat → Int32) (hIv : XI v)  : ctI l (dC, dI) cy yX10_buttons cX10_buttons 1 .int 11 287 0 0 ((Nat → Int32) × (Nat → Nat → Int32)) [.ref x0] (XW cy x0 x v f) (fun r u => KV [38] u.1 v ∧ KF [20] u.2 f ∧ XI u.1 ∧ u.1 0 = v 0 ∧ u.1 1 = v 1 ∧ u.1 7 = v 7 ∧ u.1 8 = v 8 ∧ u.1 9 = v 9 ∧ u.1 10 = v 10 ∧ u.1 31 = v 31 ∧ u.1 32 = v 32) (fun u => XW cy x0 x u.1 u.2) := by
  refine ctI_of (by decide) (Nat.le_of_ble_eq_true rfl) (fun p e s m below meth c A ls Q hx hb hml hts hown hE hP hD hA hl ret => ?_)
  have hM_v : KV [38] v v := fun _ _ => rfl
  have hA_f : KF [20] f f := fun _ _ => rfl
  have hown : s.vm.findClass RX10 = some m.cls := hown
  have hS : va_S A s.heap s.heap [] := va_S.rf
  have hl : lv_has ls 1 [(0, .ref x0)] := hl
  refine lv_aload_n hx hb dX10_buttons_0 rfl (lv_at hl 0 rfl) ?_
  refine va_get (D := (dC, dI)) (ci := 10) (v := .ref (x 31)) (C := RX10) (T := TX10) (N := 10) hx hb hts inB_10 hown hE.1 hP 0 rfl rfl 7 (Nat.le_of_ble_eq_true rfl) (hts _ k_498) (fun _ h9 => h9) rfl dX10_buttons_1 ?_
  refine cbVi (n := 0) (rest := []) hx hb hml hown hts hE hP hD hS hA (sX_X0_layColours_1 l dC dI cy x0 x  v f hIv ) k_1115 k_1116 k_1117 k_111 k_1118 hd_yX0_layColours ⟨Nat.le_of_ble_eq_true rfl, Nat.le_of_ble_eq_true rfl⟩ 32 0 rfl rfl (rfl) hl.1 rfl (Nat.le_of_ble_eq_true rfl) dX10_buttons_4 (fun r1 u H locs hw hP hD hS => ?_)
  obtain ⟨v2, f3⟩ := u
  obtain ⟨kV_v2, kF_f3, hIv2, hk0_v2, hk1_v2, hk7_v2, hk8_v2, hk9_v2, hk10_v2, hk31_v2, hk32_v2⟩ := hw
  have hM_v2 : KV [38] v2 v := KV.tr kV_v2 hM_v rfl
  have hA_f3 : KF [20] f3 f := KF.tr kF_f3 hA_f rfl
  have hP : va_P (dC, dI) vwCl (XW cy x0 x v2 f3) H := hP
  have hD : va_D A (XW cy x0 x v2 f3) := hD
  have hq0_v2 : v2 0 = (v 0) := hk0_v2
  have hq1_v2 : v2 1 = (v 1) := hk1_v2
  have hq7_v2 : v2 7 = (v 7) := hk7_v2
  have hq8_v2 : v2 8 = (v 8) := hk8_v2
  have hq9_v2 : v2 9 = (v 9) := hk9_v2
  have hq10_v2 : v2 10 = (v 10) := hk10_v2
  have hq31_v2 : v2 31 = (v 31) := hk31_v2
  have hq32_v2 : v2 32 = (v 32) := hk32_v2
  exact ret r1 (v2, f3) _ _ _ _ _ _ rfl ⟨hM_v2, hA_f3, hIv2, hk0_v2, hk1_v2, hk7_v2, hk8_v2, hk9_v2, hk10_v2, hk31_v2, hk32_v2⟩ hP hD hS dX10_buttons_7 (Nat.le_refl _) (Nat.le_refl _)
set_option maxHeartbeats 4000000 in
set_option maxRecDepth 100000 in
theorem sX_X0_isFree_1 (l : Launch) (dC : Nat → ClassId) (dI : Nat → Nat → Nat) (cy : Nat → ClassId) (x0 : Nat) (x : Nat → Nat) (p1 : Int32) (v : Nat → Int32) (f : Nat → Nat → Int32) (hIv : XI v)  : ctI l (dC, dI) cy yX0_isFree cX0_isFree 2 .boolean 4 124 0 0 Unit [.ref (x 31), .int p1] (XW cy x0 x v f) (fun r u => ((r = 1) ∨ (r = 0))) (fun u => XW cy x0 x v f) := by
  refine ctI_of (by decide) (Nat.le_of_ble_eq_true rfl) (fun p e s m below meth c A ls Q hx hb hml hts hown hE hP hD hA hl ret => ?_)
  have hown : s.vm.findClass RX0 = some m.cls := hown
  have hS : va_S A s.heap s.heap [] := va_S.rf
  have hl : lv_has ls 2 [(0, .ref (x 31)), (1, .int p1)] := hl
  refine lv_aload_n hx hb dX0_isFree_0 rfl (lv_at hl 0 rfl) ?_
  refine va_get (D := (dC, dI)) (ci := 0) (v := .ref (x 21)) (C := RX0) (T := TX0) (N := 8) hx hb hts inB_0 hown hE.1 hP 32 rfl rfl 1 (Nat.le_of_ble_eq_true rfl) (hts _ k_431) (fun _ h9 => h9) rfl dX0_isFree_1 ?_
  refine lv_iload_n hx hb dX0_isFree_4 rfl (lv_at hl 1 rfl) ?_
  refine cbVi (n := 1) (rest := []) hx hb hml hown hts hE hP hD hS hA (sX_X1_wearer_1 0 l dC dI cy x0 x p1 v f hIv ) k_1141 k_850 k_851 k_106 k_852 hd_yX1_wearer ⟨Nat.le_of_ble_eq_true rfl, Nat.le_of_ble_eq_true rfl⟩ 22 1 rfl rfl (rfl) hl.1 rfl (Nat.le_of_ble_eq_true rfl) dX0_isFree_5 (fun r1 u H locs hw hP hD hS => ?_)
  have hG2 := hw
  refine lv_iconst (v := (-1)) hx hb dX0_isFree_8 rfl ?_
  refine lv_icmp_ne (tgt := 16) hx hb dX0_isFree_9 rfl (fun c3 => ?_) (fun c3 => ?_)
  · skip
    refine lv_iconst (v := 0) hx hb dX0_isFree_16 rfl ?_
    exact ret 0 () _ _ _ _ _ _ rfl (Or.inr rfl) hP hD hS dX0_isFree_17 (Nat.le_refl _) (Nat.le_refl _)
  · skip
    refine lv_iconst (v := 1) hx hb dX0_isFree_12 rfl ?_
    refine lv_goto (tgt := 17) hx hb dX0_isFree_13 rfl ?_
    exact ret 1 () _ _ _ _ _ _ rfl (Or.inl rfl) hP hD hS dX0_isFree_17 (Nat.le_refl _) (Nat.le_refl _)
set_option maxHeartbeats 4000000 in
set_option maxRecDepth 100000 in
theorem sX_X0_illGetting_1 (l : Launch) (dC : Nat → ClassId) (dI : Nat → Nat → Nat) (cy : Nat → ClassId) (x0 : Nat) (x : Nat → Nat) (p1 : Int32) (p2 : Int32) (p3 : Int32) (v : Nat → Int32) (f : Nat → Nat → Int32) (hIv : XI v)  : ctI l (dC, dI) cy yX0_illGetting cX0_illGetting 4 .int 4 133 0 0 ((Nat → Int32) × (Nat → Nat → Int32)) [.ref (x 31), .int p1, .int p2, .int p3] (XW cy x0 x v f) (fun r u => KV [] u.1 v ∧ KF [13, 14] u.2 f ∧ XI u.1 ∧ u.1 0 = v 0 ∧ u.1 1 = v 1 ∧ u.1 7 = v 7 ∧ u.1 8 = v 8 ∧ u.1 9 = v 9 ∧ u.1 10 = v 10 ∧ u.1 31 = v 31 ∧ u.1 32 = v 32) (fun u => XW cy x0 x u.1 u.2) := by
  refine ctI_of (by decide) (Nat.le_of_ble_eq_true rfl) (fun p e s m below meth c A ls Q hx hb hml hts hown hE hP hD hA hl ret => ?_)
  have hM_v : KV [] v v := fun _ _ => rfl
  have hA_f : KF [13, 14] f f := fun _ _ => rfl
  have hown : s.vm.findClass RX0 = some m.cls := hown
  have hS : va_S A s.heap s.heap [] := va_S.rf
  have hl : lv_has ls 4 [(0, .ref (x 31)), (1, .int p1), (2, .int p2), (3, .int p3)] := hl
  refine lv_iload_n hx hb dX0_illGetting_0 rfl (lv_at hl 2 rfl) ?_
  refine lv_iload_n hx hb dX0_illGetting_1 rfl (lv_at hl 3 rfl) ?_
  refine lv_icmp_ne (tgt := 11) hx hb dX0_illGetting_2 rfl (fun c1 => ?_) (fun c1 => ?_)
  · skip
    refine lv_aload_n hx hb dX0_illGetting_11 rfl (lv_at hl 0 rfl) ?_
    refine va_get (D := (dC, dI)) (ci := 0) (v := .ref (x 21)) (C := RX0) (T := TX0) (N := 8) hx hb hts inB_0 hown hE.1 hP 32 rfl rfl 1 (Nat.le_of_ble_eq_true rfl) (hts _ k_431) (fun _ h9 => h9) rfl dX0_illGetting_12 ?_
    refine lv_iload_n hx hb dX0_illGetting_15 rfl (lv_at hl 1 rfl) ?_
    refine lv_iload_n hx hb dX0_illGetting_16 rfl (lv_at hl 2 rfl) ?_
    refine cbVi (n := 2) (rest := []) hx hb hml hown hts hE hP hD hS hA (sX_X1_illness_1 0 l dC dI cy x0 x p1 p2 v f hIv ) k_979 k_823 k_824 k_106 k_825 hd_yX1_illness ⟨Nat.le_of_ble_eq_true rfl, Nat.le_of_ble_eq_true rfl⟩ 22 1 rfl rfl (rfl) hl.1 rfl (Nat.le_of_ble_eq_true rfl) dX0_illGetting_17 (fun r4 u H locs hw hP hD hS => ?_)
    obtain ⟨hG5, hw⟩ := hw
    obtain ⟨v6, f7⟩ := u
    obtain ⟨kV_v6, kF_f7, hIv6, hk0_v6, hk1_v6, hk7_v6, hk8_v6, hk9_v6, hk10_v6, hk31_v6, hk32_v6⟩ := hw
    have hM_v6 : KV [] v6 v := KV.tr kV_v6 hM_v rfl
    have hA_f7 : KF [13, 14] f7 f := KF.tr kF_f7 hA_f rfl
    have hP : va_P (dC, dI) vwCl (XW cy x0 x v6 f7) H := hP
    have hD : va_D A (XW cy x0 x v6 f7) := hD
    exact ret r4 (v6, f7) _ _ _ _ _ _ rfl ⟨hM_v6, hA_f7, hIv6, hk0_v6, hk1_v6, hk7_v6, hk8_v6, hk9_v6, hk10_v6, hk31_v6, hk32_v6⟩ hP hD hS dX0_illGetting_20 (Nat.le_refl _) (Nat.le_refl _)
  · skip
    refine lv_sipush (v := 1000) hx hb dX0_illGetting_5 rfl ?_
    refine lv_goto (tgt := 20) hx hb dX0_illGetting_8 rfl ?_
    exact ret 1000 (v, f) _ _ _ _ _ _ rfl ⟨hM_v, hA_f, hIv, rfl, rfl, rfl, rfl, rfl, rfl, rfl, rfl⟩ hP hD hS dX0_illGetting_20 (Nat.le_refl _) (Nat.le_refl _)
set_option maxHeartbeats 4000000 in
set_option maxRecDepth 100000 in
theorem sX_X0_isContent_1 (l : Launch) (dC : Nat → ClassId) (dI : Nat → Nat → Nat) (cy : Nat → ClassId) (x0 : Nat) (x : Nat → Nat) (p1 : Int32) (p2 : Int32) (p3 : Int32) (v : Nat → Int32) (f : Nat → Nat → Int32) (hIv : XI v)  : ctI l (dC, dI) cy yX0_isContent cX0_isContent 6 .boolean 5 156 0 0 ((Nat → Int32) × (Nat → Nat → Int32)) [.ref (x 31), .int p1, .int p2, .int p3] (XW cy x0 x v f) (fun r u => KV [] u.1 v ∧ KF [13, 14] u.2 f ∧ XI u.1 ∧ u.1 0 = v 0 ∧ u.1 1 = v 1 ∧ u.1 7 = v 7 ∧ u.1 8 = v 8 ∧ u.1 9 = v 9 ∧ u.1 10 = v 10 ∧ u.1 31 = v 31 ∧ u.1 32 = v 32 ∧ ((r = 1) ∨ (r = 0))) (fun u => XW cy x0 x u.1 u.2) := by
  refine ctI_of (by decide) (Nat.le_of_ble_eq_true rfl) (fun p e s m below meth c A ls Q hx hb hml hts hown hE hP hD hA hl ret => ?_)
  have hM_v : KV [] v v := fun _ _ => rfl
  have hA_f : KF [13, 14] f f := fun _ _ => rfl
  have hown : s.vm.findClass RX0 = some m.cls := hown
  have hS : va_S A s.heap s.heap [] := va_S.rf
  have hl : lv_has ls 6 [(0, .ref (x 31)), (1, .int p1), (2, .int p2), (3, .int p3)] := hl
  refine lv_aload_n hx hb dX0_isContent_0 rfl (lv_at hl 0 rfl) ?_
  refine lv_iload_n hx hb dX0_isContent_1 rfl (lv_at hl 1 rfl) ?_
  refine lv_iload_n hx hb dX0_isContent_2 rfl (lv_at hl 2 rfl) ?_
  refine lv_iload_n hx hb dX0_isContent_3 rfl (lv_at hl 3 rfl) ?_
  refine cbVi (n := 3) (rest := []) hx hb hml hown hts hE hP hD hS hA (sX_X0_illGetting_1 l dC dI cy x0 x p1 p2 p3 v f hIv ) k_1146 k_1148 k_37 k_111 k_1149 hd_yX0_illGetting ⟨Nat.le_of_ble_eq_true rfl, Nat.le_of_ble_eq_true rfl⟩ 32 0 rfl rfl (rfl) hl.1 rfl (Nat.le_of_ble_eq_true rfl) dX0_isContent_4 (fun r1 u H locs hw hP hD hS => ?_)
  obtain ⟨v2, f3⟩ := u
  obtain ⟨kV_v2, kF_f3, hIv2, hk0_v2, hk1_v2, hk7_v2, hk8_v2, hk9_v2, hk10_v2, hk31_v2, hk32_v2⟩ := hw
  have hM_v2 : KV [] v2 v := KV.tr kV_v2 hM_v rfl
  have hA_f3 : KF [13, 14] f3 f := KF.tr kF_f3 hA_f rfl
  have hP : va_P (dC, dI) vwCl (XW cy x0 x v2 f3) H := hP
  have hD : va_D A (XW cy x0 x v2 f3) := hD
  have hq0_v2 : v2 0 = (v 0) := hk0_v2
  have hq1_v2 : v2 1 = (v 1) := hk1_v2
  have hq7_v2 : v2 7 = (v 7) := hk7_v2
  have hq8_v2 : v2 8 = (v 8) := hk8_v2
  have hq9_v2 : v2 9 = (v 9) := hk9_v2
  have hq10_v2 : v2 10 = (v 10) := hk10_v2
  have hq31_v2 : v2 31 = (v 31) := hk31_v2
  have hq32_v2 : v2 32 = (v 32) := hk32_v2
  refine lv_istore (lv' := [(4, .int r1), (0, .ref (x 31)), (1, .int p1), (2, .int p2), (3, .int p3)]) hx hb dX0_isContent_7 hl (Nat.le_of_ble_eq_true rfl) rfl (fun ls hl => ?_)
  refine lv_iconst (v := 0) hx hb dX0_isContent_9 rfl ?_
  refine lv_istore (lv' := [(5, .int 0), (4, .int r1), (0, .ref (x 31)), (1, .int p1), (2, .int p2), (3, .int p3)]) hx hb dX0_isContent_10 hl (Nat.le_of_ble_eq_true rfl) rfl (fun ls hl => ?_)
  have lp4 : ∀ (n4 : Nat) (l5_4 : Int32) (v4 : Nat → Int32) (f4 : Nat → Nat → Int32), XI v4 → v4 0 = (v 0) → v4 1 = (v 1) → v4 7 = (v 7) → v4 8 = (v 8) → v4 9 = (v 9) → v4 10 = (v 10) → v4 31 = (v 31) → v4 32 = (v 32) → ((0 : Int) ≤ l5_4.toInt ∧ l5_4.toInt ≤ 2147483647) → KV [] v4 v → KF [13, 14] f4 f → (2147483647 - l5_4.toInt).toNat < n4 → ∀ (H : Heap) (locs : List Loc) (ls : Array Slot), va_P (dC, dI) vwCl (XW cy x0 x v4 f4) H → va_D A (XW cy x0 x v4 f4) → va_S A s.heap H locs → lv_has ls 6 [(5, .int l5_4), (4, .int r1), (0, .ref (x 31)), (1, .int p1), (2, .int p2), (3, .int p3)] → W p l e { frames := 5, cells := 0, slots := 0, locals := 156 } s m ([.ref (x 31), .int p1, .int p2, .int p3] : List Value).toArray below meth c H locs 0 0 Q (F0 m 12 ls []) := by
    intro n4
    induction n4 with
    | zero => intro l5_4 v4 f4 hIv4 hq0_v4 hq1_v4 hq7_v4 hq8_v4 hq9_v4 hq10_v4 hq31_v4 hq32_v4 hr5_4 hM_v4 hA_f4 hm; exact absurd hm (Nat.not_lt_zero _)
    | succ n4 ih4 =>
      intro l5_4 v4 f4 hIv4 hq0_v4 hq1_v4 hq7_v4 hq8_v4 hq9_v4 hq10_v4 hq31_v4 hq32_v4 hr5_4 hM_v4 hA_f4 hm4 H locs ls hP hD hS hl
      refine lv_iload hx hb dX0_isContent_12 (lv_at hl 0 rfl) ?_
      refine lv_aload_n hx hb dX0_isContent_14 rfl (lv_at hl 2 rfl) ?_
      refine va_get (D := (dC, dI)) (ci := 0) (v := .ref (x 26)) (C := RX0) (T := TX0) (N := 8) hx hb hts inB_0 hown hE.1 hP 32 rfl rfl 0 (Nat.le_of_ble_eq_true rfl) (hts _ k_430) (fun _ h9 => h9) rfl dX0_isContent_15 ?_
      refine va_getN (D := (dC, dI)) (ci := 7) (v := .int (v4 32)) (C := RX7) (T := TX7) (N := 10) hx hb hts inB_7 hown hE.1 hP 27 rfl rfl 4 (Nat.le_of_ble_eq_true rfl) (va_Nw.use rfl (hE.2 _ k_222)) (fun _ h9 => h9) rfl dX0_isContent_18 ?_
      refine tI (y := (v 32)) hq32_v4 ?_
      have b32_v : 0 ≤ (v 32).toInt ∧ (v 32).toInt ≤ 6 := Xb_32 hIv
      refine lv_icmp_ge (tgt := 54) hx hb dX0_isContent_21 rfl (fun c5 => ?_) (fun c5 => ?_)
      · skip
        refine lv_iconst (v := 1) hx hb dX0_isContent_54 rfl ?_
        exact ret 1 (v4, f4) _ _ _ _ _ _ rfl ⟨hM_v4, hA_f4, hIv4, hq0_v4, hq1_v4, hq7_v4, hq8_v4, hq9_v4, hq10_v4, hq31_v4, hq32_v4, (Or.inl rfl)⟩ hP hD hS dX0_isContent_55 (Nat.le_refl _) (Nat.le_refl _)
      · skip
        have zc5 : ¬ ((v 32).toInt ≤ l5_4.toInt) := zMn rfl rfl c5
        refine lv_aload_n hx hb dX0_isContent_24 rfl (lv_at hl 2 rfl) ?_
        refine lv_iload hx hb dX0_isContent_25 (lv_at hl 0 rfl) ?_
        refine cbVi (n := 1) (rest := []) hx hb hml hown hts hE hP hD hS hA (sX_X0_isFree_1 l dC dI cy x0 x l5_4 v4 f4 hIv4 ) k_1137 k_1139 k_35 k_111 k_1140 hd_yX0_isFree ⟨Nat.le_of_ble_eq_true rfl, Nat.le_of_ble_eq_true rfl⟩ 32 0 rfl rfl (rfl) hl.1 rfl (Nat.le_of_ble_eq_true rfl) dX0_isContent_27 (fun r10 u H locs hw hP hD hS => ?_)
        rcases hw with ⟨g11⟩ | ⟨g11⟩
        · skip
          subst g11
          refine lv_if_eq (tgt := 48) hx hb dX0_isContent_30 rfl (fun c0 => absurd c0 (by decide)) (fun _ => ?_)
          refine lv_aload_n hx hb dX0_isContent_33 rfl (lv_at hl 2 rfl) ?_
          refine lv_iload_n hx hb dX0_isContent_34 rfl (lv_at hl 3 rfl) ?_
          refine lv_iload hx hb dX0_isContent_35 (lv_at hl 0 rfl) ?_
          refine lv_iload_n hx hb dX0_isContent_37 rfl (lv_at hl 5 rfl) ?_
          refine cbVi (n := 3) (rest := []) hx hb hml hown hts hE hP hD hS hA (sX_X0_illGetting_1 l dC dI cy x0 x p1 l5_4 p3 v4 f4 hIv4 ) k_1146 k_1148 k_37 k_111 k_1149 hd_yX0_illGetting ⟨Nat.le_of_ble_eq_true rfl, Nat.le_of_ble_eq_true rfl⟩ 32 0 rfl rfl (rfl) hl.1 rfl (Nat.le_of_ble_eq_true rfl) dX0_isContent_38 (fun r12 u H locs hw hP hD hS => ?_)
          obtain ⟨v13, f14⟩ := u
          obtain ⟨kV_v13, kF_f14, hIv13, hk0_v13, hk1_v13, hk7_v13, hk8_v13, hk9_v13, hk10_v13, hk31_v13, hk32_v13⟩ := hw
          have hM_v13 : KV [] v13 v := KV.tr kV_v13 hM_v4 rfl
          have hA_f14 : KF [13, 14] f14 f := KF.tr kF_f14 hA_f4 rfl
          have hP : va_P (dC, dI) vwCl (XW cy x0 x v13 f14) H := hP
          have hD : va_D A (XW cy x0 x v13 f14) := hD
          have hq0_v13 : v13 0 = (v 0) := hk0_v13.trans hq0_v4
          have hq1_v13 : v13 1 = (v 1) := hk1_v13.trans hq1_v4
          have hq7_v13 : v13 7 = (v 7) := hk7_v13.trans hq7_v4
          have hq8_v13 : v13 8 = (v 8) := hk8_v13.trans hq8_v4
          have hq9_v13 : v13 9 = (v 9) := hk9_v13.trans hq9_v4
          have hq10_v13 : v13 10 = (v 10) := hk10_v13.trans hq10_v4
          have hq31_v13 : v13 31 = (v 31) := hk31_v13.trans hq31_v4
          have hq32_v13 : v13 32 = (v 32) := hk32_v13.trans hq32_v4
          refine lv_iload hx hb dX0_isContent_41 (lv_at hl 1 rfl) ?_
          refine lv_icmp_ge (tgt := 48) hx hb dX0_isContent_43 rfl (fun c15 => ?_) (fun c15 => ?_)
          · skip
            obtain ⟨t18, et18⟩ : ∃ y : Int32, y = l5_4 + 1 := ⟨_, rfl⟩
            have zt18 : t18.toInt = l5_4.toInt + 1 := (congrArg Int32.toInt et18).trans (add_i rfl tc_1 (om_41 hr5_4) (om_187 b32_v zc5))
            refine lv_iinc (v := t18) (lv' := [(5, .int t18), (4, .int r1), (0, .ref (x 31)), (1, .int p1), (2, .int p2), (3, .int p3)]) hx hb dX0_isContent_48 hl (k := 0) rfl et18.symm (Nat.le_of_ble_eq_true rfl) rfl (fun ls hl => ?_)
            refine lv_goto (tgt := 12) hx hb dX0_isContent_51 rfl ?_
            have rg19 := fb_rng t18
            exact ih4 t18 v13 f14 hIv13 hq0_v13 hq1_v13 hq7_v13 hq8_v13 hq9_v13 hq10_v13 hq31_v13 hq32_v13 ⟨show (0 : Int) ≤ t18.toInt from om_43 hr5_4 zt18, show t18.toInt ≤ (2147483647 : Int) from om_44 rg19⟩ hM_v13 hA_f14 (show (2147483647 - t18.toInt).toNat < n4 from om_33 hm4 zt18 rg19) _ _ _ hP hD hS (lv_sub hl [0, 1, 2, 3, 4, 5] rfl)
          · skip
            refine lv_iconst (v := 0) hx hb dX0_isContent_46 rfl ?_
            exact ret 0 (v13, f14) _ _ _ _ _ _ rfl ⟨hM_v13, hA_f14, hIv13, (hk0_v13.trans hq0_v4), (hk1_v13.trans hq1_v4), (hk7_v13.trans hq7_v4), (hk8_v13.trans hq8_v4), (hk9_v13.trans hq9_v4), (hk10_v13.trans hq10_v4), (hk31_v13.trans hq31_v4), (hk32_v13.trans hq32_v4), (Or.inr rfl)⟩ hP hD hS dX0_isContent_47 (Nat.le_refl _) (Nat.le_refl _)
        · skip
          subst g11
          refine lv_if_eq (tgt := 48) hx hb dX0_isContent_30 rfl (fun _ => ?_) (fun c0 => absurd (by decide) c0)
          obtain ⟨t22, et22⟩ : ∃ y : Int32, y = l5_4 + 1 := ⟨_, rfl⟩
          have zt22 : t22.toInt = l5_4.toInt + 1 := (congrArg Int32.toInt et22).trans (add_i rfl tc_1 (om_41 hr5_4) (om_187 b32_v zc5))
          refine lv_iinc (v := t22) (lv' := [(5, .int t22), (4, .int r1), (0, .ref (x 31)), (1, .int p1), (2, .int p2), (3, .int p3)]) hx hb dX0_isContent_48 hl (k := 0) rfl et22.symm (Nat.le_of_ble_eq_true rfl) rfl (fun ls hl => ?_)
          refine lv_goto (tgt := 12) hx hb dX0_isContent_51 rfl ?_
          have rg23 := fb_rng t22
          exact ih4 t22 v4 f4 hIv4 hq0_v4 hq1_v4 hq7_v4 hq8_v4 hq9_v4 hq10_v4 hq31_v4 hq32_v4 ⟨show (0 : Int) ≤ t22.toInt from om_43 hr5_4 zt22, show t22.toInt ≤ (2147483647 : Int) from om_44 rg23⟩ hM_v4 hA_f4 (show (2147483647 - t22.toInt).toNat < n4 from om_33 hm4 zt22 rg23) _ _ _ hP hD hS (lv_sub hl [0, 1, 2, 3, 4, 5] rfl)
  exact lp4 _ 0 v2 f3 hIv2 hq0_v2 hq1_v2 hq7_v2 hq8_v2 hq9_v2 hq10_v2 hq31_v2 hq32_v2 ⟨by decide, by decide⟩ hM_v2 hA_f3 (Nat.lt_succ_self _) _ _ _ hP hD hS (lv_sub hl [0, 1, 2, 3, 4, 5] rfl)
set_option maxHeartbeats 4000000 in
set_option maxRecDepth 100000 in
theorem sX_X0_layRest_1 (l : Launch) (dC : Nat → ClassId) (dI : Nat → Nat → Nat) (cy : Nat → ClassId) (x0 : Nat) (x : Nat → Nat) (p1 : Int32) (p2 : Int32) (v : Nat → Int32) (f : Nat → Nat → Int32) (hIv : XI v)  : ctI l (dC, dI) cy yX0_layRest cX0_layRest 8 .int 6 181 0 0 ((Nat → Int32) × (Nat → Nat → Int32)) [.ref (x 31), .int p1, .int p2] (XW cy x0 x v f) (fun r u => KV [38] u.1 v ∧ KF [13, 14, 20] u.2 f ∧ XI u.1 ∧ u.1 0 = v 0 ∧ u.1 1 = v 1 ∧ u.1 7 = v 7 ∧ u.1 8 = v 8 ∧ u.1 9 = v 9 ∧ u.1 10 = v 10 ∧ u.1 31 = v 31 ∧ u.1 32 = v 32) (fun u => XW cy x0 x u.1 u.2) := by
  refine ctI_of (by decide) (Nat.le_of_ble_eq_true rfl) (fun p e s m below meth c A ls Q hx hb hml hts hown hE hP hD hA hl ret => ?_)
  have hM_v : KV [38] v v := fun _ _ => rfl
  have hA_f : KF [13, 14, 20] f f := fun _ _ => rfl
  have hown : s.vm.findClass RX0 = some m.cls := hown
  have hS : va_S A s.heap s.heap [] := va_S.rf
  have hl : lv_has ls 8 [(0, .ref (x 31)), (1, .int p1), (2, .int p2)] := hl
  refine lv_iconst (v := 0) hx hb dX0_layRest_0 rfl ?_
  refine lv_istore_n (lv' := [(3, .int 0), (0, .ref (x 31)), (1, .int p1), (2, .int p2)]) hx hb dX0_layRest_1 rfl hl (Nat.le_of_ble_eq_true rfl) rfl (fun ls hl => ?_)
  refine lv_iconst (v := 0) hx hb dX0_layRest_2 rfl ?_
  refine lv_istore (lv' := [(4, .int 0), (3, .int 0), (0, .ref (x 31)), (1, .int p1), (2, .int p2)]) hx hb dX0_layRest_3 hl (Nat.le_of_ble_eq_true rfl) rfl (fun ls hl => ?_)
  refine lv_iconst (v := 0) hx hb dX0_layRest_5 rfl ?_
  refine lv_istore (lv' := [(5, .int 0), (4, .int 0), (3, .int 0), (0, .ref (x 31)), (1, .int p1), (2, .int p2)]) hx hb dX0_layRest_6 hl (Nat.le_of_ble_eq_true rfl) rfl (fun ls hl => ?_)
  have lp1 : ∀ (n1 : Nat) (l3_1 : Int32) (l4_1 : Int32) (l5_1 : Int32) (v1 : Nat → Int32) (f1 : Nat → Nat → Int32), XI v1 → v1 0 = (v 0) → v1 1 = (v 1) → v1 7 = (v 7) → v1 8 = (v 8) → v1 9 = (v 9) → v1 10 = (v 10) → v1 31 = (v 31) → v1 32 = (v 32) → ((0 : Int) ≤ l5_1.toInt ∧ l5_1.toInt ≤ 2147483647) → KV [38] v1 v → KF [13, 14, 20] f1 f → (2147483647 - l5_1.toInt).toNat < n1 → ∀ (H : Heap) (locs : List Loc) (ls : Array Slot), va_P (dC, dI) vwCl (XW cy x0 x v1 f1) H → va_D A (XW cy x0 x v1 f1) → va_S A s.heap H locs → lv_has ls 8 [(5, .int l5_1), (4, .int l4_1), (3, .int l3_1), (0, .ref (x 31)), (1, .int p1), (2, .int p2)] → W p l e { frames := 6, cells := 0, slots := 0, locals := 181 } s m ([.ref (x 31), .int p1, .int p2] : List Value).toArray below meth c H locs 0 0 Q (F0 m 8 ls []) := by
    intro n1
    induction n1 with
    | zero => intro l3_1 l4_1 l5_1 v1 f1 hIv1 hq0_v1 hq1_v1 hq7_v1 hq8_v1 hq9_v1 hq10_v1 hq31_v1 hq32_v1 hr5_1 hM_v1 hA_f1 hm; exact absurd hm (Nat.not_lt_zero _)
    | succ n1 ih1 =>
      intro l3_1 l4_1 l5_1 v1 f1 hIv1 hq0_v1 hq1_v1 hq7_v1 hq8_v1 hq9_v1 hq10_v1 hq31_v1 hq32_v1 hr5_1 hM_v1 hA_f1 hm1 H locs ls hP hD hS hl
      refine lv_iload hx hb dX0_layRest_8 (lv_at hl 0 rfl) ?_
      refine lv_aload_n hx hb dX0_layRest_10 rfl (lv_at hl 3 rfl) ?_
      refine va_get (D := (dC, dI)) (ci := 0) (v := .ref (x 26)) (C := RX0) (T := TX0) (N := 8) hx hb hts inB_0 hown hE.1 hP 32 rfl rfl 0 (Nat.le_of_ble_eq_true rfl) (hts _ k_430) (fun _ h9 => h9) rfl dX0_layRest_11 ?_
      refine va_getN (D := (dC, dI)) (ci := 7) (v := .int (v1 32)) (C := RX7) (T := TX7) (N := 10) hx hb hts inB_7 hown hE.1 hP 27 rfl rfl 4 (Nat.le_of_ble_eq_true rfl) (va_Nw.use rfl (hE.2 _ k_222)) (fun _ h9 => h9) rfl dX0_layRest_14 ?_
      refine tI (y := (v 32)) hq32_v1 ?_
      have b32_v : 0 ≤ (v 32).toInt ∧ (v 32).toInt ≤ 6 := Xb_32 hIv
      refine lv_icmp_ge (tgt := 128) hx hb dX0_layRest_17 rfl (fun c2 => ?_) (fun c2 => ?_)
      · skip
        refine lv_iload hx hb dX0_layRest_128 (lv_at hl 1 rfl) ?_
        refine lv_if_eq (tgt := 137) hx hb dX0_layRest_130 rfl (fun c5 => ?_) (fun c5 => ?_)
        · skip
          refine lv_iconst (v := (-1)) hx hb dX0_layRest_137 rfl ?_
          exact ret (-1) (v1, f1) _ _ _ _ _ _ rfl ⟨hM_v1, hA_f1, hIv1, (show v1 0 = v 0 from hq0_v1), (show v1 1 = v 1 from hq1_v1), (show v1 7 = v 7 from hq7_v1), (show v1 8 = v 8 from hq8_v1), (show v1 9 = v 9 from hq9_v1), (show v1 10 = v 10 from hq10_v1), (show v1 31 = v 31 from hq31_v1), (show v1 32 = v 32 from hq32_v1)⟩ hP hD hS dX0_layRest_138 (Nat.le_refl _) (Nat.le_refl _)
        · skip
          refine lv_iload_n hx hb dX0_layRest_133 rfl (lv_at hl 2 rfl) ?_
          refine lv_goto (tgt := 138) hx hb dX0_layRest_134 rfl ?_
          exact ret l3_1 (v1, f1) _ _ _ _ _ _ rfl ⟨hM_v1, hA_f1, hIv1, (show v1 0 = v 0 from hq0_v1), (show v1 1 = v 1 from hq1_v1), (show v1 7 = v 7 from hq7_v1), (show v1 8 = v 8 from hq8_v1), (show v1 9 = v 9 from hq9_v1), (show v1 10 = v 10 from hq10_v1), (show v1 31 = v 31 from hq31_v1), (show v1 32 = v 32 from hq32_v1)⟩ hP hD hS dX0_layRest_138 (Nat.le_refl _) (Nat.le_refl _)
      · skip
        have zc2 : ¬ ((v 32).toInt ≤ l5_1.toInt) := zMn rfl rfl c2
        refine lv_iconst (v := 0) hx hb dX0_layRest_20 rfl ?_
        refine lv_istore (lv' := [(6, .int 0), (5, .int l5_1), (4, .int l4_1), (3, .int l3_1), (0, .ref (x 31)), (1, .int p1), (2, .int p2)]) hx hb dX0_layRest_21 hl (Nat.le_of_ble_eq_true rfl) rfl (fun ls hl => ?_)
        have lp8 : ∀ (n8 : Nat) (l3_8 : Int32) (l4_8 : Int32) (l6_8 : Int32) (v8 : Nat → Int32) (f8 : Nat → Nat → Int32), XI v8 → v8 0 = (v 0) → v8 1 = (v 1) → v8 7 = (v 7) → v8 8 = (v 8) → v8 9 = (v 9) → v8 10 = (v 10) → v8 31 = (v 31) → v8 32 = (v 32) → ((0 : Int) ≤ l6_8.toInt ∧ l6_8.toInt ≤ 2147483647) → KV [38] v8 v → KF [13, 14, 20] f8 f → (2147483647 - l6_8.toInt).toNat < n8 → ∀ (H : Heap) (locs : List Loc) (ls : Array Slot), va_P (dC, dI) vwCl (XW cy x0 x v8 f8) H → va_D A (XW cy x0 x v8 f8) → va_S A s.heap H locs → lv_has ls 8 [(6, .int l6_8), (5, .int l5_1), (4, .int l4_8), (3, .int l3_8), (0, .ref (x 31)), (1, .int p1), (2, .int p2)] → W p l e { frames := 6, cells := 0, slots := 0, locals := 181 } s m ([.ref (x 31), .int p1, .int p2] : List Value).toArray below meth c H locs 0 0 Q (F0 m 23 ls []) := by
          intro n8
          induction n8 with
          | zero => intro l3_8 l4_8 l6_8 v8 f8 hIv8 hq0_v8 hq1_v8 hq7_v8 hq8_v8 hq9_v8 hq10_v8 hq31_v8 hq32_v8 hr6_8 hM_v8 hA_f8 hm; exact absurd hm (Nat.not_lt_zero _)
          | succ n8 ih8 =>
            intro l3_8 l4_8 l6_8 v8 f8 hIv8 hq0_v8 hq1_v8 hq7_v8 hq8_v8 hq9_v8 hq10_v8 hq31_v8 hq32_v8 hr6_8 hM_v8 hA_f8 hm8 H locs ls hP hD hS hl
            refine lv_iload hx hb dX0_layRest_23 (lv_at hl 0 rfl) ?_
            refine lv_aload_n hx hb dX0_layRest_25 rfl (lv_at hl 4 rfl) ?_
            refine va_get (D := (dC, dI)) (ci := 0) (v := .ref (x 26)) (C := RX0) (T := TX0) (N := 8) hx hb hts inB_0 hown hE.1 hP 32 rfl rfl 0 (Nat.le_of_ble_eq_true rfl) (hts _ k_430) (fun _ h9 => h9) rfl dX0_layRest_26 ?_
            refine va_getN (D := (dC, dI)) (ci := 7) (v := .int (v8 32)) (C := RX7) (T := TX7) (N := 10) hx hb hts inB_7 hown hE.1 hP 27 rfl rfl 4 (Nat.le_of_ble_eq_true rfl) (va_Nw.use rfl (hE.2 _ k_222)) (fun _ h9 => h9) rfl dX0_layRest_29 ?_
            refine tI (y := (v 32)) hq32_v8 ?_
            have b32_v : 0 ≤ (v 32).toInt ∧ (v 32).toInt ≤ 6 := Xb_32 hIv
            refine lv_icmp_ge (tgt := 122) hx hb dX0_layRest_32 rfl (fun c9 => ?_) (fun c9 => ?_)
            · skip
              obtain ⟨t11, et11⟩ : ∃ y : Int32, y = l5_1 + 1 := ⟨_, rfl⟩
              have zt11 : t11.toInt = l5_1.toInt + 1 := (congrArg Int32.toInt et11).trans (add_i rfl tc_1 (om_41 hr5_1) (om_258 zc2 b32_v))
              refine lv_iinc (v := t11) (lv' := [(5, .int t11), (6, .int l6_8), (4, .int l4_8), (3, .int l3_8), (0, .ref (x 31)), (1, .int p1), (2, .int p2)]) hx hb dX0_layRest_122 hl (k := 1) rfl et11.symm (Nat.le_of_ble_eq_true rfl) rfl (fun ls hl => ?_)
              refine lv_goto (tgt := 8) hx hb dX0_layRest_125 rfl ?_
              have rg12 := fb_rng t11
              exact ih1 l3_8 l4_8 t11 v8 f8 hIv8 hq0_v8 hq1_v8 hq7_v8 hq8_v8 hq9_v8 hq10_v8 hq31_v8 hq32_v8 ⟨show (0 : Int) ≤ t11.toInt from om_43 hr5_1 zt11, show t11.toInt ≤ (2147483647 : Int) from om_44 rg12⟩ hM_v8 hA_f8 (show (2147483647 - t11.toInt).toNat < n1 from om_33 hm1 zt11 rg12) _ _ _ hP hD hS (lv_sub hl [0, 2, 3, 4, 5, 6] rfl)
            · skip
              have zc9 : ¬ ((v 32).toInt ≤ l6_8.toInt) := zMn rfl rfl c9
              refine lv_aload_n hx hb dX0_layRest_35 rfl (lv_at hl 4 rfl) ?_
              refine lv_iload hx hb dX0_layRest_36 (lv_at hl 1 rfl) ?_
              refine cbVi (n := 1) (rest := []) hx hb hml hown hts hE hP hD hS hA (sX_X0_isFree_1 l dC dI cy x0 x l5_1 v8 f8 hIv8 ) k_1137 k_1139 k_35 k_111 k_1140 hd_yX0_isFree ⟨Nat.le_of_ble_eq_true rfl, Nat.le_of_ble_eq_true rfl⟩ 32 0 rfl rfl (rfl) hl.1 rfl (Nat.le_of_ble_eq_true rfl) dX0_layRest_38 (fun r14 u H locs hw hP hD hS => ?_)
              rcases hw with ⟨g15⟩ | ⟨g15⟩
              · skip
                subst g15
                refine lv_if_eq (tgt := 57) hx hb dX0_layRest_41 rfl (fun c0 => absurd c0 (by decide)) (fun _ => ?_)
                refine lv_aload_n hx hb dX0_layRest_44 rfl (lv_at hl 4 rfl) ?_
                refine lv_iload hx hb dX0_layRest_45 (lv_at hl 0 rfl) ?_
                refine cbVi (n := 1) (rest := []) hx hb hml hown hts hE hP hD hS hA (sX_X0_isFree_1 l dC dI cy x0 x l6_8 v8 f8 hIv8 ) k_1137 k_1139 k_35 k_111 k_1140 hd_yX0_isFree ⟨Nat.le_of_ble_eq_true rfl, Nat.le_of_ble_eq_true rfl⟩ 32 0 rfl rfl (rfl) hl.1 rfl (Nat.le_of_ble_eq_true rfl) dX0_layRest_47 (fun r16 u H locs hw hP hD hS => ?_)
                rcases hw with ⟨g17⟩ | ⟨g17⟩
                · skip
                  subst g17
                  refine lv_if_eq (tgt := 57) hx hb dX0_layRest_50 rfl (fun c0 => absurd c0 (by decide)) (fun _ => ?_)
                  refine lv_iconst (v := 1) hx hb dX0_layRest_53 rfl ?_
                  refine lv_goto (tgt := 58) hx hb dX0_layRest_54 rfl ?_
                  refine lv_istore (lv' := [(7, .int 1), (6, .int l6_8), (5, .int l5_1), (4, .int l4_8), (3, .int l3_8), (0, .ref (x 31)), (1, .int p1), (2, .int p2)]) hx hb dX0_layRest_58 hl (Nat.le_of_ble_eq_true rfl) rfl (fun ls hl => ?_)
                  refine lv_iload hx hb dX0_layRest_60 (lv_at hl 3 rfl) ?_
                  refine lv_iload hx hb dX0_layRest_62 (lv_at hl 0 rfl) ?_
                  refine lv_ior hx hb dX0_layRest_64 ?_
                  refine lv_topi (fun t18 et18 => ?_)
                  refine lv_istore (lv' := [(4, .int t18), (7, .int 1), (6, .int l6_8), (5, .int l5_1), (3, .int l3_8), (0, .ref (x 31)), (1, .int p1), (2, .int p2)]) hx hb dX0_layRest_65 hl (Nat.le_of_ble_eq_true rfl) rfl (fun ls hl => ?_)
                  refine lv_iload hx hb dX0_layRest_67 (lv_at hl 1 rfl) ?_
                  refine lv_if_eq (tgt := 116) hx hb dX0_layRest_69 rfl (fun c0 => absurd c0 (by decide)) (fun _ => ?_)
                  refine lv_aload_n hx hb dX0_layRest_72 rfl (lv_at hl 5 rfl) ?_
                  refine lv_iload_n hx hb dX0_layRest_73 rfl (lv_at hl 6 rfl) ?_
                  refine lv_iload hx hb dX0_layRest_74 (lv_at hl 3 rfl) ?_
                  refine lv_iload hx hb dX0_layRest_76 (lv_at hl 2 rfl) ?_
                  refine cbVi (n := 3) (rest := []) hx hb hml hown hts hE hP hD hS hA (sX_X0_isContent_1 l dC dI cy x0 x p1 l5_1 l6_8 v8 f8 hIv8 ) k_1142 k_1144 k_36 k_111 k_1145 hd_yX0_isContent ⟨Nat.le_of_ble_eq_true rfl, Nat.le_of_ble_eq_true rfl⟩ 32 0 rfl rfl (rfl) hl.1 rfl (Nat.le_of_ble_eq_true rfl) dX0_layRest_78 (fun r19 u H locs hw hP hD hS => ?_)
                  obtain ⟨v20, f21⟩ := u
                  obtain ⟨kV_v20, kF_f21, hIv20, hk0_v20, hk1_v20, hk7_v20, hk8_v20, hk9_v20, hk10_v20, hk31_v20, hk32_v20, hw⟩ := hw
                  have hM_v20 : KV [38] v20 v := KV.tr kV_v20 hM_v8 rfl
                  have hA_f21 : KF [13, 14, 20] f21 f := KF.tr kF_f21 hA_f8 rfl
                  have hP : va_P (dC, dI) vwCl (XW cy x0 x v20 f21) H := hP
                  have hD : va_D A (XW cy x0 x v20 f21) := hD
                  have hq0_v20 : v20 0 = (v 0) := hk0_v20.trans hq0_v8
                  have hq1_v20 : v20 1 = (v 1) := hk1_v20.trans hq1_v8
                  have hq7_v20 : v20 7 = (v 7) := hk7_v20.trans hq7_v8
                  have hq8_v20 : v20 8 = (v 8) := hk8_v20.trans hq8_v8
                  have hq9_v20 : v20 9 = (v 9) := hk9_v20.trans hq9_v8
                  have hq10_v20 : v20 10 = (v 10) := hk10_v20.trans hq10_v8
                  have hq31_v20 : v20 31 = (v 31) := hk31_v20.trans hq31_v8
                  have hq32_v20 : v20 32 = (v 32) := hk32_v20.trans hq32_v8
                  rcases hw with ⟨g22⟩ | ⟨g22⟩
                  · skip
                    subst g22
                    refine lv_if_eq (tgt := 116) hx hb dX0_layRest_81 rfl (fun c0 => absurd c0 (by decide)) (fun _ => ?_)
                    refine lv_aload_n hx hb dX0_layRest_84 rfl (lv_at hl 5 rfl) ?_
                    refine lv_iload_n hx hb dX0_layRest_85 rfl (lv_at hl 7 rfl) ?_
                    refine lv_iload hx hb dX0_layRest_86 (lv_at hl 2 rfl) ?_
                    refine lv_iload hx hb dX0_layRest_88 (lv_at hl 3 rfl) ?_
                    refine cbVi (n := 3) (rest := []) hx hb hml hown hts hE hP hD hS hA (sX_X0_isContent_1 l dC dI cy x0 x p2 l6_8 l5_1 v20 f21 hIv20 ) k_1142 k_1144 k_36 k_111 k_1145 hd_yX0_isContent ⟨Nat.le_of_ble_eq_true rfl, Nat.le_of_ble_eq_true rfl⟩ 32 0 rfl rfl (rfl) hl.1 rfl (Nat.le_of_ble_eq_true rfl) dX0_layRest_90 (fun r23 u H locs hw hP hD hS => ?_)
                    obtain ⟨v24, f25⟩ := u
                    obtain ⟨kV_v24, kF_f25, hIv24, hk0_v24, hk1_v24, hk7_v24, hk8_v24, hk9_v24, hk10_v24, hk31_v24, hk32_v24, hw⟩ := hw
                    have hM_v24 : KV [38] v24 v := KV.tr kV_v24 hM_v20 rfl
                    have hA_f25 : KF [13, 14, 20] f25 f := KF.tr kF_f25 hA_f21 rfl
                    have hP : va_P (dC, dI) vwCl (XW cy x0 x v24 f25) H := hP
                    have hD : va_D A (XW cy x0 x v24 f25) := hD
                    have hq0_v24 : v24 0 = (v 0) := hk0_v24.trans hq0_v20
                    have hq1_v24 : v24 1 = (v 1) := hk1_v24.trans hq1_v20
                    have hq7_v24 : v24 7 = (v 7) := hk7_v24.trans hq7_v20
                    have hq8_v24 : v24 8 = (v 8) := hk8_v24.trans hq8_v20
                    have hq9_v24 : v24 9 = (v 9) := hk9_v24.trans hq9_v20
                    have hq10_v24 : v24 10 = (v 10) := hk10_v24.trans hq10_v20
                    have hq31_v24 : v24 31 = (v 31) := hk31_v24.trans hq31_v20
                    have hq32_v24 : v24 32 = (v 32) := hk32_v24.trans hq32_v20
                    rcases hw with ⟨g26⟩ | ⟨g26⟩
                    · skip
                      subst g26
                      refine lv_if_eq (tgt := 116) hx hb dX0_layRest_93 rfl (fun c0 => absurd c0 (by decide)) (fun _ => ?_)
                      obtain ⟨t27, et27⟩ : ∃ y : Int32, y = l3_8 + 1 := ⟨_, rfl⟩
                      refine lv_iinc (v := t27) (lv' := [(3, .int t27), (4, .int t18), (7, .int 1), (6, .int l6_8), (5, .int l5_1), (0, .ref (x 31)), (1, .int p1), (2, .int p2)]) hx hb dX0_layRest_96 hl (k := 4) rfl et27.symm (Nat.le_of_ble_eq_true rfl) rfl (fun ls hl => ?_)
                      refine lv_iload_n hx hb dX0_layRest_99 rfl (lv_at hl 0 rfl) ?_
                      refine lv_iconst (v := 1) hx hb dX0_layRest_100 rfl ?_
                      refine lv_icmp_ne (tgt := 116) hx hb dX0_layRest_101 rfl (fun c28 => ?_) (fun c28 => ?_)
                      · skip
                        obtain ⟨t29, et29⟩ : ∃ y : Int32, y = l6_8 + 1 := ⟨_, rfl⟩
                        have zt29 : t29.toInt = l6_8.toInt + 1 := (congrArg Int32.toInt et29).trans (add_i rfl tc_1 (om_41 hr6_8) (om_187 b32_v zc9))
                        refine lv_iinc (v := t29) (lv' := [(6, .int t29), (3, .int t27), (4, .int t18), (7, .int 1), (5, .int l5_1), (0, .ref (x 31)), (1, .int p1), (2, .int p2)]) hx hb dX0_layRest_116 hl (k := 3) rfl et29.symm (Nat.le_of_ble_eq_true rfl) rfl (fun ls hl => ?_)
                        refine lv_goto (tgt := 23) hx hb dX0_layRest_119 rfl ?_
                        have rg30 := fb_rng t29
                        exact ih8 t27 t18 t29 v24 f25 hIv24 hq0_v24 hq1_v24 hq7_v24 hq8_v24 hq9_v24 hq10_v24 hq31_v24 hq32_v24 ⟨show (0 : Int) ≤ t29.toInt from om_43 hr6_8 zt29, show t29.toInt ≤ (2147483647 : Int) from om_44 rg30⟩ hM_v24 hA_f25 (show (2147483647 - t29.toInt).toNat < n8 from om_33 hm8 zt29 rg30) _ _ _ hP hD hS (lv_sub hl [0, 4, 2, 1, 5, 6, 7] rfl)
                      · skip
                        refine lv_aload_n hx hb dX0_layRest_104 rfl (lv_at hl 5 rfl) ?_
                        refine lv_iload hx hb dX0_layRest_105 (lv_at hl 4 rfl) ?_
                        refine cbVv (n := 1) (rest := []) hx hb hml hown hts hE hP hD hS hA (sX_X0_lay_1 l dC dI cy x0 x l5_1 v24 f25 hIv24 ) k_995 k_997 k_26 k_111 k_998 hd_yX0_lay ⟨Nat.le_of_ble_eq_true rfl, Nat.le_of_ble_eq_true rfl⟩ 32 0 rfl rfl (rfl) hl.1 rfl (Nat.le_of_ble_eq_true rfl) dX0_layRest_107 (fun u H locs hw hP hD hS => ?_)
                        obtain ⟨v31, f32⟩ := u
                        obtain ⟨kV_v31, kF_f32, hIv31, hk0_v31, hk1_v31, hk7_v31, hk8_v31, hk9_v31, hk10_v31, hk31_v31, hk32_v31⟩ := hw
                        have hM_v31 : KV [38] v31 v := KV.tr kV_v31 hM_v24 rfl
                        have hA_f32 : KF [13, 14, 20] f32 f := KF.tr kF_f32 hA_f25 rfl
                        have hP : va_P (dC, dI) vwCl (XW cy x0 x v31 f32) H := hP
                        have hD : va_D A (XW cy x0 x v31 f32) := hD
                        have hq0_v31 : v31 0 = (v 0) := hk0_v31.trans hq0_v24
                        have hq1_v31 : v31 1 = (v 1) := hk1_v31.trans hq1_v24
                        have hq7_v31 : v31 7 = (v 7) := hk7_v31.trans hq7_v24
                        have hq8_v31 : v31 8 = (v 8) := hk8_v31.trans hq8_v24
                        have hq9_v31 : v31 9 = (v 9) := hk9_v31.trans hq9_v24
                        have hq10_v31 : v31 10 = (v 10) := hk10_v31.trans hq10_v24
                        have hq31_v31 : v31 31 = (v 31) := hk31_v31.trans hq31_v24
                        have hq32_v31 : v31 32 = (v 32) := hk32_v31.trans hq32_v24
                        refine lv_aload_n hx hb dX0_layRest_110 rfl (lv_at hl 5 rfl) ?_
                        refine lv_iload hx hb dX0_layRest_111 (lv_at hl 3 rfl) ?_
                        refine cbVv (n := 1) (rest := []) hx hb hml hown hts hE hP hD hS hA (sX_X0_lay_1 l dC dI cy x0 x l6_8 v31 f32 hIv31 ) k_995 k_997 k_26 k_111 k_998 hd_yX0_lay ⟨Nat.le_of_ble_eq_true rfl, Nat.le_of_ble_eq_true rfl⟩ 32 0 rfl rfl (rfl) hl.1 rfl (Nat.le_of_ble_eq_true rfl) dX0_layRest_113 (fun u H locs hw hP hD hS => ?_)
                        obtain ⟨v33, f34⟩ := u
                        obtain ⟨kV_v33, kF_f34, hIv33, hk0_v33, hk1_v33, hk7_v33, hk8_v33, hk9_v33, hk10_v33, hk31_v33, hk32_v33⟩ := hw
                        have hM_v33 : KV [38] v33 v := KV.tr kV_v33 hM_v31 rfl
                        have hA_f34 : KF [13, 14, 20] f34 f := KF.tr kF_f34 hA_f32 rfl
                        have hP : va_P (dC, dI) vwCl (XW cy x0 x v33 f34) H := hP
                        have hD : va_D A (XW cy x0 x v33 f34) := hD
                        have hq0_v33 : v33 0 = (v 0) := hk0_v33.trans hq0_v31
                        have hq1_v33 : v33 1 = (v 1) := hk1_v33.trans hq1_v31
                        have hq7_v33 : v33 7 = (v 7) := hk7_v33.trans hq7_v31
                        have hq8_v33 : v33 8 = (v 8) := hk8_v33.trans hq8_v31
                        have hq9_v33 : v33 9 = (v 9) := hk9_v33.trans hq9_v31
                        have hq10_v33 : v33 10 = (v 10) := hk10_v33.trans hq10_v31
                        have hq31_v33 : v33 31 = (v 31) := hk31_v33.trans hq31_v31
                        have hq32_v33 : v33 32 = (v 32) := hk32_v33.trans hq32_v31
                        obtain ⟨t35, et35⟩ : ∃ y : Int32, y = l6_8 + 1 := ⟨_, rfl⟩
                        have zt35 : t35.toInt = l6_8.toInt + 1 := (congrArg Int32.toInt et35).trans (add_i rfl tc_1 (om_41 hr6_8) (om_187 b32_v zc9))
                        refine lv_iinc (v := t35) (lv' := [(6, .int t35), (3, .int t27), (4, .int t18), (7, .int 1), (5, .int l5_1), (0, .ref (x 31)), (1, .int p1), (2, .int p2)]) hx hb dX0_layRest_116 hl (k := 3) rfl et35.symm (Nat.le_of_ble_eq_true rfl) rfl (fun ls hl => ?_)
                        refine lv_goto (tgt := 23) hx hb dX0_layRest_119 rfl ?_
                        have rg36 := fb_rng t35
                        exact ih8 t27 t18 t35 v33 f34 hIv33 hq0_v33 hq1_v33 hq7_v33 hq8_v33 hq9_v33 hq10_v33 hq31_v33 hq32_v33 ⟨show (0 : Int) ≤ t35.toInt from om_43 hr6_8 zt35, show t35.toInt ≤ (2147483647 : Int) from om_44 rg36⟩ hM_v33 hA_f34 (show (2147483647 - t35.toInt).toNat < n8 from om_33 hm8 zt35 rg36) _ _ _ hP hD hS (lv_sub hl [0, 4, 2, 1, 5, 6, 7] rfl)
                    · skip
                      subst g26
                      refine lv_if_eq (tgt := 116) hx hb dX0_layRest_93 rfl (fun _ => ?_) (fun c0 => absurd (by decide) c0)
                      obtain ⟨t37, et37⟩ : ∃ y : Int32, y = l6_8 + 1 := ⟨_, rfl⟩
                      have zt37 : t37.toInt = l6_8.toInt + 1 := (congrArg Int32.toInt et37).trans (add_i rfl tc_1 (om_41 hr6_8) (om_187 b32_v zc9))
                      refine lv_iinc (v := t37) (lv' := [(6, .int t37), (4, .int t18), (7, .int 1), (5, .int l5_1), (3, .int l3_8), (0, .ref (x 31)), (1, .int p1), (2, .int p2)]) hx hb dX0_layRest_116 hl (k := 2) rfl et37.symm (Nat.le_of_ble_eq_true rfl) rfl (fun ls hl => ?_)
                      refine lv_goto (tgt := 23) hx hb dX0_layRest_119 rfl ?_
                      have rg38 := fb_rng t37
                      exact ih8 l3_8 t18 t37 v24 f25 hIv24 hq0_v24 hq1_v24 hq7_v24 hq8_v24 hq9_v24 hq10_v24 hq31_v24 hq32_v24 ⟨show (0 : Int) ≤ t37.toInt from om_43 hr6_8 zt37, show t37.toInt ≤ (2147483647 : Int) from om_44 rg38⟩ hM_v24 hA_f25 (show (2147483647 - t37.toInt).toNat < n8 from om_33 hm8 zt37 rg38) _ _ _ hP hD hS (lv_sub hl [0, 3, 1, 4, 5, 6, 7] rfl)
                  · skip
                    subst g22
                    refine lv_if_eq (tgt := 116) hx hb dX0_layRest_81 rfl (fun _ => ?_) (fun c0 => absurd (by decide) c0)
                    obtain ⟨t39, et39⟩ : ∃ y : Int32, y = l6_8 + 1 := ⟨_, rfl⟩
                    have zt39 : t39.toInt = l6_8.toInt + 1 := (congrArg Int32.toInt et39).trans (add_i rfl tc_1 (om_41 hr6_8) (om_187 b32_v zc9))
                    refine lv_iinc (v := t39) (lv' := [(6, .int t39), (4, .int t18), (7, .int 1), (5, .int l5_1), (3, .int l3_8), (0, .ref (x 31)), (1, .int p1), (2, .int p2)]) hx hb dX0_layRest_116 hl (k := 2) rfl et39.symm (Nat.le_of_ble_eq_true rfl) rfl (fun ls hl => ?_)
                    refine lv_goto (tgt := 23) hx hb dX0_layRest_119 rfl ?_
                    have rg40 := fb_rng t39
                    exact ih8 l3_8 t18 t39 v20 f21 hIv20 hq0_v20 hq1_v20 hq7_v20 hq8_v20 hq9_v20 hq10_v20 hq31_v20 hq32_v20 ⟨show (0 : Int) ≤ t39.toInt from om_43 hr6_8 zt39, show t39.toInt ≤ (2147483647 : Int) from om_44 rg40⟩ hM_v20 hA_f21 (show (2147483647 - t39.toInt).toNat < n8 from om_33 hm8 zt39 rg40) _ _ _ hP hD hS (lv_sub hl [0, 3, 1, 4, 5, 6, 7] rfl)
                · skip
                  subst g17
                  refine lv_if_eq (tgt := 57) hx hb dX0_layRest_50 rfl (fun _ => ?_) (fun c0 => absurd (by decide) c0)
                  refine lv_iconst (v := 0) hx hb dX0_layRest_57 rfl ?_
                  refine lv_istore (lv' := [(7, .int 0), (6, .int l6_8), (5, .int l5_1), (4, .int l4_8), (3, .int l3_8), (0, .ref (x 31)), (1, .int p1), (2, .int p2)]) hx hb dX0_layRest_58 hl (Nat.le_of_ble_eq_true rfl) rfl (fun ls hl => ?_)
                  refine lv_iload hx hb dX0_layRest_60 (lv_at hl 3 rfl) ?_
                  refine lv_iload hx hb dX0_layRest_62 (lv_at hl 0 rfl) ?_
                  refine lv_ior hx hb dX0_layRest_64 ?_
                  refine lv_topi (fun t41 et41 => ?_)
                  refine lv_istore (lv' := [(4, .int t41), (7, .int 0), (6, .int l6_8), (5, .int l5_1), (3, .int l3_8), (0, .ref (x 31)), (1, .int p1), (2, .int p2)]) hx hb dX0_layRest_65 hl (Nat.le_of_ble_eq_true rfl) rfl (fun ls hl => ?_)
                  refine lv_iload hx hb dX0_layRest_67 (lv_at hl 1 rfl) ?_
                  refine lv_if_eq (tgt := 116) hx hb dX0_layRest_69 rfl (fun _ => ?_) (fun c0 => absurd (by decide) c0)
                  obtain ⟨t42, et42⟩ : ∃ y : Int32, y = l6_8 + 1 := ⟨_, rfl⟩
                  have zt42 : t42.toInt = l6_8.toInt + 1 := (congrArg Int32.toInt et42).trans (add_i rfl tc_1 (om_41 hr6_8) (om_187 b32_v zc9))
                  refine lv_iinc (v := t42) (lv' := [(6, .int t42), (4, .int t41), (7, .int 0), (5, .int l5_1), (3, .int l3_8), (0, .ref (x 31)), (1, .int p1), (2, .int p2)]) hx hb dX0_layRest_116 hl (k := 2) rfl et42.symm (Nat.le_of_ble_eq_true rfl) rfl (fun ls hl => ?_)
                  refine lv_goto (tgt := 23) hx hb dX0_layRest_119 rfl ?_
                  have rg43 := fb_rng t42
                  exact ih8 l3_8 t41 t42 v8 f8 hIv8 hq0_v8 hq1_v8 hq7_v8 hq8_v8 hq9_v8 hq10_v8 hq31_v8 hq32_v8 ⟨show (0 : Int) ≤ t42.toInt from om_43 hr6_8 zt42, show t42.toInt ≤ (2147483647 : Int) from om_44 rg43⟩ hM_v8 hA_f8 (show (2147483647 - t42.toInt).toNat < n8 from om_33 hm8 zt42 rg43) _ _ _ hP hD hS (lv_sub hl [0, 3, 1, 4, 5, 6, 7] rfl)
              · skip
                subst g15
                refine lv_if_eq (tgt := 57) hx hb dX0_layRest_41 rfl (fun _ => ?_) (fun c0 => absurd (by decide) c0)
                refine lv_iconst (v := 0) hx hb dX0_layRest_57 rfl ?_
                refine lv_istore (lv' := [(7, .int 0), (6, .int l6_8), (5, .int l5_1), (4, .int l4_8), (3, .int l3_8), (0, .ref (x 31)), (1, .int p1), (2, .int p2)]) hx hb dX0_layRest_58 hl (Nat.le_of_ble_eq_true rfl) rfl (fun ls hl => ?_)
                refine lv_iload hx hb dX0_layRest_60 (lv_at hl 3 rfl) ?_
                refine lv_iload hx hb dX0_layRest_62 (lv_at hl 0 rfl) ?_
                refine lv_ior hx hb dX0_layRest_64 ?_
                refine lv_topi (fun t44 et44 => ?_)
                refine lv_istore (lv' := [(4, .int t44), (7, .int 0), (6, .int l6_8), (5, .int l5_1), (3, .int l3_8), (0, .ref (x 31)), (1, .int p1), (2, .int p2)]) hx hb dX0_layRest_65 hl (Nat.le_of_ble_eq_true rfl) rfl (fun ls hl => ?_)
                refine lv_iload hx hb dX0_layRest_67 (lv_at hl 1 rfl) ?_
                refine lv_if_eq (tgt := 116) hx hb dX0_layRest_69 rfl (fun _ => ?_) (fun c0 => absurd (by decide) c0)
                obtain ⟨t45, et45⟩ : ∃ y : Int32, y = l6_8 + 1 := ⟨_, rfl⟩
                have zt45 : t45.toInt = l6_8.toInt + 1 := (congrArg Int32.toInt et45).trans (add_i rfl tc_1 (om_41 hr6_8) (om_187 b32_v zc9))
                refine lv_iinc (v := t45) (lv' := [(6, .int t45), (4, .int t44), (7, .int 0), (5, .int l5_1), (3, .int l3_8), (0, .ref (x 31)), (1, .int p1), (2, .int p2)]) hx hb dX0_layRest_116 hl (k := 2) rfl et45.symm (Nat.le_of_ble_eq_true rfl) rfl (fun ls hl => ?_)
                refine lv_goto (tgt := 23) hx hb dX0_layRest_119 rfl ?_
                have rg46 := fb_rng t45
                exact ih8 l3_8 t44 t45 v8 f8 hIv8 hq0_v8 hq1_v8 hq7_v8 hq8_v8 hq9_v8 hq10_v8 hq31_v8 hq32_v8 ⟨show (0 : Int) ≤ t45.toInt from om_43 hr6_8 zt45, show t45.toInt ≤ (2147483647 : Int) from om_44 rg46⟩ hM_v8 hA_f8 (show (2147483647 - t45.toInt).toNat < n8 from om_33 hm8 zt45 rg46) _ _ _ hP hD hS (lv_sub hl [0, 3, 1, 4, 5, 6, 7] rfl)
        exact lp8 _ l3_1 l4_1 0 v1 f1 hIv1 hq0_v1 hq1_v1 hq7_v1 hq8_v1 hq9_v1 hq10_v1 hq31_v1 hq32_v1 ⟨by decide, by decide⟩ hM_v1 hA_f1 (Nat.lt_succ_self _) _ _ _ hP hD hS (lv_sub hl [0, 1, 2, 3, 4, 5, 6] rfl)
  exact lp1 _ 0 0 0 v f hIv rfl rfl rfl rfl rfl rfl rfl rfl ⟨by decide, by decide⟩ hM_v hA_f (Nat.lt_succ_self _) _ _ _ hP hD hS (lv_sub hl [0, 1, 2, 3, 4, 5] rfl)
set_option maxHeartbeats 4000000 in
set_option maxRecDepth 100000 in
theorem sX_X10_reach_1 (l : Launch) (dC : Nat → ClassId) (dI : Nat → Nat → Nat) (cy : Nat → ClassId) (x0 : Nat) (x : Nat → Nat) (p1 : Int32) (p2 : Int32) (v : Nat → Int32) (f : Nat → Nat → Int32) (hIv : XI v)  : ctI l (dC, dI) cy yX10_reach cX10_reach 3 .int 7 208 0 0 ((Nat → Int32) × (Nat → Nat → Int32)) [.ref x0, .int p1, .int p2] (XW cy x0 x v f) (fun r u => KV [38] u.1 v ∧ KF [13, 14, 20] u.2 f ∧ XI u.1 ∧ u.1 0 = v 0 ∧ u.1 1 = v 1 ∧ u.1 7 = v 7 ∧ u.1 8 = v 8 ∧ u.1 9 = v 9 ∧ u.1 10 = v 10 ∧ u.1 31 = v 31 ∧ u.1 32 = v 32) (fun u => XW cy x0 x u.1 u.2) := by
  refine ctI_of (by decide) (Nat.le_of_ble_eq_true rfl) (fun p e s m below meth c A ls Q hx hb hml hts hown hE hP hD hA hl ret => ?_)
  have hM_v : KV [38] v v := fun _ _ => rfl
  have hA_f : KF [13, 14, 20] f f := fun _ _ => rfl
  have hown : s.vm.findClass RX10 = some m.cls := hown
  have hS : va_S A s.heap s.heap [] := va_S.rf
  have hl : lv_has ls 3 [(0, .ref x0), (1, .int p1), (2, .int p2)] := hl
  refine lv_aload_n hx hb dX10_reach_0 rfl (lv_at hl 0 rfl) ?_
  refine va_get (D := (dC, dI)) (ci := 10) (v := .ref (x 31)) (C := RX10) (T := TX10) (N := 10) hx hb hts inB_10 hown hE.1 hP 0 rfl rfl 7 (Nat.le_of_ble_eq_true rfl) (hts _ k_498) (fun _ h9 => h9) rfl dX10_reach_1 ?_
  refine cbVv (n := 0) (rest := []) hx hb hml hown hts hE hP hD hS hA (sX_X0_clear_1 0 l dC dI cy x0 x  v f hIv ) k_786 k_787 k_788 k_111 k_789 hd_yX0_clear ⟨Nat.le_of_ble_eq_true rfl, Nat.le_of_ble_eq_true rfl⟩ 32 0 rfl rfl (rfl) hl.1 rfl (Nat.le_of_ble_eq_true rfl) dX10_reach_4 (fun u H locs hw hP hD hS => ?_)
  obtain ⟨hG1, hw⟩ := hw
  obtain ⟨v2, f3⟩ := u
  obtain ⟨kV_v2, kF_f3, hIv2, hk0_v2, hk1_v2, hk7_v2, hk8_v2, hk9_v2, hk10_v2, hk31_v2, hk32_v2⟩ := hw
  have hM_v2 : KV [38] v2 v := KV.tr kV_v2 hM_v rfl
  have hA_f3 : KF [13, 14, 20] f3 f := KF.tr kF_f3 hA_f rfl
  have hP : va_P (dC, dI) vwCl (XW cy x0 x v2 f3) H := hP
  have hD : va_D A (XW cy x0 x v2 f3) := hD
  refine lv_iload_n hx hb dX10_reach_7 rfl (lv_at hl 1 rfl) ?_
  refine lv_iload_n hx hb dX10_reach_8 rfl (lv_at hl 2 rfl) ?_
  refine lv_icmp_eq (tgt := 34) hx hb dX10_reach_9 rfl (fun c4 => ?_) (fun c4 => ?_)
  · skip
    refine lv_iconst (v := (-1)) hx hb dX10_reach_34 rfl ?_
    exact ret (-1) (v2, f3) _ _ _ _ _ _ rfl ⟨hM_v2, hA_f3, hIv2, hk0_v2, hk1_v2, hk7_v2, hk8_v2, hk9_v2, hk10_v2, hk31_v2, hk32_v2⟩ hP hD hS dX10_reach_35 (Nat.le_refl _) (Nat.le_refl _)
  · skip
    refine lv_aload_n hx hb dX10_reach_12 rfl (lv_at hl 0 rfl) ?_
    refine va_get (D := (dC, dI)) (ci := 10) (v := .ref (x 26)) (C := RX10) (T := TX10) (N := 10) hx hb hts inB_10 hown hE.1 hP 0 rfl rfl 2 (Nat.le_of_ble_eq_true rfl) (hts _ k_493) (fun _ h9 => h9) rfl dX10_reach_13 ?_
    refine lv_iload_n hx hb dX10_reach_16 rfl (lv_at hl 1 rfl) ?_
    refine cbVi (n := 1) (rest := []) hx hb hml hown hts hE hP hD hS hA (sX_X7_hasMan_1 0 l dC dI cy x0 x p1 v2 f3 hIv2 ) k_802 k_307 k_308 k_104 k_309 hd_yX7_hasMan ⟨Nat.le_of_ble_eq_true rfl, Nat.le_of_ble_eq_true rfl⟩ 27 7 rfl rfl (rfl) hl.1 rfl (Nat.le_of_ble_eq_true rfl) dX10_reach_17 (fun r9 u H locs hw hP hD hS => ?_)
    obtain ⟨hG10, hw⟩ := hw
    rcases hw with ⟨g11, g11_0, g11_1, g11_2⟩ | ⟨g11⟩
    · skip
      subst g11
      refine lv_if_eq (tgt := 34) hx hb dX10_reach_20 rfl (fun c0 => absurd c0 (by decide)) (fun _ => ?_)
      refine lv_aload_n hx hb dX10_reach_23 rfl (lv_at hl 0 rfl) ?_
      refine va_get (D := (dC, dI)) (ci := 10) (v := .ref (x 26)) (C := RX10) (T := TX10) (N := 10) hx hb hts inB_10 hown hE.1 hP 0 rfl rfl 2 (Nat.le_of_ble_eq_true rfl) (hts _ k_493) (fun _ h9 => h9) rfl dX10_reach_24 ?_
      refine lv_iload_n hx hb dX10_reach_27 rfl (lv_at hl 2 rfl) ?_
      refine cbVi (n := 1) (rest := []) hx hb hml hown hts hE hP hD hS hA (sX_X7_hasMan_1 0 l dC dI cy x0 x p2 v2 f3 hIv2 ) k_802 k_307 k_308 k_104 k_309 hd_yX7_hasMan ⟨Nat.le_of_ble_eq_true rfl, Nat.le_of_ble_eq_true rfl⟩ 27 7 rfl rfl (rfl) hl.1 rfl (Nat.le_of_ble_eq_true rfl) dX10_reach_28 (fun r12 u H locs hw hP hD hS => ?_)
      obtain ⟨hG13, hw⟩ := hw
      rcases hw with ⟨g14, g14_0, g14_1, g14_2⟩ | ⟨g14⟩
      · skip
        subst g14
        refine lv_if_ne (tgt := 36) hx hb dX10_reach_31 rfl (fun _ => ?_) (fun c0 => absurd c0 (by decide))
        refine lv_aload_n hx hb dX10_reach_36 rfl (lv_at hl 0 rfl) ?_
        refine va_get (D := (dC, dI)) (ci := 10) (v := .ref (x 31)) (C := RX10) (T := TX10) (N := 10) hx hb hts inB_10 hown hE.1 hP 0 rfl rfl 7 (Nat.le_of_ble_eq_true rfl) (hts _ k_498) (fun _ h9 => h9) rfl dX10_reach_37 ?_
        refine lv_iload_n hx hb dX10_reach_40 rfl (lv_at hl 1 rfl) ?_
        refine lv_iload_n hx hb dX10_reach_41 rfl (lv_at hl 2 rfl) ?_
        refine cbVi (n := 2) (rest := []) hx hb hml hown hts hE hP hD hS hA (sX_X0_layRest_1 l dC dI cy x0 x p1 p2 v2 f3 hIv2 ) k_1133 k_1134 k_1135 k_111 k_1136 hd_yX0_layRest ⟨Nat.le_of_ble_eq_true rfl, Nat.le_of_ble_eq_true rfl⟩ 32 0 rfl rfl (rfl) hl.1 rfl (Nat.le_of_ble_eq_true rfl) dX10_reach_42 (fun r15 u H locs hw hP hD hS => ?_)
        obtain ⟨v16, f17⟩ := u
        obtain ⟨kV_v16, kF_f17, hIv16, hk0_v16, hk1_v16, hk7_v16, hk8_v16, hk9_v16, hk10_v16, hk31_v16, hk32_v16⟩ := hw
        have hM_v16 : KV [38] v16 v := KV.tr kV_v16 hM_v2 rfl
        have hA_f17 : KF [13, 14, 20] f17 f := KF.tr kF_f17 hA_f3 rfl
        have hP : va_P (dC, dI) vwCl (XW cy x0 x v16 f17) H := hP
        have hD : va_D A (XW cy x0 x v16 f17) := hD
        exact ret r15 (v16, f17) _ _ _ _ _ _ rfl ⟨hM_v16, hA_f17, hIv16, (hk0_v16.trans hk0_v2), (hk1_v16.trans hk1_v2), (hk7_v16.trans hk7_v2), (hk8_v16.trans hk8_v2), (hk9_v16.trans hk9_v2), (hk10_v16.trans hk10_v2), (hk31_v16.trans hk31_v2), (hk32_v16.trans hk32_v2)⟩ hP hD hS dX10_reach_45 (Nat.le_refl _) (Nat.le_refl _)
      · skip
        subst g14
        refine lv_if_ne (tgt := 36) hx hb dX10_reach_31 rfl (fun c0 => absurd (by decide) c0) (fun _ => ?_)
        refine lv_iconst (v := (-1)) hx hb dX10_reach_34 rfl ?_
        exact ret (-1) (v2, f3) _ _ _ _ _ _ rfl ⟨hM_v2, hA_f3, hIv2, hk0_v2, hk1_v2, hk7_v2, hk8_v2, hk9_v2, hk10_v2, hk31_v2, hk32_v2⟩ hP hD hS dX10_reach_35 (Nat.le_refl _) (Nat.le_refl _)
    · skip
      subst g11
      refine lv_if_eq (tgt := 34) hx hb dX10_reach_20 rfl (fun _ => ?_) (fun c0 => absurd (by decide) c0)
      refine lv_iconst (v := (-1)) hx hb dX10_reach_34 rfl ?_
      exact ret (-1) (v2, f3) _ _ _ _ _ _ rfl ⟨hM_v2, hA_f3, hIv2, hk0_v2, hk1_v2, hk7_v2, hk8_v2, hk9_v2, hk10_v2, hk31_v2, hk32_v2⟩ hP hD hS dX10_reach_35 (Nat.le_refl _) (Nat.le_refl _)
def gsX_X1_fittedMen_2_L1 (NF : Nat) (v : Nat → Int32) : Nat → (Int32) → (Int32) → (Nat → Int32) → (Nat → Nat → Int32) → Int32 × (Nat → Int32) × (Nat → Nat → Int32)
  | 0, _, _, _, _ => (0, (fun _ => 0), (fun _ _ => 0))
  | n1 + 1, l1_1, l2_1, v1, f1 =>
    if (v 31) ≤ l2_1 then
      (l1_1, v1, f1)
    else
      let r7 : Int32 := gsX_X1_wears_2 NF l2_1 v1 f1
      match gsX_X1_fits_2 NF l2_1 r7 v1 f1 with
      | (r9, v11, f12) =>
        if r9 = 1 then
          let t14 : Int32 := 1 <<< (l2_1 &&& 31)
          let t15 : Int32 := l1_1 ||| t14
          let t16 : Int32 := l2_1 + 1
          gsX_X1_fittedMen_2_L1 NF v n1 t15 t16 v11 f12
        else
          let t18 : Int32 := l2_1 + 1
          gsX_X1_fittedMen_2_L1 NF v n1 l1_1 t18 v11 f12
def gsX_X1_fittedMen_2 (NF : Nat) (v : Nat → Int32) (f : Nat → Nat → Int32) : Int32 × (Nat → Int32) × (Nat → Nat → Int32) :=
  gsX_X1_fittedMen_2_L1 NF v (4294967296 + NF) 0 0 v f
theorem gsX_X1_fittedMen_2_q3 {NF : Nat} {v : Nat → Int32} {f : Nat → Nat → Int32}  : gsX_X1_fittedMen_2 NF v f = gsX_X1_fittedMen_2_L1 NF v (4294967296 + NF) 0 0 v f := by
  simp only [gsX_X1_fittedMen_2]
theorem gsX_X1_fittedMen_2_q0 {NF : Nat} {v : Nat → Int32} {n1 : Nat} {l1_1 : Int32} {l2_1 : Int32} {v1 : Nat → Int32} {f1 : Nat → Nat → Int32} (h0 : ((v 31) ≤ l2_1)) : gsX_X1_fittedMen_2_L1 NF v (n1 + 1) l1_1 l2_1 v1 f1 = (l1_1, v1, f1) := by
  simp only [gsX_X1_fittedMen_2_L1, if_pos h0]
theorem gsX_X1_fittedMen_2_q1 {NF : Nat} {v : Nat → Int32} {n1 : Nat} {l1_1 : Int32} {l2_1 : Int32} {v1 : Nat → Int32} {f1 : Nat → Nat → Int32} {r7 : Int32} {v11 : Nat → Int32} {f12 : Nat → Nat → Int32} {t14 : Int32} {t15 : Int32} {t16 : Int32} (h0 : ¬ ((v 31) ≤ l2_1)) (h1 : r7 = gsX_X1_wears_2 NF l2_1 v1 f1) (h2 : gsX_X1_fits_2 NF l2_1 r7 v1 f1 = (1, v11, f12)) (h4 : t14 = 1 <<< (l2_1 &&& 31)) (h5 : t15 = l1_1 ||| t14) (h6 : t16 = l2_1 + 1) : gsX_X1_fittedMen_2_L1 NF v (n1 + 1) l1_1 l2_1 v1 f1 = gsX_X1_fittedMen_2_L1 NF v n1 t15 t16 v11 f12 := by
  subst h1 h4 h5 h6
  simp only [gsX_X1_fittedMen_2_L1, if_neg h0, h2, ite11, ite01, if_true, if_false]
theorem gsX_X1_fittedMen_2_q2 {NF : Nat} {v : Nat → Int32} {n1 : Nat} {l1_1 : Int32} {l2_1 : Int32} {v1 : Nat → Int32} {f1 : Nat → Nat → Int32} {r7 : Int32} {v11 : Nat → Int32} {f12 : Nat → Nat → Int32} {t18 : Int32} (h0 : ¬ ((v 31) ≤ l2_1)) (h1 : r7 = gsX_X1_wears_2 NF l2_1 v1 f1) (h2 : gsX_X1_fits_2 NF l2_1 r7 v1 f1 = (0, v11, f12)) (h4 : t18 = l2_1 + 1) : gsX_X1_fittedMen_2_L1 NF v (n1 + 1) l1_1 l2_1 v1 f1 = gsX_X1_fittedMen_2_L1 NF v n1 l1_1 t18 v11 f12 := by
  subst h1 h4
  simp only [gsX_X1_fittedMen_2_L1, if_neg h0, h2, ite11, ite01, if_true, if_false]
set_option maxHeartbeats 4000000 in
set_option maxRecDepth 100000 in
theorem sX_X1_fittedMen_2 (NF : Nat) (l : Launch) (dC : Nat → ClassId) (dI : Nat → Nat → Nat) (cy : Nat → ClassId) (x0 : Nat) (x : Nat → Nat)  (v : Nat → Int32) (f : Nat → Nat → Int32) (hIv : XI v)  : ctI l (dC, dI) cy yX1_fittedMen cX1_fittedMen 3 .int 5 155 0 0 ((Nat → Int32) × (Nat → Nat → Int32)) [.ref (x 27)] (XW cy x0 x v f) (fun r u => gsX_X1_fittedMen_2 NF v f = (r, u) ∧ KV [] u.1 v ∧ KF [13, 14] u.2 f ∧ XI u.1 ∧ u.1 0 = v 0 ∧ u.1 1 = v 1 ∧ u.1 7 = v 7 ∧ u.1 8 = v 8 ∧ u.1 9 = v 9 ∧ u.1 10 = v 10 ∧ u.1 31 = v 31 ∧ u.1 32 = v 32) (fun u => XW cy x0 x u.1 u.2) := by
  refine ctI_of (by decide) (Nat.le_of_ble_eq_true rfl) (fun p e s m below meth c A ls Q hx hb hml hts hown hE hP hD hA hl ret => ?_)
  have hM_v : KV [] v v := fun _ _ => rfl
  have hA_f : KF [13, 14] f f := fun _ _ => rfl
  have hown : s.vm.findClass RX1 = some m.cls := hown
  have hS : va_S A s.heap s.heap [] := va_S.rf
  have hl : lv_has ls 3 [(0, .ref (x 27))] := hl
  refine lv_iconst (v := 0) hx hb dX1_fittedMen_0 rfl ?_
  refine lv_istore_n (lv' := [(1, .int 0), (0, .ref (x 27))]) hx hb dX1_fittedMen_1 rfl hl (Nat.le_of_ble_eq_true rfl) rfl (fun ls hl => ?_)
  refine lv_iconst (v := 0) hx hb dX1_fittedMen_2 rfl ?_
  refine lv_istore_n (lv' := [(2, .int 0), (1, .int 0), (0, .ref (x 27))]) hx hb dX1_fittedMen_3 rfl hl (Nat.le_of_ble_eq_true rfl) rfl (fun ls hl => ?_)
  have lp1 : ∀ (n1 : Nat) (l1_1 : Int32) (l2_1 : Int32) (v1 : Nat → Int32) (f1 : Nat → Nat → Int32), XI v1 → v1 0 = (v 0) → v1 1 = (v 1) → v1 7 = (v 7) → v1 8 = (v 8) → v1 9 = (v 9) → v1 10 = (v 10) → v1 31 = (v 31) → v1 32 = (v 32) → gsX_X1_fittedMen_2_L1 NF v n1 l1_1 l2_1 v1 f1 = (gsX_X1_fittedMen_2 NF v f) → ((0 : Int) ≤ l2_1.toInt ∧ l2_1.toInt ≤ 2147483647) → KV [] v1 v → KF [13, 14] f1 f → (2147483647 - l2_1.toInt).toNat < n1 → ∀ (H : Heap) (locs : List Loc) (ls : Array Slot), va_P (dC, dI) vwCl (XW cy x0 x v1 f1) H → va_D A (XW cy x0 x v1 f1) → va_S A s.heap H locs → lv_has ls 3 [(2, .int l2_1), (1, .int l1_1), (0, .ref (x 27))] → W p l e { frames := 5, cells := 0, slots := 0, locals := 155 } s m ([.ref (x 27)] : List Value).toArray below meth c H locs 0 0 Q (F0 m 4 ls []) := by
    intro n1
    induction n1 with
    | zero => intro l1_1 l2_1 v1 f1 hIv1 hq0_v1 hq1_v1 hq7_v1 hq8_v1 hq9_v1 hq10_v1 hq31_v1 hq32_v1 hT1 hr2_1 hM_v1 hA_f1 hm; exact absurd hm (Nat.not_lt_zero _)
    | succ n1 ih1 =>
      intro l1_1 l2_1 v1 f1 hIv1 hq0_v1 hq1_v1 hq7_v1 hq8_v1 hq9_v1 hq10_v1 hq31_v1 hq32_v1 hT1 hr2_1 hM_v1 hA_f1 hm1 H locs ls hP hD hS hl
      refine lv_iload_n hx hb dX1_fittedMen_4 rfl (lv_at hl 0 rfl) ?_
      refine lv_aload_n hx hb dX1_fittedMen_5 rfl (lv_at hl 2 rfl) ?_
      refine va_get (D := (dC, dI)) (ci := 1) (v := .ref (x 26)) (C := RX1) (T := TX1) (N := 2) hx hb hts inB_1 hown hE.1 hP 28 rfl rfl 0 (Nat.le_of_ble_eq_true rfl) (hts _ k_318) (fun _ h9 => h9) rfl dX1_fittedMen_6 ?_
      refine va_getN (D := (dC, dI)) (ci := 7) (v := .int (v1 31)) (C := RX7) (T := TX7) (N := 10) hx hb hts inB_7 hown hE.1 hP 27 rfl rfl 3 (Nat.le_of_ble_eq_true rfl) (va_Nw.use rfl (hE.2 _ k_219)) (fun _ h9 => h9) rfl dX1_fittedMen_9 ?_
      refine tI (y := (v 31)) hq31_v1 ?_
      have b31_v : 0 ≤ (v 31).toInt ∧ (v 31).toInt ≤ 6 := Xb_31 hIv
      refine lv_icmp_ge (tgt := 40) hx hb dX1_fittedMen_12 rfl (fun c2 => ?_) (fun c2 => ?_)
      · skip
        refine lv_iload_n hx hb dX1_fittedMen_40 rfl (lv_at hl 1 rfl) ?_
        exact ret l1_1 (v1, f1) _ _ _ _ _ _ rfl ⟨(hT1.symm.trans (gsX_X1_fittedMen_2_q0 c2)), hM_v1, hA_f1, hIv1, (show v1 0 = v 0 from hq0_v1), (show v1 1 = v 1 from hq1_v1), (show v1 7 = v 7 from hq7_v1), (show v1 8 = v 8 from hq8_v1), (show v1 9 = v 9 from hq9_v1), (show v1 10 = v 10 from hq10_v1), (show v1 31 = v 31 from hq31_v1), (show v1 32 = v 32 from hq32_v1)⟩ hP hD hS dX1_fittedMen_41 (Nat.le_refl _) (Nat.le_refl _)
      · skip
        have zc2 : ¬ ((v 31).toInt ≤ l2_1.toInt) := zMn rfl rfl c2
        refine lv_aload_n hx hb dX1_fittedMen_15 rfl (lv_at hl 2 rfl) ?_
        refine lv_iload_n hx hb dX1_fittedMen_16 rfl (lv_at hl 0 rfl) ?_
        refine lv_aload_n hx hb dX1_fittedMen_17 rfl (lv_at hl 2 rfl) ?_
        refine lv_iload_n hx hb dX1_fittedMen_18 rfl (lv_at hl 0 rfl) ?_
        refine cbVi (n := 1) (rest := [.int l2_1, .ref (x 27)]) hx hb hml hown hts hE hP hD hS hA (sX_X1_wears_2 NF l dC dI cy x0 x l2_1 v1 f1 hIv1 ) k_853 k_810 k_811 k_106 k_812 hd_yX1_wears ⟨Nat.le_of_ble_eq_true rfl, Nat.le_of_ble_eq_true rfl⟩ 28 1 rfl rfl (rfl) hl.1 rfl (Nat.le_of_ble_eq_true rfl) dX1_fittedMen_19 (fun r7 u H locs hw hP hD hS => ?_)
        have hG8 := hw
        refine cbVi (n := 2) (rest := []) hx hb hml hown hts hE hP hD hS hA (sX_X1_fits_2 NF l dC dI cy x0 x l2_1 r7 v1 f1 hIv1 ) k_817 k_818 k_819 k_106 k_820 hd_yX1_fits ⟨Nat.le_of_ble_eq_true rfl, Nat.le_of_ble_eq_true rfl⟩ 28 1 rfl rfl (rfl) hl.1 rfl (Nat.le_of_ble_eq_true rfl) dX1_fittedMen_22 (fun r9 u H locs hw hP hD hS => ?_)
        obtain ⟨hG10, hw⟩ := hw
        obtain ⟨v11, f12⟩ := u
        obtain ⟨kV_v11, kF_f12, hIv11, hk0_v11, hk1_v11, hk7_v11, hk8_v11, hk9_v11, hk10_v11, hk31_v11, hk32_v11, hw⟩ := hw
        have hM_v11 : KV [] v11 v := KV.tr kV_v11 hM_v1 rfl
        have hA_f12 : KF [13, 14] f12 f := KF.tr kF_f12 hA_f1 rfl
        have hP : va_P (dC, dI) vwCl (XW cy x0 x v11 f12) H := hP
        have hD : va_D A (XW cy x0 x v11 f12) := hD
        have hq0_v11 : v11 0 = (v 0) := hk0_v11.trans hq0_v1
        have hq1_v11 : v11 1 = (v 1) := hk1_v11.trans hq1_v1
        have hq7_v11 : v11 7 = (v 7) := hk7_v11.trans hq7_v1
        have hq8_v11 : v11 8 = (v 8) := hk8_v11.trans hq8_v1
        have hq9_v11 : v11 9 = (v 9) := hk9_v11.trans hq9_v1
        have hq10_v11 : v11 10 = (v 10) := hk10_v11.trans hq10_v1
        have hq31_v11 : v11 31 = (v 31) := hk31_v11.trans hq31_v1
        have hq32_v11 : v11 32 = (v 32) := hk32_v11.trans hq32_v1
        rcases hw with ⟨g13⟩ | ⟨g13⟩
        · skip
          subst g13
          refine lv_if_eq (tgt := 34) hx hb dX1_fittedMen_25 rfl (fun c0 => absurd c0 (by decide)) (fun _ => ?_)
          refine lv_iload_n hx hb dX1_fittedMen_28 rfl (lv_at hl 1 rfl) ?_
          refine lv_iconst (v := 1) hx hb dX1_fittedMen_29 rfl ?_
          refine lv_iload_n hx hb dX1_fittedMen_30 rfl (lv_at hl 0 rfl) ?_
          refine lv_ishl hx hb dX1_fittedMen_31 ?_
          refine lv_topi (fun t14 et14 => ?_)
          refine lv_ior hx hb dX1_fittedMen_32 ?_
          refine lv_topi (fun t15 et15 => ?_)
          refine lv_istore_n (lv' := [(1, .int t15), (2, .int l2_1), (0, .ref (x 27))]) hx hb dX1_fittedMen_33 rfl hl (Nat.le_of_ble_eq_true rfl) rfl (fun ls hl => ?_)
          obtain ⟨t16, et16⟩ : ∃ y : Int32, y = l2_1 + 1 := ⟨_, rfl⟩
          have zt16 : t16.toInt = l2_1.toInt + 1 := (congrArg Int32.toInt et16).trans (add_i rfl tc_1 (om_41 hr2_1) (om_187 b31_v zc2))
          refine lv_iinc (v := t16) (lv' := [(2, .int t16), (1, .int t15), (0, .ref (x 27))]) hx hb dX1_fittedMen_34 hl (k := 1) rfl et16.symm (Nat.le_of_ble_eq_true rfl) rfl (fun ls hl => ?_)
          refine lv_goto (tgt := 4) hx hb dX1_fittedMen_37 rfl ?_
          have rg17 := fb_rng t16
          exact ih1 t15 t16 v11 f12 hIv11 hq0_v11 hq1_v11 hq7_v11 hq8_v11 hq9_v11 hq10_v11 hq31_v11 hq32_v11 ((gsX_X1_fittedMen_2_q1 c2 hG8.symm hG10 et14 et15 et16).symm.trans hT1) ⟨show (0 : Int) ≤ t16.toInt from om_43 hr2_1 zt16, show t16.toInt ≤ (2147483647 : Int) from om_44 rg17⟩ hM_v11 hA_f12 (show (2147483647 - t16.toInt).toNat < n1 from om_33 hm1 zt16 rg17) _ _ _ hP hD hS (lv_sub hl [0, 1, 2] rfl)
        · skip
          subst g13
          refine lv_if_eq (tgt := 34) hx hb dX1_fittedMen_25 rfl (fun _ => ?_) (fun c0 => absurd (by decide) c0)
          obtain ⟨t18, et18⟩ : ∃ y : Int32, y = l2_1 + 1 := ⟨_, rfl⟩
          have zt18 : t18.toInt = l2_1.toInt + 1 := (congrArg Int32.toInt et18).trans (add_i rfl tc_1 (om_41 hr2_1) (om_187 b31_v zc2))
          refine lv_iinc (v := t18) (lv' := [(2, .int t18), (1, .int l1_1), (0, .ref (x 27))]) hx hb dX1_fittedMen_34 hl (k := 0) rfl et18.symm (Nat.le_of_ble_eq_true rfl) rfl (fun ls hl => ?_)
          refine lv_goto (tgt := 4) hx hb dX1_fittedMen_37 rfl ?_
          have rg19 := fb_rng t18
          exact ih1 l1_1 t18 v11 f12 hIv11 hq0_v11 hq1_v11 hq7_v11 hq8_v11 hq9_v11 hq10_v11 hq31_v11 hq32_v11 ((gsX_X1_fittedMen_2_q2 c2 hG8.symm hG10 et18).symm.trans hT1) ⟨show (0 : Int) ≤ t18.toInt from om_43 hr2_1 zt18, show t18.toInt ≤ (2147483647 : Int) from om_44 rg19⟩ hM_v11 hA_f12 (show (2147483647 - t18.toInt).toNat < n1 from om_33 hm1 zt18 rg19) _ _ _ hP hD hS (lv_sub hl [0, 1, 2] rfl)
  exact lp1 (4294967296 + NF) 0 0 v f hIv rfl rfl rfl rfl rfl rfl rfl rfl gsX_X1_fittedMen_2_q3.symm ⟨by decide, by decide⟩ hM_v hA_f (show (2147483647 - (0 : Int32).toInt).toNat < 4294967296 + NF from om_38 tc_0) _ _ _ hP hD hS (lv_sub hl [0, 1, 2] rfl)
set_option maxHeartbeats 4000000 in
set_option maxRecDepth 100000 in
theorem sX_X3_bestTurning_1 (l : Launch) (dC : Nat → ClassId) (dI : Nat → Nat → Nat) (cy : Nat → ClassId) (x0 : Nat) (x : Nat → Nat)  (v : Nat → Int32) (f : Nat → Nat → Int32) (hIv : XI v)  : ctI l (dC, dI) cy yX3_bestTurning cX3_bestTurning 5 .int 6 177 0 0 ((Nat → Int32) × (Nat → Nat → Int32)) [.ref (x 25)] (XW cy x0 x v f) (fun r u => KV [] u.1 v ∧ KF [13, 14, 18] u.2 f ∧ XI u.1 ∧ u.1 0 = v 0 ∧ u.1 1 = v 1 ∧ u.1 7 = v 7 ∧ u.1 8 = v 8 ∧ u.1 9 = v 9 ∧ u.1 10 = v 10 ∧ u.1 31 = v 31 ∧ u.1 32 = v 32) (fun u => XW cy x0 x u.1 u.2) := by
  refine ctI_of (by decide) (Nat.le_of_ble_eq_true rfl) (fun p e s m below meth c A ls Q hx hb hml hts hown hE hP hD hA hl ret => ?_)
  have hM_v : KV [] v v := fun _ _ => rfl
  have hA_f : KF [13, 14, 18] f f := fun _ _ => rfl
  have hown : s.vm.findClass RX3 = some m.cls := hown
  have hS : va_S A s.heap s.heap [] := va_S.rf
  have hl : lv_has ls 5 [(0, .ref (x 25))] := hl
  refine lv_iconst (v := (-1)) hx hb dX3_bestTurning_0 rfl ?_
  refine lv_istore_n (lv' := [(1, .int (-1)), (0, .ref (x 25))]) hx hb dX3_bestTurning_1 rfl hl (Nat.le_of_ble_eq_true rfl) rfl (fun ls hl => ?_)
  refine lv_iconst (v := (-1)) hx hb dX3_bestTurning_2 rfl ?_
  refine lv_istore_n (lv' := [(2, .int (-1)), (1, .int (-1)), (0, .ref (x 25))]) hx hb dX3_bestTurning_3 rfl hl (Nat.le_of_ble_eq_true rfl) rfl (fun ls hl => ?_)
  refine lv_iconst (v := 0) hx hb dX3_bestTurning_4 rfl ?_
  refine lv_istore_n (lv' := [(3, .int 0), (2, .int (-1)), (1, .int (-1)), (0, .ref (x 25))]) hx hb dX3_bestTurning_5 rfl hl (Nat.le_of_ble_eq_true rfl) rfl (fun ls hl => ?_)
  have lp1 : ∀ (n1 : Nat) (l1_1 : Int32) (l2_1 : Int32) (l3_1 : Int32) (v1 : Nat → Int32) (f1 : Nat → Nat → Int32), XI v1 → v1 0 = (v 0) → v1 1 = (v 1) → v1 7 = (v 7) → v1 8 = (v 8) → v1 9 = (v 9) → v1 10 = (v 10) → v1 31 = (v 31) → v1 32 = (v 32) → ((0 : Int) ≤ l3_1.toInt ∧ l3_1.toInt ≤ 2147483647) → KV [] v1 v → KF [13, 14, 18] f1 f → (2147483647 - l3_1.toInt).toNat < n1 → ∀ (H : Heap) (locs : List Loc) (ls : Array Slot), va_P (dC, dI) vwCl (XW cy x0 x v1 f1) H → va_D A (XW cy x0 x v1 f1) → va_S A s.heap H locs → lv_has ls 5 [(3, .int l3_1), (2, .int l2_1), (1, .int l1_1), (0, .ref (x 25))] → W p l e { frames := 6, cells := 0, slots := 0, locals := 177 } s m ([.ref (x 25)] : List Value).toArray below meth c H locs 0 0 Q (F0 m 6 ls []) := by
    intro n1
    induction n1 with
    | zero => intro l1_1 l2_1 l3_1 v1 f1 hIv1 hq0_v1 hq1_v1 hq7_v1 hq8_v1 hq9_v1 hq10_v1 hq31_v1 hq32_v1 hr3_1 hM_v1 hA_f1 hm; exact absurd hm (Nat.not_lt_zero _)
    | succ n1 ih1 =>
      intro l1_1 l2_1 l3_1 v1 f1 hIv1 hq0_v1 hq1_v1 hq7_v1 hq8_v1 hq9_v1 hq10_v1 hq31_v1 hq32_v1 hr3_1 hM_v1 hA_f1 hm1 H locs ls hP hD hS hl
      refine lv_iload_n hx hb dX3_bestTurning_6 rfl (lv_at hl 0 rfl) ?_
      refine lv_aload_n hx hb dX3_bestTurning_7 rfl (lv_at hl 3 rfl) ?_
      refine va_get (D := (dC, dI)) (ci := 3) (v := .ref (x 26)) (C := RX3) (T := TX3) (N := 10) hx hb hts inB_3 hown hE.1 hP 26 rfl rfl 0 (Nat.le_of_ble_eq_true rfl) (hts _ k_370) (fun _ h9 => h9) rfl dX3_bestTurning_8 ?_
      refine va_getN (D := (dC, dI)) (ci := 7) (v := .int (v1 32)) (C := RX7) (T := TX7) (N := 10) hx hb hts inB_7 hown hE.1 hP 27 rfl rfl 4 (Nat.le_of_ble_eq_true rfl) (va_Nw.use rfl (hE.2 _ k_225)) (fun _ h9 => h9) rfl dX3_bestTurning_11 ?_
      refine tI (y := (v 32)) hq32_v1 ?_
      have b32_v : 0 ≤ (v 32).toInt ∧ (v 32).toInt ≤ 6 := Xb_32 hIv
      refine lv_icmp_ge (tgt := 79) hx hb dX3_bestTurning_14 rfl (fun c2 => ?_) (fun c2 => ?_)
      · skip
        refine lv_iload_n hx hb dX3_bestTurning_79 rfl (lv_at hl 2 rfl) ?_
        exact ret l1_1 (v1, f1) _ _ _ _ _ _ rfl ⟨hM_v1, hA_f1, hIv1, (show v1 0 = v 0 from hq0_v1), (show v1 1 = v 1 from hq1_v1), (show v1 7 = v 7 from hq7_v1), (show v1 8 = v 8 from hq8_v1), (show v1 9 = v 9 from hq9_v1), (show v1 10 = v 10 from hq10_v1), (show v1 31 = v 31 from hq31_v1), (show v1 32 = v 32 from hq32_v1)⟩ hP hD hS dX3_bestTurning_80 (Nat.le_refl _) (Nat.le_refl _)
      · skip
        have zc2 : ¬ ((v 32).toInt ≤ l3_1.toInt) := zMn rfl rfl c2
        refine lv_aload_n hx hb dX3_bestTurning_17 rfl (lv_at hl 3 rfl) ?_
        refine va_get (D := (dC, dI)) (ci := 3) (v := .ref (x 27)) (C := RX3) (T := TX3) (N := 10) hx hb hts inB_3 hown hE.1 hP 26 rfl rfl 2 (Nat.le_of_ble_eq_true rfl) (hts _ k_372) (fun _ h9 => h9) rfl dX3_bestTurning_18 ?_
        refine lv_aload_n hx hb dX3_bestTurning_21 rfl (lv_at hl 3 rfl) ?_
        refine va_get (D := (dC, dI)) (ci := 3) (v := .ref (x 21)) (C := RX3) (T := TX3) (N := 10) hx hb hts inB_3 hown hE.1 hP 26 rfl rfl 1 (Nat.le_of_ble_eq_true rfl) (hts _ k_371) (fun _ h9 => h9) rfl dX3_bestTurning_22 ?_
        refine cbVv (n := 1) (rest := []) hx hb hml hown hts hE hP hD hS hA (sX_X1_copy_1 l dC dI cy x0 x  v1 f1 hIv1 ) k_945 k_946 k_947 k_106 k_948 hd_yX1_copy ⟨Nat.le_of_ble_eq_true rfl, Nat.le_of_ble_eq_true rfl⟩ 28 1 rfl rfl (rfl) hl.1 rfl (Nat.le_of_ble_eq_true rfl) dX3_bestTurning_25 (fun u H locs hw hP hD hS => ?_)
        obtain ⟨v7, f8⟩ := u
        obtain ⟨kV_v7, kF_f8, hIv7, hk0_v7, hk1_v7, hk7_v7, hk8_v7, hk9_v7, hk10_v7, hk31_v7, hk32_v7⟩ := hw
        have hM_v7 : KV [] v7 v := KV.tr kV_v7 hM_v1 rfl
        have hA_f8 : KF [13, 14, 18] f8 f := KF.tr kF_f8 hA_f1 rfl
        have hP : va_P (dC, dI) vwCl (XW cy x0 x v7 f8) H := hP
        have hD : va_D A (XW cy x0 x v7 f8) := hD
        have hq0_v7 : v7 0 = (v 0) := hk0_v7.trans hq0_v1
        have hq1_v7 : v7 1 = (v 1) := hk1_v7.trans hq1_v1
        have hq7_v7 : v7 7 = (v 7) := hk7_v7.trans hq7_v1
        have hq8_v7 : v7 8 = (v 8) := hk8_v7.trans hq8_v1
        have hq9_v7 : v7 9 = (v 9) := hk9_v7.trans hq9_v1
        have hq10_v7 : v7 10 = (v 10) := hk10_v7.trans hq10_v1
        have hq31_v7 : v7 31 = (v 31) := hk31_v7.trans hq31_v1
        have hq32_v7 : v7 32 = (v 32) := hk32_v7.trans hq32_v1
        refine lv_aload_n hx hb dX3_bestTurning_28 rfl (lv_at hl 3 rfl) ?_
        refine va_get (D := (dC, dI)) (ci := 3) (v := .ref (x 27)) (C := RX3) (T := TX3) (N := 10) hx hb hts inB_3 hown hE.1 hP 26 rfl rfl 2 (Nat.le_of_ble_eq_true rfl) (hts _ k_372) (fun _ h9 => h9) rfl dX3_bestTurning_29 ?_
        refine lv_iconst (v := 3) hx hb dX3_bestTurning_32 rfl ?_
        refine lv_iload_n hx hb dX3_bestTurning_33 rfl (lv_at hl 0 rfl) ?_
        refine lv_iconst (v := 0) hx hb dX3_bestTurning_34 rfl ?_
        refine cbVv (n := 3) (rest := []) hx hb hml hown hts hE hP hD hS hA (sX_X1_setPart_2 0 l dC dI cy x0 x 3 l3_1 0 v7 f8 hIv7 ) k_1158 k_875 k_876 k_106 k_877 hd_yX1_setPart ⟨Nat.le_of_ble_eq_true rfl, Nat.le_of_ble_eq_true rfl⟩ 28 1 rfl rfl (rfl) hl.1 rfl (Nat.le_of_ble_eq_true rfl) dX3_bestTurning_35 (fun u H locs hw hP hD hS => ?_)
        obtain ⟨hG9, hw⟩ := hw
        obtain ⟨v10, f11⟩ := u
        obtain ⟨kV_v10, kF_f11, hIv10, hk0_v10, hk1_v10, hk7_v10, hk8_v10, hk9_v10, hk10_v10, hk31_v10, hk32_v10⟩ := hw
        have hM_v10 : KV [] v10 v := KV.tr kV_v10 hM_v7 rfl
        have hA_f11 : KF [13, 14, 18] f11 f := KF.tr kF_f11 hA_f8 rfl
        have hP : va_P (dC, dI) vwCl (XW cy x0 x v10 f11) H := hP
        have hD : va_D A (XW cy x0 x v10 f11) := hD
        have hq0_v10 : v10 0 = (v 0) := hk0_v10.trans hq0_v7
        have hq1_v10 : v10 1 = (v 1) := hk1_v10.trans hq1_v7
        have hq7_v10 : v10 7 = (v 7) := hk7_v10.trans hq7_v7
        have hq8_v10 : v10 8 = (v 8) := hk8_v10.trans hq8_v7
        have hq9_v10 : v10 9 = (v 9) := hk9_v10.trans hq9_v7
        have hq10_v10 : v10 10 = (v 10) := hk10_v10.trans hq10_v7
        have hq31_v10 : v10 31 = (v 31) := hk31_v10.trans hq31_v7
        have hq32_v10 : v10 32 = (v 32) := hk32_v10.trans hq32_v7
        refine lv_aload_n hx hb dX3_bestTurning_38 rfl (lv_at hl 3 rfl) ?_
        refine va_get (D := (dC, dI)) (ci := 3) (v := .ref (x 27)) (C := RX3) (T := TX3) (N := 10) hx hb hts inB_3 hown hE.1 hP 26 rfl rfl 2 (Nat.le_of_ble_eq_true rfl) (hts _ k_372) (fun _ h9 => h9) rfl dX3_bestTurning_39 ?_
        refine cbVi (n := 0) (rest := []) hx hb hml hown hts hE hP hD hS hA (sX_X1_fittedMen_2 0 l dC dI cy x0 x  v10 f11 hIv10 ) k_1041 k_964 k_965 k_106 k_966 hd_yX1_fittedMen ⟨Nat.le_of_ble_eq_true rfl, Nat.le_of_ble_eq_true rfl⟩ 28 1 rfl rfl (rfl) hl.1 rfl (Nat.le_of_ble_eq_true rfl) dX3_bestTurning_42 (fun r12 u H locs hw hP hD hS => ?_)
        obtain ⟨hG13, hw⟩ := hw
        obtain ⟨v14, f15⟩ := u
        obtain ⟨kV_v14, kF_f15, hIv14, hk0_v14, hk1_v14, hk7_v14, hk8_v14, hk9_v14, hk10_v14, hk31_v14, hk32_v14⟩ := hw
        have hM_v14 : KV [] v14 v := KV.tr kV_v14 hM_v10 rfl
        have hA_f15 : KF [13, 14, 18] f15 f := KF.tr kF_f15 hA_f11 rfl
        have hP : va_P (dC, dI) vwCl (XW cy x0 x v14 f15) H := hP
        have hD : va_D A (XW cy x0 x v14 f15) := hD
        have hq0_v14 : v14 0 = (v 0) := hk0_v14.trans hq0_v10
        have hq1_v14 : v14 1 = (v 1) := hk1_v14.trans hq1_v10
        have hq7_v14 : v14 7 = (v 7) := hk7_v14.trans hq7_v10
        have hq8_v14 : v14 8 = (v 8) := hk8_v14.trans hq8_v10
        have hq9_v14 : v14 9 = (v 9) := hk9_v14.trans hq9_v10
        have hq10_v14 : v14 10 = (v 10) := hk10_v14.trans hq10_v10
        have hq31_v14 : v14 31 = (v 31) := hk31_v14.trans hq31_v10
        have hq32_v14 : v14 32 = (v 32) := hk32_v14.trans hq32_v10
        refine cbSi (n := 1) (rest := []) hx hb hml hown hts hE hP hD hS hA (sX_J6_bitCount_0f7a4_1 0 l dC dI cy x0 x r12 v14 f15 hIv14 ) k_1042 k_1043 k_121 k_1044 he_yJ6_bitCount_0f7a4 ⟨Nat.le_of_ble_eq_true rfl, Nat.le_of_ble_eq_true rfl⟩ (rfl) hl.1 rfl (Nat.le_of_ble_eq_true rfl) dX3_bestTurning_45 (fun r16 u H locs hw hP hD hS => ?_)
        have hG17 := hw
        refine lv_istore (lv' := [(4, .int r16), (3, .int l3_1), (2, .int l2_1), (1, .int l1_1), (0, .ref (x 25))]) hx hb dX3_bestTurning_48 hl (Nat.le_of_ble_eq_true rfl) rfl (fun ls hl => ?_)
        refine lv_aload_n hx hb dX3_bestTurning_50 rfl (lv_at hl 4 rfl) ?_
        refine va_get (D := (dC, dI)) (ci := 3) (v := .ref (x 21)) (C := RX3) (T := TX3) (N := 10) hx hb hts inB_3 hown hE.1 hP 26 rfl rfl 1 (Nat.le_of_ble_eq_true rfl) (hts _ k_371) (fun _ h9 => h9) rfl dX3_bestTurning_51 ?_
        refine lv_iconst (v := 4) hx hb dX3_bestTurning_54 rfl ?_
        refine lv_iload_n hx hb dX3_bestTurning_55 rfl (lv_at hl 1 rfl) ?_
        refine cbVi (n := 2) (rest := []) hx hb hml hown hts hE hP hD hS hA (sX_X1_part_1 0 l dC dI cy x0 x 4 l3_1 v14 f15 hIv14 ) k_1012 k_828 k_829 k_106 k_830 hd_yX1_part ⟨Nat.le_of_ble_eq_true rfl, Nat.le_of_ble_eq_true rfl⟩ 22 1 rfl rfl (rfl) hl.1 rfl (Nat.le_of_ble_eq_true rfl) dX3_bestTurning_56 (fun r18 u H locs hw hP hD hS => ?_)
        have hG19 := hw
        refine lv_if_ne (tgt := 73) hx hb dX3_bestTurning_59 rfl (fun c20 => ?_) (fun c20 => ?_)
        · skip
          obtain ⟨t21, et21⟩ : ∃ y : Int32, y = l3_1 + 1 := ⟨_, rfl⟩
          have zt21 : t21.toInt = l3_1.toInt + 1 := (congrArg Int32.toInt et21).trans (add_i rfl tc_1 (om_41 hr3_1) (om_187 b32_v zc2))
          refine lv_iinc (v := t21) (lv' := [(3, .int t21), (4, .int r16), (2, .int l2_1), (1, .int l1_1), (0, .ref (x 25))]) hx hb dX3_bestTurning_73 hl (k := 1) rfl et21.symm (Nat.le_of_ble_eq_true rfl) rfl (fun ls hl => ?_)
          refine lv_goto (tgt := 6) hx hb dX3_bestTurning_76 rfl ?_
          have rg22 := fb_rng t21
          exact ih1 l1_1 l2_1 t21 v14 f15 hIv14 hq0_v14 hq1_v14 hq7_v14 hq8_v14 hq9_v14 hq10_v14 hq31_v14 hq32_v14 ⟨show (0 : Int) ≤ t21.toInt from om_43 hr3_1 zt21, show t21.toInt ≤ (2147483647 : Int) from om_44 rg22⟩ hM_v14 hA_f15 (show (2147483647 - t21.toInt).toNat < n1 from om_33 hm1 zt21 rg22) _ _ _ hP hD hS (lv_sub hl [0, 2, 3, 4] rfl)
        · skip
          refine lv_iload hx hb dX3_bestTurning_62 (lv_at hl 0 rfl) ?_
          refine lv_iload_n hx hb dX3_bestTurning_64 rfl (lv_at hl 2 rfl) ?_
          refine lv_icmp_le (tgt := 73) hx hb dX3_bestTurning_65 rfl (fun c23 => ?_) (fun c23 => ?_)
          · skip
            obtain ⟨t26, et26⟩ : ∃ y : Int32, y = l3_1 + 1 := ⟨_, rfl⟩
            have zt26 : t26.toInt = l3_1.toInt + 1 := (congrArg Int32.toInt et26).trans (add_i rfl tc_1 (om_41 hr3_1) (om_187 b32_v zc2))
            refine lv_iinc (v := t26) (lv' := [(3, .int t26), (4, .int r16), (2, .int l2_1), (1, .int l1_1), (0, .ref (x 25))]) hx hb dX3_bestTurning_73 hl (k := 1) rfl et26.symm (Nat.le_of_ble_eq_true rfl) rfl (fun ls hl => ?_)
            refine lv_goto (tgt := 6) hx hb dX3_bestTurning_76 rfl ?_
            have rg27 := fb_rng t26
            exact ih1 l1_1 l2_1 t26 v14 f15 hIv14 hq0_v14 hq1_v14 hq7_v14 hq8_v14 hq9_v14 hq10_v14 hq31_v14 hq32_v14 ⟨show (0 : Int) ≤ t26.toInt from om_43 hr3_1 zt26, show t26.toInt ≤ (2147483647 : Int) from om_44 rg27⟩ hM_v14 hA_f15 (show (2147483647 - t26.toInt).toNat < n1 from om_33 hm1 zt26 rg27) _ _ _ hP hD hS (lv_sub hl [0, 2, 3, 4] rfl)
          · skip
            refine lv_iload_n hx hb dX3_bestTurning_68 rfl (lv_at hl 1 rfl) ?_
            refine lv_istore_n (lv' := [(1, .int l3_1), (4, .int r16), (3, .int l3_1), (2, .int l2_1), (0, .ref (x 25))]) hx hb dX3_bestTurning_69 rfl hl (Nat.le_of_ble_eq_true rfl) rfl (fun ls hl => ?_)
            refine lv_iload hx hb dX3_bestTurning_70 (lv_at hl 1 rfl) ?_
            refine lv_istore_n (lv' := [(2, .int r16), (1, .int l3_1), (4, .int r16), (3, .int l3_1), (0, .ref (x 25))]) hx hb dX3_bestTurning_72 rfl hl (Nat.le_of_ble_eq_true rfl) rfl (fun ls hl => ?_)
            obtain ⟨t30, et30⟩ : ∃ y : Int32, y = l3_1 + 1 := ⟨_, rfl⟩
            have zt30 : t30.toInt = l3_1.toInt + 1 := (congrArg Int32.toInt et30).trans (add_i rfl tc_1 (om_41 hr3_1) (om_187 b32_v zc2))
            refine lv_iinc (v := t30) (lv' := [(3, .int t30), (2, .int r16), (1, .int l3_1), (4, .int r16), (0, .ref (x 25))]) hx hb dX3_bestTurning_73 hl (k := 3) rfl et30.symm (Nat.le_of_ble_eq_true rfl) rfl (fun ls hl => ?_)
            refine lv_goto (tgt := 6) hx hb dX3_bestTurning_76 rfl ?_
            have rg31 := fb_rng t30
            exact ih1 l3_1 r16 t30 v14 f15 hIv14 hq0_v14 hq1_v14 hq7_v14 hq8_v14 hq9_v14 hq10_v14 hq31_v14 hq32_v14 ⟨show (0 : Int) ≤ t30.toInt from om_43 hr3_1 zt30, show t30.toInt ≤ (2147483647 : Int) from om_44 rg31⟩ hM_v14 hA_f15 (show (2147483647 - t30.toInt).toNat < n1 from om_33 hm1 zt30 rg31) _ _ _ hP hD hS (lv_sub hl [0, 1, 2, 4] rfl)
  exact lp1 _ (-1) (-1) 0 v f hIv rfl rfl rfl rfl rfl rfl rfl rfl ⟨by decide, by decide⟩ hM_v hA_f (Nat.lt_succ_self _) _ _ _ hP hD hS (lv_sub hl [0, 1, 2, 3] rfl)
set_option maxHeartbeats 4000000 in
set_option maxRecDepth 100000 in
theorem sX_X10_turning_1 (l : Launch) (dC : Nat → ClassId) (dI : Nat → Nat → Nat) (cy : Nat → ClassId) (x0 : Nat) (x : Nat → Nat)  (v : Nat → Int32) (f : Nat → Nat → Int32) (hIv : XI v)  : ctI l (dC, dI) cy yX10_turning cX10_turning 1 .int 7 201 0 0 ((Nat → Int32) × (Nat → Nat → Int32)) [.ref x0] (XW cy x0 x v f) (fun r u => KV [] u.1 v ∧ KF [13, 14, 18] u.2 f ∧ XI u.1 ∧ u.1 0 = v 0 ∧ u.1 1 = v 1 ∧ u.1 7 = v 7 ∧ u.1 8 = v 8 ∧ u.1 9 = v 9 ∧ u.1 10 = v 10 ∧ u.1 31 = v 31 ∧ u.1 32 = v 32) (fun u => XW cy x0 x u.1 u.2) := by
  refine ctI_of (by decide) (Nat.le_of_ble_eq_true rfl) (fun p e s m below meth c A ls Q hx hb hml hts hown hE hP hD hA hl ret => ?_)
  have hM_v : KV [] v v := fun _ _ => rfl
  have hA_f : KF [13, 14, 18] f f := fun _ _ => rfl
  have hown : s.vm.findClass RX10 = some m.cls := hown
  have hS : va_S A s.heap s.heap [] := va_S.rf
  have hl : lv_has ls 1 [(0, .ref x0)] := hl
  refine lv_aload_n hx hb dX10_turning_0 rfl (lv_at hl 0 rfl) ?_
  refine va_get (D := (dC, dI)) (ci := 10) (v := .ref (x 25)) (C := RX10) (T := TX10) (N := 10) hx hb hts inB_10 hown hE.1 hP 0 rfl rfl 5 (Nat.le_of_ble_eq_true rfl) (hts _ k_496) (fun _ h9 => h9) rfl dX10_turning_1 ?_
  refine cbVi (n := 0) (rest := []) hx hb hml hown hts hE hP hD hS hA (sX_X3_bestTurning_1 l dC dI cy x0 x  v f hIv ) k_1154 k_1155 k_1156 k_109 k_1157 hd_yX3_bestTurning ⟨Nat.le_of_ble_eq_true rfl, Nat.le_of_ble_eq_true rfl⟩ 26 3 rfl rfl (rfl) hl.1 rfl (Nat.le_of_ble_eq_true rfl) dX10_turning_4 (fun r1 u H locs hw hP hD hS => ?_)
  obtain ⟨v2, f3⟩ := u
  obtain ⟨kV_v2, kF_f3, hIv2, hk0_v2, hk1_v2, hk7_v2, hk8_v2, hk9_v2, hk10_v2, hk31_v2, hk32_v2⟩ := hw
  have hM_v2 : KV [] v2 v := KV.tr kV_v2 hM_v rfl
  have hA_f3 : KF [13, 14, 18] f3 f := KF.tr kF_f3 hA_f rfl
  have hP : va_P (dC, dI) vwCl (XW cy x0 x v2 f3) H := hP
  have hD : va_D A (XW cy x0 x v2 f3) := hD
  have hq0_v2 : v2 0 = (v 0) := hk0_v2
  have hq1_v2 : v2 1 = (v 1) := hk1_v2
  have hq7_v2 : v2 7 = (v 7) := hk7_v2
  have hq8_v2 : v2 8 = (v 8) := hk8_v2
  have hq9_v2 : v2 9 = (v 9) := hk9_v2
  have hq10_v2 : v2 10 = (v 10) := hk10_v2
  have hq31_v2 : v2 31 = (v 31) := hk31_v2
  have hq32_v2 : v2 32 = (v 32) := hk32_v2
  exact ret r1 (v2, f3) _ _ _ _ _ _ rfl ⟨hM_v2, hA_f3, hIv2, hk0_v2, hk1_v2, hk7_v2, hk8_v2, hk9_v2, hk10_v2, hk31_v2, hk32_v2⟩ hP hD hS dX10_turning_7 (Nat.le_refl _) (Nat.le_refl _)
set_option maxHeartbeats 4000000 in
set_option maxRecDepth 100000 in
theorem sX_X1_menFitting_1 (l : Launch) (dC : Nat → ClassId) (dI : Nat → Nat → Nat) (cy : Nat → ClassId) (x0 : Nat) (x : Nat → Nat) (p1 : Int32) (v : Nat → Int32) (f : Nat → Nat → Int32) (hIv : XI v)  : ctI l (dC, dI) cy yX1_menFitting cX1_menFitting 4 .int 5 155 0 0 ((Nat → Int32) × (Nat → Nat → Int32)) [.ref (x 21), .int p1] (XW cy x0 x v f) (fun r u => KV [] u.1 v ∧ KF [13, 14] u.2 f ∧ XI u.1 ∧ u.1 0 = v 0 ∧ u.1 1 = v 1 ∧ u.1 7 = v 7 ∧ u.1 8 = v 8 ∧ u.1 9 = v 9 ∧ u.1 10 = v 10 ∧ u.1 31 = v 31 ∧ u.1 32 = v 32) (fun u => XW cy x0 x u.1 u.2) := by
  refine ctI_of (by decide) (Nat.le_of_ble_eq_true rfl) (fun p e s m below meth c A ls Q hx hb hml hts hown hE hP hD hA hl ret => ?_)
  have hM_v : KV [] v v := fun _ _ => rfl
  have hA_f : KF [13, 14] f f := fun _ _ => rfl
  have hown : s.vm.findClass RX1 = some m.cls := hown
  have hS : va_S A s.heap s.heap [] := va_S.rf
  have hl : lv_has ls 4 [(0, .ref (x 21)), (1, .int p1)] := hl
  refine lv_iconst (v := 0) hx hb dX1_menFitting_0 rfl ?_
  refine lv_istore_n (lv' := [(2, .int 0), (0, .ref (x 21)), (1, .int p1)]) hx hb dX1_menFitting_1 rfl hl (Nat.le_of_ble_eq_true rfl) rfl (fun ls hl => ?_)
  refine lv_iconst (v := 0) hx hb dX1_menFitting_2 rfl ?_
  refine lv_istore_n (lv' := [(3, .int 0), (2, .int 0), (0, .ref (x 21)), (1, .int p1)]) hx hb dX1_menFitting_3 rfl hl (Nat.le_of_ble_eq_true rfl) rfl (fun ls hl => ?_)
  have lp1 : ∀ (n1 : Nat) (l2_1 : Int32) (l3_1 : Int32) (v1 : Nat → Int32) (f1 : Nat → Nat → Int32), XI v1 → v1 0 = (v 0) → v1 1 = (v 1) → v1 7 = (v 7) → v1 8 = (v 8) → v1 9 = (v 9) → v1 10 = (v 10) → v1 31 = (v 31) → v1 32 = (v 32) → ((0 : Int) ≤ l3_1.toInt ∧ l3_1.toInt ≤ 2147483647) → KV [] v1 v → KF [13, 14] f1 f → (2147483647 - l3_1.toInt).toNat < n1 → ∀ (H : Heap) (locs : List Loc) (ls : Array Slot), va_P (dC, dI) vwCl (XW cy x0 x v1 f1) H → va_D A (XW cy x0 x v1 f1) → va_S A s.heap H locs → lv_has ls 4 [(3, .int l3_1), (2, .int l2_1), (0, .ref (x 21)), (1, .int p1)] → W p l e { frames := 5, cells := 0, slots := 0, locals := 155 } s m ([.ref (x 21), .int p1] : List Value).toArray below meth c H locs 0 0 Q (F0 m 4 ls []) := by
    intro n1
    induction n1 with
    | zero => intro l2_1 l3_1 v1 f1 hIv1 hq0_v1 hq1_v1 hq7_v1 hq8_v1 hq9_v1 hq10_v1 hq31_v1 hq32_v1 hr3_1 hM_v1 hA_f1 hm; exact absurd hm (Nat.not_lt_zero _)
    | succ n1 ih1 =>
      intro l2_1 l3_1 v1 f1 hIv1 hq0_v1 hq1_v1 hq7_v1 hq8_v1 hq9_v1 hq10_v1 hq31_v1 hq32_v1 hr3_1 hM_v1 hA_f1 hm1 H locs ls hP hD hS hl
      refine lv_iload_n hx hb dX1_menFitting_4 rfl (lv_at hl 0 rfl) ?_
      refine lv_aload_n hx hb dX1_menFitting_5 rfl (lv_at hl 2 rfl) ?_
      refine va_get (D := (dC, dI)) (ci := 1) (v := .ref (x 26)) (C := RX1) (T := TX1) (N := 2) hx hb hts inB_1 hown hE.1 hP 22 rfl rfl 0 (Nat.le_of_ble_eq_true rfl) (hts _ k_318) (fun _ h9 => h9) rfl dX1_menFitting_6 ?_
      refine va_getN (D := (dC, dI)) (ci := 7) (v := .int (v1 31)) (C := RX7) (T := TX7) (N := 10) hx hb hts inB_7 hown hE.1 hP 27 rfl rfl 3 (Nat.le_of_ble_eq_true rfl) (va_Nw.use rfl (hE.2 _ k_219)) (fun _ h9 => h9) rfl dX1_menFitting_9 ?_
      refine tI (y := (v 31)) hq31_v1 ?_
      have b31_v : 0 ≤ (v 31).toInt ∧ (v 31).toInt ≤ 6 := Xb_31 hIv
      refine lv_icmp_ge (tgt := 33) hx hb dX1_menFitting_12 rfl (fun c2 => ?_) (fun c2 => ?_)
      · skip
        refine lv_iload_n hx hb dX1_menFitting_33 rfl (lv_at hl 1 rfl) ?_
        exact ret l2_1 (v1, f1) _ _ _ _ _ _ rfl ⟨hM_v1, hA_f1, hIv1, (show v1 0 = v 0 from hq0_v1), (show v1 1 = v 1 from hq1_v1), (show v1 7 = v 7 from hq7_v1), (show v1 8 = v 8 from hq8_v1), (show v1 9 = v 9 from hq9_v1), (show v1 10 = v 10 from hq10_v1), (show v1 31 = v 31 from hq31_v1), (show v1 32 = v 32 from hq32_v1)⟩ hP hD hS dX1_menFitting_34 (Nat.le_refl _) (Nat.le_refl _)
      · skip
        have zc2 : ¬ ((v 31).toInt ≤ l3_1.toInt) := zMn rfl rfl c2
        refine lv_aload_n hx hb dX1_menFitting_15 rfl (lv_at hl 2 rfl) ?_
        refine lv_iload_n hx hb dX1_menFitting_16 rfl (lv_at hl 0 rfl) ?_
        refine lv_iload_n hx hb dX1_menFitting_17 rfl (lv_at hl 3 rfl) ?_
        refine cbVi (n := 2) (rest := []) hx hb hml hown hts hE hP hD hS hA (sX_X1_fits_1 0 l dC dI cy x0 x l3_1 p1 v1 f1 hIv1 ) k_817 k_818 k_819 k_106 k_820 hd_yX1_fits ⟨Nat.le_of_ble_eq_true rfl, Nat.le_of_ble_eq_true rfl⟩ 22 1 rfl rfl (rfl) hl.1 rfl (Nat.le_of_ble_eq_true rfl) dX1_menFitting_18 (fun r7 u H locs hw hP hD hS => ?_)
        obtain ⟨hG8, hw⟩ := hw
        obtain ⟨v9, f10⟩ := u
        obtain ⟨kV_v9, kF_f10, hIv9, hk0_v9, hk1_v9, hk7_v9, hk8_v9, hk9_v9, hk10_v9, hk31_v9, hk32_v9, hw⟩ := hw
        have hM_v9 : KV [] v9 v := KV.tr kV_v9 hM_v1 rfl
        have hA_f10 : KF [13, 14] f10 f := KF.tr kF_f10 hA_f1 rfl
        have hP : va_P (dC, dI) vwCl (XW cy x0 x v9 f10) H := hP
        have hD : va_D A (XW cy x0 x v9 f10) := hD
        have hq0_v9 : v9 0 = (v 0) := hk0_v9.trans hq0_v1
        have hq1_v9 : v9 1 = (v 1) := hk1_v9.trans hq1_v1
        have hq7_v9 : v9 7 = (v 7) := hk7_v9.trans hq7_v1
        have hq8_v9 : v9 8 = (v 8) := hk8_v9.trans hq8_v1
        have hq9_v9 : v9 9 = (v 9) := hk9_v9.trans hq9_v1
        have hq10_v9 : v9 10 = (v 10) := hk10_v9.trans hq10_v1
        have hq31_v9 : v9 31 = (v 31) := hk31_v9.trans hq31_v1
        have hq32_v9 : v9 32 = (v 32) := hk32_v9.trans hq32_v1
        rcases hw with ⟨g11⟩ | ⟨g11⟩
        · skip
          subst g11
          refine lv_if_eq (tgt := 27) hx hb dX1_menFitting_21 rfl (fun c0 => absurd c0 (by decide)) (fun _ => ?_)
          obtain ⟨t12, et12⟩ : ∃ y : Int32, y = l2_1 + 1 := ⟨_, rfl⟩
          refine lv_iinc (v := t12) (lv' := [(2, .int t12), (3, .int l3_1), (0, .ref (x 21)), (1, .int p1)]) hx hb dX1_menFitting_24 hl (k := 1) rfl et12.symm (Nat.le_of_ble_eq_true rfl) rfl (fun ls hl => ?_)
          obtain ⟨t13, et13⟩ : ∃ y : Int32, y = l3_1 + 1 := ⟨_, rfl⟩
          have zt13 : t13.toInt = l3_1.toInt + 1 := (congrArg Int32.toInt et13).trans (add_i rfl tc_1 (om_41 hr3_1) (om_187 b31_v zc2))
          refine lv_iinc (v := t13) (lv' := [(3, .int t13), (2, .int t12), (0, .ref (x 21)), (1, .int p1)]) hx hb dX1_menFitting_27 hl (k := 1) rfl et13.symm (Nat.le_of_ble_eq_true rfl) rfl (fun ls hl => ?_)
          refine lv_goto (tgt := 4) hx hb dX1_menFitting_30 rfl ?_
          have rg14 := fb_rng t13
          exact ih1 t12 t13 v9 f10 hIv9 hq0_v9 hq1_v9 hq7_v9 hq8_v9 hq9_v9 hq10_v9 hq31_v9 hq32_v9 ⟨show (0 : Int) ≤ t13.toInt from om_43 hr3_1 zt13, show t13.toInt ≤ (2147483647 : Int) from om_44 rg14⟩ hM_v9 hA_f10 (show (2147483647 - t13.toInt).toNat < n1 from om_33 hm1 zt13 rg14) _ _ _ hP hD hS (lv_sub hl [0, 1, 2, 3] rfl)
        · skip
          subst g11
          refine lv_if_eq (tgt := 27) hx hb dX1_menFitting_21 rfl (fun _ => ?_) (fun c0 => absurd (by decide) c0)
          obtain ⟨t15, et15⟩ : ∃ y : Int32, y = l3_1 + 1 := ⟨_, rfl⟩
          have zt15 : t15.toInt = l3_1.toInt + 1 := (congrArg Int32.toInt et15).trans (add_i rfl tc_1 (om_41 hr3_1) (om_187 b31_v zc2))
          refine lv_iinc (v := t15) (lv' := [(3, .int t15), (2, .int l2_1), (0, .ref (x 21)), (1, .int p1)]) hx hb dX1_menFitting_27 hl (k := 0) rfl et15.symm (Nat.le_of_ble_eq_true rfl) rfl (fun ls hl => ?_)
          refine lv_goto (tgt := 4) hx hb dX1_menFitting_30 rfl ?_
          have rg16 := fb_rng t15
          exact ih1 l2_1 t15 v9 f10 hIv9 hq0_v9 hq1_v9 hq7_v9 hq8_v9 hq9_v9 hq10_v9 hq31_v9 hq32_v9 ⟨show (0 : Int) ≤ t15.toInt from om_43 hr3_1 zt15, show t15.toInt ≤ (2147483647 : Int) from om_44 rg16⟩ hM_v9 hA_f10 (show (2147483647 - t15.toInt).toNat < n1 from om_33 hm1 zt15 rg16) _ _ _ hP hD hS (lv_sub hl [0, 1, 2, 3] rfl)
  exact lp1 _ 0 0 v f hIv rfl rfl rfl rfl rfl rfl rfl rfl ⟨by decide, by decide⟩ hM_v hA_f (Nat.lt_succ_self _) _ _ _ hP hD hS (lv_sub hl [0, 1, 2, 3] rfl)
set_option maxHeartbeats 4000000 in
set_option maxRecDepth 100000 in
theorem sX_X10_rags_1 (l : Launch) (dC : Nat → ClassId) (dI : Nat → Nat → Nat) (cy : Nat → ClassId) (x0 : Nat) (x : Nat → Nat)  (v : Nat → Int32) (f : Nat → Nat → Int32) (hIv : XI v)  : ctI l (dC, dI) cy yX10_rags cX10_rags 3 .int 6 178 0 0 ((Nat → Int32) × (Nat → Nat → Int32)) [.ref x0] (XW cy x0 x v f) (fun r u => KV [] u.1 v ∧ KF [13, 14] u.2 f ∧ XI u.1 ∧ u.1 0 = v 0 ∧ u.1 1 = v 1 ∧ u.1 7 = v 7 ∧ u.1 8 = v 8 ∧ u.1 9 = v 9 ∧ u.1 10 = v 10 ∧ u.1 31 = v 31 ∧ u.1 32 = v 32) (fun u => XW cy x0 x u.1 u.2) := by
  refine ctI_of (by decide) (Nat.le_of_ble_eq_true rfl) (fun p e s m below meth c A ls Q hx hb hml hts hown hE hP hD hA hl ret => ?_)
  have hM_v : KV [] v v := fun _ _ => rfl
  have hA_f : KF [13, 14] f f := fun _ _ => rfl
  have hown : s.vm.findClass RX10 = some m.cls := hown
  have hS : va_S A s.heap s.heap [] := va_S.rf
  have hl : lv_has ls 3 [(0, .ref x0)] := hl
  refine lv_iconst (v := 0) hx hb dX10_rags_0 rfl ?_
  refine lv_istore_n (lv' := [(1, .int 0), (0, .ref x0)]) hx hb dX10_rags_1 rfl hl (Nat.le_of_ble_eq_true rfl) rfl (fun ls hl => ?_)
  refine lv_iconst (v := 0) hx hb dX10_rags_2 rfl ?_
  refine lv_istore_n (lv' := [(2, .int 0), (1, .int 0), (0, .ref x0)]) hx hb dX10_rags_3 rfl hl (Nat.le_of_ble_eq_true rfl) rfl (fun ls hl => ?_)
  have lp1 : ∀ (n1 : Nat) (l1_1 : Int32) (l2_1 : Int32) (v1 : Nat → Int32) (f1 : Nat → Nat → Int32), XI v1 → v1 0 = (v 0) → v1 1 = (v 1) → v1 7 = (v 7) → v1 8 = (v 8) → v1 9 = (v 9) → v1 10 = (v 10) → v1 31 = (v 31) → v1 32 = (v 32) → ((0 : Int) ≤ l2_1.toInt ∧ l2_1.toInt ≤ 2147483647) → KV [] v1 v → KF [13, 14] f1 f → (2147483647 - l2_1.toInt).toNat < n1 → ∀ (H : Heap) (locs : List Loc) (ls : Array Slot), va_P (dC, dI) vwCl (XW cy x0 x v1 f1) H → va_D A (XW cy x0 x v1 f1) → va_S A s.heap H locs → lv_has ls 3 [(2, .int l2_1), (1, .int l1_1), (0, .ref x0)] → W p l e { frames := 6, cells := 0, slots := 0, locals := 178 } s m ([.ref x0] : List Value).toArray below meth c H locs 0 0 Q (F0 m 4 ls []) := by
    intro n1
    induction n1 with
    | zero => intro l1_1 l2_1 v1 f1 hIv1 hq0_v1 hq1_v1 hq7_v1 hq8_v1 hq9_v1 hq10_v1 hq31_v1 hq32_v1 hr2_1 hM_v1 hA_f1 hm; exact absurd hm (Nat.not_lt_zero _)
    | succ n1 ih1 =>
      intro l1_1 l2_1 v1 f1 hIv1 hq0_v1 hq1_v1 hq7_v1 hq8_v1 hq9_v1 hq10_v1 hq31_v1 hq32_v1 hr2_1 hM_v1 hA_f1 hm1 H locs ls hP hD hS hl
      refine lv_iload_n hx hb dX10_rags_4 rfl (lv_at hl 0 rfl) ?_
      refine lv_aload_n hx hb dX10_rags_5 rfl (lv_at hl 2 rfl) ?_
      refine va_get (D := (dC, dI)) (ci := 10) (v := .ref (x 26)) (C := RX10) (T := TX10) (N := 10) hx hb hts inB_10 hown hE.1 hP 0 rfl rfl 2 (Nat.le_of_ble_eq_true rfl) (hts _ k_493) (fun _ h9 => h9) rfl dX10_rags_6 ?_
      refine va_getN (D := (dC, dI)) (ci := 7) (v := .int (v1 32)) (C := RX7) (T := TX7) (N := 10) hx hb hts inB_7 hown hE.1 hP 27 rfl rfl 4 (Nat.le_of_ble_eq_true rfl) (va_Nw.use rfl (hE.2 _ k_227)) (fun _ h9 => h9) rfl dX10_rags_9 ?_
      refine tI (y := (v 32)) hq32_v1 ?_
      have b32_v : 0 ≤ (v 32).toInt ∧ (v 32).toInt ≤ 6 := Xb_32 hIv
      refine lv_icmp_ge (tgt := 38) hx hb dX10_rags_12 rfl (fun c2 => ?_) (fun c2 => ?_)
      · skip
        refine lv_iload_n hx hb dX10_rags_38 rfl (lv_at hl 1 rfl) ?_
        exact ret l1_1 (v1, f1) _ _ _ _ _ _ rfl ⟨hM_v1, hA_f1, hIv1, (show v1 0 = v 0 from hq0_v1), (show v1 1 = v 1 from hq1_v1), (show v1 7 = v 7 from hq7_v1), (show v1 8 = v 8 from hq8_v1), (show v1 9 = v 9 from hq9_v1), (show v1 10 = v 10 from hq10_v1), (show v1 31 = v 31 from hq31_v1), (show v1 32 = v 32 from hq32_v1)⟩ hP hD hS dX10_rags_39 (Nat.le_refl _) (Nat.le_refl _)
      · skip
        have zc2 : ¬ ((v 32).toInt ≤ l2_1.toInt) := zMn rfl rfl c2
        refine lv_aload_n hx hb dX10_rags_15 rfl (lv_at hl 2 rfl) ?_
        refine va_get (D := (dC, dI)) (ci := 10) (v := .ref (x 21)) (C := RX10) (T := TX10) (N := 10) hx hb hts inB_10 hown hE.1 hP 0 rfl rfl 3 (Nat.le_of_ble_eq_true rfl) (hts _ k_494) (fun _ h9 => h9) rfl dX10_rags_16 ?_
        refine lv_iload_n hx hb dX10_rags_19 rfl (lv_at hl 0 rfl) ?_
        refine cbVi (n := 1) (rest := []) hx hb hml hown hts hE hP hD hS hA (sX_X1_menFitting_1 l dC dI cy x0 x l2_1 v1 f1 hIv1 ) k_1163 k_1164 k_1165 k_106 k_1166 hd_yX1_menFitting ⟨Nat.le_of_ble_eq_true rfl, Nat.le_of_ble_eq_true rfl⟩ 22 1 rfl rfl (rfl) hl.1 rfl (Nat.le_of_ble_eq_true rfl) dX10_rags_20 (fun r7 u H locs hw hP hD hS => ?_)
        obtain ⟨v8, f9⟩ := u
        obtain ⟨kV_v8, kF_f9, hIv8, hk0_v8, hk1_v8, hk7_v8, hk8_v8, hk9_v8, hk10_v8, hk31_v8, hk32_v8⟩ := hw
        have hM_v8 : KV [] v8 v := KV.tr kV_v8 hM_v1 rfl
        have hA_f9 : KF [13, 14] f9 f := KF.tr kF_f9 hA_f1 rfl
        have hP : va_P (dC, dI) vwCl (XW cy x0 x v8 f9) H := hP
        have hD : va_D A (XW cy x0 x v8 f9) := hD
        have hq0_v8 : v8 0 = (v 0) := hk0_v8.trans hq0_v1
        have hq1_v8 : v8 1 = (v 1) := hk1_v8.trans hq1_v1
        have hq7_v8 : v8 7 = (v 7) := hk7_v8.trans hq7_v1
        have hq8_v8 : v8 8 = (v 8) := hk8_v8.trans hq8_v1
        have hq9_v8 : v8 9 = (v 9) := hk9_v8.trans hq9_v1
        have hq10_v8 : v8 10 = (v 10) := hk10_v8.trans hq10_v1
        have hq31_v8 : v8 31 = (v 31) := hk31_v8.trans hq31_v1
        have hq32_v8 : v8 32 = (v 32) := hk32_v8.trans hq32_v1
        refine lv_if_ne (tgt := 32) hx hb dX10_rags_23 rfl (fun c10 => ?_) (fun c10 => ?_)
        · skip
          obtain ⟨t11, et11⟩ : ∃ y : Int32, y = l2_1 + 1 := ⟨_, rfl⟩
          have zt11 : t11.toInt = l2_1.toInt + 1 := (congrArg Int32.toInt et11).trans (add_i rfl tc_1 (om_41 hr2_1) (om_187 b32_v zc2))
          refine lv_iinc (v := t11) (lv' := [(2, .int t11), (1, .int l1_1), (0, .ref x0)]) hx hb dX10_rags_32 hl (k := 0) rfl et11.symm (Nat.le_of_ble_eq_true rfl) rfl (fun ls hl => ?_)
          refine lv_goto (tgt := 4) hx hb dX10_rags_35 rfl ?_
          have rg12 := fb_rng t11
          exact ih1 l1_1 t11 v8 f9 hIv8 hq0_v8 hq1_v8 hq7_v8 hq8_v8 hq9_v8 hq10_v8 hq31_v8 hq32_v8 ⟨show (0 : Int) ≤ t11.toInt from om_43 hr2_1 zt11, show t11.toInt ≤ (2147483647 : Int) from om_44 rg12⟩ hM_v8 hA_f9 (show (2147483647 - t11.toInt).toNat < n1 from om_33 hm1 zt11 rg12) _ _ _ hP hD hS (lv_sub hl [0, 1, 2] rfl)
        · skip
          refine lv_iload_n hx hb dX10_rags_26 rfl (lv_at hl 1 rfl) ?_
          refine lv_iconst (v := 1) hx hb dX10_rags_27 rfl ?_
          refine lv_iload_n hx hb dX10_rags_28 rfl (lv_at hl 0 rfl) ?_
          refine lv_ishl hx hb dX10_rags_29 ?_
          refine lv_topi (fun t13 et13 => ?_)
          refine lv_ior hx hb dX10_rags_30 ?_
          refine lv_topi (fun t14 et14 => ?_)
          refine lv_istore_n (lv' := [(1, .int t14), (2, .int l2_1), (0, .ref x0)]) hx hb dX10_rags_31 rfl hl (Nat.le_of_ble_eq_true rfl) rfl (fun ls hl => ?_)
          obtain ⟨t15, et15⟩ : ∃ y : Int32, y = l2_1 + 1 := ⟨_, rfl⟩
          have zt15 : t15.toInt = l2_1.toInt + 1 := (congrArg Int32.toInt et15).trans (add_i rfl tc_1 (om_41 hr2_1) (om_187 b32_v zc2))
          refine lv_iinc (v := t15) (lv' := [(2, .int t15), (1, .int t14), (0, .ref x0)]) hx hb dX10_rags_32 hl (k := 1) rfl et15.symm (Nat.le_of_ble_eq_true rfl) rfl (fun ls hl => ?_)
          refine lv_goto (tgt := 4) hx hb dX10_rags_35 rfl ?_
          have rg16 := fb_rng t15
          exact ih1 t14 t15 v8 f9 hIv8 hq0_v8 hq1_v8 hq7_v8 hq8_v8 hq9_v8 hq10_v8 hq31_v8 hq32_v8 ⟨show (0 : Int) ≤ t15.toInt from om_43 hr2_1 zt15, show t15.toInt ≤ (2147483647 : Int) from om_44 rg16⟩ hM_v8 hA_f9 (show (2147483647 - t15.toInt).toNat < n1 from om_33 hm1 zt15 rg16) _ _ _ hP hD hS (lv_sub hl [0, 1, 2] rfl)
  exact lp1 _ 0 0 v f hIv rfl rfl rfl rfl rfl rfl rfl rfl ⟨by decide, by decide⟩ hM_v hA_f (Nat.lt_succ_self _) _ _ _ hP hD hS (lv_sub hl [0, 1, 2] rfl)
set_option maxHeartbeats 4000000 in
set_option maxRecDepth 100000 in
theorem sX_X10_naked_1 (l : Launch) (dC : Nat → ClassId) (dI : Nat → Nat → Nat) (cy : Nat → ClassId) (x0 : Nat) (x : Nat → Nat)  (v : Nat → Int32) (f : Nat → Nat → Int32) (hIv : XI v)  : ctI l (dC, dI) cy yX10_naked cX10_naked 3 .int 6 178 0 0 ((Nat → Int32) × (Nat → Nat → Int32)) [.ref x0] (XW cy x0 x v f) (fun r u => KV [] u.1 v ∧ KF [13, 14] u.2 f ∧ XI u.1 ∧ u.1 0 = v 0 ∧ u.1 1 = v 1 ∧ u.1 7 = v 7 ∧ u.1 8 = v 8 ∧ u.1 9 = v 9 ∧ u.1 10 = v 10 ∧ u.1 31 = v 31 ∧ u.1 32 = v 32) (fun u => XW cy x0 x u.1 u.2) := by
  refine ctI_of (by decide) (Nat.le_of_ble_eq_true rfl) (fun p e s m below meth c A ls Q hx hb hml hts hown hE hP hD hA hl ret => ?_)
  have hM_v : KV [] v v := fun _ _ => rfl
  have hA_f : KF [13, 14] f f := fun _ _ => rfl
  have hown : s.vm.findClass RX10 = some m.cls := hown
  have hS : va_S A s.heap s.heap [] := va_S.rf
  have hl : lv_has ls 3 [(0, .ref x0)] := hl
  refine lv_iconst (v := 0) hx hb dX10_naked_0 rfl ?_
  refine lv_istore_n (lv' := [(1, .int 0), (0, .ref x0)]) hx hb dX10_naked_1 rfl hl (Nat.le_of_ble_eq_true rfl) rfl (fun ls hl => ?_)
  refine lv_iconst (v := 0) hx hb dX10_naked_2 rfl ?_
  refine lv_istore_n (lv' := [(2, .int 0), (1, .int 0), (0, .ref x0)]) hx hb dX10_naked_3 rfl hl (Nat.le_of_ble_eq_true rfl) rfl (fun ls hl => ?_)
  have lp1 : ∀ (n1 : Nat) (l1_1 : Int32) (l2_1 : Int32) (v1 : Nat → Int32) (f1 : Nat → Nat → Int32), XI v1 → v1 0 = (v 0) → v1 1 = (v 1) → v1 7 = (v 7) → v1 8 = (v 8) → v1 9 = (v 9) → v1 10 = (v 10) → v1 31 = (v 31) → v1 32 = (v 32) → ((0 : Int) ≤ l2_1.toInt ∧ l2_1.toInt ≤ 2147483647) → KV [] v1 v → KF [13, 14] f1 f → (2147483647 - l2_1.toInt).toNat < n1 → ∀ (H : Heap) (locs : List Loc) (ls : Array Slot), va_P (dC, dI) vwCl (XW cy x0 x v1 f1) H → va_D A (XW cy x0 x v1 f1) → va_S A s.heap H locs → lv_has ls 3 [(2, .int l2_1), (1, .int l1_1), (0, .ref x0)] → W p l e { frames := 6, cells := 0, slots := 0, locals := 178 } s m ([.ref x0] : List Value).toArray below meth c H locs 0 0 Q (F0 m 4 ls []) := by
    intro n1
    induction n1 with
    | zero => intro l1_1 l2_1 v1 f1 hIv1 hq0_v1 hq1_v1 hq7_v1 hq8_v1 hq9_v1 hq10_v1 hq31_v1 hq32_v1 hr2_1 hM_v1 hA_f1 hm; exact absurd hm (Nat.not_lt_zero _)
    | succ n1 ih1 =>
      intro l1_1 l2_1 v1 f1 hIv1 hq0_v1 hq1_v1 hq7_v1 hq8_v1 hq9_v1 hq10_v1 hq31_v1 hq32_v1 hr2_1 hM_v1 hA_f1 hm1 H locs ls hP hD hS hl
      refine lv_iload_n hx hb dX10_naked_4 rfl (lv_at hl 0 rfl) ?_
      refine lv_aload_n hx hb dX10_naked_5 rfl (lv_at hl 2 rfl) ?_
      refine va_get (D := (dC, dI)) (ci := 10) (v := .ref (x 26)) (C := RX10) (T := TX10) (N := 10) hx hb hts inB_10 hown hE.1 hP 0 rfl rfl 2 (Nat.le_of_ble_eq_true rfl) (hts _ k_493) (fun _ h9 => h9) rfl dX10_naked_6 ?_
      refine va_getN (D := (dC, dI)) (ci := 7) (v := .int (v1 31)) (C := RX7) (T := TX7) (N := 10) hx hb hts inB_7 hown hE.1 hP 27 rfl rfl 3 (Nat.le_of_ble_eq_true rfl) (va_Nw.use rfl (hE.2 _ k_214)) (fun _ h9 => h9) rfl dX10_naked_9 ?_
      refine tI (y := (v 31)) hq31_v1 ?_
      have b31_v : 0 ≤ (v 31).toInt ∧ (v 31).toInt ≤ 6 := Xb_31 hIv
      refine lv_icmp_ge (tgt := 38) hx hb dX10_naked_12 rfl (fun c2 => ?_) (fun c2 => ?_)
      · skip
        refine lv_iload_n hx hb dX10_naked_38 rfl (lv_at hl 1 rfl) ?_
        exact ret l1_1 (v1, f1) _ _ _ _ _ _ rfl ⟨hM_v1, hA_f1, hIv1, (show v1 0 = v 0 from hq0_v1), (show v1 1 = v 1 from hq1_v1), (show v1 7 = v 7 from hq7_v1), (show v1 8 = v 8 from hq8_v1), (show v1 9 = v 9 from hq9_v1), (show v1 10 = v 10 from hq10_v1), (show v1 31 = v 31 from hq31_v1), (show v1 32 = v 32 from hq32_v1)⟩ hP hD hS dX10_naked_39 (Nat.le_refl _) (Nat.le_refl _)
      · skip
        have zc2 : ¬ ((v 31).toInt ≤ l2_1.toInt) := zMn rfl rfl c2
        refine lv_aload_n hx hb dX10_naked_15 rfl (lv_at hl 2 rfl) ?_
        refine va_get (D := (dC, dI)) (ci := 10) (v := .ref (x 21)) (C := RX10) (T := TX10) (N := 10) hx hb hts inB_10 hown hE.1 hP 0 rfl rfl 3 (Nat.le_of_ble_eq_true rfl) (hts _ k_494) (fun _ h9 => h9) rfl dX10_naked_16 ?_
        refine lv_iload_n hx hb dX10_naked_19 rfl (lv_at hl 0 rfl) ?_
        refine cbVi (n := 1) (rest := []) hx hb hml hown hts hE hP hD hS hA (sX_X1_fittingCoats_1 l dC dI cy x0 x l2_1 v1 f1 hIv1 ) k_813 k_814 k_815 k_106 k_816 hd_yX1_fittingCoats ⟨Nat.le_of_ble_eq_true rfl, Nat.le_of_ble_eq_true rfl⟩ 22 1 rfl rfl (rfl) hl.1 rfl (Nat.le_of_ble_eq_true rfl) dX10_naked_20 (fun r7 u H locs hw hP hD hS => ?_)
        obtain ⟨v8, f9⟩ := u
        obtain ⟨kV_v8, kF_f9, hIv8, hk0_v8, hk1_v8, hk7_v8, hk8_v8, hk9_v8, hk10_v8, hk31_v8, hk32_v8⟩ := hw
        have hM_v8 : KV [] v8 v := KV.tr kV_v8 hM_v1 rfl
        have hA_f9 : KF [13, 14] f9 f := KF.tr kF_f9 hA_f1 rfl
        have hP : va_P (dC, dI) vwCl (XW cy x0 x v8 f9) H := hP
        have hD : va_D A (XW cy x0 x v8 f9) := hD
        have hq0_v8 : v8 0 = (v 0) := hk0_v8.trans hq0_v1
        have hq1_v8 : v8 1 = (v 1) := hk1_v8.trans hq1_v1
        have hq7_v8 : v8 7 = (v 7) := hk7_v8.trans hq7_v1
        have hq8_v8 : v8 8 = (v 8) := hk8_v8.trans hq8_v1
        have hq9_v8 : v8 9 = (v 9) := hk9_v8.trans hq9_v1
        have hq10_v8 : v8 10 = (v 10) := hk10_v8.trans hq10_v1
        have hq31_v8 : v8 31 = (v 31) := hk31_v8.trans hq31_v1
        have hq32_v8 : v8 32 = (v 32) := hk32_v8.trans hq32_v1
        refine lv_if_ne (tgt := 32) hx hb dX10_naked_23 rfl (fun c10 => ?_) (fun c10 => ?_)
        · skip
          obtain ⟨t11, et11⟩ : ∃ y : Int32, y = l2_1 + 1 := ⟨_, rfl⟩
          have zt11 : t11.toInt = l2_1.toInt + 1 := (congrArg Int32.toInt et11).trans (add_i rfl tc_1 (om_41 hr2_1) (om_187 b31_v zc2))
          refine lv_iinc (v := t11) (lv' := [(2, .int t11), (1, .int l1_1), (0, .ref x0)]) hx hb dX10_naked_32 hl (k := 0) rfl et11.symm (Nat.le_of_ble_eq_true rfl) rfl (fun ls hl => ?_)
          refine lv_goto (tgt := 4) hx hb dX10_naked_35 rfl ?_
          have rg12 := fb_rng t11
          exact ih1 l1_1 t11 v8 f9 hIv8 hq0_v8 hq1_v8 hq7_v8 hq8_v8 hq9_v8 hq10_v8 hq31_v8 hq32_v8 ⟨show (0 : Int) ≤ t11.toInt from om_43 hr2_1 zt11, show t11.toInt ≤ (2147483647 : Int) from om_44 rg12⟩ hM_v8 hA_f9 (show (2147483647 - t11.toInt).toNat < n1 from om_33 hm1 zt11 rg12) _ _ _ hP hD hS (lv_sub hl [0, 1, 2] rfl)
        · skip
          refine lv_iload_n hx hb dX10_naked_26 rfl (lv_at hl 1 rfl) ?_
          refine lv_iconst (v := 1) hx hb dX10_naked_27 rfl ?_
          refine lv_iload_n hx hb dX10_naked_28 rfl (lv_at hl 0 rfl) ?_
          refine lv_ishl hx hb dX10_naked_29 ?_
          refine lv_topi (fun t13 et13 => ?_)
          refine lv_ior hx hb dX10_naked_30 ?_
          refine lv_topi (fun t14 et14 => ?_)
          refine lv_istore_n (lv' := [(1, .int t14), (2, .int l2_1), (0, .ref x0)]) hx hb dX10_naked_31 rfl hl (Nat.le_of_ble_eq_true rfl) rfl (fun ls hl => ?_)
          obtain ⟨t15, et15⟩ : ∃ y : Int32, y = l2_1 + 1 := ⟨_, rfl⟩
          have zt15 : t15.toInt = l2_1.toInt + 1 := (congrArg Int32.toInt et15).trans (add_i rfl tc_1 (om_41 hr2_1) (om_187 b31_v zc2))
          refine lv_iinc (v := t15) (lv' := [(2, .int t15), (1, .int t14), (0, .ref x0)]) hx hb dX10_naked_32 hl (k := 1) rfl et15.symm (Nat.le_of_ble_eq_true rfl) rfl (fun ls hl => ?_)
          refine lv_goto (tgt := 4) hx hb dX10_naked_35 rfl ?_
          have rg16 := fb_rng t15
          exact ih1 t14 t15 v8 f9 hIv8 hq0_v8 hq1_v8 hq7_v8 hq8_v8 hq9_v8 hq10_v8 hq31_v8 hq32_v8 ⟨show (0 : Int) ≤ t15.toInt from om_43 hr2_1 zt15, show t15.toInt ≤ (2147483647 : Int) from om_44 rg16⟩ hM_v8 hA_f9 (show (2147483647 - t15.toInt).toNat < n1 from om_33 hm1 zt15 rg16) _ _ _ hP hD hS (lv_sub hl [0, 1, 2] rfl)
  exact lp1 _ 0 0 v f hIv rfl rfl rfl rfl rfl rfl rfl rfl ⟨by decide, by decide⟩ hM_v hA_f (Nat.lt_succ_self _) _ _ _ hP hD hS (lv_sub hl [0, 1, 2] rfl)
set_option maxHeartbeats 4000000 in
set_option maxRecDepth 100000 in
theorem sX_X10_popular_1 (l : Launch) (dC : Nat → ClassId) (dI : Nat → Nat → Nat) (cy : Nat → ClassId) (x0 : Nat) (x : Nat → Nat) (p1 : Int32) (v : Nat → Int32) (f : Nat → Nat → Int32) (hIv : XI v)  : ctI l (dC, dI) cy yX10_popular cX10_popular 2 .int 6 178 0 0 ((Nat → Int32) × (Nat → Nat → Int32)) [.ref x0, .int p1] (XW cy x0 x v f) (fun r u => KV [] u.1 v ∧ KF [13, 14] u.2 f ∧ XI u.1 ∧ u.1 0 = v 0 ∧ u.1 1 = v 1 ∧ u.1 7 = v 7 ∧ u.1 8 = v 8 ∧ u.1 9 = v 9 ∧ u.1 10 = v 10 ∧ u.1 31 = v 31 ∧ u.1 32 = v 32) (fun u => XW cy x0 x u.1 u.2) := by
  refine ctI_of (by decide) (Nat.le_of_ble_eq_true rfl) (fun p e s m below meth c A ls Q hx hb hml hts hown hE hP hD hA hl ret => ?_)
  have hM_v : KV [] v v := fun _ _ => rfl
  have hA_f : KF [13, 14] f f := fun _ _ => rfl
  have hown : s.vm.findClass RX10 = some m.cls := hown
  have hS : va_S A s.heap s.heap [] := va_S.rf
  have hl : lv_has ls 2 [(0, .ref x0), (1, .int p1)] := hl
  refine lv_aload_n hx hb dX10_popular_0 rfl (lv_at hl 0 rfl) ?_
  refine va_get (D := (dC, dI)) (ci := 10) (v := .ref (x 26)) (C := RX10) (T := TX10) (N := 10) hx hb hts inB_10 hown hE.1 hP 0 rfl rfl 2 (Nat.le_of_ble_eq_true rfl) (hts _ k_493) (fun _ h9 => h9) rfl dX10_popular_1 ?_
  refine lv_iload_n hx hb dX10_popular_4 rfl (lv_at hl 1 rfl) ?_
  refine cbVi (n := 1) (rest := []) hx hb hml hown hts hE hP hD hS hA (sX_X7_hasCoat_1 0 l dC dI cy x0 x p1 v f hIv ) k_848 k_315 k_316 k_104 k_317 hd_yX7_hasCoat ⟨Nat.le_of_ble_eq_true rfl, Nat.le_of_ble_eq_true rfl⟩ 27 7 rfl rfl (rfl) hl.1 rfl (Nat.le_of_ble_eq_true rfl) dX10_popular_5 (fun r1 u H locs hw hP hD hS => ?_)
  obtain ⟨hG2, hw⟩ := hw
  rcases hw with ⟨g3, g3_0, g3_1, g3_2⟩ | ⟨g3⟩
  · skip
    subst g3
    -- @T g3_0 : 0 ≤ p1.toInt
    -- @T g3_1 : p1.toInt < (v 32).toInt
    -- @T g3_2 : p1.toInt ≤ 5
    refine lv_if_eq (tgt := 22) hx hb dX10_popular_8 rfl (fun c0 => absurd c0 (by decide)) (fun _ => ?_)
    refine lv_aload_n hx hb dX10_popular_11 rfl (lv_at hl 0 rfl) ?_
    refine va_get (D := (dC, dI)) (ci := 10) (v := .ref (x 21)) (C := RX10) (T := TX10) (N := 10) hx hb hts inB_10 hown hE.1 hP 0 rfl rfl 3 (Nat.le_of_ble_eq_true rfl) (hts _ k_494) (fun _ h9 => h9) rfl dX10_popular_12 ?_
    refine lv_iload_n hx hb dX10_popular_15 rfl (lv_at hl 1 rfl) ?_
    refine cbVi (n := 1) (rest := []) hx hb hml hown hts hE hP hD hS hA (sX_X1_menFitting_1 l dC dI cy x0 x p1 v f hIv ) k_1163 k_1164 k_1165 k_106 k_1166 hd_yX1_menFitting ⟨Nat.le_of_ble_eq_true rfl, Nat.le_of_ble_eq_true rfl⟩ 22 1 rfl rfl (rfl) hl.1 rfl (Nat.le_of_ble_eq_true rfl) dX10_popular_16 (fun r4 u H locs hw hP hD hS => ?_)
    obtain ⟨v5, f6⟩ := u
    obtain ⟨kV_v5, kF_f6, hIv5, hk0_v5, hk1_v5, hk7_v5, hk8_v5, hk9_v5, hk10_v5, hk31_v5, hk32_v5⟩ := hw
    have hM_v5 : KV [] v5 v := KV.tr kV_v5 hM_v rfl
    have hA_f6 : KF [13, 14] f6 f := KF.tr kF_f6 hA_f rfl
    have hP : va_P (dC, dI) vwCl (XW cy x0 x v5 f6) H := hP
    have hD : va_D A (XW cy x0 x v5 f6) := hD
    have hq0_v5 : v5 0 = (v 0) := hk0_v5
    have hq1_v5 : v5 1 = (v 1) := hk1_v5
    have hq7_v5 : v5 7 = (v 7) := hk7_v5
    have hq8_v5 : v5 8 = (v 8) := hk8_v5
    have hq9_v5 : v5 9 = (v 9) := hk9_v5
    have hq10_v5 : v5 10 = (v 10) := hk10_v5
    have hq31_v5 : v5 31 = (v 31) := hk31_v5
    have hq32_v5 : v5 32 = (v 32) := hk32_v5
    refine lv_goto (tgt := 23) hx hb dX10_popular_19 rfl ?_
    exact ret r4 (v5, f6) _ _ _ _ _ _ rfl ⟨hM_v5, hA_f6, hIv5, hk0_v5, hk1_v5, hk7_v5, hk8_v5, hk9_v5, hk10_v5, hk31_v5, hk32_v5⟩ hP hD hS dX10_popular_23 (Nat.le_refl _) (Nat.le_refl _)
  · skip
    subst g3
    refine lv_if_eq (tgt := 22) hx hb dX10_popular_8 rfl (fun _ => ?_) (fun c0 => absurd (by decide) c0)
    refine lv_iconst (v := (-1)) hx hb dX10_popular_22 rfl ?_
    exact ret (-1) (v, f) _ _ _ _ _ _ rfl ⟨hM_v, hA_f, hIv, rfl, rfl, rfl, rfl, rfl, rfl, rfl, rfl⟩ hP hD hS dX10_popular_23 (Nat.le_refl _) (Nat.le_refl _)
set_option maxHeartbeats 4000000 in
set_option maxRecDepth 100000 in
theorem sX_X3_fittingBy_1 (l : Launch) (dC : Nat → ClassId) (dI : Nat → Nat → Nat) (cy : Nat → ClassId) (x0 : Nat) (x : Nat → Nat) (p1 : Int32) (v : Nat → Int32) (f : Nat → Nat → Int32) (hIv : XI v)  : ctI l (dC, dI) cy yX3_fittingBy cX3_fittingBy 5 .int 4 133 0 0 ((Nat → Int32) × (Nat → Nat → Int32)) [.ref (x 25), .int p1] (XW cy x0 x v f) (fun r u => KV [] u.1 v ∧ KF [13, 14] u.2 f ∧ XI u.1 ∧ u.1 0 = v 0 ∧ u.1 1 = v 1 ∧ u.1 7 = v 7 ∧ u.1 8 = v 8 ∧ u.1 9 = v 9 ∧ u.1 10 = v 10 ∧ u.1 31 = v 31 ∧ u.1 32 = v 32) (fun u => XW cy x0 x u.1 u.2) := by
  refine ctI_of (by decide) (Nat.le_of_ble_eq_true rfl) (fun p e s m below meth c A ls Q hx hb hml hts hown hE hP hD hA hl ret => ?_)
  have hM_v : KV [] v v := fun _ _ => rfl
  have hA_f : KF [13, 14] f f := fun _ _ => rfl
  have hown : s.vm.findClass RX3 = some m.cls := hown
  have hS : va_S A s.heap s.heap [] := va_S.rf
  have hl : lv_has ls 5 [(0, .ref (x 25)), (1, .int p1)] := hl
  refine lv_iconst (v := 0) hx hb dX3_fittingBy_0 rfl ?_
  refine lv_istore_n (lv' := [(2, .int 0), (0, .ref (x 25)), (1, .int p1)]) hx hb dX3_fittingBy_1 rfl hl (Nat.le_of_ble_eq_true rfl) rfl (fun ls hl => ?_)
  refine lv_iconst (v := 0) hx hb dX3_fittingBy_2 rfl ?_
  refine lv_istore_n (lv' := [(3, .int 0), (2, .int 0), (0, .ref (x 25)), (1, .int p1)]) hx hb dX3_fittingBy_3 rfl hl (Nat.le_of_ble_eq_true rfl) rfl (fun ls hl => ?_)
  have lp1 : ∀ (n1 : Nat) (l2_1 : Int32) (l3_1 : Int32) (v1 : Nat → Int32) (f1 : Nat → Nat → Int32), XI v1 → v1 0 = (v 0) → v1 1 = (v 1) → v1 7 = (v 7) → v1 8 = (v 8) → v1 9 = (v 9) → v1 10 = (v 10) → v1 31 = (v 31) → v1 32 = (v 32) → ((0 : Int) ≤ l3_1.toInt ∧ l3_1.toInt ≤ 2147483647) → KV [] v1 v → KF [13, 14] f1 f → (2147483647 - l3_1.toInt).toNat < n1 → ∀ (H : Heap) (locs : List Loc) (ls : Array Slot), va_P (dC, dI) vwCl (XW cy x0 x v1 f1) H → va_D A (XW cy x0 x v1 f1) → va_S A s.heap H locs → lv_has ls 5 [(3, .int l3_1), (2, .int l2_1), (0, .ref (x 25)), (1, .int p1)] → W p l e { frames := 4, cells := 0, slots := 0, locals := 133 } s m ([.ref (x 25), .int p1] : List Value).toArray below meth c H locs 0 0 Q (F0 m 4 ls []) := by
    intro n1
    induction n1 with
    | zero => intro l2_1 l3_1 v1 f1 hIv1 hq0_v1 hq1_v1 hq7_v1 hq8_v1 hq9_v1 hq10_v1 hq31_v1 hq32_v1 hr3_1 hM_v1 hA_f1 hm; exact absurd hm (Nat.not_lt_zero _)
    | succ n1 ih1 =>
      intro l2_1 l3_1 v1 f1 hIv1 hq0_v1 hq1_v1 hq7_v1 hq8_v1 hq9_v1 hq10_v1 hq31_v1 hq32_v1 hr3_1 hM_v1 hA_f1 hm1 H locs ls hP hD hS hl
      refine lv_iload_n hx hb dX3_fittingBy_4 rfl (lv_at hl 0 rfl) ?_
      refine lv_aload_n hx hb dX3_fittingBy_5 rfl (lv_at hl 2 rfl) ?_
      refine va_get (D := (dC, dI)) (ci := 3) (v := .ref (x 26)) (C := RX3) (T := TX3) (N := 10) hx hb hts inB_3 hown hE.1 hP 26 rfl rfl 0 (Nat.le_of_ble_eq_true rfl) (hts _ k_370) (fun _ h9 => h9) rfl dX3_fittingBy_6 ?_
      refine va_getN (D := (dC, dI)) (ci := 7) (v := .int (v1 31)) (C := RX7) (T := TX7) (N := 10) hx hb hts inB_7 hown hE.1 hP 27 rfl rfl 3 (Nat.le_of_ble_eq_true rfl) (va_Nw.use rfl (hE.2 _ k_217)) (fun _ h9 => h9) rfl dX3_fittingBy_9 ?_
      refine tI (y := (v 31)) hq31_v1 ?_
      have b31_v : 0 ≤ (v 31).toInt ∧ (v 31).toInt ≤ 6 := Xb_31 hIv
      refine lv_icmp_ge (tgt := 54) hx hb dX3_fittingBy_12 rfl (fun c2 => ?_) (fun c2 => ?_)
      · skip
        refine lv_iload_n hx hb dX3_fittingBy_54 rfl (lv_at hl 1 rfl) ?_
        exact ret l2_1 (v1, f1) _ _ _ _ _ _ rfl ⟨hM_v1, hA_f1, hIv1, (show v1 0 = v 0 from hq0_v1), (show v1 1 = v 1 from hq1_v1), (show v1 7 = v 7 from hq7_v1), (show v1 8 = v 8 from hq8_v1), (show v1 9 = v 9 from hq9_v1), (show v1 10 = v 10 from hq10_v1), (show v1 31 = v 31 from hq31_v1), (show v1 32 = v 32 from hq32_v1)⟩ hP hD hS dX3_fittingBy_55 (Nat.le_refl _) (Nat.le_refl _)
      · skip
        have zc2 : ¬ ((v 31).toInt ≤ l3_1.toInt) := zMn rfl rfl c2
        refine lv_aload_n hx hb dX3_fittingBy_15 rfl (lv_at hl 2 rfl) ?_
        refine va_get (D := (dC, dI)) (ci := 3) (v := .ref (x 21)) (C := RX3) (T := TX3) (N := 10) hx hb hts inB_3 hown hE.1 hP 26 rfl rfl 1 (Nat.le_of_ble_eq_true rfl) (hts _ k_371) (fun _ h9 => h9) rfl dX3_fittingBy_16 ?_
        refine lv_iload_n hx hb dX3_fittingBy_19 rfl (lv_at hl 0 rfl) ?_
        refine cbVi (n := 1) (rest := []) hx hb hml hown hts hE hP hD hS hA (sX_X1_wears_1 0 l dC dI cy x0 x l3_1 v1 f1 hIv1 ) k_950 k_810 k_811 k_106 k_812 hd_yX1_wears ⟨Nat.le_of_ble_eq_true rfl, Nat.le_of_ble_eq_true rfl⟩ 22 1 rfl rfl (rfl) hl.1 rfl (Nat.le_of_ble_eq_true rfl) dX3_fittingBy_20 (fun r7 u H locs hw hP hD hS => ?_)
        have hG8 := hw
        refine lv_istore (lv' := [(4, .int r7), (3, .int l3_1), (2, .int l2_1), (0, .ref (x 25)), (1, .int p1)]) hx hb dX3_fittingBy_23 hl (Nat.le_of_ble_eq_true rfl) rfl (fun ls hl => ?_)
        refine lv_iload hx hb dX3_fittingBy_25 (lv_at hl 0 rfl) ?_
        refine lv_iconst (v := (-1)) hx hb dX3_fittingBy_27 rfl ?_
        refine lv_icmp_eq (tgt := 48) hx hb dX3_fittingBy_28 rfl (fun c9 => ?_) (fun c9 => ?_)
        · skip
          obtain ⟨t10, et10⟩ : ∃ y : Int32, y = l3_1 + 1 := ⟨_, rfl⟩
          have zt10 : t10.toInt = l3_1.toInt + 1 := (congrArg Int32.toInt et10).trans (add_i rfl tc_1 (om_41 hr3_1) (om_187 b31_v zc2))
          refine lv_iinc (v := t10) (lv' := [(3, .int t10), (4, .int r7), (2, .int l2_1), (0, .ref (x 25)), (1, .int p1)]) hx hb dX3_fittingBy_48 hl (k := 1) rfl et10.symm (Nat.le_of_ble_eq_true rfl) rfl (fun ls hl => ?_)
          refine lv_goto (tgt := 4) hx hb dX3_fittingBy_51 rfl ?_
          have rg11 := fb_rng t10
          exact ih1 l2_1 t10 v1 f1 hIv1 hq0_v1 hq1_v1 hq7_v1 hq8_v1 hq9_v1 hq10_v1 hq31_v1 hq32_v1 ⟨show (0 : Int) ≤ t10.toInt from om_43 hr3_1 zt10, show t10.toInt ≤ (2147483647 : Int) from om_44 rg11⟩ hM_v1 hA_f1 (show (2147483647 - t10.toInt).toNat < n1 from om_33 hm1 zt10 rg11) _ _ _ hP hD hS (lv_sub hl [0, 2, 3, 4] rfl)
        · skip
          refine lv_aload_n hx hb dX3_fittingBy_31 rfl (lv_at hl 3 rfl) ?_
          refine va_get (D := (dC, dI)) (ci := 3) (v := .ref (x 21)) (C := RX3) (T := TX3) (N := 10) hx hb hts inB_3 hown hE.1 hP 26 rfl rfl 1 (Nat.le_of_ble_eq_true rfl) (hts _ k_371) (fun _ h9 => h9) rfl dX3_fittingBy_32 ?_
          refine lv_iload_n hx hb dX3_fittingBy_35 rfl (lv_at hl 1 rfl) ?_
          refine lv_iload hx hb dX3_fittingBy_36 (lv_at hl 0 rfl) ?_
          refine cbVi (n := 2) (rest := []) hx hb hml hown hts hE hP hD hS hA (sX_X1_illness_1 0 l dC dI cy x0 x l3_1 r7 v1 f1 hIv1 ) k_1183 k_823 k_824 k_106 k_825 hd_yX1_illness ⟨Nat.le_of_ble_eq_true rfl, Nat.le_of_ble_eq_true rfl⟩ 22 1 rfl rfl (rfl) hl.1 rfl (Nat.le_of_ble_eq_true rfl) dX3_fittingBy_38 (fun r12 u H locs hw hP hD hS => ?_)
          obtain ⟨hG13, hw⟩ := hw
          obtain ⟨v14, f15⟩ := u
          obtain ⟨kV_v14, kF_f15, hIv14, hk0_v14, hk1_v14, hk7_v14, hk8_v14, hk9_v14, hk10_v14, hk31_v14, hk32_v14⟩ := hw
          have hM_v14 : KV [] v14 v := KV.tr kV_v14 hM_v1 rfl
          have hA_f15 : KF [13, 14] f15 f := KF.tr kF_f15 hA_f1 rfl
          have hP : va_P (dC, dI) vwCl (XW cy x0 x v14 f15) H := hP
          have hD : va_D A (XW cy x0 x v14 f15) := hD
          have hq0_v14 : v14 0 = (v 0) := hk0_v14.trans hq0_v1
          have hq1_v14 : v14 1 = (v 1) := hk1_v14.trans hq1_v1
          have hq7_v14 : v14 7 = (v 7) := hk7_v14.trans hq7_v1
          have hq8_v14 : v14 8 = (v 8) := hk8_v14.trans hq8_v1
          have hq9_v14 : v14 9 = (v 9) := hk9_v14.trans hq9_v1
          have hq10_v14 : v14 10 = (v 10) := hk10_v14.trans hq10_v1
          have hq31_v14 : v14 31 = (v 31) := hk31_v14.trans hq31_v1
          have hq32_v14 : v14 32 = (v 32) := hk32_v14.trans hq32_v1
          refine lv_iload_n hx hb dX3_fittingBy_41 rfl (lv_at hl 4 rfl) ?_
          refine lv_icmp_gt (tgt := 48) hx hb dX3_fittingBy_42 rfl (fun c16 => ?_) (fun c16 => ?_)
          · skip
            obtain ⟨t19, et19⟩ : ∃ y : Int32, y = l3_1 + 1 := ⟨_, rfl⟩
            have zt19 : t19.toInt = l3_1.toInt + 1 := (congrArg Int32.toInt et19).trans (add_i rfl tc_1 (om_41 hr3_1) (om_187 b31_v zc2))
            refine lv_iinc (v := t19) (lv' := [(3, .int t19), (4, .int r7), (2, .int l2_1), (0, .ref (x 25)), (1, .int p1)]) hx hb dX3_fittingBy_48 hl (k := 1) rfl et19.symm (Nat.le_of_ble_eq_true rfl) rfl (fun ls hl => ?_)
            refine lv_goto (tgt := 4) hx hb dX3_fittingBy_51 rfl ?_
            have rg20 := fb_rng t19
            exact ih1 l2_1 t19 v14 f15 hIv14 hq0_v14 hq1_v14 hq7_v14 hq8_v14 hq9_v14 hq10_v14 hq31_v14 hq32_v14 ⟨show (0 : Int) ≤ t19.toInt from om_43 hr3_1 zt19, show t19.toInt ≤ (2147483647 : Int) from om_44 rg20⟩ hM_v14 hA_f15 (show (2147483647 - t19.toInt).toNat < n1 from om_33 hm1 zt19 rg20) _ _ _ hP hD hS (lv_sub hl [0, 2, 3, 4] rfl)
          · skip
            obtain ⟨t23, et23⟩ : ∃ y : Int32, y = l2_1 + 1 := ⟨_, rfl⟩
            refine lv_iinc (v := t23) (lv' := [(2, .int t23), (4, .int r7), (3, .int l3_1), (0, .ref (x 25)), (1, .int p1)]) hx hb dX3_fittingBy_45 hl (k := 2) rfl et23.symm (Nat.le_of_ble_eq_true rfl) rfl (fun ls hl => ?_)
            obtain ⟨t24, et24⟩ : ∃ y : Int32, y = l3_1 + 1 := ⟨_, rfl⟩
            have zt24 : t24.toInt = l3_1.toInt + 1 := (congrArg Int32.toInt et24).trans (add_i rfl tc_1 (om_41 hr3_1) (om_187 b31_v zc2))
            refine lv_iinc (v := t24) (lv' := [(3, .int t24), (2, .int t23), (4, .int r7), (0, .ref (x 25)), (1, .int p1)]) hx hb dX3_fittingBy_48 hl (k := 2) rfl et24.symm (Nat.le_of_ble_eq_true rfl) rfl (fun ls hl => ?_)
            refine lv_goto (tgt := 4) hx hb dX3_fittingBy_51 rfl ?_
            have rg25 := fb_rng t24
            exact ih1 t23 t24 v14 f15 hIv14 hq0_v14 hq1_v14 hq7_v14 hq8_v14 hq9_v14 hq10_v14 hq31_v14 hq32_v14 ⟨show (0 : Int) ≤ t24.toInt from om_43 hr3_1 zt24, show t24.toInt ≤ (2147483647 : Int) from om_44 rg25⟩ hM_v14 hA_f15 (show (2147483647 - t24.toInt).toNat < n1 from om_33 hm1 zt24 rg25) _ _ _ hP hD hS (lv_sub hl [0, 1, 3, 4] rfl)
  exact lp1 _ 0 0 v f hIv rfl rfl rfl rfl rfl rfl rfl rfl ⟨by decide, by decide⟩ hM_v hA_f (Nat.lt_succ_self _) _ _ _ hP hD hS (lv_sub hl [0, 1, 2, 3] rfl)
set_option maxHeartbeats 4000000 in
set_option maxRecDepth 100000 in
theorem sX_X10_law_1 (l : Launch) (dC : Nat → ClassId) (dI : Nat → Nat → Nat) (cy : Nat → ClassId) (x0 : Nat) (x : Nat → Nat) (p1 : Int32) (v : Nat → Int32) (f : Nat → Nat → Int32) (hIv : XI v)  : ctI l (dC, dI) cy yX10_law cX10_law 2 .int 5 157 0 0 ((Nat → Int32) × (Nat → Nat → Int32)) [.ref x0, .int p1] (XW cy x0 x v f) (fun r u => KV [] u.1 v ∧ KF [13, 14] u.2 f ∧ XI u.1 ∧ u.1 0 = v 0 ∧ u.1 1 = v 1 ∧ u.1 7 = v 7 ∧ u.1 8 = v 8 ∧ u.1 9 = v 9 ∧ u.1 10 = v 10 ∧ u.1 31 = v 31 ∧ u.1 32 = v 32) (fun u => XW cy x0 x u.1 u.2) := by
  refine ctI_of (by decide) (Nat.le_of_ble_eq_true rfl) (fun p e s m below meth c A ls Q hx hb hml hts hown hE hP hD hA hl ret => ?_)
  have hM_v : KV [] v v := fun _ _ => rfl
  have hA_f : KF [13, 14] f f := fun _ _ => rfl
  have hown : s.vm.findClass RX10 = some m.cls := hown
  have hS : va_S A s.heap s.heap [] := va_S.rf
  have hl : lv_has ls 2 [(0, .ref x0), (1, .int p1)] := hl
  refine lv_iload_n hx hb dX10_law_0 rfl (lv_at hl 1 rfl) ?_
  refine lv_if_lt (tgt := 11) hx hb dX10_law_1 rfl (fun c1 => ?_) (fun c1 => ?_)
  · skip
    refine lv_iconst (v := (-1)) hx hb dX10_law_11 rfl ?_
    refine lv_goto (tgt := 23) hx hb dX10_law_12 rfl ?_
    exact ret (-1) (v, f) _ _ _ _ _ _ rfl ⟨hM_v, hA_f, hIv, rfl, rfl, rfl, rfl, rfl, rfl, rfl, rfl⟩ hP hD hS dX10_law_23 (Nat.le_refl _) (Nat.le_refl _)
  · skip
    refine lv_iload_n hx hb dX10_law_4 rfl (lv_at hl 1 rfl) ?_
    refine lv_sipush (v := 999) hx hb dX10_law_5 rfl ?_
    refine lv_icmp_le (tgt := 15) hx hb dX10_law_8 rfl (fun c2 => ?_) (fun c2 => ?_)
    · skip
      refine lv_aload_n hx hb dX10_law_15 rfl (lv_at hl 0 rfl) ?_
      refine va_get (D := (dC, dI)) (ci := 10) (v := .ref (x 25)) (C := RX10) (T := TX10) (N := 10) hx hb hts inB_10 hown hE.1 hP 0 rfl rfl 5 (Nat.le_of_ble_eq_true rfl) (hts _ k_496) (fun _ h9 => h9) rfl dX10_law_16 ?_
      refine lv_iload_n hx hb dX10_law_19 rfl (lv_at hl 1 rfl) ?_
      refine cbVi (n := 1) (rest := []) hx hb hml hown hts hE hP hD hS hA (sX_X3_fittingBy_1 l dC dI cy x0 x p1 v f hIv ) k_1179 k_1180 k_1181 k_109 k_1182 hd_yX3_fittingBy ⟨Nat.le_of_ble_eq_true rfl, Nat.le_of_ble_eq_true rfl⟩ 26 3 rfl rfl (rfl) hl.1 rfl (Nat.le_of_ble_eq_true rfl) dX10_law_20 (fun r3 u H locs hw hP hD hS => ?_)
      obtain ⟨v4, f5⟩ := u
      obtain ⟨kV_v4, kF_f5, hIv4, hk0_v4, hk1_v4, hk7_v4, hk8_v4, hk9_v4, hk10_v4, hk31_v4, hk32_v4⟩ := hw
      have hM_v4 : KV [] v4 v := KV.tr kV_v4 hM_v rfl
      have hA_f5 : KF [13, 14] f5 f := KF.tr kF_f5 hA_f rfl
      have hP : va_P (dC, dI) vwCl (XW cy x0 x v4 f5) H := hP
      have hD : va_D A (XW cy x0 x v4 f5) := hD
      exact ret r3 (v4, f5) _ _ _ _ _ _ rfl ⟨hM_v4, hA_f5, hIv4, hk0_v4, hk1_v4, hk7_v4, hk8_v4, hk9_v4, hk10_v4, hk31_v4, hk32_v4⟩ hP hD hS dX10_law_23 (Nat.le_refl _) (Nat.le_refl _)
    · skip
      refine lv_iconst (v := (-1)) hx hb dX10_law_11 rfl ?_
      refine lv_goto (tgt := 23) hx hb dX10_law_12 rfl ?_
      exact ret (-1) (v, f) _ _ _ _ _ _ rfl ⟨hM_v, hA_f, hIv, rfl, rfl, rfl, rfl, rfl, rfl, rfl, rfl⟩ hP hD hS dX10_law_23 (Nat.le_refl _) (Nat.le_refl _)
set_option maxHeartbeats 4000000 in
set_option maxRecDepth 100000 in
theorem sX_X3_worstIllness_1 (l : Launch) (dC : Nat → ClassId) (dI : Nat → Nat → Nat) (cy : Nat → ClassId) (x0 : Nat) (x : Nat → Nat)  (v : Nat → Int32) (f : Nat → Nat → Int32) (hIv : XI v)  : ctI l (dC, dI) cy yX3_worstIllness cX3_worstIllness 4 .int 4 133 0 0 ((Nat → Int32) × (Nat → Nat → Int32)) [.ref (x 25)] (XW cy x0 x v f) (fun r u => KV [] u.1 v ∧ KF [13, 14] u.2 f ∧ XI u.1 ∧ u.1 0 = v 0 ∧ u.1 1 = v 1 ∧ u.1 7 = v 7 ∧ u.1 8 = v 8 ∧ u.1 9 = v 9 ∧ u.1 10 = v 10 ∧ u.1 31 = v 31 ∧ u.1 32 = v 32) (fun u => XW cy x0 x u.1 u.2) := by
  refine ctI_of (by decide) (Nat.le_of_ble_eq_true rfl) (fun p e s m below meth c A ls Q hx hb hml hts hown hE hP hD hA hl ret => ?_)
  have hM_v : KV [] v v := fun _ _ => rfl
  have hA_f : KF [13, 14] f f := fun _ _ => rfl
  have hown : s.vm.findClass RX3 = some m.cls := hown
  have hS : va_S A s.heap s.heap [] := va_S.rf
  have hl : lv_has ls 4 [(0, .ref (x 25))] := hl
  refine lv_iconst (v := 0) hx hb dX3_worstIllness_0 rfl ?_
  refine lv_istore_n (lv' := [(1, .int 0), (0, .ref (x 25))]) hx hb dX3_worstIllness_1 rfl hl (Nat.le_of_ble_eq_true rfl) rfl (fun ls hl => ?_)
  refine lv_iconst (v := 0) hx hb dX3_worstIllness_2 rfl ?_
  refine lv_istore_n (lv' := [(2, .int 0), (1, .int 0), (0, .ref (x 25))]) hx hb dX3_worstIllness_3 rfl hl (Nat.le_of_ble_eq_true rfl) rfl (fun ls hl => ?_)
  have lp1 : ∀ (n1 : Nat) (l1_1 : Int32) (l2_1 : Int32) (v1 : Nat → Int32) (f1 : Nat → Nat → Int32), XI v1 → v1 0 = (v 0) → v1 1 = (v 1) → v1 7 = (v 7) → v1 8 = (v 8) → v1 9 = (v 9) → v1 10 = (v 10) → v1 31 = (v 31) → v1 32 = (v 32) → ((0 : Int) ≤ l2_1.toInt ∧ l2_1.toInt ≤ 2147483647) → KV [] v1 v → KF [13, 14] f1 f → (2147483647 - l2_1.toInt).toNat < n1 → ∀ (H : Heap) (locs : List Loc) (ls : Array Slot), va_P (dC, dI) vwCl (XW cy x0 x v1 f1) H → va_D A (XW cy x0 x v1 f1) → va_S A s.heap H locs → lv_has ls 4 [(2, .int l2_1), (1, .int l1_1), (0, .ref (x 25))] → W p l e { frames := 4, cells := 0, slots := 0, locals := 133 } s m ([.ref (x 25)] : List Value).toArray below meth c H locs 0 0 Q (F0 m 4 ls []) := by
    intro n1
    induction n1 with
    | zero => intro l1_1 l2_1 v1 f1 hIv1 hq0_v1 hq1_v1 hq7_v1 hq8_v1 hq9_v1 hq10_v1 hq31_v1 hq32_v1 hr2_1 hM_v1 hA_f1 hm; exact absurd hm (Nat.not_lt_zero _)
    | succ n1 ih1 =>
      intro l1_1 l2_1 v1 f1 hIv1 hq0_v1 hq1_v1 hq7_v1 hq8_v1 hq9_v1 hq10_v1 hq31_v1 hq32_v1 hr2_1 hM_v1 hA_f1 hm1 H locs ls hP hD hS hl
      refine lv_iload_n hx hb dX3_worstIllness_4 rfl (lv_at hl 0 rfl) ?_
      refine lv_aload_n hx hb dX3_worstIllness_5 rfl (lv_at hl 2 rfl) ?_
      refine va_get (D := (dC, dI)) (ci := 3) (v := .ref (x 26)) (C := RX3) (T := TX3) (N := 10) hx hb hts inB_3 hown hE.1 hP 26 rfl rfl 0 (Nat.le_of_ble_eq_true rfl) (hts _ k_370) (fun _ h9 => h9) rfl dX3_worstIllness_6 ?_
      refine va_getN (D := (dC, dI)) (ci := 7) (v := .int (v1 31)) (C := RX7) (T := TX7) (N := 10) hx hb hts inB_7 hown hE.1 hP 27 rfl rfl 3 (Nat.le_of_ble_eq_true rfl) (va_Nw.use rfl (hE.2 _ k_217)) (fun _ h9 => h9) rfl dX3_worstIllness_9 ?_
      refine tI (y := (v 31)) hq31_v1 ?_
      have b31_v : 0 ≤ (v 31).toInt ∧ (v 31).toInt ≤ 6 := Xb_31 hIv
      refine lv_icmp_ge (tgt := 49) hx hb dX3_worstIllness_12 rfl (fun c2 => ?_) (fun c2 => ?_)
      · skip
        refine lv_iload_n hx hb dX3_worstIllness_49 rfl (lv_at hl 1 rfl) ?_
        exact ret l1_1 (v1, f1) _ _ _ _ _ _ rfl ⟨hM_v1, hA_f1, hIv1, (show v1 0 = v 0 from hq0_v1), (show v1 1 = v 1 from hq1_v1), (show v1 7 = v 7 from hq7_v1), (show v1 8 = v 8 from hq8_v1), (show v1 9 = v 9 from hq9_v1), (show v1 10 = v 10 from hq10_v1), (show v1 31 = v 31 from hq31_v1), (show v1 32 = v 32 from hq32_v1)⟩ hP hD hS dX3_worstIllness_50 (Nat.le_refl _) (Nat.le_refl _)
      · skip
        have zc2 : ¬ ((v 31).toInt ≤ l2_1.toInt) := zMn rfl rfl c2
        refine lv_aload_n hx hb dX3_worstIllness_15 rfl (lv_at hl 2 rfl) ?_
        refine va_get (D := (dC, dI)) (ci := 3) (v := .ref (x 21)) (C := RX3) (T := TX3) (N := 10) hx hb hts inB_3 hown hE.1 hP 26 rfl rfl 1 (Nat.le_of_ble_eq_true rfl) (hts _ k_371) (fun _ h9 => h9) rfl dX3_worstIllness_16 ?_
        refine lv_iload_n hx hb dX3_worstIllness_19 rfl (lv_at hl 0 rfl) ?_
        refine cbVi (n := 1) (rest := []) hx hb hml hown hts hE hP hD hS hA (sX_X1_wears_1 0 l dC dI cy x0 x l2_1 v1 f1 hIv1 ) k_950 k_810 k_811 k_106 k_812 hd_yX1_wears ⟨Nat.le_of_ble_eq_true rfl, Nat.le_of_ble_eq_true rfl⟩ 22 1 rfl rfl (rfl) hl.1 rfl (Nat.le_of_ble_eq_true rfl) dX3_worstIllness_20 (fun r7 u H locs hw hP hD hS => ?_)
        have hG8 := hw
        refine lv_istore_n (lv' := [(3, .int r7), (2, .int l2_1), (1, .int l1_1), (0, .ref (x 25))]) hx hb dX3_worstIllness_23 rfl hl (Nat.le_of_ble_eq_true rfl) rfl (fun ls hl => ?_)
        refine lv_iload_n hx hb dX3_worstIllness_24 rfl (lv_at hl 0 rfl) ?_
        refine lv_iconst (v := (-1)) hx hb dX3_worstIllness_25 rfl ?_
        refine lv_icmp_eq (tgt := 43) hx hb dX3_worstIllness_26 rfl (fun c9 => ?_) (fun c9 => ?_)
        · skip
          obtain ⟨t10, et10⟩ : ∃ y : Int32, y = l2_1 + 1 := ⟨_, rfl⟩
          have zt10 : t10.toInt = l2_1.toInt + 1 := (congrArg Int32.toInt et10).trans (add_i rfl tc_1 (om_41 hr2_1) (om_187 b31_v zc2))
          refine lv_iinc (v := t10) (lv' := [(2, .int t10), (3, .int r7), (1, .int l1_1), (0, .ref (x 25))]) hx hb dX3_worstIllness_43 hl (k := 1) rfl et10.symm (Nat.le_of_ble_eq_true rfl) rfl (fun ls hl => ?_)
          refine lv_goto (tgt := 4) hx hb dX3_worstIllness_46 rfl ?_
          have rg11 := fb_rng t10
          exact ih1 l1_1 t10 v1 f1 hIv1 hq0_v1 hq1_v1 hq7_v1 hq8_v1 hq9_v1 hq10_v1 hq31_v1 hq32_v1 ⟨show (0 : Int) ≤ t10.toInt from om_43 hr2_1 zt10, show t10.toInt ≤ (2147483647 : Int) from om_44 rg11⟩ hM_v1 hA_f1 (show (2147483647 - t10.toInt).toNat < n1 from om_33 hm1 zt10 rg11) _ _ _ hP hD hS (lv_sub hl [0, 2, 3] rfl)
        · skip
          refine lv_iload_n hx hb dX3_worstIllness_29 rfl (lv_at hl 2 rfl) ?_
          refine lv_aload_n hx hb dX3_worstIllness_30 rfl (lv_at hl 3 rfl) ?_
          refine va_get (D := (dC, dI)) (ci := 3) (v := .ref (x 21)) (C := RX3) (T := TX3) (N := 10) hx hb hts inB_3 hown hE.1 hP 26 rfl rfl 1 (Nat.le_of_ble_eq_true rfl) (hts _ k_371) (fun _ h9 => h9) rfl dX3_worstIllness_31 ?_
          refine lv_iload_n hx hb dX3_worstIllness_34 rfl (lv_at hl 1 rfl) ?_
          refine lv_iload_n hx hb dX3_worstIllness_35 rfl (lv_at hl 0 rfl) ?_
          refine cbVi (n := 2) (rest := [.int l1_1]) hx hb hml hown hts hE hP hD hS hA (sX_X1_illness_1 0 l dC dI cy x0 x l2_1 r7 v1 f1 hIv1 ) k_1183 k_823 k_824 k_106 k_825 hd_yX1_illness ⟨Nat.le_of_ble_eq_true rfl, Nat.le_of_ble_eq_true rfl⟩ 22 1 rfl rfl (rfl) hl.1 rfl (Nat.le_of_ble_eq_true rfl) dX3_worstIllness_36 (fun r12 u H locs hw hP hD hS => ?_)
          obtain ⟨hG13, hw⟩ := hw
          obtain ⟨v14, f15⟩ := u
          obtain ⟨kV_v14, kF_f15, hIv14, hk0_v14, hk1_v14, hk7_v14, hk8_v14, hk9_v14, hk10_v14, hk31_v14, hk32_v14⟩ := hw
          have hM_v14 : KV [] v14 v := KV.tr kV_v14 hM_v1 rfl
          have hA_f15 : KF [13, 14] f15 f := KF.tr kF_f15 hA_f1 rfl
          have hP : va_P (dC, dI) vwCl (XW cy x0 x v14 f15) H := hP
          have hD : va_D A (XW cy x0 x v14 f15) := hD
          have hq0_v14 : v14 0 = (v 0) := hk0_v14.trans hq0_v1
          have hq1_v14 : v14 1 = (v 1) := hk1_v14.trans hq1_v1
          have hq7_v14 : v14 7 = (v 7) := hk7_v14.trans hq7_v1
          have hq8_v14 : v14 8 = (v 8) := hk8_v14.trans hq8_v1
          have hq9_v14 : v14 9 = (v 9) := hk9_v14.trans hq9_v1
          have hq10_v14 : v14 10 = (v 10) := hk10_v14.trans hq10_v1
          have hq31_v14 : v14 31 = (v 31) := hk31_v14.trans hq31_v1
          have hq32_v14 : v14 32 = (v 32) := hk32_v14.trans hq32_v1
          refine va_mmax hx hb (by rw [hml]; exact hl.1.symm) hown (hts _ k_1007) (hts _ k_640) (hts _ k_119) (hts _ k_641) (Nat.le_of_ble_eq_true rfl) (Nat.le_of_ble_eq_true rfl) (Nat.le_of_ble_eq_true rfl) (Nat.le_of_ble_eq_true rfl) dX3_worstIllness_39 ?_
          refine lv_topi (fun t16 et16 => ?_)
          refine lv_istore_n (lv' := [(1, .int t16), (3, .int r7), (2, .int l2_1), (0, .ref (x 25))]) hx hb dX3_worstIllness_42 rfl hl (Nat.le_of_ble_eq_true rfl) rfl (fun ls hl => ?_)
          obtain ⟨t17, et17⟩ : ∃ y : Int32, y = l2_1 + 1 := ⟨_, rfl⟩
          have zt17 : t17.toInt = l2_1.toInt + 1 := (congrArg Int32.toInt et17).trans (add_i rfl tc_1 (om_41 hr2_1) (om_187 b31_v zc2))
          refine lv_iinc (v := t17) (lv' := [(2, .int t17), (1, .int t16), (3, .int r7), (0, .ref (x 25))]) hx hb dX3_worstIllness_43 hl (k := 2) rfl et17.symm (Nat.le_of_ble_eq_true rfl) rfl (fun ls hl => ?_)
          refine lv_goto (tgt := 4) hx hb dX3_worstIllness_46 rfl ?_
          have rg18 := fb_rng t17
          exact ih1 t16 t17 v14 f15 hIv14 hq0_v14 hq1_v14 hq7_v14 hq8_v14 hq9_v14 hq10_v14 hq31_v14 hq32_v14 ⟨show (0 : Int) ≤ t17.toInt from om_43 hr2_1 zt17, show t17.toInt ≤ (2147483647 : Int) from om_44 rg18⟩ hM_v14 hA_f15 (show (2147483647 - t17.toInt).toNat < n1 from om_33 hm1 zt17 rg18) _ _ _ hP hD hS (lv_sub hl [0, 1, 3] rfl)
  exact lp1 _ 0 0 v f hIv rfl rfl rfl rfl rfl rfl rfl rfl ⟨by decide, by decide⟩ hM_v hA_f (Nat.lt_succ_self _) _ _ _ hP hD hS (lv_sub hl [0, 1, 2] rfl)
set_option maxHeartbeats 4000000 in
set_option maxRecDepth 100000 in
theorem sX_X10_ease_1 (l : Launch) (dC : Nat → ClassId) (dI : Nat → Nat → Nat) (cy : Nat → ClassId) (x0 : Nat) (x : Nat → Nat)  (v : Nat → Int32) (f : Nat → Nat → Int32) (hIv : XI v)  : ctI l (dC, dI) cy yX10_ease cX10_ease 1 .int 5 156 0 0 ((Nat → Int32) × (Nat → Nat → Int32)) [.ref x0] (XW cy x0 x v f) (fun r u => KV [] u.1 v ∧ KF [13, 14] u.2 f ∧ XI u.1 ∧ u.1 0 = v 0 ∧ u.1 1 = v 1 ∧ u.1 7 = v 7 ∧ u.1 8 = v 8 ∧ u.1 9 = v 9 ∧ u.1 10 = v 10 ∧ u.1 31 = v 31 ∧ u.1 32 = v 32) (fun u => XW cy x0 x u.1 u.2) := by
  refine ctI_of (by decide) (Nat.le_of_ble_eq_true rfl) (fun p e s m below meth c A ls Q hx hb hml hts hown hE hP hD hA hl ret => ?_)
  have hM_v : KV [] v v := fun _ _ => rfl
  have hA_f : KF [13, 14] f f := fun _ _ => rfl
  have hown : s.vm.findClass RX10 = some m.cls := hown
  have hS : va_S A s.heap s.heap [] := va_S.rf
  have hl : lv_has ls 1 [(0, .ref x0)] := hl
  refine lv_aload_n hx hb dX10_ease_0 rfl (lv_at hl 0 rfl) ?_
  refine va_get (D := (dC, dI)) (ci := 10) (v := .ref (x 25)) (C := RX10) (T := TX10) (N := 10) hx hb hts inB_10 hown hE.1 hP 0 rfl rfl 5 (Nat.le_of_ble_eq_true rfl) (hts _ k_496) (fun _ h9 => h9) rfl dX10_ease_1 ?_
  refine cbVi (n := 0) (rest := []) hx hb hml hown hts hE hP hD hS hA (sX_X3_worstIllness_1 l dC dI cy x0 x  v f hIv ) k_1188 k_1189 k_1190 k_109 k_1191 hd_yX3_worstIllness ⟨Nat.le_of_ble_eq_true rfl, Nat.le_of_ble_eq_true rfl⟩ 26 3 rfl rfl (rfl) hl.1 rfl (Nat.le_of_ble_eq_true rfl) dX10_ease_4 (fun r1 u H locs hw hP hD hS => ?_)
  obtain ⟨v2, f3⟩ := u
  obtain ⟨kV_v2, kF_f3, hIv2, hk0_v2, hk1_v2, hk7_v2, hk8_v2, hk9_v2, hk10_v2, hk31_v2, hk32_v2⟩ := hw
  have hM_v2 : KV [] v2 v := KV.tr kV_v2 hM_v rfl
  have hA_f3 : KF [13, 14] f3 f := KF.tr kF_f3 hA_f rfl
  have hP : va_P (dC, dI) vwCl (XW cy x0 x v2 f3) H := hP
  have hD : va_D A (XW cy x0 x v2 f3) := hD
  have hq0_v2 : v2 0 = (v 0) := hk0_v2
  have hq1_v2 : v2 1 = (v 1) := hk1_v2
  have hq7_v2 : v2 7 = (v 7) := hk7_v2
  have hq8_v2 : v2 8 = (v 8) := hk8_v2
  have hq9_v2 : v2 9 = (v 9) := hk9_v2
  have hq10_v2 : v2 10 = (v 10) := hk10_v2
  have hq31_v2 : v2 31 = (v 31) := hk31_v2
  have hq32_v2 : v2 32 = (v 32) := hk32_v2
  exact ret r1 (v2, f3) _ _ _ _ _ _ rfl ⟨hM_v2, hA_f3, hIv2, hk0_v2, hk1_v2, hk7_v2, hk8_v2, hk9_v2, hk10_v2, hk31_v2, hk32_v2⟩ hP hD hS dX10_ease_7 (Nat.le_refl _) (Nat.le_refl _)
def gsX_X1_wearers_2_L1 (NF : Nat) (v : Nat → Int32) (f : Nat → Nat → Int32) : Nat → (Int32) → (Int32) → Int32
  | 0, _, _ => 0
  | n1 + 1, l1_1, l2_1 =>
    if (v 31) ≤ l2_1 then
      l1_1
    else
      let r7 : Int32 := gsX_X1_wears_2 NF l2_1 v f
      if r7 = (-1) then
        let t10 : Int32 := l2_1 + 1
        gsX_X1_wearers_2_L1 NF v f n1 l1_1 t10
      else
        let t12 : Int32 := 1 <<< (l2_1 &&& 31)
        let t13 : Int32 := l1_1 ||| t12
        let t14 : Int32 := l2_1 + 1
        gsX_X1_wearers_2_L1 NF v f n1 t13 t14
def gsX_X1_wearers_2 (NF : Nat) (v : Nat → Int32) (f : Nat → Nat → Int32) : Int32 :=
  gsX_X1_wearers_2_L1 NF v f (4294967296 + NF) 0 0
theorem gsX_X1_wearers_2_q3 {NF : Nat} {v : Nat → Int32} {f : Nat → Nat → Int32}  : gsX_X1_wearers_2 NF v f = gsX_X1_wearers_2_L1 NF v f (4294967296 + NF) 0 0 := by
  simp only [gsX_X1_wearers_2]
theorem gsX_X1_wearers_2_q0 {NF : Nat} {v : Nat → Int32} {f : Nat → Nat → Int32} {n1 : Nat} {l1_1 : Int32} {l2_1 : Int32} (h0 : ((v 31) ≤ l2_1)) : gsX_X1_wearers_2_L1 NF v f (n1 + 1) l1_1 l2_1 = l1_1 := by
  simp only [gsX_X1_wearers_2_L1, if_pos h0]
theorem gsX_X1_wearers_2_q1 {NF : Nat} {v : Nat → Int32} {f : Nat → Nat → Int32} {n1 : Nat} {l1_1 : Int32} {l2_1 : Int32} {r7 : Int32} {t10 : Int32} (h0 : ¬ ((v 31) ≤ l2_1)) (h1 : r7 = gsX_X1_wears_2 NF l2_1 v f) (h2 : (r7 = (-1))) (h3 : t10 = l2_1 + 1) : gsX_X1_wearers_2_L1 NF v f (n1 + 1) l1_1 l2_1 = gsX_X1_wearers_2_L1 NF v f n1 l1_1 t10 := by
  subst h1 h3
  simp only [gsX_X1_wearers_2_L1, if_neg h0, if_pos h2]
theorem gsX_X1_wearers_2_q2 {NF : Nat} {v : Nat → Int32} {f : Nat → Nat → Int32} {n1 : Nat} {l1_1 : Int32} {l2_1 : Int32} {r7 : Int32} {t12 : Int32} {t13 : Int32} {t14 : Int32} (h0 : ¬ ((v 31) ≤ l2_1)) (h1 : r7 = gsX_X1_wears_2 NF l2_1 v f) (h2 : ¬ (r7 = (-1))) (h3 : t12 = 1 <<< (l2_1 &&& 31)) (h4 : t13 = l1_1 ||| t12) (h5 : t14 = l2_1 + 1) : gsX_X1_wearers_2_L1 NF v f (n1 + 1) l1_1 l2_1 = gsX_X1_wearers_2_L1 NF v f n1 t13 t14 := by
  subst h1 h3 h4 h5
  simp only [gsX_X1_wearers_2_L1, if_neg h0, if_neg h2]
set_option maxHeartbeats 4000000 in
set_option maxRecDepth 100000 in
theorem sX_X1_wearers_2 (NF : Nat) (l : Launch) (dC : Nat → ClassId) (dI : Nat → Nat → Nat) (cy : Nat → ClassId) (x0 : Nat) (x : Nat → Nat)  (v : Nat → Int32) (f : Nat → Nat → Int32) (hIv : XI v)  : ctI l (dC, dI) cy yX1_wearers cX1_wearers 3 .int 3 102 0 0 Unit [.ref (x 27)] (XW cy x0 x v f) (fun r u => gsX_X1_wearers_2 NF v f = r) (fun u => XW cy x0 x v f) := by
  refine ctI_of (by decide) (Nat.le_of_ble_eq_true rfl) (fun p e s m below meth c A ls Q hx hb hml hts hown hE hP hD hA hl ret => ?_)
  have hown : s.vm.findClass RX1 = some m.cls := hown
  have hS : va_S A s.heap s.heap [] := va_S.rf
  have hl : lv_has ls 3 [(0, .ref (x 27))] := hl
  refine lv_iconst (v := 0) hx hb dX1_wearers_0 rfl ?_
  refine lv_istore_n (lv' := [(1, .int 0), (0, .ref (x 27))]) hx hb dX1_wearers_1 rfl hl (Nat.le_of_ble_eq_true rfl) rfl (fun ls hl => ?_)
  refine lv_iconst (v := 0) hx hb dX1_wearers_2 rfl ?_
  refine lv_istore_n (lv' := [(2, .int 0), (1, .int 0), (0, .ref (x 27))]) hx hb dX1_wearers_3 rfl hl (Nat.le_of_ble_eq_true rfl) rfl (fun ls hl => ?_)
  have lp1 : ∀ (n1 : Nat) (l1_1 : Int32) (l2_1 : Int32), gsX_X1_wearers_2_L1 NF v f n1 l1_1 l2_1 = (gsX_X1_wearers_2 NF v f) → ((0 : Int) ≤ l2_1.toInt ∧ l2_1.toInt ≤ 2147483647) → (2147483647 - l2_1.toInt).toNat < n1 → ∀ (H : Heap) (locs : List Loc) (ls : Array Slot), va_P (dC, dI) vwCl (XW cy x0 x v f) H → va_D A (XW cy x0 x v f) → va_S A s.heap H locs → lv_has ls 3 [(2, .int l2_1), (1, .int l1_1), (0, .ref (x 27))] → W p l e { frames := 3, cells := 0, slots := 0, locals := 102 } s m ([.ref (x 27)] : List Value).toArray below meth c H locs 0 0 Q (F0 m 4 ls []) := by
    intro n1
    induction n1 with
    | zero => intro l1_1 l2_1 hT1 hr2_1 hm; exact absurd hm (Nat.not_lt_zero _)
    | succ n1 ih1 =>
      intro l1_1 l2_1 hT1 hr2_1 hm1 H locs ls hP hD hS hl
      refine lv_iload_n hx hb dX1_wearers_4 rfl (lv_at hl 0 rfl) ?_
      refine lv_aload_n hx hb dX1_wearers_5 rfl (lv_at hl 2 rfl) ?_
      refine va_get (D := (dC, dI)) (ci := 1) (v := .ref (x 26)) (C := RX1) (T := TX1) (N := 2) hx hb hts inB_1 hown hE.1 hP 28 rfl rfl 0 (Nat.le_of_ble_eq_true rfl) (hts _ k_318) (fun _ h9 => h9) rfl dX1_wearers_6 ?_
      refine va_getN (D := (dC, dI)) (ci := 7) (v := .int (v 31)) (C := RX7) (T := TX7) (N := 10) hx hb hts inB_7 hown hE.1 hP 27 rfl rfl 3 (Nat.le_of_ble_eq_true rfl) (va_Nw.use rfl (hE.2 _ k_219)) (fun _ h9 => h9) rfl dX1_wearers_9 ?_
      have b31_v : 0 ≤ (v 31).toInt ∧ (v 31).toInt ≤ 6 := Xb_31 hIv
      refine lv_icmp_ge (tgt := 36) hx hb dX1_wearers_12 rfl (fun c2 => ?_) (fun c2 => ?_)
      · skip
        refine lv_iload_n hx hb dX1_wearers_36 rfl (lv_at hl 1 rfl) ?_
        exact ret l1_1 () _ _ _ _ _ _ rfl (hT1.symm.trans (gsX_X1_wearers_2_q0 c2)) hP hD hS dX1_wearers_37 (Nat.le_refl _) (Nat.le_refl _)
      · skip
        have zc2 : ¬ ((v 31).toInt ≤ l2_1.toInt) := zMn rfl rfl c2
        refine lv_aload_n hx hb dX1_wearers_15 rfl (lv_at hl 2 rfl) ?_
        refine lv_iload_n hx hb dX1_wearers_16 rfl (lv_at hl 0 rfl) ?_
        refine cbVi (n := 1) (rest := []) hx hb hml hown hts hE hP hD hS hA (sX_X1_wears_2 NF l dC dI cy x0 x l2_1 v f hIv ) k_853 k_810 k_811 k_106 k_812 hd_yX1_wears ⟨Nat.le_of_ble_eq_true rfl, Nat.le_of_ble_eq_true rfl⟩ 28 1 rfl rfl (rfl) hl.1 rfl (Nat.le_of_ble_eq_true rfl) dX1_wearers_17 (fun r7 u H locs hw hP hD hS => ?_)
        have hG8 := hw
        refine lv_iconst (v := (-1)) hx hb dX1_wearers_20 rfl ?_
        refine lv_icmp_eq (tgt := 30) hx hb dX1_wearers_21 rfl (fun c9 => ?_) (fun c9 => ?_)
        · skip
          obtain ⟨t10, et10⟩ : ∃ y : Int32, y = l2_1 + 1 := ⟨_, rfl⟩
          have zt10 : t10.toInt = l2_1.toInt + 1 := (congrArg Int32.toInt et10).trans (add_i rfl tc_1 (om_41 hr2_1) (om_187 b31_v zc2))
          refine lv_iinc (v := t10) (lv' := [(2, .int t10), (1, .int l1_1), (0, .ref (x 27))]) hx hb dX1_wearers_30 hl (k := 0) rfl et10.symm (Nat.le_of_ble_eq_true rfl) rfl (fun ls hl => ?_)
          refine lv_goto (tgt := 4) hx hb dX1_wearers_33 rfl ?_
          have rg11 := fb_rng t10
          exact ih1 l1_1 t10 ((gsX_X1_wearers_2_q1 c2 hG8.symm c9 et10).symm.trans hT1) ⟨show (0 : Int) ≤ t10.toInt from om_43 hr2_1 zt10, show t10.toInt ≤ (2147483647 : Int) from om_44 rg11⟩ (show (2147483647 - t10.toInt).toNat < n1 from om_33 hm1 zt10 rg11) _ _ _ hP hD hS (lv_sub hl [0, 1, 2] rfl)
        · skip
          refine lv_iload_n hx hb dX1_wearers_24 rfl (lv_at hl 1 rfl) ?_
          refine lv_iconst (v := 1) hx hb dX1_wearers_25 rfl ?_
          refine lv_iload_n hx hb dX1_wearers_26 rfl (lv_at hl 0 rfl) ?_
          refine lv_ishl hx hb dX1_wearers_27 ?_
          refine lv_topi (fun t12 et12 => ?_)
          refine lv_ior hx hb dX1_wearers_28 ?_
          refine lv_topi (fun t13 et13 => ?_)
          refine lv_istore_n (lv' := [(1, .int t13), (2, .int l2_1), (0, .ref (x 27))]) hx hb dX1_wearers_29 rfl hl (Nat.le_of_ble_eq_true rfl) rfl (fun ls hl => ?_)
          obtain ⟨t14, et14⟩ : ∃ y : Int32, y = l2_1 + 1 := ⟨_, rfl⟩
          have zt14 : t14.toInt = l2_1.toInt + 1 := (congrArg Int32.toInt et14).trans (add_i rfl tc_1 (om_41 hr2_1) (om_187 b31_v zc2))
          refine lv_iinc (v := t14) (lv' := [(2, .int t14), (1, .int t13), (0, .ref (x 27))]) hx hb dX1_wearers_30 hl (k := 1) rfl et14.symm (Nat.le_of_ble_eq_true rfl) rfl (fun ls hl => ?_)
          refine lv_goto (tgt := 4) hx hb dX1_wearers_33 rfl ?_
          have rg15 := fb_rng t14
          exact ih1 t13 t14 ((gsX_X1_wearers_2_q2 c2 hG8.symm c9 et12 et13 et14).symm.trans hT1) ⟨show (0 : Int) ≤ t14.toInt from om_43 hr2_1 zt14, show t14.toInt ≤ (2147483647 : Int) from om_44 rg15⟩ (show (2147483647 - t14.toInt).toNat < n1 from om_33 hm1 zt14 rg15) _ _ _ hP hD hS (lv_sub hl [0, 1, 2] rfl)
  exact lp1 (4294967296 + NF) 0 0 gsX_X1_wearers_2_q3.symm ⟨by decide, by decide⟩ (show (2147483647 - (0 : Int32).toInt).toNat < 4294967296 + NF from om_38 tc_0) _ _ _ hP hD hS (lv_sub hl [0, 1, 2] rfl)
set_option maxHeartbeats 4000000 in
set_option maxRecDepth 100000 in
theorem sX_X3_daysTillRout_1 (l : Launch) (dC : Nat → ClassId) (dI : Nat → Nat → Nat) (cy : Nat → ClassId) (x0 : Nat) (x : Nat → Nat)  (v : Nat → Int32) (f : Nat → Nat → Int32) (hIv : XI v)  : ctI l (dC, dI) cy yX3_daysTillRout cX3_daysTillRout 2 .int 6 179 0 0 ((Nat → Int32) × (Nat → Nat → Int32)) [.ref (x 25)] (XW cy x0 x v f) (fun r u => KV [] u.1 v ∧ KF [13, 14, 18] u.2 f ∧ XI u.1 ∧ u.1 0 = v 0 ∧ u.1 1 = v 1 ∧ u.1 7 = v 7 ∧ u.1 8 = v 8 ∧ u.1 9 = v 9 ∧ u.1 10 = v 10 ∧ u.1 31 = v 31 ∧ u.1 32 = v 32) (fun u => XW cy x0 x u.1 u.2) := by
  refine ctI_of (by decide) (Nat.le_of_ble_eq_true rfl) (fun p e s m below meth c A ls Q hx hb hml hts hown hE hP hD hA hl ret => ?_)
  have hM_v : KV [] v v := fun _ _ => rfl
  have hA_f : KF [13, 14, 18] f f := fun _ _ => rfl
  have hown : s.vm.findClass RX3 = some m.cls := hown
  have hS : va_S A s.heap s.heap [] := va_S.rf
  have hl : lv_has ls 2 [(0, .ref (x 25))] := hl
  refine lv_aload_n hx hb dX3_daysTillRout_0 rfl (lv_at hl 0 rfl) ?_
  refine va_get (D := (dC, dI)) (ci := 3) (v := .ref (x 27)) (C := RX3) (T := TX3) (N := 10) hx hb hts inB_3 hown hE.1 hP 26 rfl rfl 2 (Nat.le_of_ble_eq_true rfl) (hts _ k_372) (fun _ h9 => h9) rfl dX3_daysTillRout_1 ?_
  refine lv_aload_n hx hb dX3_daysTillRout_4 rfl (lv_at hl 0 rfl) ?_
  refine va_get (D := (dC, dI)) (ci := 3) (v := .ref (x 21)) (C := RX3) (T := TX3) (N := 10) hx hb hts inB_3 hown hE.1 hP 26 rfl rfl 1 (Nat.le_of_ble_eq_true rfl) (hts _ k_371) (fun _ h9 => h9) rfl dX3_daysTillRout_5 ?_
  refine cbVv (n := 1) (rest := []) hx hb hml hown hts hE hP hD hS hA (sX_X1_copy_1 l dC dI cy x0 x  v f hIv ) k_945 k_946 k_947 k_106 k_948 hd_yX1_copy ⟨Nat.le_of_ble_eq_true rfl, Nat.le_of_ble_eq_true rfl⟩ 28 1 rfl rfl (rfl) hl.1 rfl (Nat.le_of_ble_eq_true rfl) dX3_daysTillRout_8 (fun u H locs hw hP hD hS => ?_)
  obtain ⟨v1, f2⟩ := u
  obtain ⟨kV_v1, kF_f2, hIv1, hk0_v1, hk1_v1, hk7_v1, hk8_v1, hk9_v1, hk10_v1, hk31_v1, hk32_v1⟩ := hw
  have hM_v1 : KV [] v1 v := KV.tr kV_v1 hM_v rfl
  have hA_f2 : KF [13, 14, 18] f2 f := KF.tr kF_f2 hA_f rfl
  have hP : va_P (dC, dI) vwCl (XW cy x0 x v1 f2) H := hP
  have hD : va_D A (XW cy x0 x v1 f2) := hD
  have hq0_v1 : v1 0 = (v 0) := hk0_v1
  have hq1_v1 : v1 1 = (v 1) := hk1_v1
  have hq7_v1 : v1 7 = (v 7) := hk7_v1
  have hq8_v1 : v1 8 = (v 8) := hk8_v1
  have hq9_v1 : v1 9 = (v 9) := hk9_v1
  have hq10_v1 : v1 10 = (v 10) := hk10_v1
  have hq31_v1 : v1 31 = (v 31) := hk31_v1
  have hq32_v1 : v1 32 = (v 32) := hk32_v1
  refine lv_iconst (v := 0) hx hb dX3_daysTillRout_11 rfl ?_
  refine lv_istore_n (lv' := [(1, .int 0), (0, .ref (x 25))]) hx hb dX3_daysTillRout_12 rfl hl (Nat.le_of_ble_eq_true rfl) rfl (fun ls hl => ?_)
  have lp3 : ∀ (n3 : Nat) (l1_3 : Int32) (v3 : Nat → Int32) (f3 : Nat → Nat → Int32), XI v3 → v3 0 = (v 0) → v3 1 = (v 1) → v3 7 = (v 7) → v3 8 = (v 8) → v3 9 = (v 9) → v3 10 = (v 10) → v3 31 = (v 31) → v3 32 = (v 32) → ((0 : Int) ≤ l1_3.toInt ∧ l1_3.toInt ≤ 2147483647) → KV [] v3 v → KF [13, 14, 18] f3 f → (2147483647 - l1_3.toInt).toNat < n3 → ∀ (H : Heap) (locs : List Loc) (ls : Array Slot), va_P (dC, dI) vwCl (XW cy x0 x v3 f3) H → va_D A (XW cy x0 x v3 f3) → va_S A s.heap H locs → lv_has ls 2 [(1, .int l1_3), (0, .ref (x 25))] → W p l e { frames := 6, cells := 0, slots := 0, locals := 179 } s m ([.ref (x 25)] : List Value).toArray below meth c H locs 0 0 Q (F0 m 13 ls []) := by
    intro n3
    induction n3 with
    | zero => intro l1_3 v3 f3 hIv3 hq0_v3 hq1_v3 hq7_v3 hq8_v3 hq9_v3 hq10_v3 hq31_v3 hq32_v3 hr1_3 hM_v3 hA_f3 hm; exact absurd hm (Nat.not_lt_zero _)
    | succ n3 ih3 =>
      intro l1_3 v3 f3 hIv3 hq0_v3 hq1_v3 hq7_v3 hq8_v3 hq9_v3 hq10_v3 hq31_v3 hq32_v3 hr1_3 hM_v3 hA_f3 hm3 H locs ls hP hD hS hl
      refine lv_iload_n hx hb dX3_daysTillRout_13 rfl (lv_at hl 0 rfl) ?_
      refine lv_bipush (v := 60) hx hb dX3_daysTillRout_14 rfl ?_
      refine lv_icmp_gt (tgt := 46) hx hb dX3_daysTillRout_16 rfl (fun c4 => ?_) (fun c4 => ?_)
      · skip
        refine lv_iconst (v := (-1)) hx hb dX3_daysTillRout_46 rfl ?_
        exact ret (-1) (v3, f3) _ _ _ _ _ _ rfl ⟨hM_v3, hA_f3, hIv3, hq0_v3, hq1_v3, hq7_v3, hq8_v3, hq9_v3, hq10_v3, hq31_v3, hq32_v3⟩ hP hD hS dX3_daysTillRout_47 (Nat.le_refl _) (Nat.le_refl _)
      · skip
        have zc4 : ¬ (60 < l1_3.toInt) := zLn tc_60 rfl c4
        refine lv_aload_n hx hb dX3_daysTillRout_19 rfl (lv_at hl 1 rfl) ?_
        refine va_get (D := (dC, dI)) (ci := 3) (v := .ref (x 27)) (C := RX3) (T := TX3) (N := 10) hx hb hts inB_3 hown hE.1 hP 26 rfl rfl 2 (Nat.le_of_ble_eq_true rfl) (hts _ k_372) (fun _ h9 => h9) rfl dX3_daysTillRout_20 ?_
        refine cbVi (n := 0) (rest := []) hx hb hml hown hts hE hP hD hS hA (sX_X1_wearers_2 0 l dC dI cy x0 x  v3 f3 hIv3 ) k_1206 k_1061 k_1062 k_106 k_1063 hd_yX1_wearers ⟨Nat.le_of_ble_eq_true rfl, Nat.le_of_ble_eq_true rfl⟩ 28 1 rfl rfl (rfl) hl.1 rfl (Nat.le_of_ble_eq_true rfl) dX3_daysTillRout_23 (fun r5 u H locs hw hP hD hS => ?_)
        have hG6 := hw
        refine lv_if_ne (tgt := 31) hx hb dX3_daysTillRout_26 rfl (fun c7 => ?_) (fun c7 => ?_)
        · skip
          refine lv_aload_n hx hb dX3_daysTillRout_31 rfl (lv_at hl 1 rfl) ?_
          refine va_get (D := (dC, dI)) (ci := 3) (v := .ref (x 27)) (C := RX3) (T := TX3) (N := 10) hx hb hts inB_3 hown hE.1 hP 26 rfl rfl 2 (Nat.le_of_ble_eq_true rfl) (hts _ k_372) (fun _ h9 => h9) rfl dX3_daysTillRout_32 ?_
          refine lv_iconst (v := 0) hx hb dX3_daysTillRout_35 rfl ?_
          refine cbVi (n := 1) (rest := []) hx hb hml hown hts hE hP hD hS hA (sX_X1_passDay_2 0 l dC dI cy x0 x 0 v3 f3 hIv3 ) k_949 k_866 k_867 k_106 k_868 hd_yX1_passDay ⟨Nat.le_of_ble_eq_true rfl, Nat.le_of_ble_eq_true rfl⟩ 28 1 rfl rfl (rfl) hl.1 rfl (Nat.le_of_ble_eq_true rfl) dX3_daysTillRout_36 (fun r8 u H locs hw hP hD hS => ?_)
          obtain ⟨hG9, hw⟩ := hw
          obtain ⟨v10, f11⟩ := u
          obtain ⟨kV_v10, kF_f11, hIv10, hk0_v10, hk1_v10, hk7_v10, hk8_v10, hk9_v10, hk10_v10, hk31_v10, hk32_v10⟩ := hw
          have hM_v10 : KV [] v10 v := KV.tr kV_v10 hM_v3 rfl
          have hA_f11 : KF [13, 14, 18] f11 f := KF.tr kF_f11 hA_f3 rfl
          have hP : va_P (dC, dI) vwCl (XW cy x0 x v10 f11) H := hP
          have hD : va_D A (XW cy x0 x v10 f11) := hD
          have hq0_v10 : v10 0 = (v 0) := hk0_v10.trans hq0_v3
          have hq1_v10 : v10 1 = (v 1) := hk1_v10.trans hq1_v3
          have hq7_v10 : v10 7 = (v 7) := hk7_v10.trans hq7_v3
          have hq8_v10 : v10 8 = (v 8) := hk8_v10.trans hq8_v3
          have hq9_v10 : v10 9 = (v 9) := hk9_v10.trans hq9_v3
          have hq10_v10 : v10 10 = (v 10) := hk10_v10.trans hq10_v3
          have hq31_v10 : v10 31 = (v 31) := hk31_v10.trans hq31_v3
          have hq32_v10 : v10 32 = (v 32) := hk32_v10.trans hq32_v3
          refine lv_pop hx hb dX3_daysTillRout_39 rfl ?_
          obtain ⟨t12, et12⟩ : ∃ y : Int32, y = l1_3 + 1 := ⟨_, rfl⟩
          have zt12 : t12.toInt = l1_3.toInt + 1 := (congrArg Int32.toInt et12).trans (add_i rfl tc_1 (om_41 hr1_3) (om_197 zc4))
          refine lv_iinc (v := t12) (lv' := [(1, .int t12), (0, .ref (x 25))]) hx hb dX3_daysTillRout_40 hl (k := 0) rfl et12.symm (Nat.le_of_ble_eq_true rfl) rfl (fun ls hl => ?_)
          refine lv_goto (tgt := 13) hx hb dX3_daysTillRout_43 rfl ?_
          have rg14 := fb_rng t12
          exact ih3 t12 v10 f11 hIv10 hq0_v10 hq1_v10 hq7_v10 hq8_v10 hq9_v10 hq10_v10 hq31_v10 hq32_v10 ⟨show (0 : Int) ≤ t12.toInt from om_43 hr1_3 zt12, show t12.toInt ≤ (2147483647 : Int) from om_44 rg14⟩ hM_v10 hA_f11 (show (2147483647 - t12.toInt).toNat < n3 from om_33 hm3 zt12 rg14) _ _ _ hP hD hS (lv_sub hl [0, 1] rfl)
        · skip
          refine lv_iload_n hx hb dX3_daysTillRout_29 rfl (lv_at hl 0 rfl) ?_
          exact ret l1_3 (v3, f3) _ _ _ _ _ _ rfl ⟨hM_v3, hA_f3, hIv3, hq0_v3, hq1_v3, hq7_v3, hq8_v3, hq9_v3, hq10_v3, hq31_v3, hq32_v3⟩ hP hD hS dX3_daysTillRout_30 (Nat.le_refl _) (Nat.le_refl _)
  exact lp3 _ 0 v1 f2 hIv1 hq0_v1 hq1_v1 hq7_v1 hq8_v1 hq9_v1 hq10_v1 hq31_v1 hq32_v1 ⟨by decide, by decide⟩ hM_v1 hA_f2 (Nat.lt_succ_self _) _ _ _ hP hD hS (lv_sub hl [0, 1] rfl)
set_option maxHeartbeats 4000000 in
set_option maxRecDepth 100000 in
theorem sX_X10_rout_1 (l : Launch) (dC : Nat → ClassId) (dI : Nat → Nat → Nat) (cy : Nat → ClassId) (x0 : Nat) (x : Nat → Nat)  (v : Nat → Int32) (f : Nat → Nat → Int32) (hIv : XI v)  : ctI l (dC, dI) cy yX10_rout cX10_rout 1 .int 7 200 0 0 ((Nat → Int32) × (Nat → Nat → Int32)) [.ref x0] (XW cy x0 x v f) (fun r u => KV [] u.1 v ∧ KF [13, 14, 18] u.2 f ∧ XI u.1 ∧ u.1 0 = v 0 ∧ u.1 1 = v 1 ∧ u.1 7 = v 7 ∧ u.1 8 = v 8 ∧ u.1 9 = v 9 ∧ u.1 10 = v 10 ∧ u.1 31 = v 31 ∧ u.1 32 = v 32) (fun u => XW cy x0 x u.1 u.2) := by
  refine ctI_of (by decide) (Nat.le_of_ble_eq_true rfl) (fun p e s m below meth c A ls Q hx hb hml hts hown hE hP hD hA hl ret => ?_)
  have hM_v : KV [] v v := fun _ _ => rfl
  have hA_f : KF [13, 14, 18] f f := fun _ _ => rfl
  have hown : s.vm.findClass RX10 = some m.cls := hown
  have hS : va_S A s.heap s.heap [] := va_S.rf
  have hl : lv_has ls 1 [(0, .ref x0)] := hl
  refine lv_aload_n hx hb dX10_rout_0 rfl (lv_at hl 0 rfl) ?_
  refine va_get (D := (dC, dI)) (ci := 10) (v := .ref (x 25)) (C := RX10) (T := TX10) (N := 10) hx hb hts inB_10 hown hE.1 hP 0 rfl rfl 5 (Nat.le_of_ble_eq_true rfl) (hts _ k_496) (fun _ h9 => h9) rfl dX10_rout_1 ?_
  refine cbVi (n := 0) (rest := []) hx hb hml hown hts hE hP hD hS hA (sX_X3_daysTillRout_1 l dC dI cy x0 x  v f hIv ) k_1202 k_1203 k_1204 k_109 k_1205 hd_yX3_daysTillRout ⟨Nat.le_of_ble_eq_true rfl, Nat.le_of_ble_eq_true rfl⟩ 26 3 rfl rfl (rfl) hl.1 rfl (Nat.le_of_ble_eq_true rfl) dX10_rout_4 (fun r1 u H locs hw hP hD hS => ?_)
  obtain ⟨v2, f3⟩ := u
  obtain ⟨kV_v2, kF_f3, hIv2, hk0_v2, hk1_v2, hk7_v2, hk8_v2, hk9_v2, hk10_v2, hk31_v2, hk32_v2⟩ := hw
  have hM_v2 : KV [] v2 v := KV.tr kV_v2 hM_v rfl
  have hA_f3 : KF [13, 14, 18] f3 f := KF.tr kF_f3 hA_f rfl
  have hP : va_P (dC, dI) vwCl (XW cy x0 x v2 f3) H := hP
  have hD : va_D A (XW cy x0 x v2 f3) := hD
  have hq0_v2 : v2 0 = (v 0) := hk0_v2
  have hq1_v2 : v2 1 = (v 1) := hk1_v2
  have hq7_v2 : v2 7 = (v 7) := hk7_v2
  have hq8_v2 : v2 8 = (v 8) := hk8_v2
  have hq9_v2 : v2 9 = (v 9) := hk9_v2
  have hq10_v2 : v2 10 = (v 10) := hk10_v2
  have hq31_v2 : v2 31 = (v 31) := hk31_v2
  have hq32_v2 : v2 32 = (v 32) := hk32_v2
  exact ret r1 (v2, f3) _ _ _ _ _ _ rfl ⟨hM_v2, hA_f3, hIv2, hk0_v2, hk1_v2, hk7_v2, hk8_v2, hk9_v2, hk10_v2, hk31_v2, hk32_v2⟩ hP hD hS dX10_rout_7 (Nat.le_refl _) (Nat.le_refl _)
set_option maxHeartbeats 4000000 in
set_option maxRecDepth 100000 in
theorem sX_X0_lying_1 (l : Launch) (dC : Nat → ClassId) (dI : Nat → Nat → Nat) (cy : Nat → ClassId) (x0 : Nat) (x : Nat → Nat) (p1 : Int32) (v : Nat → Int32) (f : Nat → Nat → Int32) (hIv : XI v)  : ctI l (dC, dI) cy yX0_lying cX0_lying 2 .int 1 60 0 0 Unit [.ref (x 31), .int p1] (XW cy x0 x v f) (fun r u => True) (fun u => XW cy x0 x v f) := by
  refine ctI_of (by decide) (Nat.le_of_ble_eq_true rfl) (fun p e s m below meth c A ls Q hx hb hml hts hown hE hP hD hA hl ret => ?_)
  have hown : s.vm.findClass RX0 = some m.cls := hown
  have hS : va_S A s.heap s.heap [] := va_S.rf
  have hl : lv_has ls 2 [(0, .ref (x 31)), (1, .int p1)] := hl
  refine lv_iload_n hx hb dX0_lying_0 rfl (lv_at hl 1 rfl) ?_
  refine lv_if_lt (tgt := 30) hx hb dX0_lying_1 rfl (fun c1 => ?_) (fun c1 => ?_)
  · skip
    refine lv_bipush (v := (-2)) hx hb dX0_lying_30 rfl ?_
    exact ret (-2) () _ _ _ _ _ _ rfl trivial hP hD hS dX0_lying_32 (Nat.le_refl _) (Nat.le_refl _)
  · skip
    have zc1 : ¬ (p1.toInt < 0) := zLn rfl tc_0 c1
    refine lv_iload_n hx hb dX0_lying_4 rfl (lv_at hl 1 rfl) ?_
    refine lv_aload_n hx hb dX0_lying_5 rfl (lv_at hl 0 rfl) ?_
    refine va_get (D := (dC, dI)) (ci := 0) (v := .int (v 38)) (C := RX0) (T := TX0) (N := 8) hx hb hts inB_0 hown hE.1 hP 32 rfl rfl 3 (Nat.le_of_ble_eq_true rfl) (hts _ k_433) (fun _ h9 => h9) rfl dX0_lying_6 ?_
    refine lv_icmp_ge (tgt := 30) hx hb dX0_lying_9 rfl (fun c2 => ?_) (fun c2 => ?_)
    · skip
      refine lv_bipush (v := (-2)) hx hb dX0_lying_30 rfl ?_
      exact ret (-2) () _ _ _ _ _ _ rfl trivial hP hD hS dX0_lying_32 (Nat.le_refl _) (Nat.le_refl _)
    · skip
      refine lv_iload_n hx hb dX0_lying_12 rfl (lv_at hl 1 rfl) ?_
      refine lv_aload_n hx hb dX0_lying_13 rfl (lv_at hl 0 rfl) ?_
      refine va_get (D := (dC, dI)) (ci := 0) (v := .ref (x 32)) (C := RX0) (T := TX0) (N := 8) hx hb hts inB_0 hown hE.1 hP 32 rfl rfl 2 (Nat.le_of_ble_eq_true rfl) (hts _ k_432) (fun _ h9 => h9) rfl dX0_lying_14 ?_
      refine va_alen (v := 6) hx hb hE.1 hP 33 1 rfl rfl rfl dX0_lying_17 ?_
      refine lv_icmp_ge (tgt := 30) hx hb dX0_lying_18 rfl (fun c7 => ?_) (fun c7 => ?_)
      · skip
        refine lv_bipush (v := (-2)) hx hb dX0_lying_30 rfl ?_
        exact ret (-2) () _ _ _ _ _ _ rfl trivial hP hD hS dX0_lying_32 (Nat.le_refl _) (Nat.le_refl _)
      · skip
        have zc7 : ¬ (6 ≤ p1.toInt) := zMn tc_6 rfl c7
        refine lv_aload_n hx hb dX0_lying_21 rfl (lv_at hl 0 rfl) ?_
        refine va_get (D := (dC, dI)) (ci := 0) (v := .ref (x 32)) (C := RX0) (T := TX0) (N := 8) hx hb hts inB_0 hown hE.1 hP 32 rfl rfl 2 (Nat.le_of_ble_eq_true rfl) (hts _ k_432) (fun _ h9 => h9) rfl dX0_lying_22 ?_
        refine lv_iload_n hx hb dX0_lying_25 rfl (lv_at hl 1 rfl) ?_
        refine ldI hx hb hE hP 33 rfl (vpI (k := 6) rfl (show 0 ≤ p1.toInt from om_14 zc1) (show p1.toInt < 6 from om_64 zc7)) rfl rfl dX0_lying_26 ?_
        refine lv_topi (fun t8 et8 => ?_)
        refine lv_goto (tgt := 32) hx hb dX0_lying_27 rfl ?_
        exact ret t8 () _ _ _ _ _ _ rfl trivial hP hD hS dX0_lying_32 (Nat.le_refl _) (Nat.le_refl _)
set_option maxHeartbeats 4000000 in
set_option maxRecDepth 100000 in
theorem sX_X10_lies_1 (l : Launch) (dC : Nat → ClassId) (dI : Nat → Nat → Nat) (cy : Nat → ClassId) (x0 : Nat) (x : Nat → Nat) (p1 : Int32) (v : Nat → Int32) (f : Nat → Nat → Int32) (hIv : XI v)  : ctI l (dC, dI) cy yX10_lies cX10_lies 2 .int 2 81 0 0 Unit [.ref x0, .int p1] (XW cy x0 x v f) (fun r u => True) (fun u => XW cy x0 x v f) := by
  refine ctI_of (by decide) (Nat.le_of_ble_eq_true rfl) (fun p e s m below meth c A ls Q hx hb hml hts hown hE hP hD hA hl ret => ?_)
  have hown : s.vm.findClass RX10 = some m.cls := hown
  have hS : va_S A s.heap s.heap [] := va_S.rf
  have hl : lv_has ls 2 [(0, .ref x0), (1, .int p1)] := hl
  refine lv_aload_n hx hb dX10_lies_0 rfl (lv_at hl 0 rfl) ?_
  refine va_get (D := (dC, dI)) (ci := 10) (v := .ref (x 31)) (C := RX10) (T := TX10) (N := 10) hx hb hts inB_10 hown hE.1 hP 0 rfl rfl 7 (Nat.le_of_ble_eq_true rfl) (hts _ k_498) (fun _ h9 => h9) rfl dX10_lies_1 ?_
  refine lv_iload_n hx hb dX10_lies_4 rfl (lv_at hl 1 rfl) ?_
  refine cbVi (n := 1) (rest := []) hx hb hml hown hts hE hP hD hS hA (sX_X0_lying_1 l dC dI cy x0 x p1 v f hIv ) k_1218 k_1219 k_1220 k_111 k_1221 hd_yX0_lying ⟨Nat.le_of_ble_eq_true rfl, Nat.le_of_ble_eq_true rfl⟩ 32 0 rfl rfl (rfl) hl.1 rfl (Nat.le_of_ble_eq_true rfl) dX10_lies_5 (fun r1 u H locs hw hP hD hS => ?_)
  exact ret r1 () _ _ _ _ _ _ rfl trivial hP hD hS dX10_lies_8 (Nat.le_refl _) (Nat.le_refl _)
set_option maxHeartbeats 4000000 in
set_option maxRecDepth 100000 in
theorem sX_X8_fitsGrown_1 (l : Launch) (dC : Nat → ClassId) (dI : Nat → Nat → Nat) (cy : Nat → ClassId) (x0 : Nat) (x : Nat → Nat) (p1 : Int32) (p2 : Int32) (v : Nat → Int32) (f : Nat → Nat → Int32) (hIv : XI v)  : ctI l (dC, dI) cy yX8_fitsGrown cX8_fitsGrown 5 .boolean 3 111 0 0 ((Nat → Int32) × (Nat → Nat → Int32)) [.ref (x 35), .int p1, .int p2] (XW cy x0 x v f) (fun r u => KV [] u.1 v ∧ KF [13, 14] u.2 f ∧ XI u.1 ∧ u.1 0 = v 0 ∧ u.1 1 = v 1 ∧ u.1 7 = v 7 ∧ u.1 8 = v 8 ∧ u.1 9 = v 9 ∧ u.1 10 = v 10 ∧ u.1 31 = v 31 ∧ u.1 32 = v 32 ∧ ((r = 1) ∨ (r = 0))) (fun u => XW cy x0 x u.1 u.2) := by
  refine ctI_of (by decide) (Nat.le_of_ble_eq_true rfl) (fun p e s m below meth c A ls Q hx hb hml hts hown hE hP hD hA hl ret => ?_)
  have hM_v : KV [] v v := fun _ _ => rfl
  have hA_f : KF [13, 14] f f := fun _ _ => rfl
  have hown : s.vm.findClass RX8 = some m.cls := hown
  have hS : va_S A s.heap s.heap [] := va_S.rf
  have hl : lv_has ls 5 [(0, .ref (x 35)), (1, .int p1), (2, .int p2)] := hl
  refine lv_bipush (v := 99) hx hb dX8_fitsGrown_0 rfl ?_
  refine lv_aload_n hx hb dX8_fitsGrown_2 rfl (lv_at hl 0 rfl) ?_
  refine va_get (D := (dC, dI)) (ci := 8) (v := .ref (x 26)) (C := RX8) (T := TX8) (N := 7) hx hb hts inB_8 hown hE.1 hP 36 rfl rfl 0 (Nat.le_of_ble_eq_true rfl) (hts _ k_467) (fun _ h9 => h9) rfl dX8_fitsGrown_3 ?_
  refine lv_iconst (v := 1) hx hb dX8_fitsGrown_6 rfl ?_
  refine lv_iconst (v := 0) hx hb dX8_fitsGrown_7 rfl ?_
  refine cbVi (n := 2) (rest := [.int 99]) hx hb hml hown hts hE hP hD hS hA (sX_X7_manPart_1 0 l dC dI cy x0 x 1 0 v f hIv ) k_1260 k_303 k_304 k_104 k_305 hd_yX7_manPart ⟨Nat.le_of_ble_eq_true rfl, Nat.le_of_ble_eq_true rfl⟩ 27 7 rfl rfl (rfl) hl.1 rfl (Nat.le_of_ble_eq_true rfl) dX8_fitsGrown_8 (fun r1 u H locs hw hP hD hS => ?_)
  have hG2 := hw
  refine lv_iload_n hx hb dX8_fitsGrown_11 rfl (lv_at hl 1 rfl) ?_
  refine lv_iload_n hx hb dX8_fitsGrown_12 rfl (lv_at hl 2 rfl) ?_
  refine lv_imul hx hb dX8_fitsGrown_13 ?_
  refine lv_topi (fun t3 et3 => ?_)
  refine lv_iadd hx hb dX8_fitsGrown_14 ?_
  refine lv_topi (fun t4 et4 => ?_)
  refine va_mmin hx hb (by rw [hml]; exact hl.1.symm) hown (hts _ k_1261) (hts _ k_643) (hts _ k_119) (hts _ k_644) (Nat.le_of_ble_eq_true rfl) (Nat.le_of_ble_eq_true rfl) (Nat.le_of_ble_eq_true rfl) (Nat.le_of_ble_eq_true rfl) dX8_fitsGrown_15 ?_
  refine lv_topi (fun t5 et5 => ?_)
  refine lv_istore_n (lv' := [(3, .int t5), (0, .ref (x 35)), (1, .int p1), (2, .int p2)]) hx hb dX8_fitsGrown_18 rfl hl (Nat.le_of_ble_eq_true rfl) rfl (fun ls hl => ?_)
  refine lv_bipush (v := 99) hx hb dX8_fitsGrown_19 rfl ?_
  refine lv_aload_n hx hb dX8_fitsGrown_21 rfl (lv_at hl 1 rfl) ?_
  refine va_get (D := (dC, dI)) (ci := 8) (v := .ref (x 26)) (C := RX8) (T := TX8) (N := 7) hx hb hts inB_8 hown hE.1 hP 36 rfl rfl 0 (Nat.le_of_ble_eq_true rfl) (hts _ k_467) (fun _ h9 => h9) rfl dX8_fitsGrown_22 ?_
  refine lv_iconst (v := 3) hx hb dX8_fitsGrown_25 rfl ?_
  refine lv_iconst (v := 0) hx hb dX8_fitsGrown_26 rfl ?_
  refine cbVi (n := 2) (rest := [.int 99]) hx hb hml hown hts hE hP hD hS hA (sX_X7_coatPart_1 0 l dC dI cy x0 x 3 0 v f hIv ) k_1262 k_311 k_312 k_104 k_313 hd_yX7_coatPart ⟨Nat.le_of_ble_eq_true rfl, Nat.le_of_ble_eq_true rfl⟩ 27 7 rfl rfl (rfl) hl.1 rfl (Nat.le_of_ble_eq_true rfl) dX8_fitsGrown_27 (fun r6 u H locs hw hP hD hS => ?_)
  have hG7 := hw
  refine lv_iload_n hx hb dX8_fitsGrown_30 rfl (lv_at hl 3 rfl) ?_
  refine lv_iadd hx hb dX8_fitsGrown_31 ?_
  refine lv_topi (fun t8 et8 => ?_)
  refine va_mmin hx hb (by rw [hml]; exact hl.1.symm) hown (hts _ k_1261) (hts _ k_643) (hts _ k_119) (hts _ k_644) (Nat.le_of_ble_eq_true rfl) (Nat.le_of_ble_eq_true rfl) (Nat.le_of_ble_eq_true rfl) (Nat.le_of_ble_eq_true rfl) dX8_fitsGrown_32 ?_
  refine lv_topi (fun t9 et9 => ?_)
  refine lv_istore (lv' := [(4, .int t9), (3, .int t5), (0, .ref (x 35)), (1, .int p1), (2, .int p2)]) hx hb dX8_fitsGrown_35 hl (Nat.le_of_ble_eq_true rfl) rfl (fun ls hl => ?_)
  refine lv_aload_n hx hb dX8_fitsGrown_37 rfl (lv_at hl 2 rfl) ?_
  refine va_get (D := (dC, dI)) (ci := 8) (v := .ref (x 26)) (C := RX8) (T := TX8) (N := 7) hx hb hts inB_8 hown hE.1 hP 36 rfl rfl 0 (Nat.le_of_ble_eq_true rfl) (hts _ k_467) (fun _ h9 => h9) rfl dX8_fitsGrown_38 ?_
  refine va_getN (D := (dC, dI)) (ci := 7) (v := .ref (x 15)) (C := RX7) (T := TX7) (N := 10) hx hb hts inB_7 hown hE.1 hP 27 rfl rfl 2 (Nat.le_of_ble_eq_true rfl) (va_Nw.use rfl (hE.2 _ k_208)) (fun _ h9 => h9) rfl dX8_fitsGrown_41 ?_
  refine lv_aload_n hx hb dX8_fitsGrown_44 rfl (lv_at hl 2 rfl) ?_
  refine va_get (D := (dC, dI)) (ci := 8) (v := .ref (x 26)) (C := RX8) (T := TX8) (N := 7) hx hb hts inB_8 hown hE.1 hP 36 rfl rfl 0 (Nat.le_of_ble_eq_true rfl) (hts _ k_467) (fun _ h9 => h9) rfl dX8_fitsGrown_45 ?_
  refine lv_iconst (v := 0) hx hb dX8_fitsGrown_48 rfl ?_
  refine lv_iconst (v := 0) hx hb dX8_fitsGrown_49 rfl ?_
  refine cbVi (n := 2) (rest := [.ref (x 15)]) hx hb hml hown hts hE hP hD hS hA (sX_X7_manPart_1 0 l dC dI cy x0 x 0 0 v f hIv ) k_1260 k_303 k_304 k_104 k_305 hd_yX7_manPart ⟨Nat.le_of_ble_eq_true rfl, Nat.le_of_ble_eq_true rfl⟩ 27 7 rfl rfl (rfl) hl.1 rfl (Nat.le_of_ble_eq_true rfl) dX8_fitsGrown_50 (fun r10 u H locs hw hP hD hS => ?_)
  have hG11 := hw
  refine lv_iload_n hx hb dX8_fitsGrown_53 rfl (lv_at hl 1 rfl) ?_
  refine lv_aload_n hx hb dX8_fitsGrown_54 rfl (lv_at hl 2 rfl) ?_
  refine va_get (D := (dC, dI)) (ci := 8) (v := .ref (x 26)) (C := RX8) (T := TX8) (N := 7) hx hb hts inB_8 hown hE.1 hP 36 rfl rfl 0 (Nat.le_of_ble_eq_true rfl) (hts _ k_467) (fun _ h9 => h9) rfl dX8_fitsGrown_55 ?_
  refine lv_iconst (v := 0) hx hb dX8_fitsGrown_58 rfl ?_
  refine lv_iconst (v := 0) hx hb dX8_fitsGrown_59 rfl ?_
  refine cbVi (n := 2) (rest := [.int t5, .int r10, .ref (x 15)]) hx hb hml hown hts hE hP hD hS hA (sX_X7_coatPart_1 0 l dC dI cy x0 x 0 0 v f hIv ) k_1262 k_311 k_312 k_104 k_313 hd_yX7_coatPart ⟨Nat.le_of_ble_eq_true rfl, Nat.le_of_ble_eq_true rfl⟩ 27 7 rfl rfl (rfl) hl.1 rfl (Nat.le_of_ble_eq_true rfl) dX8_fitsGrown_60 (fun r12 u H locs hw hP hD hS => ?_)
  have hG13 := hw
  refine lv_aload_n hx hb dX8_fitsGrown_63 rfl (lv_at hl 2 rfl) ?_
  refine va_get (D := (dC, dI)) (ci := 8) (v := .ref (x 26)) (C := RX8) (T := TX8) (N := 7) hx hb hts inB_8 hown hE.1 hP 36 rfl rfl 0 (Nat.le_of_ble_eq_true rfl) (hts _ k_467) (fun _ h9 => h9) rfl dX8_fitsGrown_64 ?_
  refine lv_iconst (v := 1) hx hb dX8_fitsGrown_67 rfl ?_
  refine lv_iconst (v := 0) hx hb dX8_fitsGrown_68 rfl ?_
  refine cbVi (n := 2) (rest := [.int r12, .int t5, .int r10, .ref (x 15)]) hx hb hml hown hts hE hP hD hS hA (sX_X7_coatPart_1 0 l dC dI cy x0 x 1 0 v f hIv ) k_1262 k_311 k_312 k_104 k_313 hd_yX7_coatPart ⟨Nat.le_of_ble_eq_true rfl, Nat.le_of_ble_eq_true rfl⟩ 27 7 rfl rfl (rfl) hl.1 rfl (Nat.le_of_ble_eq_true rfl) dX8_fitsGrown_69 (fun r14 u H locs hw hP hD hS => ?_)
  have hG15 := hw
  refine lv_iload hx hb dX8_fitsGrown_72 (lv_at hl 0 rfl) ?_
  refine lv_iload_n hx hb dX8_fitsGrown_74 rfl (lv_at hl 4 rfl) ?_
  refine cbVi (n := 6) (rest := []) hx hb hml hown hts hE hP hD hS hA (sX_X4_worth_1 0 l dC dI cy x0 x r10 t5 r12 r14 t9 p2 v f hIv ) k_1263 k_836 k_837 k_105 k_838 hd_yX4_worth ⟨Nat.le_of_ble_eq_true rfl, Nat.le_of_ble_eq_true rfl⟩ 16 4 rfl rfl (rfl) hl.1 rfl (Nat.le_of_ble_eq_true rfl) dX8_fitsGrown_75 (fun r16 u H locs hw hP hD hS => ?_)
  obtain ⟨hG17, hw⟩ := hw
  obtain ⟨v18, f19⟩ := u
  obtain ⟨kV_v18, kF_f19, hIv18, hk0_v18, hk1_v18, hk7_v18, hk8_v18, hk9_v18, hk10_v18, hk31_v18, hk32_v18⟩ := hw
  have hM_v18 : KV [] v18 v := KV.tr kV_v18 hM_v rfl
  have hA_f19 : KF [13, 14] f19 f := KF.tr kF_f19 hA_f rfl
  have hP : va_P (dC, dI) vwCl (XW cy x0 x v18 f19) H := hP
  have hD : va_D A (XW cy x0 x v18 f19) := hD
  refine lv_aload_n hx hb dX8_fitsGrown_78 rfl (lv_at hl 2 rfl) ?_
  refine va_get (D := (dC, dI)) (ci := 8) (v := .ref (x 26)) (C := RX8) (T := TX8) (N := 7) hx hb hts inB_8 hown hE.1 hP 36 rfl rfl 0 (Nat.le_of_ble_eq_true rfl) (hts _ k_467) (fun _ h9 => h9) rfl dX8_fitsGrown_79 ?_
  refine va_getN (D := (dC, dI)) (ci := 7) (v := .int (v18 33)) (C := RX7) (T := TX7) (N := 10) hx hb hts inB_7 hown hE.1 hP 27 rfl rfl 5 (Nat.le_of_ble_eq_true rfl) (va_Nw.use rfl (hE.2 _ k_231)) (fun _ h9 => h9) rfl dX8_fitsGrown_82 ?_
  refine lv_icmp_gt (tgt := 92) hx hb dX8_fitsGrown_85 rfl (fun c20 => ?_) (fun c20 => ?_)
  · skip
    refine lv_iconst (v := 0) hx hb dX8_fitsGrown_92 rfl ?_
    exact ret 0 (v18, f19) _ _ _ _ _ _ rfl ⟨hM_v18, hA_f19, hIv18, hk0_v18, hk1_v18, hk7_v18, hk8_v18, hk9_v18, hk10_v18, hk31_v18, hk32_v18, (Or.inr rfl)⟩ hP hD hS dX8_fitsGrown_93 (Nat.le_refl _) (Nat.le_refl _)
  · skip
    refine lv_iconst (v := 1) hx hb dX8_fitsGrown_88 rfl ?_
    refine lv_goto (tgt := 93) hx hb dX8_fitsGrown_89 rfl ?_
    exact ret 1 (v18, f19) _ _ _ _ _ _ rfl ⟨hM_v18, hA_f19, hIv18, hk0_v18, hk1_v18, hk7_v18, hk8_v18, hk9_v18, hk10_v18, hk31_v18, hk32_v18, (Or.inl rfl)⟩ hP hD hS dX8_fitsGrown_93 (Nat.le_refl _) (Nat.le_refl _)
set_option maxHeartbeats 4000000 in
set_option maxRecDepth 100000 in
theorem sX_X8_fittingBehind_1 (l : Launch) (dC : Nat → ClassId) (dI : Nat → Nat → Nat) (cy : Nat → ClassId) (x0 : Nat) (x : Nat → Nat) (p1 : Int32) (v : Nat → Int32) (f : Nat → Nat → Int32) (hIv : XI v)  : ctI l (dC, dI) cy yX8_fittingBehind cX8_fittingBehind 4 .int 4 135 0 0 ((Nat → Int32) × (Nat → Nat → Int32)) [.ref (x 35), .int p1] (XW cy x0 x v f) (fun r u => KV [] u.1 v ∧ KF [13, 14, 27] u.2 f ∧ XI u.1 ∧ u.1 0 = v 0 ∧ u.1 1 = v 1 ∧ u.1 7 = v 7 ∧ u.1 8 = v 8 ∧ u.1 9 = v 9 ∧ u.1 10 = v 10 ∧ u.1 31 = v 31 ∧ u.1 32 = v 32) (fun u => XW cy x0 x u.1 u.2) := by
  refine ctI_of (by decide) (Nat.le_of_ble_eq_true rfl) (fun p e s m below meth c A ls Q hx hb hml hts hown hE hP hD hA hl ret => ?_)
  have hM_v : KV [] v v := fun _ _ => rfl
  have hA_f : KF [13, 14, 27] f f := fun _ _ => rfl
  have hown : s.vm.findClass RX8 = some m.cls := hown
  have hS : va_S A s.heap s.heap [] := va_S.rf
  have hl : lv_has ls 4 [(0, .ref (x 35)), (1, .int p1)] := hl
  refine lv_iload_n hx hb dX8_fittingBehind_0 rfl (lv_at hl 1 rfl) ?_
  refine lv_if_lt (tgt := 10) hx hb dX8_fittingBehind_1 rfl (fun c1 => ?_) (fun c1 => ?_)
  · skip
    refine lv_iconst (v := 0) hx hb dX8_fittingBehind_10 rfl ?_
    exact ret 0 (v, f) _ _ _ _ _ _ rfl ⟨hM_v, hA_f, hIv, rfl, rfl, rfl, rfl, rfl, rfl, rfl, rfl⟩ hP hD hS dX8_fittingBehind_11 (Nat.le_refl _) (Nat.le_refl _)
  · skip
    have zc1 : ¬ (p1.toInt < 0) := zLn rfl tc_0 c1
    refine lv_iload_n hx hb dX8_fittingBehind_4 rfl (lv_at hl 1 rfl) ?_
    refine lv_bipush (v := 20) hx hb dX8_fittingBehind_5 rfl ?_
    refine lv_icmp_le (tgt := 12) hx hb dX8_fittingBehind_7 rfl (fun c2 => ?_) (fun c2 => ?_)
    · skip
      have zc2 : p1.toInt ≤ 20 := zMp rfl tc_20 c2
      refine lv_aload_n hx hb dX8_fittingBehind_12 rfl (lv_at hl 0 rfl) ?_
      refine va_get (D := (dC, dI)) (ci := 8) (v := .ref (x 40)) (C := RX8) (T := TX8) (N := 7) hx hb hts inB_8 hown hE.1 hP 36 rfl rfl 6 (Nat.le_of_ble_eq_true rfl) (hts _ k_474) (fun _ h9 => h9) rfl dX8_fittingBehind_13 ?_
      refine lv_iload_n hx hb dX8_fittingBehind_16 rfl (lv_at hl 1 rfl) ?_
      refine ldI hx hb hE hP 41 rfl (vpI (k := 21) rfl (show 0 ≤ p1.toInt from om_14 zc1) (show p1.toInt < 21 from om_269 zc2)) rfl rfl dX8_fittingBehind_17 ?_
      refine lv_topi (fun t3 et3 => ?_)
      refine lv_iconst (v := (-1)) hx hb dX8_fittingBehind_18 rfl ?_
      refine lv_icmp_ne (tgt := 60) hx hb dX8_fittingBehind_19 rfl (fun c4 => ?_) (fun c4 => ?_)
      · skip
        refine lv_aload_n hx hb dX8_fittingBehind_60 rfl (lv_at hl 0 rfl) ?_
        refine va_get (D := (dC, dI)) (ci := 8) (v := .ref (x 40)) (C := RX8) (T := TX8) (N := 7) hx hb hts inB_8 hown hE.1 hP 36 rfl rfl 6 (Nat.le_of_ble_eq_true rfl) (hts _ k_474) (fun _ h9 => h9) rfl dX8_fittingBehind_61 ?_
        refine lv_iload_n hx hb dX8_fittingBehind_64 rfl (lv_at hl 1 rfl) ?_
        refine ldI hx hb hE hP 41 rfl (vpI (k := 21) rfl (show 0 ≤ p1.toInt from om_14 zc1) (show p1.toInt < 21 from om_269 zc2)) rfl rfl dX8_fittingBehind_65 ?_
        refine lv_topi (fun t5 et5 => ?_)
        exact ret t5 (v, f) _ _ _ _ _ _ rfl ⟨hM_v, hA_f, hIv, rfl, rfl, rfl, rfl, rfl, rfl, rfl, rfl⟩ hP hD hS dX8_fittingBehind_66 (Nat.le_refl _) (Nat.le_refl _)
      · skip
        refine lv_iconst (v := 0) hx hb dX8_fittingBehind_22 rfl ?_
        refine lv_istore_n (lv' := [(2, .int 0), (0, .ref (x 35)), (1, .int p1)]) hx hb dX8_fittingBehind_23 rfl hl (Nat.le_of_ble_eq_true rfl) rfl (fun ls hl => ?_)
        refine lv_iconst (v := 0) hx hb dX8_fittingBehind_24 rfl ?_
        refine lv_istore_n (lv' := [(3, .int 0), (2, .int 0), (0, .ref (x 35)), (1, .int p1)]) hx hb dX8_fittingBehind_25 rfl hl (Nat.le_of_ble_eq_true rfl) rfl (fun ls hl => ?_)
        have lp6 : ∀ (n6 : Nat) (l2_6 : Int32) (l3_6 : Int32) (v6 : Nat → Int32) (f6 : Nat → Nat → Int32), XI v6 → v6 0 = (v 0) → v6 1 = (v 1) → v6 7 = (v 7) → v6 8 = (v 8) → v6 9 = (v 9) → v6 10 = (v 10) → v6 31 = (v 31) → v6 32 = (v 32) → ((0 : Int) ≤ l3_6.toInt ∧ l3_6.toInt ≤ 2147483647) → KV [] v6 v → KF [13, 14, 27] f6 f → (2147483647 - l3_6.toInt).toNat < n6 → ∀ (H : Heap) (locs : List Loc) (ls : Array Slot), va_P (dC, dI) vwCl (XW cy x0 x v6 f6) H → va_D A (XW cy x0 x v6 f6) → va_S A s.heap H locs → lv_has ls 4 [(3, .int l3_6), (2, .int l2_6), (0, .ref (x 35)), (1, .int p1)] → W p l e { frames := 4, cells := 0, slots := 0, locals := 135 } s m ([.ref (x 35), .int p1] : List Value).toArray below meth c H locs 0 0 Q (F0 m 26 ls []) := by
          intro n6
          induction n6 with
          | zero => intro l2_6 l3_6 v6 f6 hIv6 hq0_v6 hq1_v6 hq7_v6 hq8_v6 hq9_v6 hq10_v6 hq31_v6 hq32_v6 hr3_6 hM_v6 hA_f6 hm; exact absurd hm (Nat.not_lt_zero _)
          | succ n6 ih6 =>
            intro l2_6 l3_6 v6 f6 hIv6 hq0_v6 hq1_v6 hq7_v6 hq8_v6 hq9_v6 hq10_v6 hq31_v6 hq32_v6 hr3_6 hM_v6 hA_f6 hm6 H locs ls hP hD hS hl
            refine lv_iload_n hx hb dX8_fittingBehind_26 rfl (lv_at hl 0 rfl) ?_
            refine lv_bipush (v := 30) hx hb dX8_fittingBehind_27 rfl ?_
            refine lv_icmp_gt (tgt := 53) hx hb dX8_fittingBehind_29 rfl (fun c7 => ?_) (fun c7 => ?_)
            · skip
              refine lv_aload_n hx hb dX8_fittingBehind_53 rfl (lv_at hl 2 rfl) ?_
              refine va_get (D := (dC, dI)) (ci := 8) (v := .ref (x 40)) (C := RX8) (T := TX8) (N := 7) hx hb hts inB_8 hown hE.1 hP 36 rfl rfl 6 (Nat.le_of_ble_eq_true rfl) (hts _ k_474) (fun _ h9 => h9) rfl dX8_fittingBehind_54 ?_
              refine lv_iload_n hx hb dX8_fittingBehind_57 rfl (lv_at hl 3 rfl) ?_
              refine lv_iload_n hx hb dX8_fittingBehind_58 rfl (lv_at hl 1 rfl) ?_
              refine stI hx hb hE hP hD hS 41 rfl (vpI (k := 21) rfl (show 0 ≤ p1.toInt from om_14 zc1) (show p1.toInt < 21 from om_269 zc2)) rfl dX8_fittingBehind_59 (fun H locs hP hD hS => ?_)
              obtain ⟨f8, ef8, hP, hD⟩ : ∃ fz9, fz9 = upd2 f6 27 (upd (f6 27) p1.toNatClampNeg l2_6) ∧ va_P (dC, dI) vwCl (XW cy x0 x v6 fz9) H ∧ va_D A (XW cy x0 x v6 fz9) := ⟨_, rfl, hP, hD⟩
              have hA_f8 : KF [13, 14, 27] f8 f := by rw [ef8]; exact KF.up hA_f6 rfl
              refine lv_aload_n hx hb dX8_fittingBehind_60 rfl (lv_at hl 2 rfl) ?_
              refine va_get (D := (dC, dI)) (ci := 8) (v := .ref (x 40)) (C := RX8) (T := TX8) (N := 7) hx hb hts inB_8 hown hE.1 hP 36 rfl rfl 6 (Nat.le_of_ble_eq_true rfl) (hts _ k_474) (fun _ h9 => h9) rfl dX8_fittingBehind_61 ?_
              refine lv_iload_n hx hb dX8_fittingBehind_64 rfl (lv_at hl 3 rfl) ?_
              refine ldI hx hb hE hP 41 rfl (vpI (k := 21) rfl (show 0 ≤ p1.toInt from om_14 zc1) (show p1.toInt < 21 from om_269 zc2)) rfl rfl dX8_fittingBehind_65 ?_
              refine lv_topi (fun t9 et9 => ?_)
              exact ret t9 (v6, f8) _ _ _ _ _ _ rfl ⟨hM_v6, hA_f8, hIv6, (show v6 0 = v 0 from hq0_v6), (show v6 1 = v 1 from hq1_v6), (show v6 7 = v 7 from hq7_v6), (show v6 8 = v 8 from hq8_v6), (show v6 9 = v 9 from hq9_v6), (show v6 10 = v 10 from hq10_v6), (show v6 31 = v 31 from hq31_v6), (show v6 32 = v 32 from hq32_v6)⟩ hP hD hS dX8_fittingBehind_66 (Nat.le_refl _) (Nat.le_refl _)
            · skip
              have zc7 : ¬ (30 < l3_6.toInt) := zLn tc_30 rfl c7
              refine lv_aload_n hx hb dX8_fittingBehind_32 rfl (lv_at hl 2 rfl) ?_
              refine lv_iload_n hx hb dX8_fittingBehind_33 rfl (lv_at hl 0 rfl) ?_
              refine lv_iload_n hx hb dX8_fittingBehind_34 rfl (lv_at hl 3 rfl) ?_
              refine cbVi (n := 2) (rest := []) hx hb hml hown hts hE hP hD hS hA (sX_X8_fitsGrown_1 l dC dI cy x0 x l3_6 p1 v6 f6 hIv6 ) k_1256 k_1258 k_39 k_112 k_1259 hd_yX8_fitsGrown ⟨Nat.le_of_ble_eq_true rfl, Nat.le_of_ble_eq_true rfl⟩ 36 8 rfl rfl (rfl) hl.1 rfl (Nat.le_of_ble_eq_true rfl) dX8_fittingBehind_35 (fun r10 u H locs hw hP hD hS => ?_)
              obtain ⟨v11, f12⟩ := u
              obtain ⟨kV_v11, kF_f12, hIv11, hk0_v11, hk1_v11, hk7_v11, hk8_v11, hk9_v11, hk10_v11, hk31_v11, hk32_v11, hw⟩ := hw
              have hM_v11 : KV [] v11 v := KV.tr kV_v11 hM_v6 rfl
              have hA_f12 : KF [13, 14, 27] f12 f := KF.tr kF_f12 hA_f6 rfl
              have hP : va_P (dC, dI) vwCl (XW cy x0 x v11 f12) H := hP
              have hD : va_D A (XW cy x0 x v11 f12) := hD
              have hq0_v11 : v11 0 = (v 0) := hk0_v11.trans hq0_v6
              have hq1_v11 : v11 1 = (v 1) := hk1_v11.trans hq1_v6
              have hq7_v11 : v11 7 = (v 7) := hk7_v11.trans hq7_v6
              have hq8_v11 : v11 8 = (v 8) := hk8_v11.trans hq8_v6
              have hq9_v11 : v11 9 = (v 9) := hk9_v11.trans hq9_v6
              have hq10_v11 : v11 10 = (v 10) := hk10_v11.trans hq10_v6
              have hq31_v11 : v11 31 = (v 31) := hk31_v11.trans hq31_v6
              have hq32_v11 : v11 32 = (v 32) := hk32_v11.trans hq32_v6
              rcases hw with ⟨g13⟩ | ⟨g13⟩
              · skip
                subst g13
                refine lv_if_eq (tgt := 47) hx hb dX8_fittingBehind_38 rfl (fun c0 => absurd c0 (by decide)) (fun _ => ?_)
                refine lv_iload_n hx hb dX8_fittingBehind_41 rfl (lv_at hl 1 rfl) ?_
                refine lv_iconst (v := 1) hx hb dX8_fittingBehind_42 rfl ?_
                refine lv_iload_n hx hb dX8_fittingBehind_43 rfl (lv_at hl 0 rfl) ?_
                refine lv_ishl hx hb dX8_fittingBehind_44 ?_
                refine lv_topi (fun t14 et14 => ?_)
                refine lv_ior hx hb dX8_fittingBehind_45 ?_
                refine lv_topi (fun t15 et15 => ?_)
                refine lv_istore_n (lv' := [(2, .int t15), (3, .int l3_6), (0, .ref (x 35)), (1, .int p1)]) hx hb dX8_fittingBehind_46 rfl hl (Nat.le_of_ble_eq_true rfl) rfl (fun ls hl => ?_)
                obtain ⟨t16, et16⟩ : ∃ y : Int32, y = l3_6 + 1 := ⟨_, rfl⟩
                have zt16 : t16.toInt = l3_6.toInt + 1 := (congrArg Int32.toInt et16).trans (add_i rfl tc_1 (om_41 hr3_6) (om_270 zc7))
                refine lv_iinc (v := t16) (lv' := [(3, .int t16), (2, .int t15), (0, .ref (x 35)), (1, .int p1)]) hx hb dX8_fittingBehind_47 hl (k := 1) rfl et16.symm (Nat.le_of_ble_eq_true rfl) rfl (fun ls hl => ?_)
                refine lv_goto (tgt := 26) hx hb dX8_fittingBehind_50 rfl ?_
                have rg18 := fb_rng t16
                exact ih6 t15 t16 v11 f12 hIv11 hq0_v11 hq1_v11 hq7_v11 hq8_v11 hq9_v11 hq10_v11 hq31_v11 hq32_v11 ⟨show (0 : Int) ≤ t16.toInt from om_43 hr3_6 zt16, show t16.toInt ≤ (2147483647 : Int) from om_44 rg18⟩ hM_v11 hA_f12 (show (2147483647 - t16.toInt).toNat < n6 from om_33 hm6 zt16 rg18) _ _ _ hP hD hS (lv_sub hl [0, 1, 2, 3] rfl)
              · skip
                subst g13
                refine lv_if_eq (tgt := 47) hx hb dX8_fittingBehind_38 rfl (fun _ => ?_) (fun c0 => absurd (by decide) c0)
                obtain ⟨t19, et19⟩ : ∃ y : Int32, y = l3_6 + 1 := ⟨_, rfl⟩
                have zt19 : t19.toInt = l3_6.toInt + 1 := (congrArg Int32.toInt et19).trans (add_i rfl tc_1 (om_41 hr3_6) (om_270 zc7))
                refine lv_iinc (v := t19) (lv' := [(3, .int t19), (2, .int l2_6), (0, .ref (x 35)), (1, .int p1)]) hx hb dX8_fittingBehind_47 hl (k := 0) rfl et19.symm (Nat.le_of_ble_eq_true rfl) rfl (fun ls hl => ?_)
                refine lv_goto (tgt := 26) hx hb dX8_fittingBehind_50 rfl ?_
                have rg21 := fb_rng t19
                exact ih6 l2_6 t19 v11 f12 hIv11 hq0_v11 hq1_v11 hq7_v11 hq8_v11 hq9_v11 hq10_v11 hq31_v11 hq32_v11 ⟨show (0 : Int) ≤ t19.toInt from om_43 hr3_6 zt19, show t19.toInt ≤ (2147483647 : Int) from om_44 rg21⟩ hM_v11 hA_f12 (show (2147483647 - t19.toInt).toNat < n6 from om_33 hm6 zt19 rg21) _ _ _ hP hD hS (lv_sub hl [0, 1, 2, 3] rfl)
        exact lp6 _ 0 0 v f hIv rfl rfl rfl rfl rfl rfl rfl rfl ⟨by decide, by decide⟩ hM_v hA_f (Nat.lt_succ_self _) _ _ _ hP hD hS (lv_sub hl [0, 1, 2, 3] rfl)
    · skip
      refine lv_iconst (v := 0) hx hb dX8_fittingBehind_10 rfl ?_
      exact ret 0 (v, f) _ _ _ _ _ _ rfl ⟨hM_v, hA_f, hIv, rfl, rfl, rfl, rfl, rfl, rfl, rfl, rfl⟩ hP hD hS dX8_fittingBehind_11 (Nat.le_refl _) (Nat.le_refl _)
set_option maxHeartbeats 4000000 in
set_option maxRecDepth 100000 in
theorem sX_X8_growthsAt_1 (l : Launch) (dC : Nat → ClassId) (dI : Nat → Nat → Nat) (cy : Nat → ClassId) (x0 : Nat) (x : Nat → Nat) (p1 : Int32) (v : Nat → Int32) (f : Nat → Nat → Int32) (hIv : XI v)  : ctI l (dC, dI) cy yX8_growthsAt cX8_growthsAt 6 .int 5 158 0 0 ((Nat → Int32) × (Nat → Nat → Int32)) [.ref (x 35), .int p1] (XW cy x0 x v f) (fun r u => KV [] u.1 v ∧ KF [13, 14, 27] u.2 f ∧ XI u.1 ∧ u.1 0 = v 0 ∧ u.1 1 = v 1 ∧ u.1 7 = v 7 ∧ u.1 8 = v 8 ∧ u.1 9 = v 9 ∧ u.1 10 = v 10 ∧ u.1 31 = v 31 ∧ u.1 32 = v 32) (fun u => XW cy x0 x u.1 u.2) := by
  refine ctI_of (by decide) (Nat.le_of_ble_eq_true rfl) (fun p e s m below meth c A ls Q hx hb hml hts hown hE hP hD hA hl ret => ?_)
  have hM_v : KV [] v v := fun _ _ => rfl
  have hA_f : KF [13, 14, 27] f f := fun _ _ => rfl
  have hown : s.vm.findClass RX8 = some m.cls := hown
  have hS : va_S A s.heap s.heap [] := va_S.rf
  have hl : lv_has ls 6 [(0, .ref (x 35)), (1, .int p1)] := hl
  refine lv_aload_n hx hb dX8_growthsAt_0 rfl (lv_at hl 0 rfl) ?_
  refine va_get (D := (dC, dI)) (ci := 8) (v := .ref (x 26)) (C := RX8) (T := TX8) (N := 7) hx hb hts inB_8 hown hE.1 hP 36 rfl rfl 0 (Nat.le_of_ble_eq_true rfl) (hts _ k_467) (fun _ h9 => h9) rfl dX8_growthsAt_1 ?_
  refine va_getN (D := (dC, dI)) (ci := 7) (v := .int (v 31)) (C := RX7) (T := TX7) (N := 10) hx hb hts inB_7 hown hE.1 hP 27 rfl rfl 3 (Nat.le_of_ble_eq_true rfl) (va_Nw.use rfl (hE.2 _ k_215)) (fun _ h9 => h9) rfl dX8_growthsAt_4 ?_
  refine lv_if_eq (tgt := 20) hx hb dX8_growthsAt_7 rfl (fun c1 => ?_) (fun c1 => ?_)
  · skip
    refine lv_iconst (v := 0) hx hb dX8_growthsAt_20 rfl ?_
    exact ret 0 (v, f) _ _ _ _ _ _ rfl ⟨hM_v, hA_f, hIv, rfl, rfl, rfl, rfl, rfl, rfl, rfl, rfl⟩ hP hD hS dX8_growthsAt_21 (Nat.le_refl _) (Nat.le_refl _)
  · skip
    refine lv_aload_n hx hb dX8_growthsAt_10 rfl (lv_at hl 0 rfl) ?_
    refine va_get (D := (dC, dI)) (ci := 8) (v := .ref (x 26)) (C := RX8) (T := TX8) (N := 7) hx hb hts inB_8 hown hE.1 hP 36 rfl rfl 0 (Nat.le_of_ble_eq_true rfl) (hts _ k_467) (fun _ h9 => h9) rfl dX8_growthsAt_11 ?_
    refine va_getN (D := (dC, dI)) (ci := 7) (v := .int (v 32)) (C := RX7) (T := TX7) (N := 10) hx hb hts inB_7 hown hE.1 hP 27 rfl rfl 4 (Nat.le_of_ble_eq_true rfl) (va_Nw.use rfl (hE.2 _ k_221)) (fun _ h9 => h9) rfl dX8_growthsAt_14 ?_
    refine lv_if_ne (tgt := 22) hx hb dX8_growthsAt_17 rfl (fun c2 => ?_) (fun c2 => ?_)
    · skip
      refine lv_ldc (v := 2147483647) hx hb hown (hts _ k_1251) dX8_growthsAt_22 ?_
      refine lv_istore_n (lv' := [(2, .int 2147483647), (0, .ref (x 35)), (1, .int p1)]) hx hb dX8_growthsAt_24 rfl hl (Nat.le_of_ble_eq_true rfl) rfl (fun ls hl => ?_)
      refine lv_iconst (v := 0) hx hb dX8_growthsAt_25 rfl ?_
      refine lv_istore_n (lv' := [(3, .int 0), (2, .int 2147483647), (0, .ref (x 35)), (1, .int p1)]) hx hb dX8_growthsAt_26 rfl hl (Nat.le_of_ble_eq_true rfl) rfl (fun ls hl => ?_)
      have lp3 : ∀ (n3 : Nat) (l2_3 : Int32) (l3_3 : Int32) (v3 : Nat → Int32) (f3 : Nat → Nat → Int32), XI v3 → v3 0 = (v 0) → v3 1 = (v 1) → v3 7 = (v 7) → v3 8 = (v 8) → v3 9 = (v 9) → v3 10 = (v 10) → v3 31 = (v 31) → v3 32 = (v 32) → ((0 : Int) ≤ l3_3.toInt ∧ l3_3.toInt ≤ 2147483647) → KV [] v3 v → KF [13, 14, 27] f3 f → (2147483647 - l3_3.toInt).toNat < n3 → ∀ (H : Heap) (locs : List Loc) (ls : Array Slot), va_P (dC, dI) vwCl (XW cy x0 x v3 f3) H → va_D A (XW cy x0 x v3 f3) → va_S A s.heap H locs → lv_has ls 6 [(3, .int l3_3), (2, .int l2_3), (0, .ref (x 35)), (1, .int p1)] → W p l e { frames := 5, cells := 0, slots := 0, locals := 158 } s m ([.ref (x 35), .int p1] : List Value).toArray below meth c H locs 0 0 Q (F0 m 27 ls []) := by
        intro n3
        induction n3 with
        | zero => intro l2_3 l3_3 v3 f3 hIv3 hq0_v3 hq1_v3 hq7_v3 hq8_v3 hq9_v3 hq10_v3 hq31_v3 hq32_v3 hr3_3 hM_v3 hA_f3 hm; exact absurd hm (Nat.not_lt_zero _)
        | succ n3 ih3 =>
          intro l2_3 l3_3 v3 f3 hIv3 hq0_v3 hq1_v3 hq7_v3 hq8_v3 hq9_v3 hq10_v3 hq31_v3 hq32_v3 hr3_3 hM_v3 hA_f3 hm3 H locs ls hP hD hS hl
          refine lv_iload_n hx hb dX8_growthsAt_27 rfl (lv_at hl 0 rfl) ?_
          refine lv_aload_n hx hb dX8_growthsAt_28 rfl (lv_at hl 2 rfl) ?_
          refine va_get (D := (dC, dI)) (ci := 8) (v := .int (v3 41)) (C := RX8) (T := TX8) (N := 7) hx hb hts inB_8 hown hE.1 hP 36 rfl rfl 5 (Nat.le_of_ble_eq_true rfl) (hts _ k_472) (fun _ h9 => h9) rfl dX8_growthsAt_29 ?_
          refine lv_icmp_ge (tgt := 122) hx hb dX8_growthsAt_32 rfl (fun c4 => ?_) (fun c4 => ?_)
          · skip
            refine lv_iload_n hx hb dX8_growthsAt_122 rfl (lv_at hl 1 rfl) ?_
            exact ret l2_3 (v3, f3) _ _ _ _ _ _ rfl ⟨hM_v3, hA_f3, hIv3, (show v3 0 = v 0 from hq0_v3), (show v3 1 = v 1 from hq1_v3), (show v3 7 = v 7 from hq7_v3), (show v3 8 = v 8 from hq8_v3), (show v3 9 = v 9 from hq9_v3), (show v3 10 = v 10 from hq10_v3), (show v3 31 = v 31 from hq31_v3), (show v3 32 = v 32 from hq32_v3)⟩ hP hD hS dX8_growthsAt_123 (Nat.le_refl _) (Nat.le_refl _)
          · skip
            refine lv_iload_n hx hb dX8_growthsAt_35 rfl (lv_at hl 0 rfl) ?_
            refine lv_bipush (v := 30) hx hb dX8_growthsAt_36 rfl ?_
            refine lv_icmp_ge (tgt := 122) hx hb dX8_growthsAt_38 rfl (fun c9 => ?_) (fun c9 => ?_)
            · skip
              refine lv_iload_n hx hb dX8_growthsAt_122 rfl (lv_at hl 1 rfl) ?_
              exact ret l2_3 (v3, f3) _ _ _ _ _ _ rfl ⟨hM_v3, hA_f3, hIv3, (show v3 0 = v 0 from hq0_v3), (show v3 1 = v 1 from hq1_v3), (show v3 7 = v 7 from hq7_v3), (show v3 8 = v 8 from hq8_v3), (show v3 9 = v 9 from hq9_v3), (show v3 10 = v 10 from hq10_v3), (show v3 31 = v 31 from hq31_v3), (show v3 32 = v 32 from hq32_v3)⟩ hP hD hS dX8_growthsAt_123 (Nat.le_refl _) (Nat.le_refl _)
            · skip
              have zc9 : ¬ (30 ≤ l3_3.toInt) := zMn tc_30 rfl c9
              refine lv_aload_n hx hb dX8_growthsAt_41 rfl (lv_at hl 2 rfl) ?_
              refine va_get (D := (dC, dI)) (ci := 8) (v := .ref (x 39)) (C := RX8) (T := TX8) (N := 7) hx hb hts inB_8 hown hE.1 hP 36 rfl rfl 4 (Nat.le_of_ble_eq_true rfl) (hts _ k_471) (fun _ h9 => h9) rfl dX8_growthsAt_42 ?_
              refine lv_iload_n hx hb dX8_growthsAt_45 rfl (lv_at hl 0 rfl) ?_
              refine ldI hx hb hE hP 40 rfl (vpI (k := 30) rfl (show 0 ≤ l3_3.toInt from om_39 hr3_3) (show l3_3.toInt < 30 from om_134 zc9)) rfl rfl dX8_growthsAt_46 ?_
              refine lv_topi (fun t10 et10 => ?_)
              refine lv_iconst (v := (-1)) hx hb dX8_growthsAt_47 rfl ?_
              refine lv_icmp_eq (tgt := 65) hx hb dX8_growthsAt_48 rfl (fun c11 => ?_) (fun c11 => ?_)
              · skip
                refine lv_iconst (v := 0) hx hb dX8_growthsAt_65 rfl ?_
                refine lv_istore (lv' := [(4, .int 0), (3, .int l3_3), (2, .int l2_3), (0, .ref (x 35)), (1, .int p1)]) hx hb dX8_growthsAt_66 hl (Nat.le_of_ble_eq_true rfl) rfl (fun ls hl => ?_)
                refine lv_aload_n hx hb dX8_growthsAt_68 rfl (lv_at hl 3 rfl) ?_
                refine va_get (D := (dC, dI)) (ci := 8) (v := .ref (x 38)) (C := RX8) (T := TX8) (N := 7) hx hb hts inB_8 hown hE.1 hP 36 rfl rfl 3 (Nat.le_of_ble_eq_true rfl) (hts _ k_470) (fun _ h9 => h9) rfl dX8_growthsAt_69 ?_
                refine lv_iload_n hx hb dX8_growthsAt_72 rfl (lv_at hl 1 rfl) ?_
                refine ldI hx hb hE hP 39 rfl (vpI (k := 30) rfl (show 0 ≤ l3_3.toInt from om_39 hr3_3) (show l3_3.toInt < 30 from om_134 zc9)) rfl rfl dX8_growthsAt_73 ?_
                refine lv_topi (fun t12 et12 => ?_)
                refine lv_iload_n hx hb dX8_growthsAt_74 rfl (lv_at hl 4 rfl) ?_
                refine lv_icmp_gt (tgt := 116) hx hb dX8_growthsAt_75 rfl (fun c13 => ?_) (fun c13 => ?_)
                · skip
                  obtain ⟨t16, et16⟩ : ∃ y : Int32, y = l3_3 + 1 := ⟨_, rfl⟩
                  have zt16 : t16.toInt = l3_3.toInt + 1 := (congrArg Int32.toInt et16).trans (add_i rfl tc_1 (om_41 hr3_3) (om_153 zc9))
                  refine lv_iinc (v := t16) (lv' := [(3, .int t16), (4, .int 0), (2, .int l2_3), (0, .ref (x 35)), (1, .int p1)]) hx hb dX8_growthsAt_116 hl (k := 1) rfl et16.symm (Nat.le_of_ble_eq_true rfl) rfl (fun ls hl => ?_)
                  refine lv_goto (tgt := 27) hx hb dX8_growthsAt_119 rfl ?_
                  have rg17 := fb_rng t16
                  exact ih3 l2_3 t16 v3 f3 hIv3 hq0_v3 hq1_v3 hq7_v3 hq8_v3 hq9_v3 hq10_v3 hq31_v3 hq32_v3 ⟨show (0 : Int) ≤ t16.toInt from om_43 hr3_3 zt16, show t16.toInt ≤ (2147483647 : Int) from om_44 rg17⟩ hM_v3 hA_f3 (show (2147483647 - t16.toInt).toNat < n3 from om_33 hm3 zt16 rg17) _ _ _ hP hD hS (lv_sub hl [0, 2, 3, 4] rfl)
                · skip
                  refine lv_iload hx hb dX8_growthsAt_78 (lv_at hl 0 rfl) ?_
                  refine lv_if_ne (tgt := 116) hx hb dX8_growthsAt_80 rfl (fun c0 => absurd (by decide) c0) (fun _ => ?_)
                  refine lv_aload_n hx hb dX8_growthsAt_83 rfl (lv_at hl 3 rfl) ?_
                  refine lv_aload_n hx hb dX8_growthsAt_84 rfl (lv_at hl 3 rfl) ?_
                  refine va_get (D := (dC, dI)) (ci := 8) (v := .ref (x 36)) (C := RX8) (T := TX8) (N := 7) hx hb hts inB_8 hown hE.1 hP 36 rfl rfl 1 (Nat.le_of_ble_eq_true rfl) (hts _ k_468) (fun _ h9 => h9) rfl dX8_growthsAt_85 ?_
                  refine lv_iload_n hx hb dX8_growthsAt_88 rfl (lv_at hl 1 rfl) ?_
                  refine ldI hx hb hE hP 37 rfl (vpI (k := 30) rfl (show 0 ≤ l3_3.toInt from om_39 hr3_3) (show l3_3.toInt < 30 from om_134 zc9)) rfl rfl dX8_growthsAt_89 ?_
                  refine lv_topi (fun t20 et20 => ?_)
                  refine cbVi (n := 1) (rest := []) hx hb hml hown hts hE hP hD hS hA (sX_X8_fittingBehind_1 l dC dI cy x0 x t20 v3 f3 hIv3 ) k_1252 k_1254 k_38 k_112 k_1255 hd_yX8_fittingBehind ⟨Nat.le_of_ble_eq_true rfl, Nat.le_of_ble_eq_true rfl⟩ 36 8 rfl rfl (rfl) hl.1 rfl (Nat.le_of_ble_eq_true rfl) dX8_growthsAt_90 (fun r21 u H locs hw hP hD hS => ?_)
                  obtain ⟨v22, f23⟩ := u
                  obtain ⟨kV_v22, kF_f23, hIv22, hk0_v22, hk1_v22, hk7_v22, hk8_v22, hk9_v22, hk10_v22, hk31_v22, hk32_v22⟩ := hw
                  have hM_v22 : KV [] v22 v := KV.tr kV_v22 hM_v3 rfl
                  have hA_f23 : KF [13, 14, 27] f23 f := KF.tr kF_f23 hA_f3 rfl
                  have hP : va_P (dC, dI) vwCl (XW cy x0 x v22 f23) H := hP
                  have hD : va_D A (XW cy x0 x v22 f23) := hD
                  have hq0_v22 : v22 0 = (v 0) := hk0_v22.trans hq0_v3
                  have hq1_v22 : v22 1 = (v 1) := hk1_v22.trans hq1_v3
                  have hq7_v22 : v22 7 = (v 7) := hk7_v22.trans hq7_v3
                  have hq8_v22 : v22 8 = (v 8) := hk8_v22.trans hq8_v3
                  have hq9_v22 : v22 9 = (v 9) := hk9_v22.trans hq9_v3
                  have hq10_v22 : v22 10 = (v 10) := hk10_v22.trans hq10_v3
                  have hq31_v22 : v22 31 = (v 31) := hk31_v22.trans hq31_v3
                  have hq32_v22 : v22 32 = (v 32) := hk32_v22.trans hq32_v3
                  refine lv_istore (lv' := [(5, .int r21), (4, .int 0), (3, .int l3_3), (2, .int l2_3), (0, .ref (x 35)), (1, .int p1)]) hx hb dX8_growthsAt_93 hl (Nat.le_of_ble_eq_true rfl) rfl (fun ls hl => ?_)
                  refine lv_iload_n hx hb dX8_growthsAt_95 rfl (lv_at hl 3 rfl) ?_
                  refine lv_aload_n hx hb dX8_growthsAt_96 rfl (lv_at hl 4 rfl) ?_
                  refine va_get (D := (dC, dI)) (ci := 8) (v := .ref (x 37)) (C := RX8) (T := TX8) (N := 7) hx hb hts inB_8 hown hE.1 hP 36 rfl rfl 2 (Nat.le_of_ble_eq_true rfl) (hts _ k_469) (fun _ h9 => h9) rfl dX8_growthsAt_97 ?_
                  refine lv_iload_n hx hb dX8_growthsAt_100 rfl (lv_at hl 2 rfl) ?_
                  refine ldZ hx hb hE hP 38 rfl (vpI (k := 30) rfl (show 0 ≤ l3_3.toInt from om_39 hr3_3) (show l3_3.toInt < 30 from om_134 zc9)) rfl rfl dX8_growthsAt_101 ?_
                  refine lv_topi (fun t24 et24 => ?_)
                  refine lv_if_eq (tgt := 110) hx hb dX8_growthsAt_102 rfl (fun c25 => ?_) (fun c25 => ?_)
                  · skip
                    refine lv_iload hx hb dX8_growthsAt_110 (lv_at hl 0 rfl) ?_
                    refine lv_iconst (v := (-1)) hx hb dX8_growthsAt_112 rfl ?_
                    refine lv_ixor hx hb dX8_growthsAt_113 ?_
                    refine lv_topi (fun t26 et26 => ?_)
                    refine lv_iand hx hb dX8_growthsAt_114 ?_
                    refine lv_topi (fun t27 et27 => ?_)
                    refine lv_istore_n (lv' := [(2, .int t27), (5, .int r21), (4, .int 0), (3, .int l3_3), (0, .ref (x 35)), (1, .int p1)]) hx hb dX8_growthsAt_115 rfl hl (Nat.le_of_ble_eq_true rfl) rfl (fun ls hl => ?_)
                    obtain ⟨t28, et28⟩ : ∃ y : Int32, y = l3_3 + 1 := ⟨_, rfl⟩
                    have zt28 : t28.toInt = l3_3.toInt + 1 := (congrArg Int32.toInt et28).trans (add_i rfl tc_1 (om_41 hr3_3) (om_153 zc9))
                    refine lv_iinc (v := t28) (lv' := [(3, .int t28), (2, .int t27), (5, .int r21), (4, .int 0), (0, .ref (x 35)), (1, .int p1)]) hx hb dX8_growthsAt_116 hl (k := 3) rfl et28.symm (Nat.le_of_ble_eq_true rfl) rfl (fun ls hl => ?_)
                    refine lv_goto (tgt := 27) hx hb dX8_growthsAt_119 rfl ?_
                    have rg29 := fb_rng t28
                    exact ih3 t27 t28 v22 f23 hIv22 hq0_v22 hq1_v22 hq7_v22 hq8_v22 hq9_v22 hq10_v22 hq31_v22 hq32_v22 ⟨show (0 : Int) ≤ t28.toInt from om_43 hr3_3 zt28, show t28.toInt ≤ (2147483647 : Int) from om_44 rg29⟩ hM_v22 hA_f23 (show (2147483647 - t28.toInt).toNat < n3 from om_33 hm3 zt28 rg29) _ _ _ hP hD hS (lv_sub hl [0, 1, 4, 5] rfl)
                  · skip
                    refine lv_iload hx hb dX8_growthsAt_105 (lv_at hl 0 rfl) ?_
                    refine lv_goto (tgt := 114) hx hb dX8_growthsAt_107 rfl ?_
                    refine lv_iand hx hb dX8_growthsAt_114 ?_
                    refine lv_topi (fun t30 et30 => ?_)
                    refine lv_istore_n (lv' := [(2, .int t30), (5, .int r21), (4, .int 0), (3, .int l3_3), (0, .ref (x 35)), (1, .int p1)]) hx hb dX8_growthsAt_115 rfl hl (Nat.le_of_ble_eq_true rfl) rfl (fun ls hl => ?_)
                    obtain ⟨t31, et31⟩ : ∃ y : Int32, y = l3_3 + 1 := ⟨_, rfl⟩
                    have zt31 : t31.toInt = l3_3.toInt + 1 := (congrArg Int32.toInt et31).trans (add_i rfl tc_1 (om_41 hr3_3) (om_153 zc9))
                    refine lv_iinc (v := t31) (lv' := [(3, .int t31), (2, .int t30), (5, .int r21), (4, .int 0), (0, .ref (x 35)), (1, .int p1)]) hx hb dX8_growthsAt_116 hl (k := 3) rfl et31.symm (Nat.le_of_ble_eq_true rfl) rfl (fun ls hl => ?_)
                    refine lv_goto (tgt := 27) hx hb dX8_growthsAt_119 rfl ?_
                    have rg32 := fb_rng t31
                    exact ih3 t30 t31 v22 f23 hIv22 hq0_v22 hq1_v22 hq7_v22 hq8_v22 hq9_v22 hq10_v22 hq31_v22 hq32_v22 ⟨show (0 : Int) ≤ t31.toInt from om_43 hr3_3 zt31, show t31.toInt ≤ (2147483647 : Int) from om_44 rg32⟩ hM_v22 hA_f23 (show (2147483647 - t31.toInt).toNat < n3 from om_33 hm3 zt31 rg32) _ _ _ hP hD hS (lv_sub hl [0, 1, 4, 5] rfl)
              · skip
                refine lv_aload_n hx hb dX8_growthsAt_51 rfl (lv_at hl 2 rfl) ?_
                refine va_get (D := (dC, dI)) (ci := 8) (v := .ref (x 39)) (C := RX8) (T := TX8) (N := 7) hx hb hts inB_8 hown hE.1 hP 36 rfl rfl 4 (Nat.le_of_ble_eq_true rfl) (hts _ k_471) (fun _ h9 => h9) rfl dX8_growthsAt_52 ?_
                refine lv_iload_n hx hb dX8_growthsAt_55 rfl (lv_at hl 0 rfl) ?_
                refine ldI hx hb hE hP 40 rfl (vpI (k := 30) rfl (show 0 ≤ l3_3.toInt from om_39 hr3_3) (show l3_3.toInt < 30 from om_134 zc9)) rfl rfl dX8_growthsAt_56 ?_
                refine lv_topi (fun t33 et33 => ?_)
                refine lv_iload_n hx hb dX8_growthsAt_57 rfl (lv_at hl 3 rfl) ?_
                refine lv_icmp_gt (tgt := 65) hx hb dX8_growthsAt_58 rfl (fun c34 => ?_) (fun c34 => ?_)
                · skip
                  refine lv_iconst (v := 0) hx hb dX8_growthsAt_65 rfl ?_
                  refine lv_istore (lv' := [(4, .int 0), (3, .int l3_3), (2, .int l2_3), (0, .ref (x 35)), (1, .int p1)]) hx hb dX8_growthsAt_66 hl (Nat.le_of_ble_eq_true rfl) rfl (fun ls hl => ?_)
                  refine lv_aload_n hx hb dX8_growthsAt_68 rfl (lv_at hl 3 rfl) ?_
                  refine va_get (D := (dC, dI)) (ci := 8) (v := .ref (x 38)) (C := RX8) (T := TX8) (N := 7) hx hb hts inB_8 hown hE.1 hP 36 rfl rfl 3 (Nat.le_of_ble_eq_true rfl) (hts _ k_470) (fun _ h9 => h9) rfl dX8_growthsAt_69 ?_
                  refine lv_iload_n hx hb dX8_growthsAt_72 rfl (lv_at hl 1 rfl) ?_
                  refine ldI hx hb hE hP 39 rfl (vpI (k := 30) rfl (show 0 ≤ l3_3.toInt from om_39 hr3_3) (show l3_3.toInt < 30 from om_134 zc9)) rfl rfl dX8_growthsAt_73 ?_
                  refine lv_topi (fun t37 et37 => ?_)
                  refine lv_iload_n hx hb dX8_growthsAt_74 rfl (lv_at hl 4 rfl) ?_
                  refine lv_icmp_gt (tgt := 116) hx hb dX8_growthsAt_75 rfl (fun c38 => ?_) (fun c38 => ?_)
                  · skip
                    obtain ⟨t40, et40⟩ : ∃ y : Int32, y = l3_3 + 1 := ⟨_, rfl⟩
                    have zt40 : t40.toInt = l3_3.toInt + 1 := (congrArg Int32.toInt et40).trans (add_i rfl tc_1 (om_41 hr3_3) (om_153 zc9))
                    refine lv_iinc (v := t40) (lv' := [(3, .int t40), (4, .int 0), (2, .int l2_3), (0, .ref (x 35)), (1, .int p1)]) hx hb dX8_growthsAt_116 hl (k := 1) rfl et40.symm (Nat.le_of_ble_eq_true rfl) rfl (fun ls hl => ?_)
                    refine lv_goto (tgt := 27) hx hb dX8_growthsAt_119 rfl ?_
                    have rg41 := fb_rng t40
                    exact ih3 l2_3 t40 v3 f3 hIv3 hq0_v3 hq1_v3 hq7_v3 hq8_v3 hq9_v3 hq10_v3 hq31_v3 hq32_v3 ⟨show (0 : Int) ≤ t40.toInt from om_43 hr3_3 zt40, show t40.toInt ≤ (2147483647 : Int) from om_44 rg41⟩ hM_v3 hA_f3 (show (2147483647 - t40.toInt).toNat < n3 from om_33 hm3 zt40 rg41) _ _ _ hP hD hS (lv_sub hl [0, 2, 3, 4] rfl)
                  · skip
                    refine lv_iload hx hb dX8_growthsAt_78 (lv_at hl 0 rfl) ?_
                    refine lv_if_ne (tgt := 116) hx hb dX8_growthsAt_80 rfl (fun c0 => absurd (by decide) c0) (fun _ => ?_)
                    refine lv_aload_n hx hb dX8_growthsAt_83 rfl (lv_at hl 3 rfl) ?_
                    refine lv_aload_n hx hb dX8_growthsAt_84 rfl (lv_at hl 3 rfl) ?_
                    refine va_get (D := (dC, dI)) (ci := 8) (v := .ref (x 36)) (C := RX8) (T := TX8) (N := 7) hx hb hts inB_8 hown hE.1 hP 36 rfl rfl 1 (Nat.le_of_ble_eq_true rfl) (hts _ k_468) (fun _ h9 => h9) rfl dX8_growthsAt_85 ?_
                    refine lv_iload_n hx hb dX8_growthsAt_88 rfl (lv_at hl 1 rfl) ?_
                    refine ldI hx hb hE hP 37 rfl (vpI (k := 30) rfl (show 0 ≤ l3_3.toInt from om_39 hr3_3) (show l3_3.toInt < 30 from om_134 zc9)) rfl rfl dX8_growthsAt_89 ?_
                    refine lv_topi (fun t43 et43 => ?_)
                    refine cbVi (n := 1) (rest := []) hx hb hml hown hts hE hP hD hS hA (sX_X8_fittingBehind_1 l dC dI cy x0 x t43 v3 f3 hIv3 ) k_1252 k_1254 k_38 k_112 k_1255 hd_yX8_fittingBehind ⟨Nat.le_of_ble_eq_true rfl, Nat.le_of_ble_eq_true rfl⟩ 36 8 rfl rfl (rfl) hl.1 rfl (Nat.le_of_ble_eq_true rfl) dX8_growthsAt_90 (fun r44 u H locs hw hP hD hS => ?_)
                    obtain ⟨v45, f46⟩ := u
                    obtain ⟨kV_v45, kF_f46, hIv45, hk0_v45, hk1_v45, hk7_v45, hk8_v45, hk9_v45, hk10_v45, hk31_v45, hk32_v45⟩ := hw
                    have hM_v45 : KV [] v45 v := KV.tr kV_v45 hM_v3 rfl
                    have hA_f46 : KF [13, 14, 27] f46 f := KF.tr kF_f46 hA_f3 rfl
                    have hP : va_P (dC, dI) vwCl (XW cy x0 x v45 f46) H := hP
                    have hD : va_D A (XW cy x0 x v45 f46) := hD
                    have hq0_v45 : v45 0 = (v 0) := hk0_v45.trans hq0_v3
                    have hq1_v45 : v45 1 = (v 1) := hk1_v45.trans hq1_v3
                    have hq7_v45 : v45 7 = (v 7) := hk7_v45.trans hq7_v3
                    have hq8_v45 : v45 8 = (v 8) := hk8_v45.trans hq8_v3
                    have hq9_v45 : v45 9 = (v 9) := hk9_v45.trans hq9_v3
                    have hq10_v45 : v45 10 = (v 10) := hk10_v45.trans hq10_v3
                    have hq31_v45 : v45 31 = (v 31) := hk31_v45.trans hq31_v3
                    have hq32_v45 : v45 32 = (v 32) := hk32_v45.trans hq32_v3
                    refine lv_istore (lv' := [(5, .int r44), (4, .int 0), (3, .int l3_3), (2, .int l2_3), (0, .ref (x 35)), (1, .int p1)]) hx hb dX8_growthsAt_93 hl (Nat.le_of_ble_eq_true rfl) rfl (fun ls hl => ?_)
                    refine lv_iload_n hx hb dX8_growthsAt_95 rfl (lv_at hl 3 rfl) ?_
                    refine lv_aload_n hx hb dX8_growthsAt_96 rfl (lv_at hl 4 rfl) ?_
                    refine va_get (D := (dC, dI)) (ci := 8) (v := .ref (x 37)) (C := RX8) (T := TX8) (N := 7) hx hb hts inB_8 hown hE.1 hP 36 rfl rfl 2 (Nat.le_of_ble_eq_true rfl) (hts _ k_469) (fun _ h9 => h9) rfl dX8_growthsAt_97 ?_
                    refine lv_iload_n hx hb dX8_growthsAt_100 rfl (lv_at hl 2 rfl) ?_
                    refine ldZ hx hb hE hP 38 rfl (vpI (k := 30) rfl (show 0 ≤ l3_3.toInt from om_39 hr3_3) (show l3_3.toInt < 30 from om_134 zc9)) rfl rfl dX8_growthsAt_101 ?_
                    refine lv_topi (fun t47 et47 => ?_)
                    refine lv_if_eq (tgt := 110) hx hb dX8_growthsAt_102 rfl (fun c48 => ?_) (fun c48 => ?_)
                    · skip
                      refine lv_iload hx hb dX8_growthsAt_110 (lv_at hl 0 rfl) ?_
                      refine lv_iconst (v := (-1)) hx hb dX8_growthsAt_112 rfl ?_
                      refine lv_ixor hx hb dX8_growthsAt_113 ?_
                      refine lv_topi (fun t49 et49 => ?_)
                      refine lv_iand hx hb dX8_growthsAt_114 ?_
                      refine lv_topi (fun t50 et50 => ?_)
                      refine lv_istore_n (lv' := [(2, .int t50), (5, .int r44), (4, .int 0), (3, .int l3_3), (0, .ref (x 35)), (1, .int p1)]) hx hb dX8_growthsAt_115 rfl hl (Nat.le_of_ble_eq_true rfl) rfl (fun ls hl => ?_)
                      obtain ⟨t51, et51⟩ : ∃ y : Int32, y = l3_3 + 1 := ⟨_, rfl⟩
                      have zt51 : t51.toInt = l3_3.toInt + 1 := (congrArg Int32.toInt et51).trans (add_i rfl tc_1 (om_41 hr3_3) (om_153 zc9))
                      refine lv_iinc (v := t51) (lv' := [(3, .int t51), (2, .int t50), (5, .int r44), (4, .int 0), (0, .ref (x 35)), (1, .int p1)]) hx hb dX8_growthsAt_116 hl (k := 3) rfl et51.symm (Nat.le_of_ble_eq_true rfl) rfl (fun ls hl => ?_)
                      refine lv_goto (tgt := 27) hx hb dX8_growthsAt_119 rfl ?_
                      have rg52 := fb_rng t51
                      exact ih3 t50 t51 v45 f46 hIv45 hq0_v45 hq1_v45 hq7_v45 hq8_v45 hq9_v45 hq10_v45 hq31_v45 hq32_v45 ⟨show (0 : Int) ≤ t51.toInt from om_43 hr3_3 zt51, show t51.toInt ≤ (2147483647 : Int) from om_44 rg52⟩ hM_v45 hA_f46 (show (2147483647 - t51.toInt).toNat < n3 from om_33 hm3 zt51 rg52) _ _ _ hP hD hS (lv_sub hl [0, 1, 4, 5] rfl)
                    · skip
                      refine lv_iload hx hb dX8_growthsAt_105 (lv_at hl 0 rfl) ?_
                      refine lv_goto (tgt := 114) hx hb dX8_growthsAt_107 rfl ?_
                      refine lv_iand hx hb dX8_growthsAt_114 ?_
                      refine lv_topi (fun t53 et53 => ?_)
                      refine lv_istore_n (lv' := [(2, .int t53), (5, .int r44), (4, .int 0), (3, .int l3_3), (0, .ref (x 35)), (1, .int p1)]) hx hb dX8_growthsAt_115 rfl hl (Nat.le_of_ble_eq_true rfl) rfl (fun ls hl => ?_)
                      obtain ⟨t54, et54⟩ : ∃ y : Int32, y = l3_3 + 1 := ⟨_, rfl⟩
                      have zt54 : t54.toInt = l3_3.toInt + 1 := (congrArg Int32.toInt et54).trans (add_i rfl tc_1 (om_41 hr3_3) (om_153 zc9))
                      refine lv_iinc (v := t54) (lv' := [(3, .int t54), (2, .int t53), (5, .int r44), (4, .int 0), (0, .ref (x 35)), (1, .int p1)]) hx hb dX8_growthsAt_116 hl (k := 3) rfl et54.symm (Nat.le_of_ble_eq_true rfl) rfl (fun ls hl => ?_)
                      refine lv_goto (tgt := 27) hx hb dX8_growthsAt_119 rfl ?_
                      have rg55 := fb_rng t54
                      exact ih3 t53 t54 v45 f46 hIv45 hq0_v45 hq1_v45 hq7_v45 hq8_v45 hq9_v45 hq10_v45 hq31_v45 hq32_v45 ⟨show (0 : Int) ≤ t54.toInt from om_43 hr3_3 zt54, show t54.toInt ≤ (2147483647 : Int) from om_44 rg55⟩ hM_v45 hA_f46 (show (2147483647 - t54.toInt).toNat < n3 from om_33 hm3 zt54 rg55) _ _ _ hP hD hS (lv_sub hl [0, 1, 4, 5] rfl)
                · skip
                  refine lv_iconst (v := 1) hx hb dX8_growthsAt_61 rfl ?_
                  refine lv_goto (tgt := 66) hx hb dX8_growthsAt_62 rfl ?_
                  refine lv_istore (lv' := [(4, .int 1), (3, .int l3_3), (2, .int l2_3), (0, .ref (x 35)), (1, .int p1)]) hx hb dX8_growthsAt_66 hl (Nat.le_of_ble_eq_true rfl) rfl (fun ls hl => ?_)
                  refine lv_aload_n hx hb dX8_growthsAt_68 rfl (lv_at hl 3 rfl) ?_
                  refine va_get (D := (dC, dI)) (ci := 8) (v := .ref (x 38)) (C := RX8) (T := TX8) (N := 7) hx hb hts inB_8 hown hE.1 hP 36 rfl rfl 3 (Nat.le_of_ble_eq_true rfl) (hts _ k_470) (fun _ h9 => h9) rfl dX8_growthsAt_69 ?_
                  refine lv_iload_n hx hb dX8_growthsAt_72 rfl (lv_at hl 1 rfl) ?_
                  refine ldI hx hb hE hP 39 rfl (vpI (k := 30) rfl (show 0 ≤ l3_3.toInt from om_39 hr3_3) (show l3_3.toInt < 30 from om_134 zc9)) rfl rfl dX8_growthsAt_73 ?_
                  refine lv_topi (fun t58 et58 => ?_)
                  refine lv_iload_n hx hb dX8_growthsAt_74 rfl (lv_at hl 4 rfl) ?_
                  refine lv_icmp_gt (tgt := 116) hx hb dX8_growthsAt_75 rfl (fun c59 => ?_) (fun c59 => ?_)
                  · skip
                    obtain ⟨t61, et61⟩ : ∃ y : Int32, y = l3_3 + 1 := ⟨_, rfl⟩
                    have zt61 : t61.toInt = l3_3.toInt + 1 := (congrArg Int32.toInt et61).trans (add_i rfl tc_1 (om_41 hr3_3) (om_153 zc9))
                    refine lv_iinc (v := t61) (lv' := [(3, .int t61), (4, .int 1), (2, .int l2_3), (0, .ref (x 35)), (1, .int p1)]) hx hb dX8_growthsAt_116 hl (k := 1) rfl et61.symm (Nat.le_of_ble_eq_true rfl) rfl (fun ls hl => ?_)
                    refine lv_goto (tgt := 27) hx hb dX8_growthsAt_119 rfl ?_
                    have rg62 := fb_rng t61
                    exact ih3 l2_3 t61 v3 f3 hIv3 hq0_v3 hq1_v3 hq7_v3 hq8_v3 hq9_v3 hq10_v3 hq31_v3 hq32_v3 ⟨show (0 : Int) ≤ t61.toInt from om_43 hr3_3 zt61, show t61.toInt ≤ (2147483647 : Int) from om_44 rg62⟩ hM_v3 hA_f3 (show (2147483647 - t61.toInt).toNat < n3 from om_33 hm3 zt61 rg62) _ _ _ hP hD hS (lv_sub hl [0, 2, 3, 4] rfl)
                  · skip
                    refine lv_iload hx hb dX8_growthsAt_78 (lv_at hl 0 rfl) ?_
                    refine lv_if_ne (tgt := 116) hx hb dX8_growthsAt_80 rfl (fun _ => ?_) (fun c0 => absurd c0 (by decide))
                    obtain ⟨t64, et64⟩ : ∃ y : Int32, y = l3_3 + 1 := ⟨_, rfl⟩
                    have zt64 : t64.toInt = l3_3.toInt + 1 := (congrArg Int32.toInt et64).trans (add_i rfl tc_1 (om_41 hr3_3) (om_153 zc9))
                    refine lv_iinc (v := t64) (lv' := [(3, .int t64), (4, .int 1), (2, .int l2_3), (0, .ref (x 35)), (1, .int p1)]) hx hb dX8_growthsAt_116 hl (k := 1) rfl et64.symm (Nat.le_of_ble_eq_true rfl) rfl (fun ls hl => ?_)
                    refine lv_goto (tgt := 27) hx hb dX8_growthsAt_119 rfl ?_
                    have rg65 := fb_rng t64
                    exact ih3 l2_3 t64 v3 f3 hIv3 hq0_v3 hq1_v3 hq7_v3 hq8_v3 hq9_v3 hq10_v3 hq31_v3 hq32_v3 ⟨show (0 : Int) ≤ t64.toInt from om_43 hr3_3 zt64, show t64.toInt ≤ (2147483647 : Int) from om_44 rg65⟩ hM_v3 hA_f3 (show (2147483647 - t64.toInt).toNat < n3 from om_33 hm3 zt64 rg65) _ _ _ hP hD hS (lv_sub hl [0, 2, 3, 4] rfl)
      exact lp3 _ 2147483647 0 v f hIv rfl rfl rfl rfl rfl rfl rfl rfl ⟨by decide, by decide⟩ hM_v hA_f (Nat.lt_succ_self _) _ _ _ hP hD hS (lv_sub hl [0, 1, 2, 3] rfl)
    · skip
      refine lv_iconst (v := 0) hx hb dX8_growthsAt_20 rfl ?_
      exact ret 0 (v, f) _ _ _ _ _ _ rfl ⟨hM_v, hA_f, hIv, rfl, rfl, rfl, rfl, rfl, rfl, rfl, rfl⟩ hP hD hS dX8_growthsAt_21 (Nat.le_refl _) (Nat.le_refl _)
set_option maxHeartbeats 4000000 in
set_option maxRecDepth 100000 in
theorem sX_X10_growths_1 (l : Launch) (dC : Nat → ClassId) (dI : Nat → Nat → Nat) (cy : Nat → ClassId) (x0 : Nat) (x : Nat → Nat) (p1 : Int32) (v : Nat → Int32) (f : Nat → Nat → Int32) (hIv : XI v)  : ctI l (dC, dI) cy yX10_growths cX10_growths 2 .int 6 183 0 0 ((Nat → Int32) × (Nat → Nat → Int32)) [.ref x0, .int p1] (XW cy x0 x v f) (fun r u => KV [] u.1 v ∧ KF [13, 14, 27] u.2 f ∧ XI u.1 ∧ u.1 0 = v 0 ∧ u.1 1 = v 1 ∧ u.1 7 = v 7 ∧ u.1 8 = v 8 ∧ u.1 9 = v 9 ∧ u.1 10 = v 10 ∧ u.1 31 = v 31 ∧ u.1 32 = v 32) (fun u => XW cy x0 x u.1 u.2) := by
  refine ctI_of (by decide) (Nat.le_of_ble_eq_true rfl) (fun p e s m below meth c A ls Q hx hb hml hts hown hE hP hD hA hl ret => ?_)
  have hM_v : KV [] v v := fun _ _ => rfl
  have hA_f : KF [13, 14, 27] f f := fun _ _ => rfl
  have hown : s.vm.findClass RX10 = some m.cls := hown
  have hS : va_S A s.heap s.heap [] := va_S.rf
  have hl : lv_has ls 2 [(0, .ref x0), (1, .int p1)] := hl
  refine lv_aload_n hx hb dX10_growths_0 rfl (lv_at hl 0 rfl) ?_
  refine va_get (D := (dC, dI)) (ci := 10) (v := .ref (x 35)) (C := RX10) (T := TX10) (N := 10) hx hb hts inB_10 hown hE.1 hP 0 rfl rfl 8 (Nat.le_of_ble_eq_true rfl) (hts _ k_499) (fun _ h9 => h9) rfl dX10_growths_1 ?_
  refine lv_iload_n hx hb dX10_growths_4 rfl (lv_at hl 1 rfl) ?_
  refine cbVi (n := 1) (rest := []) hx hb hml hown hts hE hP hD hS hA (sX_X8_growthsAt_1 l dC dI cy x0 x p1 v f hIv ) k_1247 k_1248 k_1249 k_112 k_1250 hd_yX8_growthsAt ⟨Nat.le_of_ble_eq_true rfl, Nat.le_of_ble_eq_true rfl⟩ 36 8 rfl rfl (rfl) hl.1 rfl (Nat.le_of_ble_eq_true rfl) dX10_growths_5 (fun r1 u H locs hw hP hD hS => ?_)
  obtain ⟨v2, f3⟩ := u
  obtain ⟨kV_v2, kF_f3, hIv2, hk0_v2, hk1_v2, hk7_v2, hk8_v2, hk9_v2, hk10_v2, hk31_v2, hk32_v2⟩ := hw
  have hM_v2 : KV [] v2 v := KV.tr kV_v2 hM_v rfl
  have hA_f3 : KF [13, 14, 27] f3 f := KF.tr kF_f3 hA_f rfl
  have hP : va_P (dC, dI) vwCl (XW cy x0 x v2 f3) H := hP
  have hD : va_D A (XW cy x0 x v2 f3) := hD
  have hq0_v2 : v2 0 = (v 0) := hk0_v2
  have hq1_v2 : v2 1 = (v 1) := hk1_v2
  have hq7_v2 : v2 7 = (v 7) := hk7_v2
  have hq8_v2 : v2 8 = (v 8) := hk8_v2
  have hq9_v2 : v2 9 = (v 9) := hk9_v2
  have hq10_v2 : v2 10 = (v 10) := hk10_v2
  have hq31_v2 : v2 31 = (v 31) := hk31_v2
  have hq32_v2 : v2 32 = (v 32) := hk32_v2
  refine cbSi (n := 1) (rest := []) hx hb hml hown hts hE hP hD hS hA (sX_J6_bitCount_0f7a4_1 0 l dC dI cy x0 x r1 v2 f3 hIv2 ) k_1071 k_1043 k_121 k_1044 he_yJ6_bitCount_0f7a4 ⟨Nat.le_of_ble_eq_true rfl, Nat.le_of_ble_eq_true rfl⟩ (rfl) hl.1 rfl (Nat.le_of_ble_eq_true rfl) dX10_growths_8 (fun r4 u H locs hw hP hD hS => ?_)
  have hG5 := hw
  exact ret r4 (v2, f3) _ _ _ _ _ _ rfl ⟨hM_v2, hA_f3, hIv2, hk0_v2, hk1_v2, hk7_v2, hk8_v2, hk9_v2, hk10_v2, hk31_v2, hk32_v2⟩ hP hD hS dX10_growths_11 (Nat.le_refl _) (Nat.le_refl _)
set_option maxHeartbeats 4000000 in
set_option maxRecDepth 100000 in
theorem sX_J6_numberOfLeadingZeros_0f7a4_1 (l : Launch) (dC : Nat → ClassId) (dI : Nat → Nat → Nat) (cy : Nat → ClassId) (x0 : Nat) (x : Nat → Nat) (p0 : Int32) (v : Nat → Int32) (f : Nat → Nat → Int32) (hIv : XI v)  : ctI l (dC, dI) cy yJ6_numberOfLeadingZeros_0f7a4 cJ6_numberOfLeadingZeros_0f7a4 2 .int 1 60 0 0 Unit [.int p0] (XW cy x0 x v f) (fun r u => True) (fun u => XW cy x0 x v f) := by
  refine ctI_of (by decide) (Nat.le_of_ble_eq_true rfl) (fun p e s m below meth c A ls Q hx hb hml hts hown hE hP hD hA hl ret => ?_)
  have hown : s.vm.findClass RJ6 = some m.cls := hown
  have hS : va_S A s.heap s.heap [] := va_S.rf
  have hl : lv_has ls 2 [(0, .int p0)] := hl
  refine lv_iload_n hx hb dJ6_numberOfLeadingZeros_0f7a4_0 rfl (lv_at hl 0 rfl) ?_
  refine lv_if_gt (tgt := 15) hx hb dJ6_numberOfLeadingZeros_0f7a4_1 rfl (fun c1 => ?_) (fun c1 => ?_)
  · skip
    refine lv_bipush (v := 31) hx hb dJ6_numberOfLeadingZeros_0f7a4_15 rfl ?_
    refine lv_istore_n (lv' := [(1, .int 31), (0, .int p0)]) hx hb dJ6_numberOfLeadingZeros_0f7a4_17 rfl hl (Nat.le_of_ble_eq_true rfl) rfl (fun ls hl => ?_)
    refine lv_iload_n hx hb dJ6_numberOfLeadingZeros_0f7a4_18 rfl (lv_at hl 1 rfl) ?_
    refine lv_ldcw (v := 65536) hx hb hown (hts _ k_1271) dJ6_numberOfLeadingZeros_0f7a4_19 ?_
    refine lv_icmp_lt (tgt := 33) hx hb dJ6_numberOfLeadingZeros_0f7a4_22 rfl (fun c2 => ?_) (fun c2 => ?_)
    · skip
      refine lv_iload_n hx hb dJ6_numberOfLeadingZeros_0f7a4_33 rfl (lv_at hl 1 rfl) ?_
      refine lv_sipush (v := 256) hx hb dJ6_numberOfLeadingZeros_0f7a4_34 rfl ?_
      refine lv_icmp_lt (tgt := 48) hx hb dJ6_numberOfLeadingZeros_0f7a4_37 rfl (fun c3 => ?_) (fun c3 => ?_)
      · skip
        refine lv_iload_n hx hb dJ6_numberOfLeadingZeros_0f7a4_48 rfl (lv_at hl 1 rfl) ?_
        refine lv_bipush (v := 16) hx hb dJ6_numberOfLeadingZeros_0f7a4_49 rfl ?_
        refine lv_icmp_lt (tgt := 61) hx hb dJ6_numberOfLeadingZeros_0f7a4_51 rfl (fun c4 => ?_) (fun c4 => ?_)
        · skip
          refine lv_iload_n hx hb dJ6_numberOfLeadingZeros_0f7a4_61 rfl (lv_at hl 1 rfl) ?_
          refine lv_iconst (v := 4) hx hb dJ6_numberOfLeadingZeros_0f7a4_62 rfl ?_
          refine lv_icmp_lt (tgt := 73) hx hb dJ6_numberOfLeadingZeros_0f7a4_63 rfl (fun c5 => ?_) (fun c5 => ?_)
          · skip
            refine lv_iload_n hx hb dJ6_numberOfLeadingZeros_0f7a4_73 rfl (lv_at hl 0 rfl) ?_
            refine lv_iload_n hx hb dJ6_numberOfLeadingZeros_0f7a4_74 rfl (lv_at hl 1 rfl) ?_
            refine lv_iconst (v := 1) hx hb dJ6_numberOfLeadingZeros_0f7a4_75 rfl ?_
            refine lv_iushr hx hb dJ6_numberOfLeadingZeros_0f7a4_76 rfl ?_
            refine lv_topi (fun t6 et6 => ?_)
            refine lv_isub hx hb dJ6_numberOfLeadingZeros_0f7a4_77 ?_
            refine lv_topi (fun t7 et7 => ?_)
            exact ret t7 () _ _ _ _ _ _ rfl trivial hP hD hS dJ6_numberOfLeadingZeros_0f7a4_78 (Nat.le_refl _) (Nat.le_refl _)
          · skip
            refine lv_iinc (v := 29) (lv' := [(1, .int 29), (0, .int p0)]) hx hb dJ6_numberOfLeadingZeros_0f7a4_66 hl (k := 0) rfl (by decide) (by decide) rfl (fun ls hl => ?_)
            refine lv_iload_n hx hb dJ6_numberOfLeadingZeros_0f7a4_69 rfl (lv_at hl 1 rfl) ?_
            refine lv_iconst (v := 2) hx hb dJ6_numberOfLeadingZeros_0f7a4_70 rfl ?_
            refine lv_iushr hx hb dJ6_numberOfLeadingZeros_0f7a4_71 rfl ?_
            refine lv_topi (fun t8 et8 => ?_)
            refine lv_istore_n (lv' := [(0, .int t8), (1, .int 29)]) hx hb dJ6_numberOfLeadingZeros_0f7a4_72 rfl hl (Nat.le_of_ble_eq_true rfl) rfl (fun ls hl => ?_)
            refine lv_iload_n hx hb dJ6_numberOfLeadingZeros_0f7a4_73 rfl (lv_at hl 1 rfl) ?_
            refine lv_iload_n hx hb dJ6_numberOfLeadingZeros_0f7a4_74 rfl (lv_at hl 0 rfl) ?_
            refine lv_iconst (v := 1) hx hb dJ6_numberOfLeadingZeros_0f7a4_75 rfl ?_
            refine lv_iushr hx hb dJ6_numberOfLeadingZeros_0f7a4_76 rfl ?_
            refine lv_topi (fun t9 et9 => ?_)
            refine lv_isub hx hb dJ6_numberOfLeadingZeros_0f7a4_77 ?_
            refine lv_topi (fun t10 et10 => ?_)
            exact ret t10 () _ _ _ _ _ _ rfl trivial hP hD hS dJ6_numberOfLeadingZeros_0f7a4_78 (Nat.le_refl _) (Nat.le_refl _)
        · skip
          refine lv_iinc (v := 27) (lv' := [(1, .int 27), (0, .int p0)]) hx hb dJ6_numberOfLeadingZeros_0f7a4_54 hl (k := 0) rfl (by decide) (by decide) rfl (fun ls hl => ?_)
          refine lv_iload_n hx hb dJ6_numberOfLeadingZeros_0f7a4_57 rfl (lv_at hl 1 rfl) ?_
          refine lv_iconst (v := 4) hx hb dJ6_numberOfLeadingZeros_0f7a4_58 rfl ?_
          refine lv_iushr hx hb dJ6_numberOfLeadingZeros_0f7a4_59 rfl ?_
          refine lv_topi (fun t11 et11 => ?_)
          refine lv_istore_n (lv' := [(0, .int t11), (1, .int 27)]) hx hb dJ6_numberOfLeadingZeros_0f7a4_60 rfl hl (Nat.le_of_ble_eq_true rfl) rfl (fun ls hl => ?_)
          refine lv_iload_n hx hb dJ6_numberOfLeadingZeros_0f7a4_61 rfl (lv_at hl 0 rfl) ?_
          refine lv_iconst (v := 4) hx hb dJ6_numberOfLeadingZeros_0f7a4_62 rfl ?_
          refine lv_icmp_lt (tgt := 73) hx hb dJ6_numberOfLeadingZeros_0f7a4_63 rfl (fun c12 => ?_) (fun c12 => ?_)
          · skip
            refine lv_iload_n hx hb dJ6_numberOfLeadingZeros_0f7a4_73 rfl (lv_at hl 1 rfl) ?_
            refine lv_iload_n hx hb dJ6_numberOfLeadingZeros_0f7a4_74 rfl (lv_at hl 0 rfl) ?_
            refine lv_iconst (v := 1) hx hb dJ6_numberOfLeadingZeros_0f7a4_75 rfl ?_
            refine lv_iushr hx hb dJ6_numberOfLeadingZeros_0f7a4_76 rfl ?_
            refine lv_topi (fun t13 et13 => ?_)
            refine lv_isub hx hb dJ6_numberOfLeadingZeros_0f7a4_77 ?_
            refine lv_topi (fun t14 et14 => ?_)
            exact ret t14 () _ _ _ _ _ _ rfl trivial hP hD hS dJ6_numberOfLeadingZeros_0f7a4_78 (Nat.le_refl _) (Nat.le_refl _)
          · skip
            refine lv_iinc (v := 25) (lv' := [(1, .int 25), (0, .int t11)]) hx hb dJ6_numberOfLeadingZeros_0f7a4_66 hl (k := 1) rfl (by decide) (by decide) rfl (fun ls hl => ?_)
            refine lv_iload_n hx hb dJ6_numberOfLeadingZeros_0f7a4_69 rfl (lv_at hl 1 rfl) ?_
            refine lv_iconst (v := 2) hx hb dJ6_numberOfLeadingZeros_0f7a4_70 rfl ?_
            refine lv_iushr hx hb dJ6_numberOfLeadingZeros_0f7a4_71 rfl ?_
            refine lv_topi (fun t15 et15 => ?_)
            refine lv_istore_n (lv' := [(0, .int t15), (1, .int 25)]) hx hb dJ6_numberOfLeadingZeros_0f7a4_72 rfl hl (Nat.le_of_ble_eq_true rfl) rfl (fun ls hl => ?_)
            refine lv_iload_n hx hb dJ6_numberOfLeadingZeros_0f7a4_73 rfl (lv_at hl 1 rfl) ?_
            refine lv_iload_n hx hb dJ6_numberOfLeadingZeros_0f7a4_74 rfl (lv_at hl 0 rfl) ?_
            refine lv_iconst (v := 1) hx hb dJ6_numberOfLeadingZeros_0f7a4_75 rfl ?_
            refine lv_iushr hx hb dJ6_numberOfLeadingZeros_0f7a4_76 rfl ?_
            refine lv_topi (fun t16 et16 => ?_)
            refine lv_isub hx hb dJ6_numberOfLeadingZeros_0f7a4_77 ?_
            refine lv_topi (fun t17 et17 => ?_)
            exact ret t17 () _ _ _ _ _ _ rfl trivial hP hD hS dJ6_numberOfLeadingZeros_0f7a4_78 (Nat.le_refl _) (Nat.le_refl _)
      · skip
        refine lv_iinc (v := 23) (lv' := [(1, .int 23), (0, .int p0)]) hx hb dJ6_numberOfLeadingZeros_0f7a4_40 hl (k := 0) rfl (by decide) (by decide) rfl (fun ls hl => ?_)
        refine lv_iload_n hx hb dJ6_numberOfLeadingZeros_0f7a4_43 rfl (lv_at hl 1 rfl) ?_
        refine lv_bipush (v := 8) hx hb dJ6_numberOfLeadingZeros_0f7a4_44 rfl ?_
        refine lv_iushr hx hb dJ6_numberOfLeadingZeros_0f7a4_46 rfl ?_
        refine lv_topi (fun t18 et18 => ?_)
        refine lv_istore_n (lv' := [(0, .int t18), (1, .int 23)]) hx hb dJ6_numberOfLeadingZeros_0f7a4_47 rfl hl (Nat.le_of_ble_eq_true rfl) rfl (fun ls hl => ?_)
        refine lv_iload_n hx hb dJ6_numberOfLeadingZeros_0f7a4_48 rfl (lv_at hl 0 rfl) ?_
        refine lv_bipush (v := 16) hx hb dJ6_numberOfLeadingZeros_0f7a4_49 rfl ?_
        refine lv_icmp_lt (tgt := 61) hx hb dJ6_numberOfLeadingZeros_0f7a4_51 rfl (fun c19 => ?_) (fun c19 => ?_)
        · skip
          refine lv_iload_n hx hb dJ6_numberOfLeadingZeros_0f7a4_61 rfl (lv_at hl 0 rfl) ?_
          refine lv_iconst (v := 4) hx hb dJ6_numberOfLeadingZeros_0f7a4_62 rfl ?_
          refine lv_icmp_lt (tgt := 73) hx hb dJ6_numberOfLeadingZeros_0f7a4_63 rfl (fun c20 => ?_) (fun c20 => ?_)
          · skip
            refine lv_iload_n hx hb dJ6_numberOfLeadingZeros_0f7a4_73 rfl (lv_at hl 1 rfl) ?_
            refine lv_iload_n hx hb dJ6_numberOfLeadingZeros_0f7a4_74 rfl (lv_at hl 0 rfl) ?_
            refine lv_iconst (v := 1) hx hb dJ6_numberOfLeadingZeros_0f7a4_75 rfl ?_
            refine lv_iushr hx hb dJ6_numberOfLeadingZeros_0f7a4_76 rfl ?_
            refine lv_topi (fun t21 et21 => ?_)
            refine lv_isub hx hb dJ6_numberOfLeadingZeros_0f7a4_77 ?_
            refine lv_topi (fun t22 et22 => ?_)
            exact ret t22 () _ _ _ _ _ _ rfl trivial hP hD hS dJ6_numberOfLeadingZeros_0f7a4_78 (Nat.le_refl _) (Nat.le_refl _)
          · skip
            refine lv_iinc (v := 21) (lv' := [(1, .int 21), (0, .int t18)]) hx hb dJ6_numberOfLeadingZeros_0f7a4_66 hl (k := 1) rfl (by decide) (by decide) rfl (fun ls hl => ?_)
            refine lv_iload_n hx hb dJ6_numberOfLeadingZeros_0f7a4_69 rfl (lv_at hl 1 rfl) ?_
            refine lv_iconst (v := 2) hx hb dJ6_numberOfLeadingZeros_0f7a4_70 rfl ?_
            refine lv_iushr hx hb dJ6_numberOfLeadingZeros_0f7a4_71 rfl ?_
            refine lv_topi (fun t23 et23 => ?_)
            refine lv_istore_n (lv' := [(0, .int t23), (1, .int 21)]) hx hb dJ6_numberOfLeadingZeros_0f7a4_72 rfl hl (Nat.le_of_ble_eq_true rfl) rfl (fun ls hl => ?_)
            refine lv_iload_n hx hb dJ6_numberOfLeadingZeros_0f7a4_73 rfl (lv_at hl 1 rfl) ?_
            refine lv_iload_n hx hb dJ6_numberOfLeadingZeros_0f7a4_74 rfl (lv_at hl 0 rfl) ?_
            refine lv_iconst (v := 1) hx hb dJ6_numberOfLeadingZeros_0f7a4_75 rfl ?_
            refine lv_iushr hx hb dJ6_numberOfLeadingZeros_0f7a4_76 rfl ?_
            refine lv_topi (fun t24 et24 => ?_)
            refine lv_isub hx hb dJ6_numberOfLeadingZeros_0f7a4_77 ?_
            refine lv_topi (fun t25 et25 => ?_)
            exact ret t25 () _ _ _ _ _ _ rfl trivial hP hD hS dJ6_numberOfLeadingZeros_0f7a4_78 (Nat.le_refl _) (Nat.le_refl _)
        · skip
          refine lv_iinc (v := 19) (lv' := [(1, .int 19), (0, .int t18)]) hx hb dJ6_numberOfLeadingZeros_0f7a4_54 hl (k := 1) rfl (by decide) (by decide) rfl (fun ls hl => ?_)
          refine lv_iload_n hx hb dJ6_numberOfLeadingZeros_0f7a4_57 rfl (lv_at hl 1 rfl) ?_
          refine lv_iconst (v := 4) hx hb dJ6_numberOfLeadingZeros_0f7a4_58 rfl ?_
          refine lv_iushr hx hb dJ6_numberOfLeadingZeros_0f7a4_59 rfl ?_
          refine lv_topi (fun t26 et26 => ?_)
          refine lv_istore_n (lv' := [(0, .int t26), (1, .int 19)]) hx hb dJ6_numberOfLeadingZeros_0f7a4_60 rfl hl (Nat.le_of_ble_eq_true rfl) rfl (fun ls hl => ?_)
          refine lv_iload_n hx hb dJ6_numberOfLeadingZeros_0f7a4_61 rfl (lv_at hl 0 rfl) ?_
          refine lv_iconst (v := 4) hx hb dJ6_numberOfLeadingZeros_0f7a4_62 rfl ?_
          refine lv_icmp_lt (tgt := 73) hx hb dJ6_numberOfLeadingZeros_0f7a4_63 rfl (fun c27 => ?_) (fun c27 => ?_)
          · skip
            refine lv_iload_n hx hb dJ6_numberOfLeadingZeros_0f7a4_73 rfl (lv_at hl 1 rfl) ?_
            refine lv_iload_n hx hb dJ6_numberOfLeadingZeros_0f7a4_74 rfl (lv_at hl 0 rfl) ?_
            refine lv_iconst (v := 1) hx hb dJ6_numberOfLeadingZeros_0f7a4_75 rfl ?_
            refine lv_iushr hx hb dJ6_numberOfLeadingZeros_0f7a4_76 rfl ?_
            refine lv_topi (fun t28 et28 => ?_)
            refine lv_isub hx hb dJ6_numberOfLeadingZeros_0f7a4_77 ?_
            refine lv_topi (fun t29 et29 => ?_)
            exact ret t29 () _ _ _ _ _ _ rfl trivial hP hD hS dJ6_numberOfLeadingZeros_0f7a4_78 (Nat.le_refl _) (Nat.le_refl _)
          · skip
            refine lv_iinc (v := 17) (lv' := [(1, .int 17), (0, .int t26)]) hx hb dJ6_numberOfLeadingZeros_0f7a4_66 hl (k := 1) rfl (by decide) (by decide) rfl (fun ls hl => ?_)
            refine lv_iload_n hx hb dJ6_numberOfLeadingZeros_0f7a4_69 rfl (lv_at hl 1 rfl) ?_
            refine lv_iconst (v := 2) hx hb dJ6_numberOfLeadingZeros_0f7a4_70 rfl ?_
            refine lv_iushr hx hb dJ6_numberOfLeadingZeros_0f7a4_71 rfl ?_
            refine lv_topi (fun t30 et30 => ?_)
            refine lv_istore_n (lv' := [(0, .int t30), (1, .int 17)]) hx hb dJ6_numberOfLeadingZeros_0f7a4_72 rfl hl (Nat.le_of_ble_eq_true rfl) rfl (fun ls hl => ?_)
            refine lv_iload_n hx hb dJ6_numberOfLeadingZeros_0f7a4_73 rfl (lv_at hl 1 rfl) ?_
            refine lv_iload_n hx hb dJ6_numberOfLeadingZeros_0f7a4_74 rfl (lv_at hl 0 rfl) ?_
            refine lv_iconst (v := 1) hx hb dJ6_numberOfLeadingZeros_0f7a4_75 rfl ?_
            refine lv_iushr hx hb dJ6_numberOfLeadingZeros_0f7a4_76 rfl ?_
            refine lv_topi (fun t31 et31 => ?_)
            refine lv_isub hx hb dJ6_numberOfLeadingZeros_0f7a4_77 ?_
            refine lv_topi (fun t32 et32 => ?_)
            exact ret t32 () _ _ _ _ _ _ rfl trivial hP hD hS dJ6_numberOfLeadingZeros_0f7a4_78 (Nat.le_refl _) (Nat.le_refl _)
    · skip
      refine lv_iinc (v := 15) (lv' := [(1, .int 15), (0, .int p0)]) hx hb dJ6_numberOfLeadingZeros_0f7a4_25 hl (k := 0) rfl (by decide) (by decide) rfl (fun ls hl => ?_)
      refine lv_iload_n hx hb dJ6_numberOfLeadingZeros_0f7a4_28 rfl (lv_at hl 1 rfl) ?_
      refine lv_bipush (v := 16) hx hb dJ6_numberOfLeadingZeros_0f7a4_29 rfl ?_
      refine lv_iushr hx hb dJ6_numberOfLeadingZeros_0f7a4_31 rfl ?_
      refine lv_topi (fun t33 et33 => ?_)
      refine lv_istore_n (lv' := [(0, .int t33), (1, .int 15)]) hx hb dJ6_numberOfLeadingZeros_0f7a4_32 rfl hl (Nat.le_of_ble_eq_true rfl) rfl (fun ls hl => ?_)
      refine lv_iload_n hx hb dJ6_numberOfLeadingZeros_0f7a4_33 rfl (lv_at hl 0 rfl) ?_
      refine lv_sipush (v := 256) hx hb dJ6_numberOfLeadingZeros_0f7a4_34 rfl ?_
      refine lv_icmp_lt (tgt := 48) hx hb dJ6_numberOfLeadingZeros_0f7a4_37 rfl (fun c34 => ?_) (fun c34 => ?_)
      · skip
        refine lv_iload_n hx hb dJ6_numberOfLeadingZeros_0f7a4_48 rfl (lv_at hl 0 rfl) ?_
        refine lv_bipush (v := 16) hx hb dJ6_numberOfLeadingZeros_0f7a4_49 rfl ?_
        refine lv_icmp_lt (tgt := 61) hx hb dJ6_numberOfLeadingZeros_0f7a4_51 rfl (fun c35 => ?_) (fun c35 => ?_)
        · skip
          refine lv_iload_n hx hb dJ6_numberOfLeadingZeros_0f7a4_61 rfl (lv_at hl 0 rfl) ?_
          refine lv_iconst (v := 4) hx hb dJ6_numberOfLeadingZeros_0f7a4_62 rfl ?_
          refine lv_icmp_lt (tgt := 73) hx hb dJ6_numberOfLeadingZeros_0f7a4_63 rfl (fun c36 => ?_) (fun c36 => ?_)
          · skip
            refine lv_iload_n hx hb dJ6_numberOfLeadingZeros_0f7a4_73 rfl (lv_at hl 1 rfl) ?_
            refine lv_iload_n hx hb dJ6_numberOfLeadingZeros_0f7a4_74 rfl (lv_at hl 0 rfl) ?_
            refine lv_iconst (v := 1) hx hb dJ6_numberOfLeadingZeros_0f7a4_75 rfl ?_
            refine lv_iushr hx hb dJ6_numberOfLeadingZeros_0f7a4_76 rfl ?_
            refine lv_topi (fun t37 et37 => ?_)
            refine lv_isub hx hb dJ6_numberOfLeadingZeros_0f7a4_77 ?_
            refine lv_topi (fun t38 et38 => ?_)
            exact ret t38 () _ _ _ _ _ _ rfl trivial hP hD hS dJ6_numberOfLeadingZeros_0f7a4_78 (Nat.le_refl _) (Nat.le_refl _)
          · skip
            refine lv_iinc (v := 13) (lv' := [(1, .int 13), (0, .int t33)]) hx hb dJ6_numberOfLeadingZeros_0f7a4_66 hl (k := 1) rfl (by decide) (by decide) rfl (fun ls hl => ?_)
            refine lv_iload_n hx hb dJ6_numberOfLeadingZeros_0f7a4_69 rfl (lv_at hl 1 rfl) ?_
            refine lv_iconst (v := 2) hx hb dJ6_numberOfLeadingZeros_0f7a4_70 rfl ?_
            refine lv_iushr hx hb dJ6_numberOfLeadingZeros_0f7a4_71 rfl ?_
            refine lv_topi (fun t39 et39 => ?_)
            refine lv_istore_n (lv' := [(0, .int t39), (1, .int 13)]) hx hb dJ6_numberOfLeadingZeros_0f7a4_72 rfl hl (Nat.le_of_ble_eq_true rfl) rfl (fun ls hl => ?_)
            refine lv_iload_n hx hb dJ6_numberOfLeadingZeros_0f7a4_73 rfl (lv_at hl 1 rfl) ?_
            refine lv_iload_n hx hb dJ6_numberOfLeadingZeros_0f7a4_74 rfl (lv_at hl 0 rfl) ?_
            refine lv_iconst (v := 1) hx hb dJ6_numberOfLeadingZeros_0f7a4_75 rfl ?_
            refine lv_iushr hx hb dJ6_numberOfLeadingZeros_0f7a4_76 rfl ?_
            refine lv_topi (fun t40 et40 => ?_)
            refine lv_isub hx hb dJ6_numberOfLeadingZeros_0f7a4_77 ?_
            refine lv_topi (fun t41 et41 => ?_)
            exact ret t41 () _ _ _ _ _ _ rfl trivial hP hD hS dJ6_numberOfLeadingZeros_0f7a4_78 (Nat.le_refl _) (Nat.le_refl _)
        · skip
          refine lv_iinc (v := 11) (lv' := [(1, .int 11), (0, .int t33)]) hx hb dJ6_numberOfLeadingZeros_0f7a4_54 hl (k := 1) rfl (by decide) (by decide) rfl (fun ls hl => ?_)
          refine lv_iload_n hx hb dJ6_numberOfLeadingZeros_0f7a4_57 rfl (lv_at hl 1 rfl) ?_
          refine lv_iconst (v := 4) hx hb dJ6_numberOfLeadingZeros_0f7a4_58 rfl ?_
          refine lv_iushr hx hb dJ6_numberOfLeadingZeros_0f7a4_59 rfl ?_
          refine lv_topi (fun t42 et42 => ?_)
          refine lv_istore_n (lv' := [(0, .int t42), (1, .int 11)]) hx hb dJ6_numberOfLeadingZeros_0f7a4_60 rfl hl (Nat.le_of_ble_eq_true rfl) rfl (fun ls hl => ?_)
          refine lv_iload_n hx hb dJ6_numberOfLeadingZeros_0f7a4_61 rfl (lv_at hl 0 rfl) ?_
          refine lv_iconst (v := 4) hx hb dJ6_numberOfLeadingZeros_0f7a4_62 rfl ?_
          refine lv_icmp_lt (tgt := 73) hx hb dJ6_numberOfLeadingZeros_0f7a4_63 rfl (fun c43 => ?_) (fun c43 => ?_)
          · skip
            refine lv_iload_n hx hb dJ6_numberOfLeadingZeros_0f7a4_73 rfl (lv_at hl 1 rfl) ?_
            refine lv_iload_n hx hb dJ6_numberOfLeadingZeros_0f7a4_74 rfl (lv_at hl 0 rfl) ?_
            refine lv_iconst (v := 1) hx hb dJ6_numberOfLeadingZeros_0f7a4_75 rfl ?_
            refine lv_iushr hx hb dJ6_numberOfLeadingZeros_0f7a4_76 rfl ?_
            refine lv_topi (fun t44 et44 => ?_)
            refine lv_isub hx hb dJ6_numberOfLeadingZeros_0f7a4_77 ?_
            refine lv_topi (fun t45 et45 => ?_)
            exact ret t45 () _ _ _ _ _ _ rfl trivial hP hD hS dJ6_numberOfLeadingZeros_0f7a4_78 (Nat.le_refl _) (Nat.le_refl _)
          · skip
            refine lv_iinc (v := 9) (lv' := [(1, .int 9), (0, .int t42)]) hx hb dJ6_numberOfLeadingZeros_0f7a4_66 hl (k := 1) rfl (by decide) (by decide) rfl (fun ls hl => ?_)
            refine lv_iload_n hx hb dJ6_numberOfLeadingZeros_0f7a4_69 rfl (lv_at hl 1 rfl) ?_
            refine lv_iconst (v := 2) hx hb dJ6_numberOfLeadingZeros_0f7a4_70 rfl ?_
            refine lv_iushr hx hb dJ6_numberOfLeadingZeros_0f7a4_71 rfl ?_
            refine lv_topi (fun t46 et46 => ?_)
            refine lv_istore_n (lv' := [(0, .int t46), (1, .int 9)]) hx hb dJ6_numberOfLeadingZeros_0f7a4_72 rfl hl (Nat.le_of_ble_eq_true rfl) rfl (fun ls hl => ?_)
            refine lv_iload_n hx hb dJ6_numberOfLeadingZeros_0f7a4_73 rfl (lv_at hl 1 rfl) ?_
            refine lv_iload_n hx hb dJ6_numberOfLeadingZeros_0f7a4_74 rfl (lv_at hl 0 rfl) ?_
            refine lv_iconst (v := 1) hx hb dJ6_numberOfLeadingZeros_0f7a4_75 rfl ?_
            refine lv_iushr hx hb dJ6_numberOfLeadingZeros_0f7a4_76 rfl ?_
            refine lv_topi (fun t47 et47 => ?_)
            refine lv_isub hx hb dJ6_numberOfLeadingZeros_0f7a4_77 ?_
            refine lv_topi (fun t48 et48 => ?_)
            exact ret t48 () _ _ _ _ _ _ rfl trivial hP hD hS dJ6_numberOfLeadingZeros_0f7a4_78 (Nat.le_refl _) (Nat.le_refl _)
      · skip
        refine lv_iinc (v := 7) (lv' := [(1, .int 7), (0, .int t33)]) hx hb dJ6_numberOfLeadingZeros_0f7a4_40 hl (k := 1) rfl (by decide) (by decide) rfl (fun ls hl => ?_)
        refine lv_iload_n hx hb dJ6_numberOfLeadingZeros_0f7a4_43 rfl (lv_at hl 1 rfl) ?_
        refine lv_bipush (v := 8) hx hb dJ6_numberOfLeadingZeros_0f7a4_44 rfl ?_
        refine lv_iushr hx hb dJ6_numberOfLeadingZeros_0f7a4_46 rfl ?_
        refine lv_topi (fun t49 et49 => ?_)
        refine lv_istore_n (lv' := [(0, .int t49), (1, .int 7)]) hx hb dJ6_numberOfLeadingZeros_0f7a4_47 rfl hl (Nat.le_of_ble_eq_true rfl) rfl (fun ls hl => ?_)
        refine lv_iload_n hx hb dJ6_numberOfLeadingZeros_0f7a4_48 rfl (lv_at hl 0 rfl) ?_
        refine lv_bipush (v := 16) hx hb dJ6_numberOfLeadingZeros_0f7a4_49 rfl ?_
        refine lv_icmp_lt (tgt := 61) hx hb dJ6_numberOfLeadingZeros_0f7a4_51 rfl (fun c50 => ?_) (fun c50 => ?_)
        · skip
          refine lv_iload_n hx hb dJ6_numberOfLeadingZeros_0f7a4_61 rfl (lv_at hl 0 rfl) ?_
          refine lv_iconst (v := 4) hx hb dJ6_numberOfLeadingZeros_0f7a4_62 rfl ?_
          refine lv_icmp_lt (tgt := 73) hx hb dJ6_numberOfLeadingZeros_0f7a4_63 rfl (fun c51 => ?_) (fun c51 => ?_)
          · skip
            refine lv_iload_n hx hb dJ6_numberOfLeadingZeros_0f7a4_73 rfl (lv_at hl 1 rfl) ?_
            refine lv_iload_n hx hb dJ6_numberOfLeadingZeros_0f7a4_74 rfl (lv_at hl 0 rfl) ?_
            refine lv_iconst (v := 1) hx hb dJ6_numberOfLeadingZeros_0f7a4_75 rfl ?_
            refine lv_iushr hx hb dJ6_numberOfLeadingZeros_0f7a4_76 rfl ?_
            refine lv_topi (fun t52 et52 => ?_)
            refine lv_isub hx hb dJ6_numberOfLeadingZeros_0f7a4_77 ?_
            refine lv_topi (fun t53 et53 => ?_)
            exact ret t53 () _ _ _ _ _ _ rfl trivial hP hD hS dJ6_numberOfLeadingZeros_0f7a4_78 (Nat.le_refl _) (Nat.le_refl _)
          · skip
            refine lv_iinc (v := 5) (lv' := [(1, .int 5), (0, .int t49)]) hx hb dJ6_numberOfLeadingZeros_0f7a4_66 hl (k := 1) rfl (by decide) (by decide) rfl (fun ls hl => ?_)
            refine lv_iload_n hx hb dJ6_numberOfLeadingZeros_0f7a4_69 rfl (lv_at hl 1 rfl) ?_
            refine lv_iconst (v := 2) hx hb dJ6_numberOfLeadingZeros_0f7a4_70 rfl ?_
            refine lv_iushr hx hb dJ6_numberOfLeadingZeros_0f7a4_71 rfl ?_
            refine lv_topi (fun t54 et54 => ?_)
            refine lv_istore_n (lv' := [(0, .int t54), (1, .int 5)]) hx hb dJ6_numberOfLeadingZeros_0f7a4_72 rfl hl (Nat.le_of_ble_eq_true rfl) rfl (fun ls hl => ?_)
            refine lv_iload_n hx hb dJ6_numberOfLeadingZeros_0f7a4_73 rfl (lv_at hl 1 rfl) ?_
            refine lv_iload_n hx hb dJ6_numberOfLeadingZeros_0f7a4_74 rfl (lv_at hl 0 rfl) ?_
            refine lv_iconst (v := 1) hx hb dJ6_numberOfLeadingZeros_0f7a4_75 rfl ?_
            refine lv_iushr hx hb dJ6_numberOfLeadingZeros_0f7a4_76 rfl ?_
            refine lv_topi (fun t55 et55 => ?_)
            refine lv_isub hx hb dJ6_numberOfLeadingZeros_0f7a4_77 ?_
            refine lv_topi (fun t56 et56 => ?_)
            exact ret t56 () _ _ _ _ _ _ rfl trivial hP hD hS dJ6_numberOfLeadingZeros_0f7a4_78 (Nat.le_refl _) (Nat.le_refl _)
        · skip
          refine lv_iinc (v := 3) (lv' := [(1, .int 3), (0, .int t49)]) hx hb dJ6_numberOfLeadingZeros_0f7a4_54 hl (k := 1) rfl (by decide) (by decide) rfl (fun ls hl => ?_)
          refine lv_iload_n hx hb dJ6_numberOfLeadingZeros_0f7a4_57 rfl (lv_at hl 1 rfl) ?_
          refine lv_iconst (v := 4) hx hb dJ6_numberOfLeadingZeros_0f7a4_58 rfl ?_
          refine lv_iushr hx hb dJ6_numberOfLeadingZeros_0f7a4_59 rfl ?_
          refine lv_topi (fun t57 et57 => ?_)
          refine lv_istore_n (lv' := [(0, .int t57), (1, .int 3)]) hx hb dJ6_numberOfLeadingZeros_0f7a4_60 rfl hl (Nat.le_of_ble_eq_true rfl) rfl (fun ls hl => ?_)
          refine lv_iload_n hx hb dJ6_numberOfLeadingZeros_0f7a4_61 rfl (lv_at hl 0 rfl) ?_
          refine lv_iconst (v := 4) hx hb dJ6_numberOfLeadingZeros_0f7a4_62 rfl ?_
          refine lv_icmp_lt (tgt := 73) hx hb dJ6_numberOfLeadingZeros_0f7a4_63 rfl (fun c58 => ?_) (fun c58 => ?_)
          · skip
            refine lv_iload_n hx hb dJ6_numberOfLeadingZeros_0f7a4_73 rfl (lv_at hl 1 rfl) ?_
            refine lv_iload_n hx hb dJ6_numberOfLeadingZeros_0f7a4_74 rfl (lv_at hl 0 rfl) ?_
            refine lv_iconst (v := 1) hx hb dJ6_numberOfLeadingZeros_0f7a4_75 rfl ?_
            refine lv_iushr hx hb dJ6_numberOfLeadingZeros_0f7a4_76 rfl ?_
            refine lv_topi (fun t59 et59 => ?_)
            refine lv_isub hx hb dJ6_numberOfLeadingZeros_0f7a4_77 ?_
            refine lv_topi (fun t60 et60 => ?_)
            exact ret t60 () _ _ _ _ _ _ rfl trivial hP hD hS dJ6_numberOfLeadingZeros_0f7a4_78 (Nat.le_refl _) (Nat.le_refl _)
          · skip
            refine lv_iinc (v := 1) (lv' := [(1, .int 1), (0, .int t57)]) hx hb dJ6_numberOfLeadingZeros_0f7a4_66 hl (k := 1) rfl (by decide) (by decide) rfl (fun ls hl => ?_)
            refine lv_iload_n hx hb dJ6_numberOfLeadingZeros_0f7a4_69 rfl (lv_at hl 1 rfl) ?_
            refine lv_iconst (v := 2) hx hb dJ6_numberOfLeadingZeros_0f7a4_70 rfl ?_
            refine lv_iushr hx hb dJ6_numberOfLeadingZeros_0f7a4_71 rfl ?_
            refine lv_topi (fun t61 et61 => ?_)
            refine lv_istore_n (lv' := [(0, .int t61), (1, .int 1)]) hx hb dJ6_numberOfLeadingZeros_0f7a4_72 rfl hl (Nat.le_of_ble_eq_true rfl) rfl (fun ls hl => ?_)
            refine lv_iload_n hx hb dJ6_numberOfLeadingZeros_0f7a4_73 rfl (lv_at hl 1 rfl) ?_
            refine lv_iload_n hx hb dJ6_numberOfLeadingZeros_0f7a4_74 rfl (lv_at hl 0 rfl) ?_
            refine lv_iconst (v := 1) hx hb dJ6_numberOfLeadingZeros_0f7a4_75 rfl ?_
            refine lv_iushr hx hb dJ6_numberOfLeadingZeros_0f7a4_76 rfl ?_
            refine lv_topi (fun t62 et62 => ?_)
            refine lv_isub hx hb dJ6_numberOfLeadingZeros_0f7a4_77 ?_
            refine lv_topi (fun t63 et63 => ?_)
            exact ret t63 () _ _ _ _ _ _ rfl trivial hP hD hS dJ6_numberOfLeadingZeros_0f7a4_78 (Nat.le_refl _) (Nat.le_refl _)
  · skip
    refine lv_iload_n hx hb dJ6_numberOfLeadingZeros_0f7a4_4 rfl (lv_at hl 0 rfl) ?_
    refine lv_if_ne (tgt := 13) hx hb dJ6_numberOfLeadingZeros_0f7a4_5 rfl (fun c64 => ?_) (fun c64 => ?_)
    · skip
      refine lv_iconst (v := 0) hx hb dJ6_numberOfLeadingZeros_0f7a4_13 rfl ?_
      exact ret 0 () _ _ _ _ _ _ rfl trivial hP hD hS dJ6_numberOfLeadingZeros_0f7a4_14 (Nat.le_refl _) (Nat.le_refl _)
    · skip
      refine lv_bipush (v := 32) hx hb dJ6_numberOfLeadingZeros_0f7a4_8 rfl ?_
      refine lv_goto (tgt := 14) hx hb dJ6_numberOfLeadingZeros_0f7a4_10 rfl ?_
      exact ret 32 () _ _ _ _ _ _ rfl trivial hP hD hS dJ6_numberOfLeadingZeros_0f7a4_14 (Nat.le_refl _) (Nat.le_refl _)
set_option maxHeartbeats 4000000 in
set_option maxRecDepth 100000 in
theorem sX_J6_numberOfTrailingZeros_0f7a4_1 (l : Launch) (dC : Nat → ClassId) (dI : Nat → Nat → Nat) (cy : Nat → ClassId) (x0 : Nat) (x : Nat → Nat) (p0 : Int32) (v : Nat → Int32) (f : Nat → Nat → Int32) (hIv : XI v)  : ctI l (dC, dI) cy yJ6_numberOfTrailingZeros_0f7a4 cJ6_numberOfTrailingZeros_0f7a4 2 .int 1 60 0 0 Unit [.int p0] (XW cy x0 x v f) (fun r u => True) (fun u => XW cy x0 x v f) := by
  refine ctI_of (by decide) (Nat.le_of_ble_eq_true rfl) (fun p e s m below meth c A ls Q hx hb hml hts hown hE hP hD hA hl ret => ?_)
  have hown : s.vm.findClass RJ6 = some m.cls := hown
  have hS : va_S A s.heap s.heap [] := va_S.rf
  have hl : lv_has ls 2 [(0, .int p0)] := hl
  refine lv_iload_n hx hb dJ6_numberOfTrailingZeros_0f7a4_0 rfl (lv_at hl 0 rfl) ?_
  refine lv_iconst (v := (-1)) hx hb dJ6_numberOfTrailingZeros_0f7a4_1 rfl ?_
  refine lv_ixor hx hb dJ6_numberOfTrailingZeros_0f7a4_2 ?_
  refine lv_topi (fun t1 et1 => ?_)
  refine lv_iload_n hx hb dJ6_numberOfTrailingZeros_0f7a4_3 rfl (lv_at hl 0 rfl) ?_
  refine lv_iconst (v := 1) hx hb dJ6_numberOfTrailingZeros_0f7a4_4 rfl ?_
  refine lv_isub hx hb dJ6_numberOfTrailingZeros_0f7a4_5 ?_
  refine lv_topi (fun t2 et2 => ?_)
  refine lv_iand hx hb dJ6_numberOfTrailingZeros_0f7a4_6 ?_
  refine lv_topi (fun t3 et3 => ?_)
  refine lv_istore_n (lv' := [(0, .int t3)]) hx hb dJ6_numberOfTrailingZeros_0f7a4_7 rfl hl (Nat.le_of_ble_eq_true rfl) rfl (fun ls hl => ?_)
  refine lv_iload_n hx hb dJ6_numberOfTrailingZeros_0f7a4_8 rfl (lv_at hl 0 rfl) ?_
  refine lv_if_gt (tgt := 17) hx hb dJ6_numberOfTrailingZeros_0f7a4_9 rfl (fun c4 => ?_) (fun c4 => ?_)
  · skip
    refine lv_iconst (v := 1) hx hb dJ6_numberOfTrailingZeros_0f7a4_17 rfl ?_
    refine lv_istore_n (lv' := [(1, .int 1), (0, .int t3)]) hx hb dJ6_numberOfTrailingZeros_0f7a4_18 rfl hl (Nat.le_of_ble_eq_true rfl) rfl (fun ls hl => ?_)
    refine lv_iload_n hx hb dJ6_numberOfTrailingZeros_0f7a4_19 rfl (lv_at hl 1 rfl) ?_
    refine lv_ldcw (v := 65536) hx hb hown (hts _ k_1271) dJ6_numberOfTrailingZeros_0f7a4_20 ?_
    refine lv_icmp_le (tgt := 34) hx hb dJ6_numberOfTrailingZeros_0f7a4_23 rfl (fun c5 => ?_) (fun c5 => ?_)
    · skip
      refine lv_iload_n hx hb dJ6_numberOfTrailingZeros_0f7a4_34 rfl (lv_at hl 1 rfl) ?_
      refine lv_sipush (v := 256) hx hb dJ6_numberOfTrailingZeros_0f7a4_35 rfl ?_
      refine lv_icmp_le (tgt := 49) hx hb dJ6_numberOfTrailingZeros_0f7a4_38 rfl (fun c6 => ?_) (fun c6 => ?_)
      · skip
        refine lv_iload_n hx hb dJ6_numberOfTrailingZeros_0f7a4_49 rfl (lv_at hl 1 rfl) ?_
        refine lv_bipush (v := 16) hx hb dJ6_numberOfTrailingZeros_0f7a4_50 rfl ?_
        refine lv_icmp_le (tgt := 62) hx hb dJ6_numberOfTrailingZeros_0f7a4_52 rfl (fun c7 => ?_) (fun c7 => ?_)
        · skip
          refine lv_iload_n hx hb dJ6_numberOfTrailingZeros_0f7a4_62 rfl (lv_at hl 1 rfl) ?_
          refine lv_iconst (v := 4) hx hb dJ6_numberOfTrailingZeros_0f7a4_63 rfl ?_
          refine lv_icmp_le (tgt := 74) hx hb dJ6_numberOfTrailingZeros_0f7a4_64 rfl (fun c8 => ?_) (fun c8 => ?_)
          · skip
            refine lv_iload_n hx hb dJ6_numberOfTrailingZeros_0f7a4_74 rfl (lv_at hl 0 rfl) ?_
            refine lv_iload_n hx hb dJ6_numberOfTrailingZeros_0f7a4_75 rfl (lv_at hl 1 rfl) ?_
            refine lv_iconst (v := 1) hx hb dJ6_numberOfTrailingZeros_0f7a4_76 rfl ?_
            refine lv_iushr hx hb dJ6_numberOfTrailingZeros_0f7a4_77 rfl ?_
            refine lv_topi (fun t9 et9 => ?_)
            refine lv_iadd hx hb dJ6_numberOfTrailingZeros_0f7a4_78 ?_
            refine lv_topi (fun t10 et10 => ?_)
            exact ret t10 () _ _ _ _ _ _ rfl trivial hP hD hS dJ6_numberOfTrailingZeros_0f7a4_79 (Nat.le_refl _) (Nat.le_refl _)
          · skip
            refine lv_iinc (v := 3) (lv' := [(1, .int 3), (0, .int t3)]) hx hb dJ6_numberOfTrailingZeros_0f7a4_67 hl (k := 0) rfl (by decide) (by decide) rfl (fun ls hl => ?_)
            refine lv_iload_n hx hb dJ6_numberOfTrailingZeros_0f7a4_70 rfl (lv_at hl 1 rfl) ?_
            refine lv_iconst (v := 2) hx hb dJ6_numberOfTrailingZeros_0f7a4_71 rfl ?_
            refine lv_iushr hx hb dJ6_numberOfTrailingZeros_0f7a4_72 rfl ?_
            refine lv_topi (fun t11 et11 => ?_)
            refine lv_istore_n (lv' := [(0, .int t11), (1, .int 3)]) hx hb dJ6_numberOfTrailingZeros_0f7a4_73 rfl hl (Nat.le_of_ble_eq_true rfl) rfl (fun ls hl => ?_)
            refine lv_iload_n hx hb dJ6_numberOfTrailingZeros_0f7a4_74 rfl (lv_at hl 1 rfl) ?_
            refine lv_iload_n hx hb dJ6_numberOfTrailingZeros_0f7a4_75 rfl (lv_at hl 0 rfl) ?_
            refine lv_iconst (v := 1) hx hb dJ6_numberOfTrailingZeros_0f7a4_76 rfl ?_
            refine lv_iushr hx hb dJ6_numberOfTrailingZeros_0f7a4_77 rfl ?_
            refine lv_topi (fun t12 et12 => ?_)
            refine lv_iadd hx hb dJ6_numberOfTrailingZeros_0f7a4_78 ?_
            refine lv_topi (fun t13 et13 => ?_)
            exact ret t13 () _ _ _ _ _ _ rfl trivial hP hD hS dJ6_numberOfTrailingZeros_0f7a4_79 (Nat.le_refl _) (Nat.le_refl _)
        · skip
          refine lv_iinc (v := 5) (lv' := [(1, .int 5), (0, .int t3)]) hx hb dJ6_numberOfTrailingZeros_0f7a4_55 hl (k := 0) rfl (by decide) (by decide) rfl (fun ls hl => ?_)
          refine lv_iload_n hx hb dJ6_numberOfTrailingZeros_0f7a4_58 rfl (lv_at hl 1 rfl) ?_
          refine lv_iconst (v := 4) hx hb dJ6_numberOfTrailingZeros_0f7a4_59 rfl ?_
          refine lv_iushr hx hb dJ6_numberOfTrailingZeros_0f7a4_60 rfl ?_
          refine lv_topi (fun t14 et14 => ?_)
          refine lv_istore_n (lv' := [(0, .int t14), (1, .int 5)]) hx hb dJ6_numberOfTrailingZeros_0f7a4_61 rfl hl (Nat.le_of_ble_eq_true rfl) rfl (fun ls hl => ?_)
          refine lv_iload_n hx hb dJ6_numberOfTrailingZeros_0f7a4_62 rfl (lv_at hl 0 rfl) ?_
          refine lv_iconst (v := 4) hx hb dJ6_numberOfTrailingZeros_0f7a4_63 rfl ?_
          refine lv_icmp_le (tgt := 74) hx hb dJ6_numberOfTrailingZeros_0f7a4_64 rfl (fun c15 => ?_) (fun c15 => ?_)
          · skip
            refine lv_iload_n hx hb dJ6_numberOfTrailingZeros_0f7a4_74 rfl (lv_at hl 1 rfl) ?_
            refine lv_iload_n hx hb dJ6_numberOfTrailingZeros_0f7a4_75 rfl (lv_at hl 0 rfl) ?_
            refine lv_iconst (v := 1) hx hb dJ6_numberOfTrailingZeros_0f7a4_76 rfl ?_
            refine lv_iushr hx hb dJ6_numberOfTrailingZeros_0f7a4_77 rfl ?_
            refine lv_topi (fun t16 et16 => ?_)
            refine lv_iadd hx hb dJ6_numberOfTrailingZeros_0f7a4_78 ?_
            refine lv_topi (fun t17 et17 => ?_)
            exact ret t17 () _ _ _ _ _ _ rfl trivial hP hD hS dJ6_numberOfTrailingZeros_0f7a4_79 (Nat.le_refl _) (Nat.le_refl _)
          · skip
            refine lv_iinc (v := 7) (lv' := [(1, .int 7), (0, .int t14)]) hx hb dJ6_numberOfTrailingZeros_0f7a4_67 hl (k := 1) rfl (by decide) (by decide) rfl (fun ls hl => ?_)
            refine lv_iload_n hx hb dJ6_numberOfTrailingZeros_0f7a4_70 rfl (lv_at hl 1 rfl) ?_
            refine lv_iconst (v := 2) hx hb dJ6_numberOfTrailingZeros_0f7a4_71 rfl ?_
            refine lv_iushr hx hb dJ6_numberOfTrailingZeros_0f7a4_72 rfl ?_
            refine lv_topi (fun t18 et18 => ?_)
            refine lv_istore_n (lv' := [(0, .int t18), (1, .int 7)]) hx hb dJ6_numberOfTrailingZeros_0f7a4_73 rfl hl (Nat.le_of_ble_eq_true rfl) rfl (fun ls hl => ?_)
            refine lv_iload_n hx hb dJ6_numberOfTrailingZeros_0f7a4_74 rfl (lv_at hl 1 rfl) ?_
            refine lv_iload_n hx hb dJ6_numberOfTrailingZeros_0f7a4_75 rfl (lv_at hl 0 rfl) ?_
            refine lv_iconst (v := 1) hx hb dJ6_numberOfTrailingZeros_0f7a4_76 rfl ?_
            refine lv_iushr hx hb dJ6_numberOfTrailingZeros_0f7a4_77 rfl ?_
            refine lv_topi (fun t19 et19 => ?_)
            refine lv_iadd hx hb dJ6_numberOfTrailingZeros_0f7a4_78 ?_
            refine lv_topi (fun t20 et20 => ?_)
            exact ret t20 () _ _ _ _ _ _ rfl trivial hP hD hS dJ6_numberOfTrailingZeros_0f7a4_79 (Nat.le_refl _) (Nat.le_refl _)
      · skip
        refine lv_iinc (v := 9) (lv' := [(1, .int 9), (0, .int t3)]) hx hb dJ6_numberOfTrailingZeros_0f7a4_41 hl (k := 0) rfl (by decide) (by decide) rfl (fun ls hl => ?_)
        refine lv_iload_n hx hb dJ6_numberOfTrailingZeros_0f7a4_44 rfl (lv_at hl 1 rfl) ?_
        refine lv_bipush (v := 8) hx hb dJ6_numberOfTrailingZeros_0f7a4_45 rfl ?_
        refine lv_iushr hx hb dJ6_numberOfTrailingZeros_0f7a4_47 rfl ?_
        refine lv_topi (fun t21 et21 => ?_)
        refine lv_istore_n (lv' := [(0, .int t21), (1, .int 9)]) hx hb dJ6_numberOfTrailingZeros_0f7a4_48 rfl hl (Nat.le_of_ble_eq_true rfl) rfl (fun ls hl => ?_)
        refine lv_iload_n hx hb dJ6_numberOfTrailingZeros_0f7a4_49 rfl (lv_at hl 0 rfl) ?_
        refine lv_bipush (v := 16) hx hb dJ6_numberOfTrailingZeros_0f7a4_50 rfl ?_
        refine lv_icmp_le (tgt := 62) hx hb dJ6_numberOfTrailingZeros_0f7a4_52 rfl (fun c22 => ?_) (fun c22 => ?_)
        · skip
          refine lv_iload_n hx hb dJ6_numberOfTrailingZeros_0f7a4_62 rfl (lv_at hl 0 rfl) ?_
          refine lv_iconst (v := 4) hx hb dJ6_numberOfTrailingZeros_0f7a4_63 rfl ?_
          refine lv_icmp_le (tgt := 74) hx hb dJ6_numberOfTrailingZeros_0f7a4_64 rfl (fun c23 => ?_) (fun c23 => ?_)
          · skip
            refine lv_iload_n hx hb dJ6_numberOfTrailingZeros_0f7a4_74 rfl (lv_at hl 1 rfl) ?_
            refine lv_iload_n hx hb dJ6_numberOfTrailingZeros_0f7a4_75 rfl (lv_at hl 0 rfl) ?_
            refine lv_iconst (v := 1) hx hb dJ6_numberOfTrailingZeros_0f7a4_76 rfl ?_
            refine lv_iushr hx hb dJ6_numberOfTrailingZeros_0f7a4_77 rfl ?_
            refine lv_topi (fun t24 et24 => ?_)
            refine lv_iadd hx hb dJ6_numberOfTrailingZeros_0f7a4_78 ?_
            refine lv_topi (fun t25 et25 => ?_)
            exact ret t25 () _ _ _ _ _ _ rfl trivial hP hD hS dJ6_numberOfTrailingZeros_0f7a4_79 (Nat.le_refl _) (Nat.le_refl _)
          · skip
            refine lv_iinc (v := 11) (lv' := [(1, .int 11), (0, .int t21)]) hx hb dJ6_numberOfTrailingZeros_0f7a4_67 hl (k := 1) rfl (by decide) (by decide) rfl (fun ls hl => ?_)
            refine lv_iload_n hx hb dJ6_numberOfTrailingZeros_0f7a4_70 rfl (lv_at hl 1 rfl) ?_
            refine lv_iconst (v := 2) hx hb dJ6_numberOfTrailingZeros_0f7a4_71 rfl ?_
            refine lv_iushr hx hb dJ6_numberOfTrailingZeros_0f7a4_72 rfl ?_
            refine lv_topi (fun t26 et26 => ?_)
            refine lv_istore_n (lv' := [(0, .int t26), (1, .int 11)]) hx hb dJ6_numberOfTrailingZeros_0f7a4_73 rfl hl (Nat.le_of_ble_eq_true rfl) rfl (fun ls hl => ?_)
            refine lv_iload_n hx hb dJ6_numberOfTrailingZeros_0f7a4_74 rfl (lv_at hl 1 rfl) ?_
            refine lv_iload_n hx hb dJ6_numberOfTrailingZeros_0f7a4_75 rfl (lv_at hl 0 rfl) ?_
            refine lv_iconst (v := 1) hx hb dJ6_numberOfTrailingZeros_0f7a4_76 rfl ?_
            refine lv_iushr hx hb dJ6_numberOfTrailingZeros_0f7a4_77 rfl ?_
            refine lv_topi (fun t27 et27 => ?_)
            refine lv_iadd hx hb dJ6_numberOfTrailingZeros_0f7a4_78 ?_
            refine lv_topi (fun t28 et28 => ?_)
            exact ret t28 () _ _ _ _ _ _ rfl trivial hP hD hS dJ6_numberOfTrailingZeros_0f7a4_79 (Nat.le_refl _) (Nat.le_refl _)
        · skip
          refine lv_iinc (v := 13) (lv' := [(1, .int 13), (0, .int t21)]) hx hb dJ6_numberOfTrailingZeros_0f7a4_55 hl (k := 1) rfl (by decide) (by decide) rfl (fun ls hl => ?_)
          refine lv_iload_n hx hb dJ6_numberOfTrailingZeros_0f7a4_58 rfl (lv_at hl 1 rfl) ?_
          refine lv_iconst (v := 4) hx hb dJ6_numberOfTrailingZeros_0f7a4_59 rfl ?_
          refine lv_iushr hx hb dJ6_numberOfTrailingZeros_0f7a4_60 rfl ?_
          refine lv_topi (fun t29 et29 => ?_)
          refine lv_istore_n (lv' := [(0, .int t29), (1, .int 13)]) hx hb dJ6_numberOfTrailingZeros_0f7a4_61 rfl hl (Nat.le_of_ble_eq_true rfl) rfl (fun ls hl => ?_)
          refine lv_iload_n hx hb dJ6_numberOfTrailingZeros_0f7a4_62 rfl (lv_at hl 0 rfl) ?_
          refine lv_iconst (v := 4) hx hb dJ6_numberOfTrailingZeros_0f7a4_63 rfl ?_
          refine lv_icmp_le (tgt := 74) hx hb dJ6_numberOfTrailingZeros_0f7a4_64 rfl (fun c30 => ?_) (fun c30 => ?_)
          · skip
            refine lv_iload_n hx hb dJ6_numberOfTrailingZeros_0f7a4_74 rfl (lv_at hl 1 rfl) ?_
            refine lv_iload_n hx hb dJ6_numberOfTrailingZeros_0f7a4_75 rfl (lv_at hl 0 rfl) ?_
            refine lv_iconst (v := 1) hx hb dJ6_numberOfTrailingZeros_0f7a4_76 rfl ?_
            refine lv_iushr hx hb dJ6_numberOfTrailingZeros_0f7a4_77 rfl ?_
            refine lv_topi (fun t31 et31 => ?_)
            refine lv_iadd hx hb dJ6_numberOfTrailingZeros_0f7a4_78 ?_
            refine lv_topi (fun t32 et32 => ?_)
            exact ret t32 () _ _ _ _ _ _ rfl trivial hP hD hS dJ6_numberOfTrailingZeros_0f7a4_79 (Nat.le_refl _) (Nat.le_refl _)
          · skip
            refine lv_iinc (v := 15) (lv' := [(1, .int 15), (0, .int t29)]) hx hb dJ6_numberOfTrailingZeros_0f7a4_67 hl (k := 1) rfl (by decide) (by decide) rfl (fun ls hl => ?_)
            refine lv_iload_n hx hb dJ6_numberOfTrailingZeros_0f7a4_70 rfl (lv_at hl 1 rfl) ?_
            refine lv_iconst (v := 2) hx hb dJ6_numberOfTrailingZeros_0f7a4_71 rfl ?_
            refine lv_iushr hx hb dJ6_numberOfTrailingZeros_0f7a4_72 rfl ?_
            refine lv_topi (fun t33 et33 => ?_)
            refine lv_istore_n (lv' := [(0, .int t33), (1, .int 15)]) hx hb dJ6_numberOfTrailingZeros_0f7a4_73 rfl hl (Nat.le_of_ble_eq_true rfl) rfl (fun ls hl => ?_)
            refine lv_iload_n hx hb dJ6_numberOfTrailingZeros_0f7a4_74 rfl (lv_at hl 1 rfl) ?_
            refine lv_iload_n hx hb dJ6_numberOfTrailingZeros_0f7a4_75 rfl (lv_at hl 0 rfl) ?_
            refine lv_iconst (v := 1) hx hb dJ6_numberOfTrailingZeros_0f7a4_76 rfl ?_
            refine lv_iushr hx hb dJ6_numberOfTrailingZeros_0f7a4_77 rfl ?_
            refine lv_topi (fun t34 et34 => ?_)
            refine lv_iadd hx hb dJ6_numberOfTrailingZeros_0f7a4_78 ?_
            refine lv_topi (fun t35 et35 => ?_)
            exact ret t35 () _ _ _ _ _ _ rfl trivial hP hD hS dJ6_numberOfTrailingZeros_0f7a4_79 (Nat.le_refl _) (Nat.le_refl _)
    · skip
      refine lv_iinc (v := 17) (lv' := [(1, .int 17), (0, .int t3)]) hx hb dJ6_numberOfTrailingZeros_0f7a4_26 hl (k := 0) rfl (by decide) (by decide) rfl (fun ls hl => ?_)
      refine lv_iload_n hx hb dJ6_numberOfTrailingZeros_0f7a4_29 rfl (lv_at hl 1 rfl) ?_
      refine lv_bipush (v := 16) hx hb dJ6_numberOfTrailingZeros_0f7a4_30 rfl ?_
      refine lv_iushr hx hb dJ6_numberOfTrailingZeros_0f7a4_32 rfl ?_
      refine lv_topi (fun t36 et36 => ?_)
      refine lv_istore_n (lv' := [(0, .int t36), (1, .int 17)]) hx hb dJ6_numberOfTrailingZeros_0f7a4_33 rfl hl (Nat.le_of_ble_eq_true rfl) rfl (fun ls hl => ?_)
      refine lv_iload_n hx hb dJ6_numberOfTrailingZeros_0f7a4_34 rfl (lv_at hl 0 rfl) ?_
      refine lv_sipush (v := 256) hx hb dJ6_numberOfTrailingZeros_0f7a4_35 rfl ?_
      refine lv_icmp_le (tgt := 49) hx hb dJ6_numberOfTrailingZeros_0f7a4_38 rfl (fun c37 => ?_) (fun c37 => ?_)
      · skip
        refine lv_iload_n hx hb dJ6_numberOfTrailingZeros_0f7a4_49 rfl (lv_at hl 0 rfl) ?_
        refine lv_bipush (v := 16) hx hb dJ6_numberOfTrailingZeros_0f7a4_50 rfl ?_
        refine lv_icmp_le (tgt := 62) hx hb dJ6_numberOfTrailingZeros_0f7a4_52 rfl (fun c38 => ?_) (fun c38 => ?_)
        · skip
          refine lv_iload_n hx hb dJ6_numberOfTrailingZeros_0f7a4_62 rfl (lv_at hl 0 rfl) ?_
          refine lv_iconst (v := 4) hx hb dJ6_numberOfTrailingZeros_0f7a4_63 rfl ?_
          refine lv_icmp_le (tgt := 74) hx hb dJ6_numberOfTrailingZeros_0f7a4_64 rfl (fun c39 => ?_) (fun c39 => ?_)
          · skip
            refine lv_iload_n hx hb dJ6_numberOfTrailingZeros_0f7a4_74 rfl (lv_at hl 1 rfl) ?_
            refine lv_iload_n hx hb dJ6_numberOfTrailingZeros_0f7a4_75 rfl (lv_at hl 0 rfl) ?_
            refine lv_iconst (v := 1) hx hb dJ6_numberOfTrailingZeros_0f7a4_76 rfl ?_
            refine lv_iushr hx hb dJ6_numberOfTrailingZeros_0f7a4_77 rfl ?_
            refine lv_topi (fun t40 et40 => ?_)
            refine lv_iadd hx hb dJ6_numberOfTrailingZeros_0f7a4_78 ?_
            refine lv_topi (fun t41 et41 => ?_)
            exact ret t41 () _ _ _ _ _ _ rfl trivial hP hD hS dJ6_numberOfTrailingZeros_0f7a4_79 (Nat.le_refl _) (Nat.le_refl _)
          · skip
            refine lv_iinc (v := 19) (lv' := [(1, .int 19), (0, .int t36)]) hx hb dJ6_numberOfTrailingZeros_0f7a4_67 hl (k := 1) rfl (by decide) (by decide) rfl (fun ls hl => ?_)
            refine lv_iload_n hx hb dJ6_numberOfTrailingZeros_0f7a4_70 rfl (lv_at hl 1 rfl) ?_
            refine lv_iconst (v := 2) hx hb dJ6_numberOfTrailingZeros_0f7a4_71 rfl ?_
            refine lv_iushr hx hb dJ6_numberOfTrailingZeros_0f7a4_72 rfl ?_
            refine lv_topi (fun t42 et42 => ?_)
            refine lv_istore_n (lv' := [(0, .int t42), (1, .int 19)]) hx hb dJ6_numberOfTrailingZeros_0f7a4_73 rfl hl (Nat.le_of_ble_eq_true rfl) rfl (fun ls hl => ?_)
            refine lv_iload_n hx hb dJ6_numberOfTrailingZeros_0f7a4_74 rfl (lv_at hl 1 rfl) ?_
            refine lv_iload_n hx hb dJ6_numberOfTrailingZeros_0f7a4_75 rfl (lv_at hl 0 rfl) ?_
            refine lv_iconst (v := 1) hx hb dJ6_numberOfTrailingZeros_0f7a4_76 rfl ?_
            refine lv_iushr hx hb dJ6_numberOfTrailingZeros_0f7a4_77 rfl ?_
            refine lv_topi (fun t43 et43 => ?_)
            refine lv_iadd hx hb dJ6_numberOfTrailingZeros_0f7a4_78 ?_
            refine lv_topi (fun t44 et44 => ?_)
            exact ret t44 () _ _ _ _ _ _ rfl trivial hP hD hS dJ6_numberOfTrailingZeros_0f7a4_79 (Nat.le_refl _) (Nat.le_refl _)
        · skip
          refine lv_iinc (v := 21) (lv' := [(1, .int 21), (0, .int t36)]) hx hb dJ6_numberOfTrailingZeros_0f7a4_55 hl (k := 1) rfl (by decide) (by decide) rfl (fun ls hl => ?_)
          refine lv_iload_n hx hb dJ6_numberOfTrailingZeros_0f7a4_58 rfl (lv_at hl 1 rfl) ?_
          refine lv_iconst (v := 4) hx hb dJ6_numberOfTrailingZeros_0f7a4_59 rfl ?_
          refine lv_iushr hx hb dJ6_numberOfTrailingZeros_0f7a4_60 rfl ?_
          refine lv_topi (fun t45 et45 => ?_)
          refine lv_istore_n (lv' := [(0, .int t45), (1, .int 21)]) hx hb dJ6_numberOfTrailingZeros_0f7a4_61 rfl hl (Nat.le_of_ble_eq_true rfl) rfl (fun ls hl => ?_)
          refine lv_iload_n hx hb dJ6_numberOfTrailingZeros_0f7a4_62 rfl (lv_at hl 0 rfl) ?_
          refine lv_iconst (v := 4) hx hb dJ6_numberOfTrailingZeros_0f7a4_63 rfl ?_
          refine lv_icmp_le (tgt := 74) hx hb dJ6_numberOfTrailingZeros_0f7a4_64 rfl (fun c46 => ?_) (fun c46 => ?_)
          · skip
            refine lv_iload_n hx hb dJ6_numberOfTrailingZeros_0f7a4_74 rfl (lv_at hl 1 rfl) ?_
            refine lv_iload_n hx hb dJ6_numberOfTrailingZeros_0f7a4_75 rfl (lv_at hl 0 rfl) ?_
            refine lv_iconst (v := 1) hx hb dJ6_numberOfTrailingZeros_0f7a4_76 rfl ?_
            refine lv_iushr hx hb dJ6_numberOfTrailingZeros_0f7a4_77 rfl ?_
            refine lv_topi (fun t47 et47 => ?_)
            refine lv_iadd hx hb dJ6_numberOfTrailingZeros_0f7a4_78 ?_
            refine lv_topi (fun t48 et48 => ?_)
            exact ret t48 () _ _ _ _ _ _ rfl trivial hP hD hS dJ6_numberOfTrailingZeros_0f7a4_79 (Nat.le_refl _) (Nat.le_refl _)
          · skip
            refine lv_iinc (v := 23) (lv' := [(1, .int 23), (0, .int t45)]) hx hb dJ6_numberOfTrailingZeros_0f7a4_67 hl (k := 1) rfl (by decide) (by decide) rfl (fun ls hl => ?_)
            refine lv_iload_n hx hb dJ6_numberOfTrailingZeros_0f7a4_70 rfl (lv_at hl 1 rfl) ?_
            refine lv_iconst (v := 2) hx hb dJ6_numberOfTrailingZeros_0f7a4_71 rfl ?_
            refine lv_iushr hx hb dJ6_numberOfTrailingZeros_0f7a4_72 rfl ?_
            refine lv_topi (fun t49 et49 => ?_)
            refine lv_istore_n (lv' := [(0, .int t49), (1, .int 23)]) hx hb dJ6_numberOfTrailingZeros_0f7a4_73 rfl hl (Nat.le_of_ble_eq_true rfl) rfl (fun ls hl => ?_)
            refine lv_iload_n hx hb dJ6_numberOfTrailingZeros_0f7a4_74 rfl (lv_at hl 1 rfl) ?_
            refine lv_iload_n hx hb dJ6_numberOfTrailingZeros_0f7a4_75 rfl (lv_at hl 0 rfl) ?_
            refine lv_iconst (v := 1) hx hb dJ6_numberOfTrailingZeros_0f7a4_76 rfl ?_
            refine lv_iushr hx hb dJ6_numberOfTrailingZeros_0f7a4_77 rfl ?_
            refine lv_topi (fun t50 et50 => ?_)
            refine lv_iadd hx hb dJ6_numberOfTrailingZeros_0f7a4_78 ?_
            refine lv_topi (fun t51 et51 => ?_)
            exact ret t51 () _ _ _ _ _ _ rfl trivial hP hD hS dJ6_numberOfTrailingZeros_0f7a4_79 (Nat.le_refl _) (Nat.le_refl _)
      · skip
        refine lv_iinc (v := 25) (lv' := [(1, .int 25), (0, .int t36)]) hx hb dJ6_numberOfTrailingZeros_0f7a4_41 hl (k := 1) rfl (by decide) (by decide) rfl (fun ls hl => ?_)
        refine lv_iload_n hx hb dJ6_numberOfTrailingZeros_0f7a4_44 rfl (lv_at hl 1 rfl) ?_
        refine lv_bipush (v := 8) hx hb dJ6_numberOfTrailingZeros_0f7a4_45 rfl ?_
        refine lv_iushr hx hb dJ6_numberOfTrailingZeros_0f7a4_47 rfl ?_
        refine lv_topi (fun t52 et52 => ?_)
        refine lv_istore_n (lv' := [(0, .int t52), (1, .int 25)]) hx hb dJ6_numberOfTrailingZeros_0f7a4_48 rfl hl (Nat.le_of_ble_eq_true rfl) rfl (fun ls hl => ?_)
        refine lv_iload_n hx hb dJ6_numberOfTrailingZeros_0f7a4_49 rfl (lv_at hl 0 rfl) ?_
        refine lv_bipush (v := 16) hx hb dJ6_numberOfTrailingZeros_0f7a4_50 rfl ?_
        refine lv_icmp_le (tgt := 62) hx hb dJ6_numberOfTrailingZeros_0f7a4_52 rfl (fun c53 => ?_) (fun c53 => ?_)
        · skip
          refine lv_iload_n hx hb dJ6_numberOfTrailingZeros_0f7a4_62 rfl (lv_at hl 0 rfl) ?_
          refine lv_iconst (v := 4) hx hb dJ6_numberOfTrailingZeros_0f7a4_63 rfl ?_
          refine lv_icmp_le (tgt := 74) hx hb dJ6_numberOfTrailingZeros_0f7a4_64 rfl (fun c54 => ?_) (fun c54 => ?_)
          · skip
            refine lv_iload_n hx hb dJ6_numberOfTrailingZeros_0f7a4_74 rfl (lv_at hl 1 rfl) ?_
            refine lv_iload_n hx hb dJ6_numberOfTrailingZeros_0f7a4_75 rfl (lv_at hl 0 rfl) ?_
            refine lv_iconst (v := 1) hx hb dJ6_numberOfTrailingZeros_0f7a4_76 rfl ?_
            refine lv_iushr hx hb dJ6_numberOfTrailingZeros_0f7a4_77 rfl ?_
            refine lv_topi (fun t55 et55 => ?_)
            refine lv_iadd hx hb dJ6_numberOfTrailingZeros_0f7a4_78 ?_
            refine lv_topi (fun t56 et56 => ?_)
            exact ret t56 () _ _ _ _ _ _ rfl trivial hP hD hS dJ6_numberOfTrailingZeros_0f7a4_79 (Nat.le_refl _) (Nat.le_refl _)
          · skip
            refine lv_iinc (v := 27) (lv' := [(1, .int 27), (0, .int t52)]) hx hb dJ6_numberOfTrailingZeros_0f7a4_67 hl (k := 1) rfl (by decide) (by decide) rfl (fun ls hl => ?_)
            refine lv_iload_n hx hb dJ6_numberOfTrailingZeros_0f7a4_70 rfl (lv_at hl 1 rfl) ?_
            refine lv_iconst (v := 2) hx hb dJ6_numberOfTrailingZeros_0f7a4_71 rfl ?_
            refine lv_iushr hx hb dJ6_numberOfTrailingZeros_0f7a4_72 rfl ?_
            refine lv_topi (fun t57 et57 => ?_)
            refine lv_istore_n (lv' := [(0, .int t57), (1, .int 27)]) hx hb dJ6_numberOfTrailingZeros_0f7a4_73 rfl hl (Nat.le_of_ble_eq_true rfl) rfl (fun ls hl => ?_)
            refine lv_iload_n hx hb dJ6_numberOfTrailingZeros_0f7a4_74 rfl (lv_at hl 1 rfl) ?_
            refine lv_iload_n hx hb dJ6_numberOfTrailingZeros_0f7a4_75 rfl (lv_at hl 0 rfl) ?_
            refine lv_iconst (v := 1) hx hb dJ6_numberOfTrailingZeros_0f7a4_76 rfl ?_
            refine lv_iushr hx hb dJ6_numberOfTrailingZeros_0f7a4_77 rfl ?_
            refine lv_topi (fun t58 et58 => ?_)
            refine lv_iadd hx hb dJ6_numberOfTrailingZeros_0f7a4_78 ?_
            refine lv_topi (fun t59 et59 => ?_)
            exact ret t59 () _ _ _ _ _ _ rfl trivial hP hD hS dJ6_numberOfTrailingZeros_0f7a4_79 (Nat.le_refl _) (Nat.le_refl _)
        · skip
          refine lv_iinc (v := 29) (lv' := [(1, .int 29), (0, .int t52)]) hx hb dJ6_numberOfTrailingZeros_0f7a4_55 hl (k := 1) rfl (by decide) (by decide) rfl (fun ls hl => ?_)
          refine lv_iload_n hx hb dJ6_numberOfTrailingZeros_0f7a4_58 rfl (lv_at hl 1 rfl) ?_
          refine lv_iconst (v := 4) hx hb dJ6_numberOfTrailingZeros_0f7a4_59 rfl ?_
          refine lv_iushr hx hb dJ6_numberOfTrailingZeros_0f7a4_60 rfl ?_
          refine lv_topi (fun t60 et60 => ?_)
          refine lv_istore_n (lv' := [(0, .int t60), (1, .int 29)]) hx hb dJ6_numberOfTrailingZeros_0f7a4_61 rfl hl (Nat.le_of_ble_eq_true rfl) rfl (fun ls hl => ?_)
          refine lv_iload_n hx hb dJ6_numberOfTrailingZeros_0f7a4_62 rfl (lv_at hl 0 rfl) ?_
          refine lv_iconst (v := 4) hx hb dJ6_numberOfTrailingZeros_0f7a4_63 rfl ?_
          refine lv_icmp_le (tgt := 74) hx hb dJ6_numberOfTrailingZeros_0f7a4_64 rfl (fun c61 => ?_) (fun c61 => ?_)
          · skip
            refine lv_iload_n hx hb dJ6_numberOfTrailingZeros_0f7a4_74 rfl (lv_at hl 1 rfl) ?_
            refine lv_iload_n hx hb dJ6_numberOfTrailingZeros_0f7a4_75 rfl (lv_at hl 0 rfl) ?_
            refine lv_iconst (v := 1) hx hb dJ6_numberOfTrailingZeros_0f7a4_76 rfl ?_
            refine lv_iushr hx hb dJ6_numberOfTrailingZeros_0f7a4_77 rfl ?_
            refine lv_topi (fun t62 et62 => ?_)
            refine lv_iadd hx hb dJ6_numberOfTrailingZeros_0f7a4_78 ?_
            refine lv_topi (fun t63 et63 => ?_)
            exact ret t63 () _ _ _ _ _ _ rfl trivial hP hD hS dJ6_numberOfTrailingZeros_0f7a4_79 (Nat.le_refl _) (Nat.le_refl _)
          · skip
            refine lv_iinc (v := 31) (lv' := [(1, .int 31), (0, .int t60)]) hx hb dJ6_numberOfTrailingZeros_0f7a4_67 hl (k := 1) rfl (by decide) (by decide) rfl (fun ls hl => ?_)
            refine lv_iload_n hx hb dJ6_numberOfTrailingZeros_0f7a4_70 rfl (lv_at hl 1 rfl) ?_
            refine lv_iconst (v := 2) hx hb dJ6_numberOfTrailingZeros_0f7a4_71 rfl ?_
            refine lv_iushr hx hb dJ6_numberOfTrailingZeros_0f7a4_72 rfl ?_
            refine lv_topi (fun t64 et64 => ?_)
            refine lv_istore_n (lv' := [(0, .int t64), (1, .int 31)]) hx hb dJ6_numberOfTrailingZeros_0f7a4_73 rfl hl (Nat.le_of_ble_eq_true rfl) rfl (fun ls hl => ?_)
            refine lv_iload_n hx hb dJ6_numberOfTrailingZeros_0f7a4_74 rfl (lv_at hl 1 rfl) ?_
            refine lv_iload_n hx hb dJ6_numberOfTrailingZeros_0f7a4_75 rfl (lv_at hl 0 rfl) ?_
            refine lv_iconst (v := 1) hx hb dJ6_numberOfTrailingZeros_0f7a4_76 rfl ?_
            refine lv_iushr hx hb dJ6_numberOfTrailingZeros_0f7a4_77 rfl ?_
            refine lv_topi (fun t65 et65 => ?_)
            refine lv_iadd hx hb dJ6_numberOfTrailingZeros_0f7a4_78 ?_
            refine lv_topi (fun t66 et66 => ?_)
            exact ret t66 () _ _ _ _ _ _ rfl trivial hP hD hS dJ6_numberOfTrailingZeros_0f7a4_79 (Nat.le_refl _) (Nat.le_refl _)
  · skip
    refine lv_iload_n hx hb dJ6_numberOfTrailingZeros_0f7a4_12 rfl (lv_at hl 0 rfl) ?_
    refine lv_bipush (v := 32) hx hb dJ6_numberOfTrailingZeros_0f7a4_13 rfl ?_
    refine lv_iand hx hb dJ6_numberOfTrailingZeros_0f7a4_15 ?_
    refine lv_topi (fun t67 et67 => ?_)
    exact ret t67 () _ _ _ _ _ _ rfl trivial hP hD hS dJ6_numberOfTrailingZeros_0f7a4_16 (Nat.le_refl _) (Nat.le_refl _)
