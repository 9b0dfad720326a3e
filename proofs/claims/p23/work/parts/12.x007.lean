set_option maxHeartbeats 4000000 in
set_option maxRecDepth 100000 in
theorem sX_X10_sure_1 (l : Launch) (dC : Nat → ClassId) (dI : Nat → Nat → Nat) (cy : Nat → ClassId) (x0 : Nat) (x : Nat → Nat) (p1 : Int32) (p2 : Int32) (v : Nat → Int32) (f : Nat → Nat → Int32) (hIv : XI v)  : ctI l (dC, dI) cy yX10_sure cX10_sure 4 .int 6 183 0 0 ((Nat → Int32) × (Nat → Nat → Int32)) [.ref x0, .int p1, .int p2] (XW cy x0 x v f) (fun r u => KV [] u.1 v ∧ KF [13, 14, 27] u.2 f ∧ XI u.1 ∧ u.1 0 = v 0 ∧ u.1 1 = v 1 ∧ u.1 7 = v 7 ∧ u.1 8 = v 8 ∧ u.1 9 = v 9 ∧ u.1 10 = v 10 ∧ u.1 31 = v 31 ∧ u.1 32 = v 32) (fun u => XW cy x0 x u.1 u.2) := by
  refine ctI_of (by decide) (Nat.le_of_ble_eq_true rfl) (fun p e s m below meth c A ls Q hx hb hml hts hown hE hP hD hA hl ret => ?_)
  have hM_v : KV [] v v := fun _ _ => rfl
  have hA_f : KF [13, 14, 27] f f := fun _ _ => rfl
  have hown : s.vm.findClass RX10 = some m.cls := hown
  have hS : va_S A s.heap s.heap [] := va_S.rf
  have hl : lv_has ls 4 [(0, .ref x0), (1, .int p1), (2, .int p2)] := hl
  refine lv_aload_n hx hb dX10_sure_0 rfl (lv_at hl 0 rfl) ?_
  refine va_get (D := (dC, dI)) (ci := 10) (v := .ref (x 35)) (C := RX10) (T := TX10) (N := 10) hx hb hts inB_10 hown hE.1 hP 0 rfl rfl 8 (Nat.le_of_ble_eq_true rfl) (hts _ k_499) (fun _ h9 => h9) rfl dX10_sure_1 ?_
  refine lv_iload_n hx hb dX10_sure_4 rfl (lv_at hl 2 rfl) ?_
  refine cbVi (n := 1) (rest := []) hx hb hml hown hts hE hP hD hS hA (sX_X8_growthsAt_1 l dC dI cy x0 x p2 v f hIv ) k_1247 k_1248 k_1249 k_112 k_1250 hd_yX8_growthsAt ⟨Nat.le_of_ble_eq_true rfl, Nat.le_of_ble_eq_true rfl⟩ 36 8 rfl rfl (rfl) hl.1 rfl (Nat.le_of_ble_eq_true rfl) dX10_sure_5 (fun r1 u H locs hw hP hD hS => ?_)
  obtain ⟨v2, f3⟩ := u
  obtain ⟨kV_v2, kF_f3, hIv2, hk0_v2, hk1_v2, hk7_v2, hk8_v2, hk9_v2, hk10_v2, hk31_v2, hk32_v2⟩ := hw
  have hM_v2 : KV [] v2 v := KV.tr kV_v2 hM_v rfl
  have hA_f3 : KF [13, 14, 27] f3 f := KF.tr kF_f3 hA_f rfl
  have hP : va_P (dC, dI) vwCl (XW cy x0 x v2 f3) H := hP
  have hD : va_D A (XW cy x0 x v2 f3) := hD
  refine lv_istore_n (lv' := [(3, .int r1), (0, .ref x0), (1, .int p1), (2, .int p2)]) hx hb dX10_sure_8 rfl hl (Nat.le_of_ble_eq_true rfl) rfl (fun ls hl => ?_)
  refine lv_iload_n hx hb dX10_sure_9 rfl (lv_at hl 0 rfl) ?_
  refine lv_if_eq (tgt := 22) hx hb dX10_sure_10 rfl (fun c4 => ?_) (fun c4 => ?_)
  · skip
    refine lv_iconst (v := (-1)) hx hb dX10_sure_22 rfl ?_
    exact ret (-1) (v2, f3) _ _ _ _ _ _ rfl ⟨hM_v2, hA_f3, hIv2, hk0_v2, hk1_v2, hk7_v2, hk8_v2, hk9_v2, hk10_v2, hk31_v2, hk32_v2⟩ hP hD hS dX10_sure_23 (Nat.le_refl _) (Nat.le_refl _)
  · skip
    refine lv_iload_n hx hb dX10_sure_13 rfl (lv_at hl 2 rfl) ?_
    refine lv_if_lt (tgt := 22) hx hb dX10_sure_14 rfl (fun c5 => ?_) (fun c5 => ?_)
    · skip
      refine lv_iconst (v := (-1)) hx hb dX10_sure_22 rfl ?_
      exact ret (-1) (v2, f3) _ _ _ _ _ _ rfl ⟨hM_v2, hA_f3, hIv2, hk0_v2, hk1_v2, hk7_v2, hk8_v2, hk9_v2, hk10_v2, hk31_v2, hk32_v2⟩ hP hD hS dX10_sure_23 (Nat.le_refl _) (Nat.le_refl _)
    · skip
      refine lv_iload_n hx hb dX10_sure_17 rfl (lv_at hl 2 rfl) ?_
      refine lv_iconst (v := 1) hx hb dX10_sure_18 rfl ?_
      refine lv_icmp_le (tgt := 24) hx hb dX10_sure_19 rfl (fun c6 => ?_) (fun c6 => ?_)
      · skip
        refine lv_iload_n hx hb dX10_sure_24 rfl (lv_at hl 2 rfl) ?_
        refine lv_if_ne (tgt := 35) hx hb dX10_sure_25 rfl (fun c7 => ?_) (fun c7 => ?_)
        · skip
          refine lv_bipush (v := 31) hx hb dX10_sure_35 rfl ?_
          refine lv_iload_n hx hb dX10_sure_37 rfl (lv_at hl 0 rfl) ?_
          refine cbSi (n := 1) (rest := [.int 31]) hx hb hml hown hts hE hP hD hS hA (sX_J6_numberOfLeadingZeros_0f7a4_1 l dC dI cy x0 x r1 v2 f3 hIv2 ) k_1272 k_1273 k_121 k_1274 he_yJ6_numberOfLeadingZeros_0f7a4 ⟨Nat.le_of_ble_eq_true rfl, Nat.le_of_ble_eq_true rfl⟩ (rfl) hl.1 rfl (Nat.le_of_ble_eq_true rfl) dX10_sure_38 (fun r8 u H locs hw hP hD hS => ?_)
          refine lv_isub hx hb dX10_sure_41 ?_
          refine lv_topi (fun t9 et9 => ?_)
          exact ret t9 (v2, f3) _ _ _ _ _ _ rfl ⟨hM_v2, hA_f3, hIv2, hk0_v2, hk1_v2, hk7_v2, hk8_v2, hk9_v2, hk10_v2, hk31_v2, hk32_v2⟩ hP hD hS dX10_sure_42 (Nat.le_refl _) (Nat.le_refl _)
        · skip
          refine lv_iload_n hx hb dX10_sure_28 rfl (lv_at hl 0 rfl) ?_
          refine cbSi (n := 1) (rest := []) hx hb hml hown hts hE hP hD hS hA (sX_J6_numberOfTrailingZeros_0f7a4_1 l dC dI cy x0 x r1 v2 f3 hIv2 ) k_1268 k_1269 k_121 k_1270 he_yJ6_numberOfTrailingZeros_0f7a4 ⟨Nat.le_of_ble_eq_true rfl, Nat.le_of_ble_eq_true rfl⟩ (rfl) hl.1 rfl (Nat.le_of_ble_eq_true rfl) dX10_sure_29 (fun r10 u H locs hw hP hD hS => ?_)
          refine lv_goto (tgt := 42) hx hb dX10_sure_32 rfl ?_
          exact ret r10 (v2, f3) _ _ _ _ _ _ rfl ⟨hM_v2, hA_f3, hIv2, hk0_v2, hk1_v2, hk7_v2, hk8_v2, hk9_v2, hk10_v2, hk31_v2, hk32_v2⟩ hP hD hS dX10_sure_42 (Nat.le_refl _) (Nat.le_refl _)
      · skip
        refine lv_iconst (v := (-1)) hx hb dX10_sure_22 rfl ?_
        exact ret (-1) (v2, f3) _ _ _ _ _ _ rfl ⟨hM_v2, hA_f3, hIv2, hk0_v2, hk1_v2, hk7_v2, hk8_v2, hk9_v2, hk10_v2, hk31_v2, hk32_v2⟩ hP hD hS dX10_sure_23 (Nat.le_refl _) (Nat.le_refl _)
set_option maxHeartbeats 4000000 in
set_option maxRecDepth 100000 in
theorem sX_X8_leftAtMost_1 (l : Launch) (dC : Nat → ClassId) (dI : Nat → Nat → Nat) (cy : Nat → ClassId) (x0 : Nat) (x : Nat → Nat) (p1 : Int32) (p2 : Int32) (v : Nat → Int32) (f : Nat → Nat → Int32) (hIv : XI v)  : ctI l (dC, dI) cy yX8_leftAtMost cX8_leftAtMost 4 .int 5 158 0 0 ((Nat → Int32) × (Nat → Nat → Int32)) [.ref (x 35), .int p1, .int p2] (XW cy x0 x v f) (fun r u => KV [] u.1 v ∧ KF [13, 14, 27] u.2 f ∧ XI u.1 ∧ u.1 0 = v 0 ∧ u.1 1 = v 1 ∧ u.1 7 = v 7 ∧ u.1 8 = v 8 ∧ u.1 9 = v 9 ∧ u.1 10 = v 10 ∧ u.1 31 = v 31 ∧ u.1 32 = v 32) (fun u => XW cy x0 x u.1 u.2) := by
  refine ctI_of (by decide) (Nat.le_of_ble_eq_true rfl) (fun p e s m below meth c A ls Q hx hb hml hts hown hE hP hD hA hl ret => ?_)
  have hM_v : KV [] v v := fun _ _ => rfl
  have hA_f : KF [13, 14, 27] f f := fun _ _ => rfl
  have hown : s.vm.findClass RX8 = some m.cls := hown
  have hS : va_S A s.heap s.heap [] := va_S.rf
  have hl : lv_has ls 4 [(0, .ref (x 35)), (1, .int p1), (2, .int p2)] := hl
  refine lv_aload_n hx hb dX8_leftAtMost_0 rfl (lv_at hl 0 rfl) ?_
  refine lv_iload_n hx hb dX8_leftAtMost_1 rfl (lv_at hl 2 rfl) ?_
  refine cbVi (n := 1) (rest := []) hx hb hml hown hts hE hP hD hS hA (sX_X8_fittingBehind_1 l dC dI cy x0 x p2 v f hIv ) k_1252 k_1254 k_38 k_112 k_1255 hd_yX8_fittingBehind ⟨Nat.le_of_ble_eq_true rfl, Nat.le_of_ble_eq_true rfl⟩ 36 8 rfl rfl (rfl) hl.1 rfl (Nat.le_of_ble_eq_true rfl) dX8_leftAtMost_2 (fun r1 u H locs hw hP hD hS => ?_)
  obtain ⟨v2, f3⟩ := u
  obtain ⟨kV_v2, kF_f3, hIv2, hk0_v2, hk1_v2, hk7_v2, hk8_v2, hk9_v2, hk10_v2, hk31_v2, hk32_v2⟩ := hw
  have hM_v2 : KV [] v2 v := KV.tr kV_v2 hM_v rfl
  have hA_f3 : KF [13, 14, 27] f3 f := KF.tr kF_f3 hA_f rfl
  have hP : va_P (dC, dI) vwCl (XW cy x0 x v2 f3) H := hP
  have hD : va_D A (XW cy x0 x v2 f3) := hD
  have hq0_v2 : v2 0 = (v 0) := hk0_v2
  have hq1_v2 : v2 1 = (v 1) := hk1_v2
  have hq7_v2 : v2 7 = (v 7) := hk7_v2
  have hq8_v2 : v2 8 = (v 8) := hk8_v2
  have hq9_v2 : v2 9 = (v 9) := hk9_v2
  have hq10_v2 : v2 10 = (v 10) := hk10_v2
  have hq31_v2 : v2 31 = (v 31) := hk31_v2
  have hq32_v2 : v2 32 = (v 32) := hk32_v2
  refine lv_istore_n (lv' := [(3, .int r1), (0, .ref (x 35)), (1, .int p1), (2, .int p2)]) hx hb dX8_leftAtMost_5 rfl hl (Nat.le_of_ble_eq_true rfl) rfl (fun ls hl => ?_)
  refine lv_iload_n hx hb dX8_leftAtMost_6 rfl (lv_at hl 2 rfl) ?_
  refine lv_iload_n hx hb dX8_leftAtMost_7 rfl (lv_at hl 0 rfl) ?_
  refine lv_iand hx hb dX8_leftAtMost_8 ?_
  refine lv_topi (fun t4 et4 => ?_)
  refine cbSi (n := 1) (rest := []) hx hb hml hown hts hE hP hD hS hA (sX_J6_bitCount_0f7a4_1 0 l dC dI cy x0 x t4 v2 f3 hIv2 ) k_1287 k_1043 k_121 k_1044 he_yJ6_bitCount_0f7a4 ⟨Nat.le_of_ble_eq_true rfl, Nat.le_of_ble_eq_true rfl⟩ (rfl) hl.1 rfl (Nat.le_of_ble_eq_true rfl) dX8_leftAtMost_9 (fun r5 u H locs hw hP hD hS => ?_)
  have hG6 := hw
  refine lv_iload_n hx hb dX8_leftAtMost_12 rfl (lv_at hl 2 rfl) ?_
  refine lv_iload_n hx hb dX8_leftAtMost_13 rfl (lv_at hl 0 rfl) ?_
  refine lv_iconst (v := (-1)) hx hb dX8_leftAtMost_14 rfl ?_
  refine lv_ixor hx hb dX8_leftAtMost_15 ?_
  refine lv_topi (fun t7 et7 => ?_)
  refine lv_iand hx hb dX8_leftAtMost_16 ?_
  refine lv_topi (fun t8 et8 => ?_)
  refine cbSi (n := 1) (rest := [.int r5]) hx hb hml hown hts hE hP hD hS hA (sX_J6_bitCount_0f7a4_1 0 l dC dI cy x0 x t8 v2 f3 hIv2 ) k_1287 k_1043 k_121 k_1044 he_yJ6_bitCount_0f7a4 ⟨Nat.le_of_ble_eq_true rfl, Nat.le_of_ble_eq_true rfl⟩ (rfl) hl.1 rfl (Nat.le_of_ble_eq_true rfl) dX8_leftAtMost_17 (fun r9 u H locs hw hP hD hS => ?_)
  have hG10 := hw
  refine va_mmax hx hb (by rw [hml]; exact hl.1.symm) hown (hts _ k_1288) (hts _ k_640) (hts _ k_119) (hts _ k_641) (Nat.le_of_ble_eq_true rfl) (Nat.le_of_ble_eq_true rfl) (Nat.le_of_ble_eq_true rfl) (Nat.le_of_ble_eq_true rfl) dX8_leftAtMost_20 ?_
  refine lv_topi (fun t11 et11 => ?_)
  have zt11 : t11.toInt = max (r5.toInt) (r9.toInt) := by rw [et11]; exact mmax_i rfl rfl
  exact ret t11 (v2, f3) _ _ _ _ _ _ rfl ⟨hM_v2, hA_f3, hIv2, hk0_v2, hk1_v2, hk7_v2, hk8_v2, hk9_v2, hk10_v2, hk31_v2, hk32_v2⟩ hP hD hS dX8_leftAtMost_23 (Nat.le_refl _) (Nat.le_refl _)
set_option maxHeartbeats 4000000 in
set_option maxRecDepth 100000 in
theorem sX_X8_bestQuestion_1 (l : Launch) (dC : Nat → ClassId) (dI : Nat → Nat → Nat) (cy : Nat → ClassId) (x0 : Nat) (x : Nat → Nat) (p1 : Int32) (v : Nat → Int32) (f : Nat → Nat → Int32) (hIv : XI v)  : ctI l (dC, dI) cy yX8_bestQuestion cX8_bestQuestion 4 .int 6 181 0 0 ((Nat → Int32) × (Nat → Nat → Int32)) [.ref (x 35), .int p1] (XW cy x0 x v f) (fun r u => KV [] u.1 v ∧ KF [13, 14, 27] u.2 f ∧ XI u.1 ∧ u.1 0 = v 0 ∧ u.1 1 = v 1 ∧ u.1 7 = v 7 ∧ u.1 8 = v 8 ∧ u.1 9 = v 9 ∧ u.1 10 = v 10 ∧ u.1 31 = v 31 ∧ u.1 32 = v 32) (fun u => XW cy x0 x u.1 u.2) := by
  refine ctI_of (by decide) (Nat.le_of_ble_eq_true rfl) (fun p e s m below meth c A ls Q hx hb hml hts hown hE hP hD hA hl ret => ?_)
  have hM_v : KV [] v v := fun _ _ => rfl
  have hA_f : KF [13, 14, 27] f f := fun _ _ => rfl
  have hown : s.vm.findClass RX8 = some m.cls := hown
  have hS : va_S A s.heap s.heap [] := va_S.rf
  have hl : lv_has ls 4 [(0, .ref (x 35)), (1, .int p1)] := hl
  refine lv_iconst (v := 0) hx hb dX8_bestQuestion_0 rfl ?_
  refine lv_istore_n (lv' := [(2, .int 0), (0, .ref (x 35)), (1, .int p1)]) hx hb dX8_bestQuestion_1 rfl hl (Nat.le_of_ble_eq_true rfl) rfl (fun ls hl => ?_)
  refine lv_iconst (v := 1) hx hb dX8_bestQuestion_2 rfl ?_
  refine lv_istore_n (lv' := [(3, .int 1), (2, .int 0), (0, .ref (x 35)), (1, .int p1)]) hx hb dX8_bestQuestion_3 rfl hl (Nat.le_of_ble_eq_true rfl) rfl (fun ls hl => ?_)
  have lp1 : ∀ (n1 : Nat) (l2_1 : Int32) (l3_1 : Int32) (v1 : Nat → Int32) (f1 : Nat → Nat → Int32), XI v1 → v1 0 = (v 0) → v1 1 = (v 1) → v1 7 = (v 7) → v1 8 = (v 8) → v1 9 = (v 9) → v1 10 = (v 10) → v1 31 = (v 31) → v1 32 = (v 32) → ((1 : Int) ≤ l3_1.toInt ∧ l3_1.toInt ≤ 2147483647) → KV [] v1 v → KF [13, 14, 27] f1 f → (2147483647 - l3_1.toInt).toNat < n1 → ∀ (H : Heap) (locs : List Loc) (ls : Array Slot), va_P (dC, dI) vwCl (XW cy x0 x v1 f1) H → va_D A (XW cy x0 x v1 f1) → va_S A s.heap H locs → lv_has ls 4 [(3, .int l3_1), (2, .int l2_1), (0, .ref (x 35)), (1, .int p1)] → W p l e { frames := 6, cells := 0, slots := 0, locals := 181 } s m ([.ref (x 35), .int p1] : List Value).toArray below meth c H locs 0 0 Q (F0 m 4 ls []) := by
    intro n1
    induction n1 with
    | zero => intro l2_1 l3_1 v1 f1 hIv1 hq0_v1 hq1_v1 hq7_v1 hq8_v1 hq9_v1 hq10_v1 hq31_v1 hq32_v1 hr3_1 hM_v1 hA_f1 hm; exact absurd hm (Nat.not_lt_zero _)
    | succ n1 ih1 =>
      intro l2_1 l3_1 v1 f1 hIv1 hq0_v1 hq1_v1 hq7_v1 hq8_v1 hq9_v1 hq10_v1 hq31_v1 hq32_v1 hr3_1 hM_v1 hA_f1 hm1 H locs ls hP hD hS hl
      refine lv_iload_n hx hb dX8_bestQuestion_4 rfl (lv_at hl 0 rfl) ?_
      refine lv_bipush (v := 20) hx hb dX8_bestQuestion_5 rfl ?_
      refine lv_icmp_gt (tgt := 33) hx hb dX8_bestQuestion_7 rfl (fun c2 => ?_) (fun c2 => ?_)
      · skip
        refine lv_iload_n hx hb dX8_bestQuestion_33 rfl (lv_at hl 1 rfl) ?_
        exact ret l2_1 (v1, f1) _ _ _ _ _ _ rfl ⟨hM_v1, hA_f1, hIv1, (show v1 0 = v 0 from hq0_v1), (show v1 1 = v 1 from hq1_v1), (show v1 7 = v 7 from hq7_v1), (show v1 8 = v 8 from hq8_v1), (show v1 9 = v 9 from hq9_v1), (show v1 10 = v 10 from hq10_v1), (show v1 31 = v 31 from hq31_v1), (show v1 32 = v 32 from hq32_v1)⟩ hP hD hS dX8_bestQuestion_34 (Nat.le_refl _) (Nat.le_refl _)
      · skip
        have zc2 : ¬ (20 < l3_1.toInt) := zLn tc_20 rfl c2
        refine lv_aload_n hx hb dX8_bestQuestion_10 rfl (lv_at hl 2 rfl) ?_
        refine lv_iload_n hx hb dX8_bestQuestion_11 rfl (lv_at hl 3 rfl) ?_
        refine lv_iload_n hx hb dX8_bestQuestion_12 rfl (lv_at hl 0 rfl) ?_
        refine cbVi (n := 2) (rest := []) hx hb hml hown hts hE hP hD hS hA (sX_X8_leftAtMost_1 l dC dI cy x0 x p1 l3_1 v1 f1 hIv1 ) k_1283 k_1284 k_1285 k_112 k_1286 hd_yX8_leftAtMost ⟨Nat.le_of_ble_eq_true rfl, Nat.le_of_ble_eq_true rfl⟩ 36 8 rfl rfl (rfl) hl.1 rfl (Nat.le_of_ble_eq_true rfl) dX8_bestQuestion_13 (fun r3 u H locs hw hP hD hS => ?_)
        obtain ⟨v4, f5⟩ := u
        obtain ⟨kV_v4, kF_f5, hIv4, hk0_v4, hk1_v4, hk7_v4, hk8_v4, hk9_v4, hk10_v4, hk31_v4, hk32_v4⟩ := hw
        have hM_v4 : KV [] v4 v := KV.tr kV_v4 hM_v1 rfl
        have hA_f5 : KF [13, 14, 27] f5 f := KF.tr kF_f5 hA_f1 rfl
        have hP : va_P (dC, dI) vwCl (XW cy x0 x v4 f5) H := hP
        have hD : va_D A (XW cy x0 x v4 f5) := hD
        have hq0_v4 : v4 0 = (v 0) := hk0_v4.trans hq0_v1
        have hq1_v4 : v4 1 = (v 1) := hk1_v4.trans hq1_v1
        have hq7_v4 : v4 7 = (v 7) := hk7_v4.trans hq7_v1
        have hq8_v4 : v4 8 = (v 8) := hk8_v4.trans hq8_v1
        have hq9_v4 : v4 9 = (v 9) := hk9_v4.trans hq9_v1
        have hq10_v4 : v4 10 = (v 10) := hk10_v4.trans hq10_v1
        have hq31_v4 : v4 31 = (v 31) := hk31_v4.trans hq31_v1
        have hq32_v4 : v4 32 = (v 32) := hk32_v4.trans hq32_v1
        refine lv_aload_n hx hb dX8_bestQuestion_16 rfl (lv_at hl 2 rfl) ?_
        refine lv_iload_n hx hb dX8_bestQuestion_17 rfl (lv_at hl 3 rfl) ?_
        refine lv_iload_n hx hb dX8_bestQuestion_18 rfl (lv_at hl 1 rfl) ?_
        refine cbVi (n := 2) (rest := [.int r3]) hx hb hml hown hts hE hP hD hS hA (sX_X8_leftAtMost_1 l dC dI cy x0 x p1 l2_1 v4 f5 hIv4 ) k_1283 k_1284 k_1285 k_112 k_1286 hd_yX8_leftAtMost ⟨Nat.le_of_ble_eq_true rfl, Nat.le_of_ble_eq_true rfl⟩ 36 8 rfl rfl (rfl) hl.1 rfl (Nat.le_of_ble_eq_true rfl) dX8_bestQuestion_19 (fun r6 u H locs hw hP hD hS => ?_)
        obtain ⟨v7, f8⟩ := u
        obtain ⟨kV_v7, kF_f8, hIv7, hk0_v7, hk1_v7, hk7_v7, hk8_v7, hk9_v7, hk10_v7, hk31_v7, hk32_v7⟩ := hw
        have hM_v7 : KV [] v7 v := KV.tr kV_v7 hM_v4 rfl
        have hA_f8 : KF [13, 14, 27] f8 f := KF.tr kF_f8 hA_f5 rfl
        have hP : va_P (dC, dI) vwCl (XW cy x0 x v7 f8) H := hP
        have hD : va_D A (XW cy x0 x v7 f8) := hD
        have hq0_v7 : v7 0 = (v 0) := hk0_v7.trans hq0_v4
        have hq1_v7 : v7 1 = (v 1) := hk1_v7.trans hq1_v4
        have hq7_v7 : v7 7 = (v 7) := hk7_v7.trans hq7_v4
        have hq8_v7 : v7 8 = (v 8) := hk8_v7.trans hq8_v4
        have hq9_v7 : v7 9 = (v 9) := hk9_v7.trans hq9_v4
        have hq10_v7 : v7 10 = (v 10) := hk10_v7.trans hq10_v4
        have hq31_v7 : v7 31 = (v 31) := hk31_v7.trans hq31_v4
        have hq32_v7 : v7 32 = (v 32) := hk32_v7.trans hq32_v4
        refine lv_icmp_ge (tgt := 27) hx hb dX8_bestQuestion_22 rfl (fun c9 => ?_) (fun c9 => ?_)
        · skip
          obtain ⟨t12, et12⟩ : ∃ y : Int32, y = l3_1 + 1 := ⟨_, rfl⟩
          have zt12 : t12.toInt = l3_1.toInt + 1 := (congrArg Int32.toInt et12).trans (add_i rfl tc_1 (om_259 hr3_1) (om_257 zc2))
          refine lv_iinc (v := t12) (lv' := [(3, .int t12), (2, .int l2_1), (0, .ref (x 35)), (1, .int p1)]) hx hb dX8_bestQuestion_27 hl (k := 0) rfl et12.symm (Nat.le_of_ble_eq_true rfl) rfl (fun ls hl => ?_)
          refine lv_goto (tgt := 4) hx hb dX8_bestQuestion_30 rfl ?_
          have rg14 := fb_rng t12
          exact ih1 l2_1 t12 v7 f8 hIv7 hq0_v7 hq1_v7 hq7_v7 hq8_v7 hq9_v7 hq10_v7 hq31_v7 hq32_v7 ⟨show (1 : Int) ≤ t12.toInt from om_260 hr3_1 zt12, show t12.toInt ≤ (2147483647 : Int) from om_44 rg14⟩ hM_v7 hA_f8 (show (2147483647 - t12.toInt).toNat < n1 from om_33 hm1 zt12 rg14) _ _ _ hP hD hS (lv_sub hl [0, 1, 2, 3] rfl)
        · skip
          refine lv_iload_n hx hb dX8_bestQuestion_25 rfl (lv_at hl 0 rfl) ?_
          refine lv_istore_n (lv' := [(2, .int l3_1), (3, .int l3_1), (0, .ref (x 35)), (1, .int p1)]) hx hb dX8_bestQuestion_26 rfl hl (Nat.le_of_ble_eq_true rfl) rfl (fun ls hl => ?_)
          obtain ⟨t17, et17⟩ : ∃ y : Int32, y = l3_1 + 1 := ⟨_, rfl⟩
          have zt17 : t17.toInt = l3_1.toInt + 1 := (congrArg Int32.toInt et17).trans (add_i rfl tc_1 (om_259 hr3_1) (om_257 zc2))
          refine lv_iinc (v := t17) (lv' := [(3, .int t17), (2, .int l3_1), (0, .ref (x 35)), (1, .int p1)]) hx hb dX8_bestQuestion_27 hl (k := 1) rfl et17.symm (Nat.le_of_ble_eq_true rfl) rfl (fun ls hl => ?_)
          refine lv_goto (tgt := 4) hx hb dX8_bestQuestion_30 rfl ?_
          have rg19 := fb_rng t17
          exact ih1 l3_1 t17 v7 f8 hIv7 hq0_v7 hq1_v7 hq7_v7 hq8_v7 hq9_v7 hq10_v7 hq31_v7 hq32_v7 ⟨show (1 : Int) ≤ t17.toInt from om_260 hr3_1 zt17, show t17.toInt ≤ (2147483647 : Int) from om_44 rg19⟩ hM_v7 hA_f8 (show (2147483647 - t17.toInt).toNat < n1 from om_33 hm1 zt17 rg19) _ _ _ hP hD hS (lv_sub hl [0, 1, 2, 3] rfl)
  exact lp1 _ 0 1 v f hIv rfl rfl rfl rfl rfl rfl rfl rfl ⟨by decide, by decide⟩ hM_v hA_f (Nat.lt_succ_self _) _ _ _ hP hD hS (lv_sub hl [0, 1, 2, 3] rfl)
set_option maxHeartbeats 4000000 in
set_option maxRecDepth 100000 in
theorem sX_X10_ask_1 (l : Launch) (dC : Nat → ClassId) (dI : Nat → Nat → Nat) (cy : Nat → ClassId) (x0 : Nat) (x : Nat → Nat) (p1 : Int32) (p2 : Int32) (v : Nat → Int32) (f : Nat → Nat → Int32) (hIv : XI v)  : ctI l (dC, dI) cy yX10_ask cX10_ask 5 .int 7 204 0 0 ((Nat → Int32) × (Nat → Nat → Int32)) [.ref x0, .int p1, .int p2] (XW cy x0 x v f) (fun r u => KV [] u.1 v ∧ KF [13, 14, 27] u.2 f ∧ XI u.1 ∧ u.1 0 = v 0 ∧ u.1 1 = v 1 ∧ u.1 7 = v 7 ∧ u.1 8 = v 8 ∧ u.1 9 = v 9 ∧ u.1 10 = v 10 ∧ u.1 31 = v 31 ∧ u.1 32 = v 32) (fun u => XW cy x0 x u.1 u.2) := by
  refine ctI_of (by decide) (Nat.le_of_ble_eq_true rfl) (fun p e s m below meth c A ls Q hx hb hml hts hown hE hP hD hA hl ret => ?_)
  have hM_v : KV [] v v := fun _ _ => rfl
  have hA_f : KF [13, 14, 27] f f := fun _ _ => rfl
  have hown : s.vm.findClass RX10 = some m.cls := hown
  have hS : va_S A s.heap s.heap [] := va_S.rf
  have hl : lv_has ls 5 [(0, .ref x0), (1, .int p1), (2, .int p2)] := hl
  refine lv_aload_n hx hb dX10_ask_0 rfl (lv_at hl 0 rfl) ?_
  refine va_get (D := (dC, dI)) (ci := 10) (v := .ref (x 35)) (C := RX10) (T := TX10) (N := 10) hx hb hts inB_10 hown hE.1 hP 0 rfl rfl 8 (Nat.le_of_ble_eq_true rfl) (hts _ k_499) (fun _ h9 => h9) rfl dX10_ask_1 ?_
  refine lv_iload_n hx hb dX10_ask_4 rfl (lv_at hl 2 rfl) ?_
  refine cbVi (n := 1) (rest := []) hx hb hml hown hts hE hP hD hS hA (sX_X8_growthsAt_1 l dC dI cy x0 x p2 v f hIv ) k_1247 k_1248 k_1249 k_112 k_1250 hd_yX8_growthsAt ⟨Nat.le_of_ble_eq_true rfl, Nat.le_of_ble_eq_true rfl⟩ 36 8 rfl rfl (rfl) hl.1 rfl (Nat.le_of_ble_eq_true rfl) dX10_ask_5 (fun r1 u H locs hw hP hD hS => ?_)
  obtain ⟨v2, f3⟩ := u
  obtain ⟨kV_v2, kF_f3, hIv2, hk0_v2, hk1_v2, hk7_v2, hk8_v2, hk9_v2, hk10_v2, hk31_v2, hk32_v2⟩ := hw
  have hM_v2 : KV [] v2 v := KV.tr kV_v2 hM_v rfl
  have hA_f3 : KF [13, 14, 27] f3 f := KF.tr kF_f3 hA_f rfl
  have hP : va_P (dC, dI) vwCl (XW cy x0 x v2 f3) H := hP
  have hD : va_D A (XW cy x0 x v2 f3) := hD
  refine lv_istore_n (lv' := [(3, .int r1), (0, .ref x0), (1, .int p1), (2, .int p2)]) hx hb dX10_ask_8 rfl hl (Nat.le_of_ble_eq_true rfl) rfl (fun ls hl => ?_)
  refine lv_iload_n hx hb dX10_ask_9 rfl (lv_at hl 0 rfl) ?_
  refine lv_if_eq (tgt := 22) hx hb dX10_ask_10 rfl (fun c4 => ?_) (fun c4 => ?_)
  · skip
    refine lv_iconst (v := (-1)) hx hb dX10_ask_22 rfl ?_
    exact ret (-1) (v2, f3) _ _ _ _ _ _ rfl ⟨hM_v2, hA_f3, hIv2, hk0_v2, hk1_v2, hk7_v2, hk8_v2, hk9_v2, hk10_v2, hk31_v2, hk32_v2⟩ hP hD hS dX10_ask_23 (Nat.le_refl _) (Nat.le_refl _)
  · skip
    refine lv_iload_n hx hb dX10_ask_13 rfl (lv_at hl 2 rfl) ?_
    refine lv_if_lt (tgt := 22) hx hb dX10_ask_14 rfl (fun c5 => ?_) (fun c5 => ?_)
    · skip
      refine lv_iconst (v := (-1)) hx hb dX10_ask_22 rfl ?_
      exact ret (-1) (v2, f3) _ _ _ _ _ _ rfl ⟨hM_v2, hA_f3, hIv2, hk0_v2, hk1_v2, hk7_v2, hk8_v2, hk9_v2, hk10_v2, hk31_v2, hk32_v2⟩ hP hD hS dX10_ask_23 (Nat.le_refl _) (Nat.le_refl _)
    · skip
      refine lv_iload_n hx hb dX10_ask_17 rfl (lv_at hl 2 rfl) ?_
      refine lv_iconst (v := 1) hx hb dX10_ask_18 rfl ?_
      refine lv_icmp_le (tgt := 24) hx hb dX10_ask_19 rfl (fun c6 => ?_) (fun c6 => ?_)
      · skip
        refine lv_aload_n hx hb dX10_ask_24 rfl (lv_at hl 1 rfl) ?_
        refine va_get (D := (dC, dI)) (ci := 10) (v := .ref (x 35)) (C := RX10) (T := TX10) (N := 10) hx hb hts inB_10 hown hE.1 hP 0 rfl rfl 8 (Nat.le_of_ble_eq_true rfl) (hts _ k_499) (fun _ h9 => h9) rfl dX10_ask_25 ?_
        refine lv_iload_n hx hb dX10_ask_28 rfl (lv_at hl 0 rfl) ?_
        refine cbVi (n := 1) (rest := []) hx hb hml hown hts hE hP hD hS hA (sX_X8_bestQuestion_1 l dC dI cy x0 x r1 v2 f3 hIv2 ) k_1279 k_1280 k_1281 k_112 k_1282 hd_yX8_bestQuestion ⟨Nat.le_of_ble_eq_true rfl, Nat.le_of_ble_eq_true rfl⟩ 36 8 rfl rfl (rfl) hl.1 rfl (Nat.le_of_ble_eq_true rfl) dX10_ask_29 (fun r7 u H locs hw hP hD hS => ?_)
        obtain ⟨v8, f9⟩ := u
        obtain ⟨kV_v8, kF_f9, hIv8, hk0_v8, hk1_v8, hk7_v8, hk8_v8, hk9_v8, hk10_v8, hk31_v8, hk32_v8⟩ := hw
        have hM_v8 : KV [] v8 v := KV.tr kV_v8 hM_v2 rfl
        have hA_f9 : KF [13, 14, 27] f9 f := KF.tr kF_f9 hA_f3 rfl
        have hP : va_P (dC, dI) vwCl (XW cy x0 x v8 f9) H := hP
        have hD : va_D A (XW cy x0 x v8 f9) := hD
        refine lv_istore (lv' := [(4, .int r7), (3, .int r1), (0, .ref x0), (1, .int p1), (2, .int p2)]) hx hb dX10_ask_32 hl (Nat.le_of_ble_eq_true rfl) rfl (fun ls hl => ?_)
        refine lv_iload_n hx hb dX10_ask_34 rfl (lv_at hl 3 rfl) ?_
        refine lv_if_ne (tgt := 43) hx hb dX10_ask_35 rfl (fun c10 => ?_) (fun c10 => ?_)
        · skip
          refine lv_aload_n hx hb dX10_ask_43 rfl (lv_at hl 2 rfl) ?_
          refine va_get (D := (dC, dI)) (ci := 10) (v := .ref (x 35)) (C := RX10) (T := TX10) (N := 10) hx hb hts inB_10 hown hE.1 hP 0 rfl rfl 8 (Nat.le_of_ble_eq_true rfl) (hts _ k_499) (fun _ h9 => h9) rfl dX10_ask_44 ?_
          refine lv_iload_n hx hb dX10_ask_47 rfl (lv_at hl 1 rfl) ?_
          refine lv_iload hx hb dX10_ask_48 (lv_at hl 0 rfl) ?_
          refine cbVi (n := 2) (rest := []) hx hb hml hown hts hE hP hD hS hA (sX_X8_leftAtMost_1 l dC dI cy x0 x r1 r7 v8 f9 hIv8 ) k_1289 k_1284 k_1285 k_112 k_1286 hd_yX8_leftAtMost ⟨Nat.le_of_ble_eq_true rfl, Nat.le_of_ble_eq_true rfl⟩ 36 8 rfl rfl (rfl) hl.1 rfl (Nat.le_of_ble_eq_true rfl) dX10_ask_50 (fun r11 u H locs hw hP hD hS => ?_)
          obtain ⟨v12, f13⟩ := u
          obtain ⟨kV_v12, kF_f13, hIv12, hk0_v12, hk1_v12, hk7_v12, hk8_v12, hk9_v12, hk10_v12, hk31_v12, hk32_v12⟩ := hw
          have hM_v12 : KV [] v12 v := KV.tr kV_v12 hM_v8 rfl
          have hA_f13 : KF [13, 14, 27] f13 f := KF.tr kF_f13 hA_f9 rfl
          have hP : va_P (dC, dI) vwCl (XW cy x0 x v12 f13) H := hP
          have hD : va_D A (XW cy x0 x v12 f13) := hD
          exact ret r11 (v12, f13) _ _ _ _ _ _ rfl ⟨hM_v12, hA_f13, hIv12, (hk0_v12.trans (hk0_v8.trans hk0_v2)), (hk1_v12.trans (hk1_v8.trans hk1_v2)), (hk7_v12.trans (hk7_v8.trans hk7_v2)), (hk8_v12.trans (hk8_v8.trans hk8_v2)), (hk9_v12.trans (hk9_v8.trans hk9_v2)), (hk10_v12.trans (hk10_v8.trans hk10_v2)), (hk31_v12.trans (hk31_v8.trans hk31_v2)), (hk32_v12.trans (hk32_v8.trans hk32_v2))⟩ hP hD hS dX10_ask_53 (Nat.le_refl _) (Nat.le_refl _)
        · skip
          refine lv_iload hx hb dX10_ask_38 (lv_at hl 0 rfl) ?_
          refine lv_goto (tgt := 53) hx hb dX10_ask_40 rfl ?_
          exact ret r7 (v8, f9) _ _ _ _ _ _ rfl ⟨hM_v8, hA_f9, hIv8, (hk0_v8.trans hk0_v2), (hk1_v8.trans hk1_v2), (hk7_v8.trans hk7_v2), (hk8_v8.trans hk8_v2), (hk9_v8.trans hk9_v2), (hk10_v8.trans hk10_v2), (hk31_v8.trans hk31_v2), (hk32_v8.trans hk32_v2)⟩ hP hD hS dX10_ask_53 (Nat.le_refl _) (Nat.le_refl _)
      · skip
        refine lv_iconst (v := (-1)) hx hb dX10_ask_22 rfl ?_
        exact ret (-1) (v2, f3) _ _ _ _ _ _ rfl ⟨hM_v2, hA_f3, hIv2, hk0_v2, hk1_v2, hk7_v2, hk8_v2, hk9_v2, hk10_v2, hk31_v2, hk32_v2⟩ hP hD hS dX10_ask_23 (Nat.le_refl _) (Nat.le_refl _)
set_option maxHeartbeats 4000000 in
set_option maxRecDepth 100000 in
theorem sX_X1_seed_1 (l : Launch) (dC : Nat → ClassId) (dI : Nat → Nat → Nat) (cy : Nat → ClassId) (x0 : Nat) (x : Nat → Nat)  (v : Nat → Int32) (f : Nat → Nat → Int32) (hIv : XI v)  : ctI l (dC, dI) cy yX1_seed cX1_seed 1 .int 1 60 0 0 Unit [.ref (x 21)] (XW cy x0 x v f) (fun r u => True) (fun u => XW cy x0 x v f) := by
  refine ctI_of (by decide) (Nat.le_of_ble_eq_true rfl) (fun p e s m below meth c A ls Q hx hb hml hts hown hE hP hD hA hl ret => ?_)
  have hown : s.vm.findClass RX1 = some m.cls := hown
  have hS : va_S A s.heap s.heap [] := va_S.rf
  have hl : lv_has ls 1 [(0, .ref (x 21))] := hl
  refine lv_aload_n hx hb dX1_seed_0 rfl (lv_at hl 0 rfl) ?_
  refine va_get (D := (dC, dI)) (ci := 1) (v := .ref (x 22)) (C := RX1) (T := TX1) (N := 2) hx hb hts inB_1 hown hE.1 hP 22 rfl rfl 1 (Nat.le_of_ble_eq_true rfl) (hts _ k_319) (fun _ h9 => h9) rfl dX1_seed_1 ?_
  refine lv_bipush (v := 43) hx hb dX1_seed_4 rfl ?_
  refine ldI hx hb hE hP 23 rfl (vp_in_nI (n := 43) (by decide) (by decide)) rfl rfl dX1_seed_6 ?_
  refine lv_topi (fun t1 et1 => ?_)
  exact ret t1 () _ _ _ _ _ _ rfl trivial hP hD hS dX1_seed_7 (Nat.le_refl _) (Nat.le_refl _)
set_option maxHeartbeats 4000000 in
set_option maxRecDepth 100000 in
theorem sX_X10_about_1 (l : Launch) (dC : Nat → ClassId) (dI : Nat → Nat → Nat) (cy : Nat → ClassId) (x0 : Nat) (x : Nat → Nat) (p1 : Int32) (v : Nat → Int32) (f : Nat → Nat → Int32) (hIv : XI v)  : ctI l (dC, dI) cy yX10_about cX10_about 2 .int 2 80 0 0 Unit [.ref x0, .int p1] (XW cy x0 x v f) (fun r u => True) (fun u => XW cy x0 x v f) := by
  refine ctI_of (by decide) (Nat.le_of_ble_eq_true rfl) (fun p e s m below meth c A ls Q hx hb hml hts hown hE hP hD hA hl ret => ?_)
  have hown : s.vm.findClass RX10 = some m.cls := hown
  have hS : va_S A s.heap s.heap [] := va_S.rf
  have hl : lv_has ls 2 [(0, .ref x0), (1, .int p1)] := hl
  refine lv_iload_n hx hb dX10_about_0 rfl (lv_at hl 1 rfl) ?_
  by_cases c1 : p1 = 0
  · skip
    refine lv_tableIn (off := 71) (tgt := 72) hx hb dX10_about_1 (by rw [c1]; decide) (by rw [c1]; decide) (by rw [c1]; decide) (by decide) ?_
    refine lv_aload_n hx hb dX10_about_72 rfl (lv_at hl 0 rfl) ?_
    refine va_get (D := (dC, dI)) (ci := 10) (v := .ref (x 26)) (C := RX10) (T := TX10) (N := 10) hx hb hts inB_10 hown hE.1 hP 0 rfl rfl 2 (Nat.le_of_ble_eq_true rfl) (hts _ k_493) (fun _ h9 => h9) rfl dX10_about_73 ?_
    refine va_getN (D := (dC, dI)) (ci := 7) (v := .int (v 31)) (C := RX7) (T := TX7) (N := 10) hx hb hts inB_7 hown hE.1 hP 27 rfl rfl 3 (Nat.le_of_ble_eq_true rfl) (va_Nw.use rfl (hE.2 _ k_214)) (fun _ h9 => h9) rfl dX10_about_76 ?_
    exact ret (v 31) () _ _ _ _ _ _ rfl trivial hP hD hS dX10_about_79 (Nat.le_refl _) (Nat.le_refl _)
  · skip
    have zc1 : ¬ (p1.toInt = 0) := zEn rfl tc_0 c1
    by_cases c2 : p1 = 1
    · skip
      refine lv_tableIn (off := 79) (tgt := 80) hx hb dX10_about_1 (by rw [c2]; decide) (by rw [c2]; decide) (by rw [c2]; decide) (by decide) ?_
      refine lv_aload_n hx hb dX10_about_80 rfl (lv_at hl 0 rfl) ?_
      refine va_get (D := (dC, dI)) (ci := 10) (v := .ref (x 26)) (C := RX10) (T := TX10) (N := 10) hx hb hts inB_10 hown hE.1 hP 0 rfl rfl 2 (Nat.le_of_ble_eq_true rfl) (hts _ k_493) (fun _ h9 => h9) rfl dX10_about_81 ?_
      refine va_getN (D := (dC, dI)) (ci := 7) (v := .int (v 32)) (C := RX7) (T := TX7) (N := 10) hx hb hts inB_7 hown hE.1 hP 27 rfl rfl 4 (Nat.le_of_ble_eq_true rfl) (va_Nw.use rfl (hE.2 _ k_227)) (fun _ h9 => h9) rfl dX10_about_84 ?_
      exact ret (v 32) () _ _ _ _ _ _ rfl trivial hP hD hS dX10_about_87 (Nat.le_refl _) (Nat.le_refl _)
    · skip
      have zc2 : ¬ (p1.toInt = 1) := zEn rfl tc_1 c2
      by_cases c3 : p1 = 2
      · skip
        refine lv_tableIn (off := 87) (tgt := 88) hx hb dX10_about_1 (by rw [c3]; decide) (by rw [c3]; decide) (by rw [c3]; decide) (by decide) ?_
        refine lv_aload_n hx hb dX10_about_88 rfl (lv_at hl 0 rfl) ?_
        refine va_get (D := (dC, dI)) (ci := 10) (v := .ref (x 26)) (C := RX10) (T := TX10) (N := 10) hx hb hts inB_10 hown hE.1 hP 0 rfl rfl 2 (Nat.le_of_ble_eq_true rfl) (hts _ k_493) (fun _ h9 => h9) rfl dX10_about_89 ?_
        refine va_getN (D := (dC, dI)) (ci := 7) (v := .int (v 33)) (C := RX7) (T := TX7) (N := 10) hx hb hts inB_7 hown hE.1 hP 27 rfl rfl 5 (Nat.le_of_ble_eq_true rfl) (va_Nw.use rfl (hE.2 _ k_233)) (fun _ h9 => h9) rfl dX10_about_92 ?_
        exact ret (v 33) () _ _ _ _ _ _ rfl trivial hP hD hS dX10_about_95 (Nat.le_refl _) (Nat.le_refl _)
      · skip
        have zc3 : ¬ (p1.toInt = 2) := zEn rfl tc_2 c3
        by_cases c4 : p1 = 3
        · skip
          refine lv_tableIn (off := 95) (tgt := 96) hx hb dX10_about_1 (by rw [c4]; decide) (by rw [c4]; decide) (by rw [c4]; decide) (by decide) ?_
          refine lv_aload_n hx hb dX10_about_96 rfl (lv_at hl 0 rfl) ?_
          refine va_get (D := (dC, dI)) (ci := 10) (v := .ref (x 26)) (C := RX10) (T := TX10) (N := 10) hx hb hts inB_10 hown hE.1 hP 0 rfl rfl 2 (Nat.le_of_ble_eq_true rfl) (hts _ k_493) (fun _ h9 => h9) rfl dX10_about_97 ?_
          refine va_getN (D := (dC, dI)) (ci := 7) (v := .int (v 34)) (C := RX7) (T := TX7) (N := 10) hx hb hts inB_7 hown hE.1 hP 27 rfl rfl 6 (Nat.le_of_ble_eq_true rfl) (va_Nw.use rfl (hE.2 _ k_236)) (fun _ h9 => h9) rfl dX10_about_100 ?_
          exact ret (v 34) () _ _ _ _ _ _ rfl trivial hP hD hS dX10_about_103 (Nat.le_refl _) (Nat.le_refl _)
        · skip
          have zc4 : ¬ (p1.toInt = 3) := zEn rfl tc_3 c4
          by_cases c5 : p1 = 4
          · skip
            refine lv_tableIn (off := 103) (tgt := 104) hx hb dX10_about_1 (by rw [c5]; decide) (by rw [c5]; decide) (by rw [c5]; decide) (by decide) ?_
            refine lv_aload_n hx hb dX10_about_104 rfl (lv_at hl 0 rfl) ?_
            refine va_get (D := (dC, dI)) (ci := 10) (v := .ref (x 26)) (C := RX10) (T := TX10) (N := 10) hx hb hts inB_10 hown hE.1 hP 0 rfl rfl 2 (Nat.le_of_ble_eq_true rfl) (hts _ k_493) (fun _ h9 => h9) rfl dX10_about_105 ?_
            refine va_getN (D := (dC, dI)) (ci := 7) (v := .int (v 35)) (C := RX7) (T := TX7) (N := 10) hx hb hts inB_7 hown hE.1 hP 27 rfl rfl 7 (Nat.le_of_ble_eq_true rfl) (va_Nw.use rfl (hE.2 _ k_239)) (fun _ h9 => h9) rfl dX10_about_108 ?_
            exact ret (v 35) () _ _ _ _ _ _ rfl trivial hP hD hS dX10_about_111 (Nat.le_refl _) (Nat.le_refl _)
          · skip
            have zc5 : ¬ (p1.toInt = 4) := zEn rfl tc_4 c5
            by_cases c6 : p1 = 5
            · skip
              refine lv_tableIn (off := 111) (tgt := 112) hx hb dX10_about_1 (by rw [c6]; decide) (by rw [c6]; decide) (by rw [c6]; decide) (by decide) ?_
              refine lv_aload_n hx hb dX10_about_112 rfl (lv_at hl 0 rfl) ?_
              refine va_get (D := (dC, dI)) (ci := 10) (v := .ref (x 21)) (C := RX10) (T := TX10) (N := 10) hx hb hts inB_10 hown hE.1 hP 0 rfl rfl 3 (Nat.le_of_ble_eq_true rfl) (hts _ k_494) (fun _ h9 => h9) rfl dX10_about_113 ?_
              refine cbVi (n := 0) (rest := []) hx hb hml hown hts hE hP hD hS hA (sX_X1_today_1 0 l dC dI cy x0 x  v f hIv ) k_864 k_832 k_833 k_106 k_834 hd_yX1_today ⟨Nat.le_of_ble_eq_true rfl, Nat.le_of_ble_eq_true rfl⟩ 22 1 rfl rfl (rfl) hl.1 rfl (Nat.le_of_ble_eq_true rfl) dX10_about_116 (fun r7 u H locs hw hP hD hS => ?_)
              have hG8 := hw
              exact ret r7 () _ _ _ _ _ _ rfl trivial hP hD hS dX10_about_119 (Nat.le_refl _) (Nat.le_refl _)
            · skip
              have zc6 : ¬ (p1.toInt = 5) := zEn rfl tc_5 c6
              by_cases c9 : p1 = 6
              · skip
                refine lv_tableIn (off := 119) (tgt := 120) hx hb dX10_about_1 (by rw [c9]; decide) (by rw [c9]; decide) (by rw [c9]; decide) (by decide) ?_
                refine lv_aload_n hx hb dX10_about_120 rfl (lv_at hl 0 rfl) ?_
                refine va_get (D := (dC, dI)) (ci := 10) (v := .ref (x 21)) (C := RX10) (T := TX10) (N := 10) hx hb hts inB_10 hown hE.1 hP 0 rfl rfl 3 (Nat.le_of_ble_eq_true rfl) (hts _ k_494) (fun _ h9 => h9) rfl dX10_about_121 ?_
                refine cbVi (n := 0) (rest := []) hx hb hml hown hts hE hP hD hS hA (sX_X1_seed_1 l dC dI cy x0 x  v f hIv ) k_1310 k_1311 k_1312 k_106 k_1313 hd_yX1_seed ⟨Nat.le_of_ble_eq_true rfl, Nat.le_of_ble_eq_true rfl⟩ 22 1 rfl rfl (rfl) hl.1 rfl (Nat.le_of_ble_eq_true rfl) dX10_about_124 (fun r10 u H locs hw hP hD hS => ?_)
                exact ret r10 () _ _ _ _ _ _ rfl trivial hP hD hS dX10_about_127 (Nat.le_refl _) (Nat.le_refl _)
              · skip
                have zc9 : ¬ (p1.toInt = 6) := zEn rfl tc_6 c9
                by_cases c11 : p1 = 7
                · skip
                  refine lv_tableIn (off := 127) (tgt := 128) hx hb dX10_about_1 (by rw [c11]; decide) (by rw [c11]; decide) (by rw [c11]; decide) (by decide) ?_
                  refine lv_aload_n hx hb dX10_about_128 rfl (lv_at hl 0 rfl) ?_
                  refine va_get (D := (dC, dI)) (ci := 10) (v := .ref (x 20)) (C := RX10) (T := TX10) (N := 10) hx hb hts inB_10 hown hE.1 hP 0 rfl rfl 4 (Nat.le_of_ble_eq_true rfl) (hts _ k_495) (fun _ h9 => h9) rfl dX10_about_129 ?_
                  refine va_getN (D := (dC, dI)) (ci := 5) (v := .int (v 22)) (C := RX5) (T := TX5) (N := 7) hx hb hts inB_5 hown hE.1 hP 21 rfl rfl 5 (Nat.le_of_ble_eq_true rfl) (va_Nw.use rfl (hE.2 _ k_344)) (fun _ h9 => h9) rfl dX10_about_132 ?_
                  exact ret (v 22) () _ _ _ _ _ _ rfl trivial hP hD hS dX10_about_135 (Nat.le_refl _) (Nat.le_refl _)
                · skip
                  have zc11 : ¬ (p1.toInt = 7) := zEn rfl tc_7 c11
                  by_cases c12 : p1 = 8
                  · skip
                    refine lv_tableIn (off := 135) (tgt := 136) hx hb dX10_about_1 (by rw [c12]; decide) (by rw [c12]; decide) (by rw [c12]; decide) (by decide) ?_
                    refine lv_aload_n hx hb dX10_about_136 rfl (lv_at hl 0 rfl) ?_
                    refine va_get (D := (dC, dI)) (ci := 10) (v := .ref (x 20)) (C := RX10) (T := TX10) (N := 10) hx hb hts inB_10 hown hE.1 hP 0 rfl rfl 4 (Nat.le_of_ble_eq_true rfl) (hts _ k_495) (fun _ h9 => h9) rfl dX10_about_137 ?_
                    refine va_getN (D := (dC, dI)) (ci := 5) (v := .int (v 23)) (C := RX5) (T := TX5) (N := 7) hx hb hts inB_5 hown hE.1 hP 21 rfl rfl 6 (Nat.le_of_ble_eq_true rfl) (va_Nw.use rfl (hE.2 _ k_346)) (fun _ h9 => h9) rfl dX10_about_140 ?_
                    exact ret (v 23) () _ _ _ _ _ _ rfl trivial hP hD hS dX10_about_143 (Nat.le_refl _) (Nat.le_refl _)
                  · skip
                    have zc12 : ¬ (p1.toInt = 8) := zEn rfl tc_8 c12
                    by_cases c13 : p1 = 9
                    · skip
                      refine lv_tableIn (off := 143) (tgt := 144) hx hb dX10_about_1 (by rw [c13]; decide) (by rw [c13]; decide) (by rw [c13]; decide) (by decide) ?_
                      refine lv_aload_n hx hb dX10_about_144 rfl (lv_at hl 0 rfl) ?_
                      refine va_get (D := (dC, dI)) (ci := 10) (v := .ref (x 35)) (C := RX10) (T := TX10) (N := 10) hx hb hts inB_10 hown hE.1 hP 0 rfl rfl 8 (Nat.le_of_ble_eq_true rfl) (hts _ k_499) (fun _ h9 => h9) rfl dX10_about_145 ?_
                      refine va_getN (D := (dC, dI)) (ci := 8) (v := .int (v 41)) (C := RX8) (T := TX8) (N := 7) hx hb hts inB_8 hown hE.1 hP 36 rfl rfl 5 (Nat.le_of_ble_eq_true rfl) (va_Nw.use rfl (hE.2 _ k_473)) (fun _ h9 => h9) rfl dX10_about_148 ?_
                      exact ret (v 41) () _ _ _ _ _ _ rfl trivial hP hD hS dX10_about_151 (Nat.le_refl _) (Nat.le_refl _)
                    · skip
                      have zc13 : ¬ (p1.toInt = 9) := zEn rfl tc_9 c13
                      by_cases c14 : p1 = 10
                      · skip
                        refine lv_tableIn (off := 151) (tgt := 152) hx hb dX10_about_1 (by rw [c14]; decide) (by rw [c14]; decide) (by rw [c14]; decide) (by decide) ?_
                        refine lv_aload_n hx hb dX10_about_152 rfl (lv_at hl 0 rfl) ?_
                        refine va_get (D := (dC, dI)) (ci := 10) (v := .int (v 0)) (C := RX10) (T := TX10) (N := 10) hx hb hts inB_10 hown hE.1 hP 0 rfl rfl 9 (Nat.le_of_ble_eq_true rfl) (hts _ k_500) (fun _ h9 => h9) rfl dX10_about_153 ?_
                        exact ret (v 0) () _ _ _ _ _ _ rfl trivial hP hD hS dX10_about_156 (Nat.le_refl _) (Nat.le_refl _)
                      · skip
                        have zc14 : ¬ (p1.toInt = 10) := zEn rfl tc_10 c14
                        by_cases c15 : p1 = 11
                        · skip
                          refine lv_tableIn (off := 156) (tgt := 157) hx hb dX10_about_1 (by rw [c15]; decide) (by rw [c15]; decide) (by rw [c15]; decide) (by decide) ?_
                          refine lv_aload_n hx hb dX10_about_157 rfl (lv_at hl 0 rfl) ?_
                          refine va_get (D := (dC, dI)) (ci := 10) (v := .ref (x 0)) (C := RX10) (T := TX10) (N := 10) hx hb hts inB_10 hown hE.1 hP 0 rfl rfl 0 (Nat.le_of_ble_eq_true rfl) (hts _ k_491) (fun _ h9 => h9) rfl dX10_about_158 ?_
                          refine va_getN (D := (dC, dI)) (ci := 9) (v := .int (v 1)) (C := RX9) (T := TX9) (N := 6) hx hb hts inB_9 hown hE.1 hP 1 rfl rfl 1 (Nat.le_of_ble_eq_true rfl) (va_Nw.use rfl (hE.2 _ k_138)) (fun _ h9 => h9) rfl dX10_about_161 ?_
                          exact ret (v 1) () _ _ _ _ _ _ rfl trivial hP hD hS dX10_about_164 (Nat.le_refl _) (Nat.le_refl _)
                        · skip
                          have zc15 : ¬ (p1.toInt = 11) := zEn rfl tc_11 c15
                          by_cases c16 : p1 = 12
                          · skip
                            refine lv_tableIn (off := 164) (tgt := 165) hx hb dX10_about_1 (by rw [c16]; decide) (by rw [c16]; decide) (by rw [c16]; decide) (by decide) ?_
                            refine lv_aload_n hx hb dX10_about_165 rfl (lv_at hl 0 rfl) ?_
                            refine va_get (D := (dC, dI)) (ci := 10) (v := .ref (x 26)) (C := RX10) (T := TX10) (N := 10) hx hb hts inB_10 hown hE.1 hP 0 rfl rfl 2 (Nat.le_of_ble_eq_true rfl) (hts _ k_493) (fun _ h9 => h9) rfl dX10_about_166 ?_
                            refine va_getN (D := (dC, dI)) (ci := 7) (v := .ref (x 15)) (C := RX7) (T := TX7) (N := 10) hx hb hts inB_7 hown hE.1 hP 27 rfl rfl 2 (Nat.le_of_ble_eq_true rfl) (va_Nw.use rfl (hE.2 _ k_211)) (fun _ h9 => h9) rfl dX10_about_169 ?_
                            refine va_getN (D := (dC, dI)) (ci := 4) (v := .int (v 19)) (C := RX4) (T := TX4) (N := 6) hx hb hts inB_4 hown hE.1 hP 16 rfl rfl 5 (Nat.le_of_ble_eq_true rfl) (va_Nw.use rfl (hE.2 _ k_185)) (fun _ h9 => h9) rfl dX10_about_172 ?_
                            exact ret (v 19) () _ _ _ _ _ _ rfl trivial hP hD hS dX10_about_175 (Nat.le_refl _) (Nat.le_refl _)
                          · skip
                            have zc16 : ¬ (p1.toInt = 12) := zEn rfl tc_12 c16
                            by_cases c17 : p1 = 13
                            · skip
                              refine lv_tableIn (off := 175) (tgt := 176) hx hb dX10_about_1 (by rw [c17]; decide) (by rw [c17]; decide) (by rw [c17]; decide) (by decide) ?_
                              refine lv_aload_n hx hb dX10_about_176 rfl (lv_at hl 0 rfl) ?_
                              refine va_get (D := (dC, dI)) (ci := 10) (v := .ref (x 31)) (C := RX10) (T := TX10) (N := 10) hx hb hts inB_10 hown hE.1 hP 0 rfl rfl 7 (Nat.le_of_ble_eq_true rfl) (hts _ k_498) (fun _ h9 => h9) rfl dX10_about_177 ?_
                              refine va_getN (D := (dC, dI)) (ci := 0) (v := .int (v 38)) (C := RX0) (T := TX0) (N := 8) hx hb hts inB_0 hown hE.1 hP 32 rfl rfl 3 (Nat.le_of_ble_eq_true rfl) (va_Nw.use rfl (hE.2 _ k_434)) (fun _ h9 => h9) rfl dX10_about_180 ?_
                              exact ret (v 38) () _ _ _ _ _ _ rfl trivial hP hD hS dX10_about_183 (Nat.le_refl _) (Nat.le_refl _)
                            · skip
                              have zc17 : ¬ (p1.toInt = 13) := zEn rfl tc_13 c17
                              refine lv_tableOut (tgt := 184) hx hb dX10_about_1 (by omega) (by decide) ?_
                              refine lv_iconst (v := (-1)) hx hb dX10_about_184 rfl ?_
                              exact ret (-1) () _ _ _ _ _ _ rfl trivial hP hD hS dX10_about_185 (Nat.le_refl _) (Nat.le_refl _)
