set_option maxHeartbeats 4000000 in
set_option maxRecDepth 100000 in
theorem sX_X10_buttons_1 (l : Launch) (dC : Nat → ClassId) (dI : Nat → Nat → Nat) (cy : Nat → ClassId) (x0 : Nat) (x : Nat → Nat)  (v : Nat → Int32) (f : Nat → Nat → Int32) (hIv : XI v)  : ctI l (dC, dI) cy yX10_buttons cX10_buttons 1 .int 11 287 0 0 ((Nat → Int32) × (Nat → Nat → Int32)) [.ref x0] (XW cy x0 x v f) (fun r u => KV [38] u.1 v ∧ KF [20] u.2 f ∧ XI u.1 ∧ u.1 0 = v 0 ∧ u.1 1 = v 1 ∧ u.1 7 = v 7 ∧ u.1 8 = v 8 ∧ u.1 9 = v 9 ∧ u.1 10 = v 10 ∧ u.1 31 = v 31 ∧ u.1 32 = v 32) (fun u => XW cy x0 x u.1 u.2) := by
  refine ctI_of (by decide) (Nat.le_of_ble_eq_true rfl) (fun p e s m below meth c A ls Q hx hb hml hts hown hE hP hD hA hl ret => ?_)
  have hM_v : KV [38] v v := fun _ _ => rfl
  have hA_f : KF [20] f f := fun _ _ => rfl
  have hown : s.vm.findClass RX10 = some m.cls := hown
  have hS : va_S A s.heap s.heap [] := va_S.rf
  have hl : lv_has ls 1 [(0, .ref x0)] := hl
  refine lv_aload_n hx hb dX10_buttons_0 rfl (lv_at hl 0 rfl) ?_
  refine va_get (D := (dC, dI)) (ci := 10) (v := .ref (x 31)) (C := RX10) (T := TX10) (N := 10) hx hb hts inB_10 hown hE.1 hP 0 rfl rfl 7 (by decide) (hts _ k_498) (fun _ h9 => h9) rfl dX10_buttons_1 ?_
  refine cbVi (n := 0) (rest := []) hx hb hml hown hts hE hP hD hS hA (sX_X0_layColours_1 l dC dI cy x0 x  v f hIv ) k_1115 k_1116 k_1117 k_111 k_1118 (by decide +kernel) ⟨Nat.le_of_ble_eq_true rfl, Nat.le_of_ble_eq_true rfl⟩ 32 0 rfl rfl (rfl) hl.1 rfl (Nat.le_of_ble_eq_true rfl) dX10_buttons_4 (fun r1 u H locs hw hP hD hS => ?_)
  obtain ⟨v2, f3⟩ := u
  obtain ⟨kV_v2, kF_f3, hIv2, hk0_v2, hk1_v2, hk7_v2, hk8_v2, hk9_v2, hk10_v2, hk31_v2, hk32_v2⟩ := hw
  have hM_v2 : KV [38] v2 v := KV.tr kV_v2 hM_v rfl
  have hA_f3 : KF [20] f3 f := KF.tr kF_f3 hA_f rfl
  have hP : va_P (dC, dI) vwCl (XW cy x0 x v2 f3) H := hP
  have hD : va_D A (XW cy x0 x v2 f3) := hD
  have hq0_v2 : v2 0 = (v 0) := hk0_v2
  have hq1_v2 : v2 1 = (v 1) := hk1_v2
  have hq7_v2 : v2 7 = (v 7) := hk7_v2
  have hq8_v2 : v2 8 = (v 8) := hk8_v2
  have hq9_v2 : v2 9 = (v 9) := hk9_v2
  have hq10_v2 : v2 10 = (v 10) := hk10_v2
  have hq31_v2 : v2 31 = (v 31) := hk31_v2
  have hq32_v2 : v2 32 = (v 32) := hk32_v2
  exact ret r1 (v2, f3) _ _ _ _ _ _ rfl ⟨hM_v2, hA_f3, hIv2, hk0_v2, hk1_v2, hk7_v2, hk8_v2, hk9_v2, hk10_v2, hk31_v2, hk32_v2⟩ hP hD hS dX10_buttons_7 (Nat.le_refl _) (Nat.le_refl _)
set_option maxHeartbeats 4000000 in
set_option maxRecDepth 100000 in
theorem sX_X0_isFree_1 (l : Launch) (dC : Nat → ClassId) (dI : Nat → Nat → Nat) (cy : Nat → ClassId) (x0 : Nat) (x : Nat → Nat) (p1 : Int32) (v : Nat → Int32) (f : Nat → Nat → Int32) (hIv : XI v)  : ctI l (dC, dI) cy yX0_isFree cX0_isFree 2 .boolean 4 124 0 0 Unit [.ref (x 31), .int p1] (XW cy x0 x v f) (fun r u => ((r = 1) ∨ (r = 0))) (fun u => XW cy x0 x v f) := by
  refine ctI_of (by decide) (Nat.le_of_ble_eq_true rfl) (fun p e s m below meth c A ls Q hx hb hml hts hown hE hP hD hA hl ret => ?_)
  have hown : s.vm.findClass RX0 = some m.cls := hown
  have hS : va_S A s.heap s.heap [] := va_S.rf
  have hl : lv_has ls 2 [(0, .ref (x 31)), (1, .int p1)] := hl
  refine lv_aload_n hx hb dX0_isFree_0 rfl (lv_at hl 0 rfl) ?_
  refine va_get (D := (dC, dI)) (ci := 0) (v := .ref (x 21)) (C := RX0) (T := TX0) (N := 8) hx hb hts inB_0 hown hE.1 hP 32 rfl rfl 1 (by decide) (hts _ k_431) (fun _ h9 => h9) rfl dX0_isFree_1 ?_
  refine lv_iload_n hx hb dX0_isFree_4 rfl (lv_at hl 1 rfl) ?_
  refine cbVi (n := 1) (rest := []) hx hb hml hown hts hE hP hD hS hA (sX_X1_wearer_1 0 l dC dI cy x0 x p1 v f hIv ) k_1141 k_850 k_851 k_106 k_852 (by decide +kernel) ⟨Nat.le_of_ble_eq_true rfl, Nat.le_of_ble_eq_true rfl⟩ 22 1 rfl rfl (rfl) hl.1 rfl (Nat.le_of_ble_eq_true rfl) dX0_isFree_5 (fun r1 u H locs hw hP hD hS => ?_)
  have hG2 := hw
  refine lv_iconst (v := (-1)) hx hb dX0_isFree_8 (by decide) ?_
  refine lv_icmp_ne (tgt := 16) hx hb dX0_isFree_9 (by decide) (fun c3 => ?_) (fun c3 => ?_)
  · skip
    have zc3 : ¬ (r1.toInt = (-1)) := by rw [fa_eq, show ((-1) : Int32).toInt = -1 from by decide] at c3; exact c3
    refine lv_iconst (v := 0) hx hb dX0_isFree_16 (by decide) ?_
    exact ret 0 () _ _ _ _ _ _ rfl (Or.inr rfl) hP hD hS dX0_isFree_17 (Nat.le_refl _) (Nat.le_refl _)
  · skip
    have zc3 : r1.toInt = (-1) := by rw [fa_eq, show ((-1) : Int32).toInt = -1 from by decide] at c3; exact c3
    refine lv_iconst (v := 1) hx hb dX0_isFree_12 (by decide) ?_
    refine lv_goto (tgt := 17) hx hb dX0_isFree_13 (by decide) ?_
    exact ret 1 () _ _ _ _ _ _ rfl (Or.inl rfl) hP hD hS dX0_isFree_17 (Nat.le_refl _) (Nat.le_refl _)
set_option maxHeartbeats 4000000 in
set_option maxRecDepth 100000 in
theorem sX_X0_illGetting_1 (l : Launch) (dC : Nat → ClassId) (dI : Nat → Nat → Nat) (cy : Nat → ClassId) (x0 : Nat) (x : Nat → Nat) (p1 : Int32) (p2 : Int32) (p3 : Int32) (v : Nat → Int32) (f : Nat → Nat → Int32) (hIv : XI v)  : ctI l (dC, dI) cy yX0_illGetting cX0_illGetting 4 .int 4 133 0 0 ((Nat → Int32) × (Nat → Nat → Int32)) [.ref (x 31), .int p1, .int p2, .int p3] (XW cy x0 x v f) (fun r u => KV [] u.1 v ∧ KF [13, 14] u.2 f ∧ XI u.1 ∧ u.1 0 = v 0 ∧ u.1 1 = v 1 ∧ u.1 7 = v 7 ∧ u.1 8 = v 8 ∧ u.1 9 = v 9 ∧ u.1 10 = v 10 ∧ u.1 31 = v 31 ∧ u.1 32 = v 32) (fun u => XW cy x0 x u.1 u.2) := by
  refine ctI_of (by decide) (Nat.le_of_ble_eq_true rfl) (fun p e s m below meth c A ls Q hx hb hml hts hown hE hP hD hA hl ret => ?_)
  have hM_v : KV [] v v := fun _ _ => rfl
  have hA_f : KF [13, 14] f f := fun _ _ => rfl
  have hown : s.vm.findClass RX0 = some m.cls := hown
  have hS : va_S A s.heap s.heap [] := va_S.rf
  have hl : lv_has ls 4 [(0, .ref (x 31)), (1, .int p1), (2, .int p2), (3, .int p3)] := hl
  refine lv_iload_n hx hb dX0_illGetting_0 rfl (lv_at hl 2 rfl) ?_
  refine lv_iload_n hx hb dX0_illGetting_1 rfl (lv_at hl 3 rfl) ?_
  refine lv_icmp_ne (tgt := 11) hx hb dX0_illGetting_2 (by decide) (fun c1 => ?_) (fun c1 => ?_)
  · skip
    have zc1 : ¬ (p2.toInt = p3.toInt) := by rw [fa_eq] at c1; exact c1
    have rg2 := fb_rng p2
    have rg3 := fb_rng p3
    refine lv_aload_n hx hb dX0_illGetting_11 rfl (lv_at hl 0 rfl) ?_
    refine va_get (D := (dC, dI)) (ci := 0) (v := .ref (x 21)) (C := RX0) (T := TX0) (N := 8) hx hb hts inB_0 hown hE.1 hP 32 rfl rfl 1 (by decide) (hts _ k_431) (fun _ h9 => h9) rfl dX0_illGetting_12 ?_
    refine lv_iload_n hx hb dX0_illGetting_15 rfl (lv_at hl 1 rfl) ?_
    refine lv_iload_n hx hb dX0_illGetting_16 rfl (lv_at hl 2 rfl) ?_
    refine cbVi (n := 2) (rest := []) hx hb hml hown hts hE hP hD hS hA (sX_X1_illness_1 0 l dC dI cy x0 x p1 p2 v f hIv ) k_979 k_823 k_824 k_106 k_825 (by decide +kernel) ⟨Nat.le_of_ble_eq_true rfl, Nat.le_of_ble_eq_true rfl⟩ 22 1 rfl rfl (rfl) hl.1 rfl (Nat.le_of_ble_eq_true rfl) dX0_illGetting_17 (fun r4 u H locs hw hP hD hS => ?_)
    obtain ⟨hG5, hw⟩ := hw
    obtain ⟨v6, f7⟩ := u
    obtain ⟨kV_v6, kF_f7, hIv6, hk0_v6, hk1_v6, hk7_v6, hk8_v6, hk9_v6, hk10_v6, hk31_v6, hk32_v6⟩ := hw
    have hM_v6 : KV [] v6 v := KV.tr kV_v6 hM_v rfl
    have hA_f7 : KF [13, 14] f7 f := KF.tr kF_f7 hA_f rfl
    have hP : va_P (dC, dI) vwCl (XW cy x0 x v6 f7) H := hP
    have hD : va_D A (XW cy x0 x v6 f7) := hD
    have hq0_v6 : v6 0 = (v 0) := hk0_v6
    have hq1_v6 : v6 1 = (v 1) := hk1_v6
    have hq7_v6 : v6 7 = (v 7) := hk7_v6
    have hq8_v6 : v6 8 = (v 8) := hk8_v6
    have hq9_v6 : v6 9 = (v 9) := hk9_v6
    have hq10_v6 : v6 10 = (v 10) := hk10_v6
    have hq31_v6 : v6 31 = (v 31) := hk31_v6
    have hq32_v6 : v6 32 = (v 32) := hk32_v6
    exact ret r4 (v6, f7) _ _ _ _ _ _ rfl ⟨hM_v6, hA_f7, hIv6, hk0_v6, hk1_v6, hk7_v6, hk8_v6, hk9_v6, hk10_v6, hk31_v6, hk32_v6⟩ hP hD hS dX0_illGetting_20 (Nat.le_refl _) (Nat.le_refl _)
  · skip
    have zc1 : p2.toInt = p3.toInt := by rw [fa_eq] at c1; exact c1
    have rg8 := fb_rng p2
    have rg9 := fb_rng p3
    refine lv_sipush (v := 1000) hx hb dX0_illGetting_5 (by decide) ?_
    refine lv_goto (tgt := 20) hx hb dX0_illGetting_8 (by decide) ?_
    exact ret 1000 (v, f) _ _ _ _ _ _ rfl ⟨hM_v, hA_f, hIv, rfl, rfl, rfl, rfl, rfl, rfl, rfl, rfl⟩ hP hD hS dX0_illGetting_20 (Nat.le_refl _) (Nat.le_refl _)
set_option maxHeartbeats 4000000 in
set_option maxRecDepth 100000 in
theorem sX_X0_isContent_1 (l : Launch) (dC : Nat → ClassId) (dI : Nat → Nat → Nat) (cy : Nat → ClassId) (x0 : Nat) (x : Nat → Nat) (p1 : Int32) (p2 : Int32) (p3 : Int32) (v : Nat → Int32) (f : Nat → Nat → Int32) (hIv : XI v)  : ctI l (dC, dI) cy yX0_isContent cX0_isContent 6 .boolean 5 156 0 0 ((Nat → Int32) × (Nat → Nat → Int32)) [.ref (x 31), .int p1, .int p2, .int p3] (XW cy x0 x v f) (fun r u => KV [] u.1 v ∧ KF [13, 14] u.2 f ∧ XI u.1 ∧ u.1 0 = v 0 ∧ u.1 1 = v 1 ∧ u.1 7 = v 7 ∧ u.1 8 = v 8 ∧ u.1 9 = v 9 ∧ u.1 10 = v 10 ∧ u.1 31 = v 31 ∧ u.1 32 = v 32 ∧ ((r = 1) ∨ (r = 0))) (fun u => XW cy x0 x u.1 u.2) := by
  refine ctI_of (by decide) (Nat.le_of_ble_eq_true rfl) (fun p e s m below meth c A ls Q hx hb hml hts hown hE hP hD hA hl ret => ?_)
  have hM_v : KV [] v v := fun _ _ => rfl
  have hA_f : KF [13, 14] f f := fun _ _ => rfl
  have hown : s.vm.findClass RX0 = some m.cls := hown
  have hS : va_S A s.heap s.heap [] := va_S.rf
  have hl : lv_has ls 6 [(0, .ref (x 31)), (1, .int p1), (2, .int p2), (3, .int p3)] := hl
  refine lv_aload_n hx hb dX0_isContent_0 rfl (lv_at hl 0 rfl) ?_
  refine lv_iload_n hx hb dX0_isContent_1 rfl (lv_at hl 1 rfl) ?_
  refine lv_iload_n hx hb dX0_isContent_2 rfl (lv_at hl 2 rfl) ?_
  refine lv_iload_n hx hb dX0_isContent_3 rfl (lv_at hl 3 rfl) ?_
  refine cbVi (n := 3) (rest := []) hx hb hml hown hts hE hP hD hS hA (sX_X0_illGetting_1 l dC dI cy x0 x p1 p2 p3 v f hIv ) k_1146 k_1148 k_37 k_111 k_1149 (by decide +kernel) ⟨Nat.le_of_ble_eq_true rfl, Nat.le_of_ble_eq_true rfl⟩ 32 0 rfl rfl (rfl) hl.1 rfl (Nat.le_of_ble_eq_true rfl) dX0_isContent_4 (fun r1 u H locs hw hP hD hS => ?_)
  obtain ⟨v2, f3⟩ := u
  obtain ⟨kV_v2, kF_f3, hIv2, hk0_v2, hk1_v2, hk7_v2, hk8_v2, hk9_v2, hk10_v2, hk31_v2, hk32_v2⟩ := hw
  have hM_v2 : KV [] v2 v := KV.tr kV_v2 hM_v rfl
  have hA_f3 : KF [13, 14] f3 f := KF.tr kF_f3 hA_f rfl
  have hP : va_P (dC, dI) vwCl (XW cy x0 x v2 f3) H := hP
  have hD : va_D A (XW cy x0 x v2 f3) := hD
  have hq0_v2 : v2 0 = (v 0) := hk0_v2
  have hq1_v2 : v2 1 = (v 1) := hk1_v2
  have hq7_v2 : v2 7 = (v 7) := hk7_v2
  have hq8_v2 : v2 8 = (v 8) := hk8_v2
  have hq9_v2 : v2 9 = (v 9) := hk9_v2
  have hq10_v2 : v2 10 = (v 10) := hk10_v2
  have hq31_v2 : v2 31 = (v 31) := hk31_v2
  have hq32_v2 : v2 32 = (v 32) := hk32_v2
  refine lv_istore (lv' := [(4, .int r1), (0, .ref (x 31)), (1, .int p1), (2, .int p2), (3, .int p3)]) hx hb dX0_isContent_7 hl (by decide) rfl (fun ls hl => ?_)
  refine lv_iconst (v := 0) hx hb dX0_isContent_9 (by decide) ?_
  refine lv_istore (lv' := [(5, .int 0), (4, .int r1), (0, .ref (x 31)), (1, .int p1), (2, .int p2), (3, .int p3)]) hx hb dX0_isContent_10 hl (by decide) rfl (fun ls hl => ?_)
  have lp4 : ∀ (n4 : Nat) (l5_4 : Int32) (v4 : Nat → Int32) (f4 : Nat → Nat → Int32), XI v4 → v4 0 = (v 0) → v4 1 = (v 1) → v4 7 = (v 7) → v4 8 = (v 8) → v4 9 = (v 9) → v4 10 = (v 10) → v4 31 = (v 31) → v4 32 = (v 32) → ((0 : Int) ≤ l5_4.toInt ∧ l5_4.toInt ≤ 2147483647) → KV [] v4 v → KF [13, 14] f4 f → (2147483647 - l5_4.toInt).toNat < n4 → ∀ (H : Heap) (locs : List Loc) (ls : Array Slot), va_P (dC, dI) vwCl (XW cy x0 x v4 f4) H → va_D A (XW cy x0 x v4 f4) → va_S A s.heap H locs → lv_has ls 6 [(5, .int l5_4), (4, .int r1), (0, .ref (x 31)), (1, .int p1), (2, .int p2), (3, .int p3)] → W p l e { frames := 5, cells := 0, slots := 0, locals := 156 } s m ([.ref (x 31), .int p1, .int p2, .int p3] : List Value).toArray below meth c H locs 0 0 Q (F0 m 12 ls []) := by
    intro n4
    induction n4 with
    | zero => intro l5_4 v4 f4 hIv4 hq0_v4 hq1_v4 hq7_v4 hq8_v4 hq9_v4 hq10_v4 hq31_v4 hq32_v4 hr5_4 hM_v4 hA_f4 hm; exact absurd hm (Nat.not_lt_zero _)
    | succ n4 ih4 =>
      intro l5_4 v4 f4 hIv4 hq0_v4 hq1_v4 hq7_v4 hq8_v4 hq9_v4 hq10_v4 hq31_v4 hq32_v4 hr5_4 hM_v4 hA_f4 hm4 H locs ls hP hD hS hl
      refine lv_iload hx hb dX0_isContent_12 (lv_at hl 0 rfl) ?_
      refine lv_aload_n hx hb dX0_isContent_14 rfl (lv_at hl 2 rfl) ?_
      refine va_get (D := (dC, dI)) (ci := 0) (v := .ref (x 26)) (C := RX0) (T := TX0) (N := 8) hx hb hts inB_0 hown hE.1 hP 32 rfl rfl 0 (by decide) (hts _ k_430) (fun _ h9 => h9) rfl dX0_isContent_15 ?_
      refine va_getN (D := (dC, dI)) (ci := 7) (v := .int (v4 32)) (C := RX7) (T := TX7) (N := 10) hx hb hts inB_7 hown hE.1 hP 27 rfl rfl 4 (by decide) (va_Nw.use rfl (hE.2 _ k_222)) (fun _ h9 => h9) rfl dX0_isContent_18 ?_
      refine tI (y := (v 32)) hq32_v4 ?_
      have b32_v : 0 ≤ (v 32).toInt ∧ (v 32).toInt ≤ 6 := XI.b hIv 32 (by decide)
      refine lv_icmp_ge (tgt := 54) hx hb dX0_isContent_21 (by decide) (fun c5 => ?_) (fun c5 => ?_)
      · skip
        have zc5 : (v 32).toInt ≤ l5_4.toInt := by rw [fa_le] at c5; exact c5
        have rg6 := fb_rng l5_4
        have rg7 := fb_rng (v 32)
        refine lv_iconst (v := 1) hx hb dX0_isContent_54 (by decide) ?_
        exact ret 1 (v4, f4) _ _ _ _ _ _ rfl ⟨hM_v4, hA_f4, hIv4, hq0_v4, hq1_v4, hq7_v4, hq8_v4, hq9_v4, hq10_v4, hq31_v4, hq32_v4, (Or.inl rfl)⟩ hP hD hS dX0_isContent_55 (Nat.le_refl _) (Nat.le_refl _)
      · skip
        have zc5 : ¬ ((v 32).toInt ≤ l5_4.toInt) := by rw [fa_le] at c5; exact c5
        have rg8 := fb_rng l5_4
        have rg9 := fb_rng (v 32)
        refine lv_aload_n hx hb dX0_isContent_24 rfl (lv_at hl 2 rfl) ?_
        refine lv_iload hx hb dX0_isContent_25 (lv_at hl 0 rfl) ?_
        refine cbVi (n := 1) (rest := []) hx hb hml hown hts hE hP hD hS hA (sX_X0_isFree_1 l dC dI cy x0 x l5_4 v4 f4 hIv4 ) k_1137 k_1139 k_35 k_111 k_1140 (by decide +kernel) ⟨Nat.le_of_ble_eq_true rfl, Nat.le_of_ble_eq_true rfl⟩ 32 0 rfl rfl (rfl) hl.1 rfl (Nat.le_of_ble_eq_true rfl) dX0_isContent_27 (fun r10 u H locs hw hP hD hS => ?_)
        rcases hw with ⟨g11⟩ | ⟨g11⟩
        · skip
          subst g11
          refine lv_if_eq (tgt := 48) hx hb dX0_isContent_30 (by decide) (fun c0 => absurd c0 (by decide)) (fun _ => ?_)
          refine lv_aload_n hx hb dX0_isContent_33 rfl (lv_at hl 2 rfl) ?_
          refine lv_iload_n hx hb dX0_isContent_34 rfl (lv_at hl 3 rfl) ?_
          refine lv_iload hx hb dX0_isContent_35 (lv_at hl 0 rfl) ?_
          refine lv_iload_n hx hb dX0_isContent_37 rfl (lv_at hl 5 rfl) ?_
          refine cbVi (n := 3) (rest := []) hx hb hml hown hts hE hP hD hS hA (sX_X0_illGetting_1 l dC dI cy x0 x p1 l5_4 p3 v4 f4 hIv4 ) k_1146 k_1148 k_37 k_111 k_1149 (by decide +kernel) ⟨Nat.le_of_ble_eq_true rfl, Nat.le_of_ble_eq_true rfl⟩ 32 0 rfl rfl (rfl) hl.1 rfl (Nat.le_of_ble_eq_true rfl) dX0_isContent_38 (fun r12 u H locs hw hP hD hS => ?_)
          obtain ⟨v13, f14⟩ := u
          obtain ⟨kV_v13, kF_f14, hIv13, hk0_v13, hk1_v13, hk7_v13, hk8_v13, hk9_v13, hk10_v13, hk31_v13, hk32_v13⟩ := hw
          have hM_v13 : KV [] v13 v := KV.tr kV_v13 hM_v4 rfl
          have hA_f14 : KF [13, 14] f14 f := KF.tr kF_f14 hA_f4 rfl
          have hP : va_P (dC, dI) vwCl (XW cy x0 x v13 f14) H := hP
          have hD : va_D A (XW cy x0 x v13 f14) := hD
          have hq0_v13 : v13 0 = (v 0) := hk0_v13.trans hq0_v4
          have hq1_v13 : v13 1 = (v 1) := hk1_v13.trans hq1_v4
          have hq7_v13 : v13 7 = (v 7) := hk7_v13.trans hq7_v4
          have hq8_v13 : v13 8 = (v 8) := hk8_v13.trans hq8_v4
          have hq9_v13 : v13 9 = (v 9) := hk9_v13.trans hq9_v4
          have hq10_v13 : v13 10 = (v 10) := hk10_v13.trans hq10_v4
          have hq31_v13 : v13 31 = (v 31) := hk31_v13.trans hq31_v4
          have hq32_v13 : v13 32 = (v 32) := hk32_v13.trans hq32_v4
          refine lv_iload hx hb dX0_isContent_41 (lv_at hl 1 rfl) ?_
          refine lv_icmp_ge (tgt := 48) hx hb dX0_isContent_43 (by decide) (fun c15 => ?_) (fun c15 => ?_)
          · skip
            have zc15 : r1.toInt ≤ r12.toInt := by rw [fa_le] at c15; exact c15
            have rg16 := fb_rng r12
            have rg17 := fb_rng r1
            obtain ⟨t18, et18⟩ : ∃ y : Int32, y = l5_4 + 1 := ⟨_, rfl⟩
            have zt18 : t18.toInt = l5_4.toInt + 1 := by rw [et18]; exact add_i rfl (by decide) (by omega) (by omega)
            refine lv_iinc (v := t18) (lv' := [(5, .int t18), (4, .int r1), (0, .ref (x 31)), (1, .int p1), (2, .int p2), (3, .int p3)]) hx hb dX0_isContent_48 hl (k := 0) rfl (by rw [et18]; rfl) (by decide) rfl (fun ls hl => ?_)
            refine lv_goto (tgt := 12) hx hb dX0_isContent_51 (by decide) ?_
            have rg19 := fb_rng t18
            exact ih4 t18 v13 f14 hIv13 hq0_v13 hq1_v13 hq7_v13 hq8_v13 hq9_v13 hq10_v13 hq31_v13 hq32_v13 ⟨show (0 : Int) ≤ t18.toInt by omega, show t18.toInt ≤ (2147483647 : Int) by omega⟩ hM_v13 hA_f14 (by show (2147483647 - t18.toInt).toNat < n4; omega) _ _ _ hP hD hS (lv_sub hl [0, 1, 2, 3, 4, 5] rfl)
          · skip
            have zc15 : ¬ (r1.toInt ≤ r12.toInt) := by rw [fa_le] at c15; exact c15
            have rg20 := fb_rng r12
            have rg21 := fb_rng r1
            refine lv_iconst (v := 0) hx hb dX0_isContent_46 (by decide) ?_
            exact ret 0 (v13, f14) _ _ _ _ _ _ rfl ⟨hM_v13, hA_f14, hIv13, (hk0_v13.trans hq0_v4), (hk1_v13.trans hq1_v4), (hk7_v13.trans hq7_v4), (hk8_v13.trans hq8_v4), (hk9_v13.trans hq9_v4), (hk10_v13.trans hq10_v4), (hk31_v13.trans hq31_v4), (hk32_v13.trans hq32_v4), (Or.inr rfl)⟩ hP hD hS dX0_isContent_47 (Nat.le_refl _) (Nat.le_refl _)
        · skip
          subst g11
          refine lv_if_eq (tgt := 48) hx hb dX0_isContent_30 (by decide) (fun _ => ?_) (fun c0 => absurd (by decide) c0)
          obtain ⟨t22, et22⟩ : ∃ y : Int32, y = l5_4 + 1 := ⟨_, rfl⟩
          have zt22 : t22.toInt = l5_4.toInt + 1 := by rw [et22]; exact add_i rfl (by decide) (by omega) (by omega)
          refine lv_iinc (v := t22) (lv' := [(5, .int t22), (4, .int r1), (0, .ref (x 31)), (1, .int p1), (2, .int p2), (3, .int p3)]) hx hb dX0_isContent_48 hl (k := 0) rfl (by rw [et22]; rfl) (by decide) rfl (fun ls hl => ?_)
          refine lv_goto (tgt := 12) hx hb dX0_isContent_51 (by decide) ?_
          have rg23 := fb_rng t22
          exact ih4 t22 v4 f4 hIv4 hq0_v4 hq1_v4 hq7_v4 hq8_v4 hq9_v4 hq10_v4 hq31_v4 hq32_v4 ⟨show (0 : Int) ≤ t22.toInt by omega, show t22.toInt ≤ (2147483647 : Int) by omega⟩ hM_v4 hA_f4 (by show (2147483647 - t22.toInt).toNat < n4; omega) _ _ _ hP hD hS (lv_sub hl [0, 1, 2, 3, 4, 5] rfl)
  exact lp4 _ 0 v2 f3 hIv2 hq0_v2 hq1_v2 hq7_v2 hq8_v2 hq9_v2 hq10_v2 hq31_v2 hq32_v2 ⟨by decide, by decide⟩ hM_v2 hA_f3 (Nat.lt_succ_self _) _ _ _ hP hD hS (lv_sub hl [0, 1, 2, 3, 4, 5] rfl)
