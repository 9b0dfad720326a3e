set_option maxHeartbeats 4000000 in
set_option maxRecDepth 100000 in
theorem sX_X10_cloth_1 (l : Launch) (dC : Nat → ClassId) (dI : Nat → Nat → Nat) (cy : Nat → ClassId) (x0 : Nat) (x : Nat → Nat)  (v : Nat → Int32) (f : Nat → Nat → Int32) (hIv : XI v)  : ctI l (dC, dI) cy yX10_cloth cX10_cloth 1 .int 6 175 0 0 ((Nat → Int32) × (Nat → Nat → Int32)) [.ref x0] (XW cy x0 x v f) (fun r u => KV [] u.1 v ∧ KF [19] u.2 f ∧ XI u.1 ∧ u.1 0 = v 0 ∧ u.1 1 = v 1 ∧ u.1 7 = v 7 ∧ u.1 8 = v 8 ∧ u.1 9 = v 9 ∧ u.1 10 = v 10 ∧ u.1 31 = v 31 ∧ u.1 32 = v 32) (fun u => XW cy x0 x u.1 u.2) := by
  refine ctI_of (by decide) (Nat.le_of_ble_eq_true rfl) (fun p e s m below meth c A ls Q hx hb hml hts hown hE hP hD hA hl ret => ?_)
  have hM_v : KV [] v v := fun _ _ => rfl
  have hA_f : KF [19] f f := fun _ _ => rfl
  have hown : s.vm.findClass RX10 = some m.cls := hown
  have hS : va_S A s.heap s.heap [] := va_S.rf
  have hl : lv_has ls 1 [(0, .ref x0)] := hl
  refine lv_aload_n hx hb dX10_cloth_0 rfl (lv_at hl 0 rfl) ?_
  refine va_get (D := (dC, dI)) (ci := 10) (v := .ref (x 29)) (C := RX10) (T := TX10) (N := 10) hx hb hts inB_10 hown hE.1 hP 0 rfl rfl 6 (by decide) (hts _ k_497) (fun _ h9 => h9) rfl dX10_cloth_1 ?_
  refine cbVi (n := 0) (rest := []) hx hb hml hown hts hE hP hD hS hA (sX_X2_leastCloth_1 l dC dI cy x0 x  v f hIv ) k_1097 k_1098 k_1099 k_110 k_1100 (by decide +kernel) ⟨Nat.le_of_ble_eq_true rfl, Nat.le_of_ble_eq_true rfl⟩ 30 2 rfl rfl (rfl) hl.1 rfl (Nat.le_of_ble_eq_true rfl) dX10_cloth_4 (fun r1 u H locs hw hP hD hS => ?_)
  obtain ⟨v2, f3⟩ := u
  obtain ⟨kV_v2, kF_f3, hIv2, hk0_v2, hk1_v2, hk7_v2, hk8_v2, hk9_v2, hk10_v2, hk31_v2, hk32_v2⟩ := hw
  have hM_v2 : KV [] v2 v := KV.tr kV_v2 hM_v rfl
  have hA_f3 : KF [19] f3 f := KF.tr kF_f3 hA_f rfl
  have hP : va_P (dC, dI) vwCl (XW cy x0 x v2 f3) H := hP
  have hD : va_D A (XW cy x0 x v2 f3) := hD
  have hq0_v2 : v2 0 = (v 0) := hk0_v2
  have hq1_v2 : v2 1 = (v 1) := hk1_v2
  have hq7_v2 : v2 7 = (v 7) := hk7_v2
  have hq8_v2 : v2 8 = (v 8) := hk8_v2
  have hq9_v2 : v2 9 = (v 9) := hk9_v2
  have hq10_v2 : v2 10 = (v 10) := hk10_v2
  have hq31_v2 : v2 31 = (v 31) := hk31_v2
  have hq32_v2 : v2 32 = (v 32) := hk32_v2
  exact ret r1 (v2, f3) _ _ _ _ _ _ rfl ⟨hM_v2, hA_f3, hIv2, hk0_v2, hk1_v2, hk7_v2, hk8_v2, hk9_v2, hk10_v2, hk31_v2, hk32_v2⟩ hP hD hS dX10_cloth_7 (Nat.le_refl _) (Nat.le_refl _)
set_option maxHeartbeats 4000000 in
set_option maxRecDepth 100000 in
theorem sX_X0_isClear_1 (l : Launch) (dC : Nat → ClassId) (dI : Nat → Nat → Nat) (cy : Nat → ClassId) (x0 : Nat) (x : Nat → Nat) (p1 : Int32) (p2 : Int32) (v : Nat → Int32) (f : Nat → Nat → Int32) (hIv : XI v)  : ctI l (dC, dI) cy yX0_isClear cX0_isClear 6 .boolean 3 103 0 0 Unit [.ref (x 31), .int p1, .int p2] (XW cy x0 x v f) (fun r u => ((r = 1) ∨ (r = 0))) (fun u => XW cy x0 x v f) := by
  refine ctI_of (by decide) (Nat.le_of_ble_eq_true rfl) (fun p e s m below meth c A ls Q hx hb hml hts hown hE hP hD hA hl ret => ?_)
  have hown : s.vm.findClass RX0 = some m.cls := hown
  have hS : va_S A s.heap s.heap [] := va_S.rf
  have hl : lv_has ls 6 [(0, .ref (x 31)), (1, .int p1), (2, .int p2)] := hl
  refine lv_aload_n hx hb dX0_isClear_0 rfl (lv_at hl 0 rfl) ?_
  refine va_get (D := (dC, dI)) (ci := 0) (v := .ref (x 26)) (C := RX0) (T := TX0) (N := 8) hx hb hts inB_0 hown hE.1 hP 32 rfl rfl 0 (by decide) (hts _ k_430) (fun _ h9 => h9) rfl dX0_isClear_1 ?_
  refine lv_iconst (v := 0) hx hb dX0_isClear_4 (by decide) ?_
  refine lv_iload_n hx hb dX0_isClear_5 rfl (lv_at hl 1 rfl) ?_
  refine cbVi (n := 2) (rest := []) hx hb hml hown hts hE hP hD hS hA (sX_X7_manPart_1 0 l dC dI cy x0 x 0 p1 v f hIv ) k_1127 k_303 k_304 k_104 k_305 (by decide +kernel) ⟨Nat.le_of_ble_eq_true rfl, Nat.le_of_ble_eq_true rfl⟩ 27 7 rfl rfl (rfl) hl.1 rfl (Nat.le_of_ble_eq_true rfl) dX0_isClear_6 (fun r1 u H locs hw hP hD hS => ?_)
  have hG2 := hw
  refine lv_istore_n (lv' := [(3, .int r1), (0, .ref (x 31)), (1, .int p1), (2, .int p2)]) hx hb dX0_isClear_9 rfl hl (by decide) rfl (fun ls hl => ?_)
  refine lv_iconst (v := 0) hx hb dX0_isClear_10 (by decide) ?_
  refine lv_istore (lv' := [(4, .int 0), (3, .int r1), (0, .ref (x 31)), (1, .int p1), (2, .int p2)]) hx hb dX0_isClear_11 hl (by decide) rfl (fun ls hl => ?_)
  have lp3 : ∀ (n3 : Nat) (l4_3 : Int32), ((0 : Int) ≤ l4_3.toInt ∧ l4_3.toInt ≤ 2147483647) → (2147483647 - l4_3.toInt).toNat < n3 → ∀ (H : Heap) (locs : List Loc) (ls : Array Slot), va_P (dC, dI) vwCl (XW cy x0 x v f) H → va_D A (XW cy x0 x v f) → va_S A s.heap H locs → lv_has ls 6 [(4, .int l4_3), (3, .int r1), (0, .ref (x 31)), (1, .int p1), (2, .int p2)] → W p l e { frames := 3, cells := 0, slots := 0, locals := 103 } s m ([.ref (x 31), .int p1, .int p2] : List Value).toArray below meth c H locs 0 0 Q (F0 m 13 ls []) := by
    intro n3
    induction n3 with
    | zero => intro l4_3 hr4_3 hm; exact absurd hm (Nat.not_lt_zero _)
    | succ n3 ih3 =>
      intro l4_3 hr4_3 hm3 H locs ls hP hD hS hl
      refine lv_iload hx hb dX0_isClear_13 (lv_at hl 0 rfl) ?_
      refine lv_iload_n hx hb dX0_isClear_15 rfl (lv_at hl 3 rfl) ?_
      refine lv_icmp_ge (tgt := 77) hx hb dX0_isClear_16 (by decide) (fun c4 => ?_) (fun c4 => ?_)
      · skip
        have zc4 : p1.toInt ≤ l4_3.toInt := by rw [fa_le] at c4; exact c4
        have rg5 := fb_rng l4_3
        have rg6 := fb_rng p1
        refine lv_iconst (v := 1) hx hb dX0_isClear_77 (by decide) ?_
        exact ret 1 () _ _ _ _ _ _ rfl (Or.inl rfl) hP hD hS dX0_isClear_78 (Nat.le_refl _) (Nat.le_refl _)
      · skip
        have zc4 : ¬ (p1.toInt ≤ l4_3.toInt) := by rw [fa_le] at c4; exact c4
        have rg7 := fb_rng l4_3
        have rg8 := fb_rng p1
        refine lv_iload hx hb dX0_isClear_19 (lv_at hl 0 rfl) ?_
        refine lv_aload_n hx hb dX0_isClear_21 rfl (lv_at hl 2 rfl) ?_
        refine va_get (D := (dC, dI)) (ci := 0) (v := .ref (x 32)) (C := RX0) (T := TX0) (N := 8) hx hb hts inB_0 hown hE.1 hP 32 rfl rfl 2 (by decide) (hts _ k_432) (fun _ h9 => h9) rfl dX0_isClear_22 ?_
        refine va_alen (v := 6) hx hb hE.1 hP 33 1 rfl rfl rfl dX0_isClear_25 ?_
        refine lv_icmp_ge (tgt := 77) hx hb dX0_isClear_26 (by decide) (fun c9 => ?_) (fun c9 => ?_)
        · skip
          have zc9 : 6 ≤ l4_3.toInt := by rw [fa_le, show (6 : Int32).toInt = 6 from by decide] at c9; exact c9
          refine lv_iconst (v := 1) hx hb dX0_isClear_77 (by decide) ?_
          exact ret 1 () _ _ _ _ _ _ rfl (Or.inl rfl) hP hD hS dX0_isClear_78 (Nat.le_refl _) (Nat.le_refl _)
        · skip
          have zc9 : ¬ (6 ≤ l4_3.toInt) := by rw [fa_le, show (6 : Int32).toInt = 6 from by decide] at c9; exact c9
          refine lv_iload_n hx hb dX0_isClear_29 rfl (lv_at hl 1 rfl) ?_
          refine lv_aload_n hx hb dX0_isClear_30 rfl (lv_at hl 2 rfl) ?_
          refine va_get (D := (dC, dI)) (ci := 0) (v := .ref (x 26)) (C := RX0) (T := TX0) (N := 8) hx hb hts inB_0 hown hE.1 hP 32 rfl rfl 0 (by decide) (hts _ k_430) (fun _ h9 => h9) rfl dX0_isClear_31 ?_
          refine lv_iconst (v := 0) hx hb dX0_isClear_34 (by decide) ?_
          refine lv_iload hx hb dX0_isClear_35 (lv_at hl 0 rfl) ?_
          refine cbVi (n := 2) (rest := [.int r1]) hx hb hml hown hts hE hP hD hS hA (sX_X7_manPart_1 0 l dC dI cy x0 x 0 l4_3 v f hIv ) k_1127 k_303 k_304 k_104 k_305 (by decide +kernel) ⟨Nat.le_of_ble_eq_true rfl, Nat.le_of_ble_eq_true rfl⟩ 27 7 rfl rfl (rfl) hl.1 rfl (Nat.le_of_ble_eq_true rfl) dX0_isClear_37 (fun r10 u H locs hw hP hD hS => ?_)
          have hG11 := hw
          refine lv_isub hx hb dX0_isClear_40 ?_
          refine lv_topi (fun t12 et12 => ?_)
          refine va_mabs hx hb (by rw [hml]; exact hl.1.symm) hown (hts _ k_1128) (hts _ k_1018) (hts _ k_119) (hts _ k_1019) (Nat.le_of_ble_eq_true rfl) (Nat.le_of_ble_eq_true rfl) (Nat.le_of_ble_eq_true rfl) (Nat.le_of_ble_eq_true rfl) dX0_isClear_41 ?_
          refine lv_topi (fun t13 et13 => ?_)
          refine lv_istore (lv' := [(5, .int t13), (4, .int l4_3), (3, .int r1), (0, .ref (x 31)), (1, .int p1), (2, .int p2)]) hx hb dX0_isClear_44 hl (by decide) rfl (fun ls hl => ?_)
          refine lv_aload_n hx hb dX0_isClear_46 rfl (lv_at hl 3 rfl) ?_
          refine va_get (D := (dC, dI)) (ci := 0) (v := .ref (x 32)) (C := RX0) (T := TX0) (N := 8) hx hb hts inB_0 hown hE.1 hP 32 rfl rfl 2 (by decide) (hts _ k_432) (fun _ h9 => h9) rfl dX0_isClear_47 ?_
          refine lv_iload hx hb dX0_isClear_50 (lv_at hl 1 rfl) ?_
          refine ldI hx hb hE hP 33 rfl (vp_in_iff.mpr ⟨by omega, by omega⟩) rfl rfl dX0_isClear_52 ?_
          refine lv_topi (fun t14 et14 => ?_)
          refine lv_iload_n hx hb dX0_isClear_53 rfl (lv_at hl 5 rfl) ?_
          refine lv_icmp_ne (tgt := 71) hx hb dX0_isClear_54 (by decide) (fun c15 => ?_) (fun c15 => ?_)
          · skip
            have zc15 : ¬ (t14.toInt = p2.toInt) := by rw [fa_eq] at c15; exact c15
            have rg16 := fb_rng t14
            have rg17 := fb_rng p2
            obtain ⟨t18, et18⟩ : ∃ y : Int32, y = l4_3 + 1 := ⟨_, rfl⟩
            have zt18 : t18.toInt = l4_3.toInt + 1 := by rw [et18]; exact add_i rfl (by decide) (by omega) (by omega)
            refine lv_iinc (v := t18) (lv' := [(4, .int t18), (5, .int t13), (3, .int r1), (0, .ref (x 31)), (1, .int p1), (2, .int p2)]) hx hb dX0_isClear_71 hl (k := 1) rfl (by rw [et18]; rfl) (by decide) rfl (fun ls hl => ?_)
            refine lv_goto (tgt := 13) hx hb dX0_isClear_74 (by decide) ?_
            have rg19 := fb_rng t18
            exact ih3 t18 ⟨show (0 : Int) ≤ t18.toInt by omega, show t18.toInt ≤ (2147483647 : Int) by omega⟩ (by show (2147483647 - t18.toInt).toNat < n3; omega) _ _ _ hP hD hS (lv_sub hl [0, 2, 3, 4, 5] rfl)
          · skip
            have zc15 : t14.toInt = p2.toInt := by rw [fa_eq] at c15; exact c15
            have rg20 := fb_rng t14
            have rg21 := fb_rng p2
            refine lv_iload hx hb dX0_isClear_57 (lv_at hl 0 rfl) ?_
            refine lv_aload_n hx hb dX0_isClear_59 rfl (lv_at hl 3 rfl) ?_
            refine va_get (D := (dC, dI)) (ci := 0) (v := .ref (x 26)) (C := RX0) (T := TX0) (N := 8) hx hb hts inB_0 hown hE.1 hP 32 rfl rfl 0 (by decide) (hts _ k_430) (fun _ h9 => h9) rfl dX0_isClear_60 ?_
            refine va_getN (D := (dC, dI)) (ci := 7) (v := .int (v 35)) (C := RX7) (T := TX7) (N := 10) hx hb hts inB_7 hown hE.1 hP 27 rfl rfl 7 (by decide) (va_Nw.use rfl (hE.2 _ k_238)) (fun _ h9 => h9) rfl dX0_isClear_63 ?_
            refine lv_icmp_gt (tgt := 71) hx hb dX0_isClear_66 (by decide) (fun c22 => ?_) (fun c22 => ?_)
            · skip
              have zc22 : (v 35).toInt < t13.toInt := by rw [fa_lt] at c22; exact c22
              have rg23 := fb_rng t13
              have rg24 := fb_rng (v 35)
              obtain ⟨t25, et25⟩ : ∃ y : Int32, y = l4_3 + 1 := ⟨_, rfl⟩
              have zt25 : t25.toInt = l4_3.toInt + 1 := by rw [et25]; exact add_i rfl (by decide) (by omega) (by omega)
              refine lv_iinc (v := t25) (lv' := [(4, .int t25), (5, .int t13), (3, .int r1), (0, .ref (x 31)), (1, .int p1), (2, .int p2)]) hx hb dX0_isClear_71 hl (k := 1) rfl (by rw [et25]; rfl) (by decide) rfl (fun ls hl => ?_)
              refine lv_goto (tgt := 13) hx hb dX0_isClear_74 (by decide) ?_
              have rg26 := fb_rng t25
              exact ih3 t25 ⟨show (0 : Int) ≤ t25.toInt by omega, show t25.toInt ≤ (2147483647 : Int) by omega⟩ (by show (2147483647 - t25.toInt).toNat < n3; omega) _ _ _ hP hD hS (lv_sub hl [0, 2, 3, 4, 5] rfl)
            · skip
              have zc22 : ¬ ((v 35).toInt < t13.toInt) := by rw [fa_lt] at c22; exact c22
              have rg27 := fb_rng t13
              have rg28 := fb_rng (v 35)
              refine lv_iconst (v := 0) hx hb dX0_isClear_69 (by decide) ?_
              exact ret 0 () _ _ _ _ _ _ rfl (Or.inr rfl) hP hD hS dX0_isClear_70 (Nat.le_refl _) (Nat.le_refl _)
  exact lp3 _ 0 ⟨by decide, by decide⟩ (Nat.lt_succ_self _) _ _ _ hP hD hS (lv_sub hl [0, 1, 2, 3, 4] rfl)
set_option maxHeartbeats 4000000 in
set_option maxRecDepth 100000 in
theorem sX_X0_painted_7 (l : Launch) (dC : Nat → ClassId) (dI : Nat → Nat → Nat) (cy : Nat → ClassId) (x0 : Nat) (x : Nat → Nat) (p2 : Int32) (v : Nat → Int32) (f : Nat → Nat → Int32) (hIv : XI v)  : ctI l (dC, dI) cy yX0_painted cX0_painted 4 .boolean 1 60 0 0 ((Nat → Int32) × (Nat → Nat → Int32)) [.ref (x 31), .int 6, .int p2] (XW cy x0 x v f) (fun r u => KV [] u.1 v ∧ KF [] u.2 f ∧ XI u.1 ∧ u.1 0 = v 0 ∧ u.1 1 = v 1 ∧ u.1 7 = v 7 ∧ u.1 8 = v 8 ∧ u.1 9 = v 9 ∧ u.1 10 = v 10 ∧ u.1 31 = v 31 ∧ u.1 32 = v 32 ∧ ((r = 1) ∨ (r = 0))) (fun u => XW cy x0 x u.1 u.2) := by
  refine ctI_of (by decide) (Nat.le_of_ble_eq_true rfl) (fun p e s m below meth c A ls Q hx hb hml hts hown hE hP hD hA hl ret => ?_)
  have hM_v : KV [] v v := fun _ _ => rfl
  have hA_f : KF [] f f := fun _ _ => rfl
  have hown : s.vm.findClass RX0 = some m.cls := hown
  have hS : va_S A s.heap s.heap [] := va_S.rf
  have hl : lv_has ls 4 [(0, .ref (x 31)), (1, .int 6), (2, .int p2)] := hl
  refine lv_iload_n hx hb dX0_painted_0 rfl (lv_at hl 1 rfl) ?_
  refine lv_aload_n hx hb dX0_painted_1 rfl (lv_at hl 0 rfl) ?_
  refine va_get (D := (dC, dI)) (ci := 0) (v := .ref (x 26)) (C := RX0) (T := TX0) (N := 8) hx hb hts inB_0 hown hE.1 hP 32 rfl rfl 0 (by decide) (hts _ k_430) (fun _ h9 => h9) rfl dX0_painted_2 ?_
  refine va_getN (D := (dC, dI)) (ci := 7) (v := .int (v 31)) (C := RX7) (T := TX7) (N := 10) hx hb hts inB_7 hown hE.1 hP 27 rfl rfl 3 (by decide) (va_Nw.use rfl (hE.2 _ k_216)) (fun _ h9 => h9) rfl dX0_painted_5 ?_
  have b31_v : 0 ≤ (v 31).toInt ∧ (v 31).toInt ≤ 6 := XI.b hIv 31 (by decide)
  refine lv_icmp_ge (tgt := 17) hx hb dX0_painted_8 (by decide) (fun c1 => ?_) (fun c1 => ?_)
  · skip
    have zc1 : (v 31).toInt ≤ 6 := by rw [fa_le, show (6 : Int32).toInt = 6 from by decide] at c1; exact c1
    refine lv_iconst (v := 1) hx hb dX0_painted_17 (by decide) ?_
    exact ret 1 (v, f) _ _ _ _ _ _ rfl ⟨hM_v, hA_f, hIv, rfl, rfl, rfl, rfl, rfl, rfl, rfl, rfl, (Or.inl rfl)⟩ hP hD hS dX0_painted_18 (Nat.le_refl _) (Nat.le_refl _)
  · skip
    have zc1 : ¬ ((v 31).toInt ≤ 6) := by rw [fa_le, show (6 : Int32).toInt = 6 from by decide] at c1; exact c1
    refine lv_iload_n hx hb dX0_painted_11 rfl (lv_at hl 1 rfl) ?_
    refine lv_bipush (v := 6) hx hb dX0_painted_12 (by decide) ?_
    refine lv_icmp_lt (tgt := 19) hx hb dX0_painted_14 (by decide) (fun c0 => absurd c0 (by decide)) (fun _ => ?_)
    refine lv_iconst (v := 1) hx hb dX0_painted_17 (by decide) ?_
    exact ret 1 (v, f) _ _ _ _ _ _ rfl ⟨hM_v, hA_f, hIv, rfl, rfl, rfl, rfl, rfl, rfl, rfl, rfl, (Or.inl rfl)⟩ hP hD hS dX0_painted_18 (Nat.le_refl _) (Nat.le_refl _)
set_option maxHeartbeats 4000000 in
set_option maxRecDepth 100000 in
theorem sX_X0_painted_6 (l : Launch) (dC : Nat → ClassId) (dI : Nat → Nat → Nat) (cy : Nat → ClassId) (x0 : Nat) (x : Nat → Nat) (p2 : Int32) (v : Nat → Int32) (f : Nat → Nat → Int32) (hIv : XI v)  : ctI l (dC, dI) cy yX0_painted cX0_painted 4 .boolean 4 128 0 0 ((Nat → Int32) × (Nat → Nat → Int32)) [.ref (x 31), .int 5, .int p2] (XW cy x0 x v f) (fun r u => KV [38] u.1 v ∧ KF [20] u.2 f ∧ XI u.1 ∧ u.1 0 = v 0 ∧ u.1 1 = v 1 ∧ u.1 7 = v 7 ∧ u.1 8 = v 8 ∧ u.1 9 = v 9 ∧ u.1 10 = v 10 ∧ u.1 31 = v 31 ∧ u.1 32 = v 32 ∧ ((r = 1) ∨ (r = 0))) (fun u => XW cy x0 x u.1 u.2) := by
  refine ctI_of (by decide) (Nat.le_of_ble_eq_true rfl) (fun p e s m below meth c A ls Q hx hb hml hts hown hE hP hD hA hl ret => ?_)
  have hM_v : KV [38] v v := fun _ _ => rfl
  have hA_f : KF [20] f f := fun _ _ => rfl
  have hown : s.vm.findClass RX0 = some m.cls := hown
  have hS : va_S A s.heap s.heap [] := va_S.rf
  have hl : lv_has ls 4 [(0, .ref (x 31)), (1, .int 5), (2, .int p2)] := hl
  refine lv_iload_n hx hb dX0_painted_0 rfl (lv_at hl 1 rfl) ?_
  refine lv_aload_n hx hb dX0_painted_1 rfl (lv_at hl 0 rfl) ?_
  refine va_get (D := (dC, dI)) (ci := 0) (v := .ref (x 26)) (C := RX0) (T := TX0) (N := 8) hx hb hts inB_0 hown hE.1 hP 32 rfl rfl 0 (by decide) (hts _ k_430) (fun _ h9 => h9) rfl dX0_painted_2 ?_
  refine va_getN (D := (dC, dI)) (ci := 7) (v := .int (v 31)) (C := RX7) (T := TX7) (N := 10) hx hb hts inB_7 hown hE.1 hP 27 rfl rfl 3 (by decide) (va_Nw.use rfl (hE.2 _ k_216)) (fun _ h9 => h9) rfl dX0_painted_5 ?_
  have b31_v : 0 ≤ (v 31).toInt ∧ (v 31).toInt ≤ 6 := XI.b hIv 31 (by decide)
  refine lv_icmp_ge (tgt := 17) hx hb dX0_painted_8 (by decide) (fun c1 => ?_) (fun c1 => ?_)
  · skip
    have zc1 : (v 31).toInt ≤ 5 := by rw [fa_le, show (5 : Int32).toInt = 5 from by decide] at c1; exact c1
    refine lv_iconst (v := 1) hx hb dX0_painted_17 (by decide) ?_
    exact ret 1 (v, f) _ _ _ _ _ _ rfl ⟨hM_v, hA_f, hIv, rfl, rfl, rfl, rfl, rfl, rfl, rfl, rfl, (Or.inl rfl)⟩ hP hD hS dX0_painted_18 (Nat.le_refl _) (Nat.le_refl _)
  · skip
    have zc1 : ¬ ((v 31).toInt ≤ 5) := by rw [fa_le, show (5 : Int32).toInt = 5 from by decide] at c1; exact c1
    refine lv_iload_n hx hb dX0_painted_11 rfl (lv_at hl 1 rfl) ?_
    refine lv_bipush (v := 6) hx hb dX0_painted_12 (by decide) ?_
    refine lv_icmp_lt (tgt := 19) hx hb dX0_painted_14 (by decide) (fun _ => ?_) (fun c0 => absurd (by decide) c0)
    refine lv_iconst (v := 0) hx hb dX0_painted_19 (by decide) ?_
    refine lv_istore_n (lv' := [(3, .int 0), (0, .ref (x 31)), (1, .int 5), (2, .int p2)]) hx hb dX0_painted_20 rfl hl (by decide) rfl (fun ls hl => ?_)
    have lp2 : ∀ (n2 : Nat) (l3_2 : Int32) (v2 : Nat → Int32) (f2 : Nat → Nat → Int32), XI v2 → v2 0 = (v 0) → v2 1 = (v 1) → v2 7 = (v 7) → v2 8 = (v 8) → v2 9 = (v 9) → v2 10 = (v 10) → v2 31 = (v 31) → v2 32 = (v 32) → ((0 : Int) ≤ l3_2.toInt ∧ l3_2.toInt ≤ 2147483647) → KV [38] v2 v → KF [20] f2 f → (2147483647 - l3_2.toInt).toNat < n2 → ∀ (H : Heap) (locs : List Loc) (ls : Array Slot), va_P (dC, dI) vwCl (XW cy x0 x v2 f2) H → va_D A (XW cy x0 x v2 f2) → va_S A s.heap H locs → lv_has ls 4 [(3, .int l3_2), (0, .ref (x 31)), (1, .int 5), (2, .int p2)] → W p l e { frames := 4, cells := 0, slots := 0, locals := 128 } s m ([.ref (x 31), .int 5, .int p2] : List Value).toArray below meth c H locs 0 0 Q (F0 m 21 ls []) := by
      intro n2
      induction n2 with
      | zero => intro l3_2 v2 f2 hIv2 hq0_v2 hq1_v2 hq7_v2 hq8_v2 hq9_v2 hq10_v2 hq31_v2 hq32_v2 hr3_2 hM_v2 hA_f2 hm; exact absurd hm (Nat.not_lt_zero _)
      | succ n2 ih2 =>
        intro l3_2 v2 f2 hIv2 hq0_v2 hq1_v2 hq7_v2 hq8_v2 hq9_v2 hq10_v2 hq31_v2 hq32_v2 hr3_2 hM_v2 hA_f2 hm2 H locs ls hP hD hS hl
        refine lv_iload_n hx hb dX0_painted_21 rfl (lv_at hl 0 rfl) ?_
        refine lv_iload_n hx hb dX0_painted_22 rfl (lv_at hl 3 rfl) ?_
        refine lv_icmp_ge (tgt := 64) hx hb dX0_painted_23 (by decide) (fun c3 => ?_) (fun c3 => ?_)
        · skip
          have zc3 : p2.toInt ≤ l3_2.toInt := by rw [fa_le] at c3; exact c3
          have rg4 := fb_rng l3_2
          have rg5 := fb_rng p2
          refine lv_iconst (v := 0) hx hb dX0_painted_64 (by decide) ?_
          exact ret 0 (v2, f2) _ _ _ _ _ _ rfl ⟨hM_v2, hA_f2, hIv2, (show v2 0 = v 0 from hq0_v2), (show v2 1 = v 1 from hq1_v2), (show v2 7 = v 7 from hq7_v2), (show v2 8 = v 8 from hq8_v2), (show v2 9 = v 9 from hq9_v2), (show v2 10 = v 10 from hq10_v2), (show v2 31 = v 31 from hq31_v2), (show v2 32 = v 32 from hq32_v2), (Or.inr rfl)⟩ hP hD hS dX0_painted_65 (Nat.le_refl _) (Nat.le_refl _)
        · skip
          have zc3 : ¬ (p2.toInt ≤ l3_2.toInt) := by rw [fa_le] at c3; exact c3
          have rg6 := fb_rng l3_2
          have rg7 := fb_rng p2
          refine lv_aload_n hx hb dX0_painted_26 rfl (lv_at hl 1 rfl) ?_
          refine lv_iload_n hx hb dX0_painted_27 rfl (lv_at hl 2 rfl) ?_
          refine lv_iload_n hx hb dX0_painted_28 rfl (lv_at hl 0 rfl) ?_
          refine cbVi (n := 2) (rest := []) hx hb hml hown hts hE hP hD hS hA (sX_X0_isClear_1 l dC dI cy x0 x 5 l3_2 v2 f2 hIv2 ) k_1123 k_1125 k_34 k_111 k_1126 (by decide +kernel) ⟨Nat.le_of_ble_eq_true rfl, Nat.le_of_ble_eq_true rfl⟩ 32 0 rfl rfl (rfl) hl.1 rfl (Nat.le_of_ble_eq_true rfl) dX0_painted_29 (fun r8 u H locs hw hP hD hS => ?_)
          rcases hw with ⟨g9⟩ | ⟨g9⟩
          · skip
            subst g9
            refine lv_if_eq (tgt := 58) hx hb dX0_painted_32 (by decide) (fun c0 => absurd c0 (by decide)) (fun _ => ?_)
            refine lv_aload_n hx hb dX0_painted_35 rfl (lv_at hl 1 rfl) ?_
            refine lv_iload_n hx hb dX0_painted_36 rfl (lv_at hl 2 rfl) ?_
            refine va_put (D := (dC, dI)) (ci := 0) (v := .int 5) (ty := tyX0 3) (C := RX0) (T := TX0) (N := 8) hx hb hts inB_0 tyX0 tyX0_ok nmX0 hown hE.1 hP hD hS 32 rfl rfl 3 (by decide) (hts _ k_433) (fun _ h9 => h9) rfl (tyX0_ok 3 (by decide)) rfl rfl (Nat.le_of_ble_eq_true rfl) dX0_painted_37 (fun H locs hP hD hS => ?_)
            have hP : va_P (dC, dI) vwCl (XW cy x0 x (upd v2 38 5) f2) H := hP
            have hD : va_D A (XW cy x0 x (upd v2 38 5) f2) := hD
            refine lv_aload_n hx hb dX0_painted_40 rfl (lv_at hl 1 rfl) ?_
            refine lv_iload_n hx hb dX0_painted_41 rfl (lv_at hl 0 rfl) ?_
            refine cbVv (n := 1) (rest := []) hx hb hml hown hts hE hP hD hS hA (sX_X0_lay_1 l dC dI cy x0 x l3_2 (upd v2 38 5) f2 (XI.upd (j := 38) (x := 5) hIv2 (by decide) (by decide)) ) k_995 k_997 k_26 k_111 k_998 (by decide +kernel) ⟨Nat.le_of_ble_eq_true rfl, Nat.le_of_ble_eq_true rfl⟩ 32 0 rfl rfl (rfl) hl.1 rfl (Nat.le_of_ble_eq_true rfl) dX0_painted_42 (fun u H locs hw hP hD hS => ?_)
            obtain ⟨v10, f11⟩ := u
            obtain ⟨kV_v10, kF_f11, hIv10, hk0_v10, hk1_v10, hk7_v10, hk8_v10, hk9_v10, hk10_v10, hk31_v10, hk32_v10⟩ := hw
            have hM_v10 : KV [38] v10 v := KV.tr kV_v10 (KV.up (j := 38) (x := 5) hM_v2 rfl) rfl
            have hA_f11 : KF [20] f11 f := KF.tr kF_f11 hA_f2 rfl
            have hP : va_P (dC, dI) vwCl (XW cy x0 x v10 f11) H := hP
            have hD : va_D A (XW cy x0 x v10 f11) := hD
            have hq0_v10 : v10 0 = (v 0) := hk0_v10.trans hq0_v2
            have hq1_v10 : v10 1 = (v 1) := hk1_v10.trans hq1_v2
            have hq7_v10 : v10 7 = (v 7) := hk7_v10.trans hq7_v2
            have hq8_v10 : v10 8 = (v 8) := hk8_v10.trans hq8_v2
            have hq9_v10 : v10 9 = (v 9) := hk9_v10.trans hq9_v2
            have hq10_v10 : v10 10 = (v 10) := hk10_v10.trans hq10_v2
            have hq31_v10 : v10 31 = (v 31) := hk31_v10.trans hq31_v2
            have hq32_v10 : v10 32 = (v 32) := hk32_v10.trans hq32_v2
            refine lv_aload_n hx hb dX0_painted_45 rfl (lv_at hl 1 rfl) ?_
            refine lv_iload_n hx hb dX0_painted_46 rfl (lv_at hl 2 rfl) ?_
            refine lv_iconst (v := 1) hx hb dX0_painted_47 (by decide) ?_
            refine lv_iadd hx hb dX0_painted_48 ?_
            refine tI (y := 6) (by decide) ?_
            refine lv_iload_n hx hb dX0_painted_49 rfl (lv_at hl 3 rfl) ?_
            refine cbVi (n := 2) (rest := []) hx hb hml hown hts hE hP hD hS hA (sX_X0_painted_7 l dC dI cy x0 x p2 v10 f11 hIv10 ) k_1119 k_1121 k_33 k_111 k_1122 (by decide +kernel) ⟨Nat.le_of_ble_eq_true rfl, Nat.le_of_ble_eq_true rfl⟩ 32 0 rfl rfl (rfl) hl.1 rfl (Nat.le_of_ble_eq_true rfl) dX0_painted_50 (fun r12 u H locs hw hP hD hS => ?_)
            obtain ⟨v13, f14⟩ := u
            obtain ⟨kV_v13, kF_f14, hIv13, hk0_v13, hk1_v13, hk7_v13, hk8_v13, hk9_v13, hk10_v13, hk31_v13, hk32_v13, hw⟩ := hw
            have hM_v13 : KV [38] v13 v := KV.tr kV_v13 hM_v10 rfl
            have hA_f14 : KF [20] f14 f := KF.tr kF_f14 hA_f11 rfl
            have hP : va_P (dC, dI) vwCl (XW cy x0 x v13 f14) H := hP
            have hD : va_D A (XW cy x0 x v13 f14) := hD
            have hq0_v13 : v13 0 = (v 0) := hk0_v13.trans hq0_v10
            have hq1_v13 : v13 1 = (v 1) := hk1_v13.trans hq1_v10
            have hq7_v13 : v13 7 = (v 7) := hk7_v13.trans hq7_v10
            have hq8_v13 : v13 8 = (v 8) := hk8_v13.trans hq8_v10
            have hq9_v13 : v13 9 = (v 9) := hk9_v13.trans hq9_v10
            have hq10_v13 : v13 10 = (v 10) := hk10_v13.trans hq10_v10
            have hq31_v13 : v13 31 = (v 31) := hk31_v13.trans hq31_v10
            have hq32_v13 : v13 32 = (v 32) := hk32_v13.trans hq32_v10
            rcases hw with ⟨g15⟩ | ⟨g15⟩
            · skip
              subst g15
              refine lv_if_eq (tgt := 58) hx hb dX0_painted_53 (by decide) (fun c0 => absurd c0 (by decide)) (fun _ => ?_)
              refine lv_iconst (v := 1) hx hb dX0_painted_56 (by decide) ?_
              exact ret 1 (v13, f14) _ _ _ _ _ _ rfl ⟨hM_v13, hA_f14, hIv13, (hk0_v13.trans (hk0_v10.trans (show v2 0 = v 0 from hq0_v2))), (hk1_v13.trans (hk1_v10.trans (show v2 1 = v 1 from hq1_v2))), (hk7_v13.trans (hk7_v10.trans (show v2 7 = v 7 from hq7_v2))), (hk8_v13.trans (hk8_v10.trans (show v2 8 = v 8 from hq8_v2))), (hk9_v13.trans (hk9_v10.trans (show v2 9 = v 9 from hq9_v2))), (hk10_v13.trans (hk10_v10.trans (show v2 10 = v 10 from hq10_v2))), (hk31_v13.trans (hk31_v10.trans (show v2 31 = v 31 from hq31_v2))), (hk32_v13.trans (hk32_v10.trans (show v2 32 = v 32 from hq32_v2))), (Or.inl rfl)⟩ hP hD hS dX0_painted_57 (Nat.le_refl _) (Nat.le_refl _)
            · skip
              subst g15
              refine lv_if_eq (tgt := 58) hx hb dX0_painted_53 (by decide) (fun _ => ?_) (fun c0 => absurd (by decide) c0)
              obtain ⟨t16, et16⟩ : ∃ y : Int32, y = l3_2 + 1 := ⟨_, rfl⟩
              have zt16 : t16.toInt = l3_2.toInt + 1 := by rw [et16]; exact add_i rfl (by decide) (by omega) (by omega)
              refine lv_iinc (v := t16) (lv' := [(3, .int t16), (0, .ref (x 31)), (1, .int 5), (2, .int p2)]) hx hb dX0_painted_58 hl (k := 0) rfl (by rw [et16]; rfl) (by decide) rfl (fun ls hl => ?_)
              refine lv_goto (tgt := 21) hx hb dX0_painted_61 (by decide) ?_
              have rg17 := fb_rng t16
              exact ih2 t16 v13 f14 hIv13 hq0_v13 hq1_v13 hq7_v13 hq8_v13 hq9_v13 hq10_v13 hq31_v13 hq32_v13 ⟨show (0 : Int) ≤ t16.toInt by omega, show t16.toInt ≤ (2147483647 : Int) by omega⟩ hM_v13 hA_f14 (by show (2147483647 - t16.toInt).toNat < n2; omega) _ _ _ hP hD hS (lv_sub hl [0, 1, 2, 3] rfl)
          · skip
            subst g9
            refine lv_if_eq (tgt := 58) hx hb dX0_painted_32 (by decide) (fun _ => ?_) (fun c0 => absurd (by decide) c0)
            obtain ⟨t18, et18⟩ : ∃ y : Int32, y = l3_2 + 1 := ⟨_, rfl⟩
            have zt18 : t18.toInt = l3_2.toInt + 1 := by rw [et18]; exact add_i rfl (by decide) (by omega) (by omega)
            refine lv_iinc (v := t18) (lv' := [(3, .int t18), (0, .ref (x 31)), (1, .int 5), (2, .int p2)]) hx hb dX0_painted_58 hl (k := 0) rfl (by rw [et18]; rfl) (by decide) rfl (fun ls hl => ?_)
            refine lv_goto (tgt := 21) hx hb dX0_painted_61 (by decide) ?_
            have rg19 := fb_rng t18
            exact ih2 t18 v2 f2 hIv2 hq0_v2 hq1_v2 hq7_v2 hq8_v2 hq9_v2 hq10_v2 hq31_v2 hq32_v2 ⟨show (0 : Int) ≤ t18.toInt by omega, show t18.toInt ≤ (2147483647 : Int) by omega⟩ hM_v2 hA_f2 (by show (2147483647 - t18.toInt).toNat < n2; omega) _ _ _ hP hD hS (lv_sub hl [0, 1, 2, 3] rfl)
    exact lp2 _ 0 v f hIv rfl rfl rfl rfl rfl rfl rfl rfl ⟨by decide, by decide⟩ hM_v hA_f (Nat.lt_succ_self _) _ _ _ hP hD hS (lv_sub hl [0, 1, 2, 3] rfl)
set_option maxHeartbeats 4000000 in
set_option maxRecDepth 100000 in
theorem sX_X0_painted_5 (l : Launch) (dC : Nat → ClassId) (dI : Nat → Nat → Nat) (cy : Nat → ClassId) (x0 : Nat) (x : Nat → Nat) (p2 : Int32) (v : Nat → Int32) (f : Nat → Nat → Int32) (hIv : XI v)  : ctI l (dC, dI) cy yX0_painted cX0_painted 4 .boolean 5 151 0 0 ((Nat → Int32) × (Nat → Nat → Int32)) [.ref (x 31), .int 4, .int p2] (XW cy x0 x v f) (fun r u => KV [38] u.1 v ∧ KF [20] u.2 f ∧ XI u.1 ∧ u.1 0 = v 0 ∧ u.1 1 = v 1 ∧ u.1 7 = v 7 ∧ u.1 8 = v 8 ∧ u.1 9 = v 9 ∧ u.1 10 = v 10 ∧ u.1 31 = v 31 ∧ u.1 32 = v 32 ∧ ((r = 1) ∨ (r = 0))) (fun u => XW cy x0 x u.1 u.2) := by
  refine ctI_of (by decide) (Nat.le_of_ble_eq_true rfl) (fun p e s m below meth c A ls Q hx hb hml hts hown hE hP hD hA hl ret => ?_)
  have hM_v : KV [38] v v := fun _ _ => rfl
  have hA_f : KF [20] f f := fun _ _ => rfl
  have hown : s.vm.findClass RX0 = some m.cls := hown
  have hS : va_S A s.heap s.heap [] := va_S.rf
  have hl : lv_has ls 4 [(0, .ref (x 31)), (1, .int 4), (2, .int p2)] := hl
  refine lv_iload_n hx hb dX0_painted_0 rfl (lv_at hl 1 rfl) ?_
  refine lv_aload_n hx hb dX0_painted_1 rfl (lv_at hl 0 rfl) ?_
  refine va_get (D := (dC, dI)) (ci := 0) (v := .ref (x 26)) (C := RX0) (T := TX0) (N := 8) hx hb hts inB_0 hown hE.1 hP 32 rfl rfl 0 (by decide) (hts _ k_430) (fun _ h9 => h9) rfl dX0_painted_2 ?_
  refine va_getN (D := (dC, dI)) (ci := 7) (v := .int (v 31)) (C := RX7) (T := TX7) (N := 10) hx hb hts inB_7 hown hE.1 hP 27 rfl rfl 3 (by decide) (va_Nw.use rfl (hE.2 _ k_216)) (fun _ h9 => h9) rfl dX0_painted_5 ?_
  have b31_v : 0 ≤ (v 31).toInt ∧ (v 31).toInt ≤ 6 := XI.b hIv 31 (by decide)
  refine lv_icmp_ge (tgt := 17) hx hb dX0_painted_8 (by decide) (fun c1 => ?_) (fun c1 => ?_)
  · skip
    have zc1 : (v 31).toInt ≤ 4 := by rw [fa_le, show (4 : Int32).toInt = 4 from by decide] at c1; exact c1
    refine lv_iconst (v := 1) hx hb dX0_painted_17 (by decide) ?_
    exact ret 1 (v, f) _ _ _ _ _ _ rfl ⟨hM_v, hA_f, hIv, rfl, rfl, rfl, rfl, rfl, rfl, rfl, rfl, (Or.inl rfl)⟩ hP hD hS dX0_painted_18 (Nat.le_refl _) (Nat.le_refl _)
  · skip
    have zc1 : ¬ ((v 31).toInt ≤ 4) := by rw [fa_le, show (4 : Int32).toInt = 4 from by decide] at c1; exact c1
    refine lv_iload_n hx hb dX0_painted_11 rfl (lv_at hl 1 rfl) ?_
    refine lv_bipush (v := 6) hx hb dX0_painted_12 (by decide) ?_
    refine lv_icmp_lt (tgt := 19) hx hb dX0_painted_14 (by decide) (fun _ => ?_) (fun c0 => absurd (by decide) c0)
    refine lv_iconst (v := 0) hx hb dX0_painted_19 (by decide) ?_
    refine lv_istore_n (lv' := [(3, .int 0), (0, .ref (x 31)), (1, .int 4), (2, .int p2)]) hx hb dX0_painted_20 rfl hl (by decide) rfl (fun ls hl => ?_)
    have lp2 : ∀ (n2 : Nat) (l3_2 : Int32) (v2 : Nat → Int32) (f2 : Nat → Nat → Int32), XI v2 → v2 0 = (v 0) → v2 1 = (v 1) → v2 7 = (v 7) → v2 8 = (v 8) → v2 9 = (v 9) → v2 10 = (v 10) → v2 31 = (v 31) → v2 32 = (v 32) → ((0 : Int) ≤ l3_2.toInt ∧ l3_2.toInt ≤ 2147483647) → KV [38] v2 v → KF [20] f2 f → (2147483647 - l3_2.toInt).toNat < n2 → ∀ (H : Heap) (locs : List Loc) (ls : Array Slot), va_P (dC, dI) vwCl (XW cy x0 x v2 f2) H → va_D A (XW cy x0 x v2 f2) → va_S A s.heap H locs → lv_has ls 4 [(3, .int l3_2), (0, .ref (x 31)), (1, .int 4), (2, .int p2)] → W p l e { frames := 5, cells := 0, slots := 0, locals := 151 } s m ([.ref (x 31), .int 4, .int p2] : List Value).toArray below meth c H locs 0 0 Q (F0 m 21 ls []) := by
      intro n2
      induction n2 with
      | zero => intro l3_2 v2 f2 hIv2 hq0_v2 hq1_v2 hq7_v2 hq8_v2 hq9_v2 hq10_v2 hq31_v2 hq32_v2 hr3_2 hM_v2 hA_f2 hm; exact absurd hm (Nat.not_lt_zero _)
      | succ n2 ih2 =>
        intro l3_2 v2 f2 hIv2 hq0_v2 hq1_v2 hq7_v2 hq8_v2 hq9_v2 hq10_v2 hq31_v2 hq32_v2 hr3_2 hM_v2 hA_f2 hm2 H locs ls hP hD hS hl
        refine lv_iload_n hx hb dX0_painted_21 rfl (lv_at hl 0 rfl) ?_
        refine lv_iload_n hx hb dX0_painted_22 rfl (lv_at hl 3 rfl) ?_
        refine lv_icmp_ge (tgt := 64) hx hb dX0_painted_23 (by decide) (fun c3 => ?_) (fun c3 => ?_)
        · skip
          have zc3 : p2.toInt ≤ l3_2.toInt := by rw [fa_le] at c3; exact c3
          have rg4 := fb_rng l3_2
          have rg5 := fb_rng p2
          refine lv_iconst (v := 0) hx hb dX0_painted_64 (by decide) ?_
          exact ret 0 (v2, f2) _ _ _ _ _ _ rfl ⟨hM_v2, hA_f2, hIv2, (show v2 0 = v 0 from hq0_v2), (show v2 1 = v 1 from hq1_v2), (show v2 7 = v 7 from hq7_v2), (show v2 8 = v 8 from hq8_v2), (show v2 9 = v 9 from hq9_v2), (show v2 10 = v 10 from hq10_v2), (show v2 31 = v 31 from hq31_v2), (show v2 32 = v 32 from hq32_v2), (Or.inr rfl)⟩ hP hD hS dX0_painted_65 (Nat.le_refl _) (Nat.le_refl _)
        · skip
          have zc3 : ¬ (p2.toInt ≤ l3_2.toInt) := by rw [fa_le] at c3; exact c3
          have rg6 := fb_rng l3_2
          have rg7 := fb_rng p2
          refine lv_aload_n hx hb dX0_painted_26 rfl (lv_at hl 1 rfl) ?_
          refine lv_iload_n hx hb dX0_painted_27 rfl (lv_at hl 2 rfl) ?_
          refine lv_iload_n hx hb dX0_painted_28 rfl (lv_at hl 0 rfl) ?_
          refine cbVi (n := 2) (rest := []) hx hb hml hown hts hE hP hD hS hA (sX_X0_isClear_1 l dC dI cy x0 x 4 l3_2 v2 f2 hIv2 ) k_1123 k_1125 k_34 k_111 k_1126 (by decide +kernel) ⟨Nat.le_of_ble_eq_true rfl, Nat.le_of_ble_eq_true rfl⟩ 32 0 rfl rfl (rfl) hl.1 rfl (Nat.le_of_ble_eq_true rfl) dX0_painted_29 (fun r8 u H locs hw hP hD hS => ?_)
          rcases hw with ⟨g9⟩ | ⟨g9⟩
          · skip
            subst g9
            refine lv_if_eq (tgt := 58) hx hb dX0_painted_32 (by decide) (fun c0 => absurd c0 (by decide)) (fun _ => ?_)
            refine lv_aload_n hx hb dX0_painted_35 rfl (lv_at hl 1 rfl) ?_
            refine lv_iload_n hx hb dX0_painted_36 rfl (lv_at hl 2 rfl) ?_
            refine va_put (D := (dC, dI)) (ci := 0) (v := .int 4) (ty := tyX0 3) (C := RX0) (T := TX0) (N := 8) hx hb hts inB_0 tyX0 tyX0_ok nmX0 hown hE.1 hP hD hS 32 rfl rfl 3 (by decide) (hts _ k_433) (fun _ h9 => h9) rfl (tyX0_ok 3 (by decide)) rfl rfl (Nat.le_of_ble_eq_true rfl) dX0_painted_37 (fun H locs hP hD hS => ?_)
            have hP : va_P (dC, dI) vwCl (XW cy x0 x (upd v2 38 4) f2) H := hP
            have hD : va_D A (XW cy x0 x (upd v2 38 4) f2) := hD
            refine lv_aload_n hx hb dX0_painted_40 rfl (lv_at hl 1 rfl) ?_
            refine lv_iload_n hx hb dX0_painted_41 rfl (lv_at hl 0 rfl) ?_
            refine cbVv (n := 1) (rest := []) hx hb hml hown hts hE hP hD hS hA (sX_X0_lay_1 l dC dI cy x0 x l3_2 (upd v2 38 4) f2 (XI.upd (j := 38) (x := 4) hIv2 (by decide) (by decide)) ) k_995 k_997 k_26 k_111 k_998 (by decide +kernel) ⟨Nat.le_of_ble_eq_true rfl, Nat.le_of_ble_eq_true rfl⟩ 32 0 rfl rfl (rfl) hl.1 rfl (Nat.le_of_ble_eq_true rfl) dX0_painted_42 (fun u H locs hw hP hD hS => ?_)
            obtain ⟨v10, f11⟩ := u
            obtain ⟨kV_v10, kF_f11, hIv10, hk0_v10, hk1_v10, hk7_v10, hk8_v10, hk9_v10, hk10_v10, hk31_v10, hk32_v10⟩ := hw
            have hM_v10 : KV [38] v10 v := KV.tr kV_v10 (KV.up (j := 38) (x := 4) hM_v2 rfl) rfl
            have hA_f11 : KF [20] f11 f := KF.tr kF_f11 hA_f2 rfl
            have hP : va_P (dC, dI) vwCl (XW cy x0 x v10 f11) H := hP
            have hD : va_D A (XW cy x0 x v10 f11) := hD
            have hq0_v10 : v10 0 = (v 0) := hk0_v10.trans hq0_v2
            have hq1_v10 : v10 1 = (v 1) := hk1_v10.trans hq1_v2
            have hq7_v10 : v10 7 = (v 7) := hk7_v10.trans hq7_v2
            have hq8_v10 : v10 8 = (v 8) := hk8_v10.trans hq8_v2
            have hq9_v10 : v10 9 = (v 9) := hk9_v10.trans hq9_v2
            have hq10_v10 : v10 10 = (v 10) := hk10_v10.trans hq10_v2
            have hq31_v10 : v10 31 = (v 31) := hk31_v10.trans hq31_v2
            have hq32_v10 : v10 32 = (v 32) := hk32_v10.trans hq32_v2
            refine lv_aload_n hx hb dX0_painted_45 rfl (lv_at hl 1 rfl) ?_
            refine lv_iload_n hx hb dX0_painted_46 rfl (lv_at hl 2 rfl) ?_
            refine lv_iconst (v := 1) hx hb dX0_painted_47 (by decide) ?_
            refine lv_iadd hx hb dX0_painted_48 ?_
            refine tI (y := 5) (by decide) ?_
            refine lv_iload_n hx hb dX0_painted_49 rfl (lv_at hl 3 rfl) ?_
            refine cbVi (n := 2) (rest := []) hx hb hml hown hts hE hP hD hS hA (sX_X0_painted_6 l dC dI cy x0 x p2 v10 f11 hIv10 ) k_1119 k_1121 k_33 k_111 k_1122 (by decide +kernel) ⟨Nat.le_of_ble_eq_true rfl, Nat.le_of_ble_eq_true rfl⟩ 32 0 rfl rfl (rfl) hl.1 rfl (Nat.le_of_ble_eq_true rfl) dX0_painted_50 (fun r12 u H locs hw hP hD hS => ?_)
            obtain ⟨v13, f14⟩ := u
            obtain ⟨kV_v13, kF_f14, hIv13, hk0_v13, hk1_v13, hk7_v13, hk8_v13, hk9_v13, hk10_v13, hk31_v13, hk32_v13, hw⟩ := hw
            have hM_v13 : KV [38] v13 v := KV.tr kV_v13 hM_v10 rfl
            have hA_f14 : KF [20] f14 f := KF.tr kF_f14 hA_f11 rfl
            have hP : va_P (dC, dI) vwCl (XW cy x0 x v13 f14) H := hP
            have hD : va_D A (XW cy x0 x v13 f14) := hD
            have hq0_v13 : v13 0 = (v 0) := hk0_v13.trans hq0_v10
            have hq1_v13 : v13 1 = (v 1) := hk1_v13.trans hq1_v10
            have hq7_v13 : v13 7 = (v 7) := hk7_v13.trans hq7_v10
            have hq8_v13 : v13 8 = (v 8) := hk8_v13.trans hq8_v10
            have hq9_v13 : v13 9 = (v 9) := hk9_v13.trans hq9_v10
            have hq10_v13 : v13 10 = (v 10) := hk10_v13.trans hq10_v10
            have hq31_v13 : v13 31 = (v 31) := hk31_v13.trans hq31_v10
            have hq32_v13 : v13 32 = (v 32) := hk32_v13.trans hq32_v10
            rcases hw with ⟨g15⟩ | ⟨g15⟩
            · skip
              subst g15
              refine lv_if_eq (tgt := 58) hx hb dX0_painted_53 (by decide) (fun c0 => absurd c0 (by decide)) (fun _ => ?_)
              refine lv_iconst (v := 1) hx hb dX0_painted_56 (by decide) ?_
              exact ret 1 (v13, f14) _ _ _ _ _ _ rfl ⟨hM_v13, hA_f14, hIv13, (hk0_v13.trans (hk0_v10.trans (show v2 0 = v 0 from hq0_v2))), (hk1_v13.trans (hk1_v10.trans (show v2 1 = v 1 from hq1_v2))), (hk7_v13.trans (hk7_v10.trans (show v2 7 = v 7 from hq7_v2))), (hk8_v13.trans (hk8_v10.trans (show v2 8 = v 8 from hq8_v2))), (hk9_v13.trans (hk9_v10.trans (show v2 9 = v 9 from hq9_v2))), (hk10_v13.trans (hk10_v10.trans (show v2 10 = v 10 from hq10_v2))), (hk31_v13.trans (hk31_v10.trans (show v2 31 = v 31 from hq31_v2))), (hk32_v13.trans (hk32_v10.trans (show v2 32 = v 32 from hq32_v2))), (Or.inl rfl)⟩ hP hD hS dX0_painted_57 (Nat.le_refl _) (Nat.le_refl _)
            · skip
              subst g15
              refine lv_if_eq (tgt := 58) hx hb dX0_painted_53 (by decide) (fun _ => ?_) (fun c0 => absurd (by decide) c0)
              obtain ⟨t16, et16⟩ : ∃ y : Int32, y = l3_2 + 1 := ⟨_, rfl⟩
              have zt16 : t16.toInt = l3_2.toInt + 1 := by rw [et16]; exact add_i rfl (by decide) (by omega) (by omega)
              refine lv_iinc (v := t16) (lv' := [(3, .int t16), (0, .ref (x 31)), (1, .int 4), (2, .int p2)]) hx hb dX0_painted_58 hl (k := 0) rfl (by rw [et16]; rfl) (by decide) rfl (fun ls hl => ?_)
              refine lv_goto (tgt := 21) hx hb dX0_painted_61 (by decide) ?_
              have rg17 := fb_rng t16
              exact ih2 t16 v13 f14 hIv13 hq0_v13 hq1_v13 hq7_v13 hq8_v13 hq9_v13 hq10_v13 hq31_v13 hq32_v13 ⟨show (0 : Int) ≤ t16.toInt by omega, show t16.toInt ≤ (2147483647 : Int) by omega⟩ hM_v13 hA_f14 (by show (2147483647 - t16.toInt).toNat < n2; omega) _ _ _ hP hD hS (lv_sub hl [0, 1, 2, 3] rfl)
          · skip
            subst g9
            refine lv_if_eq (tgt := 58) hx hb dX0_painted_32 (by decide) (fun _ => ?_) (fun c0 => absurd (by decide) c0)
            obtain ⟨t18, et18⟩ : ∃ y : Int32, y = l3_2 + 1 := ⟨_, rfl⟩
            have zt18 : t18.toInt = l3_2.toInt + 1 := by rw [et18]; exact add_i rfl (by decide) (by omega) (by omega)
            refine lv_iinc (v := t18) (lv' := [(3, .int t18), (0, .ref (x 31)), (1, .int 4), (2, .int p2)]) hx hb dX0_painted_58 hl (k := 0) rfl (by rw [et18]; rfl) (by decide) rfl (fun ls hl => ?_)
            refine lv_goto (tgt := 21) hx hb dX0_painted_61 (by decide) ?_
            have rg19 := fb_rng t18
            exact ih2 t18 v2 f2 hIv2 hq0_v2 hq1_v2 hq7_v2 hq8_v2 hq9_v2 hq10_v2 hq31_v2 hq32_v2 ⟨show (0 : Int) ≤ t18.toInt by omega, show t18.toInt ≤ (2147483647 : Int) by omega⟩ hM_v2 hA_f2 (by show (2147483647 - t18.toInt).toNat < n2; omega) _ _ _ hP hD hS (lv_sub hl [0, 1, 2, 3] rfl)
    exact lp2 _ 0 v f hIv rfl rfl rfl rfl rfl rfl rfl rfl ⟨by decide, by decide⟩ hM_v hA_f (Nat.lt_succ_self _) _ _ _ hP hD hS (lv_sub hl [0, 1, 2, 3] rfl)
set_option maxHeartbeats 4000000 in
set_option maxRecDepth 100000 in
theorem sX_X0_painted_4 (l : Launch) (dC : Nat → ClassId) (dI : Nat → Nat → Nat) (cy : Nat → ClassId) (x0 : Nat) (x : Nat → Nat) (p2 : Int32) (v : Nat → Int32) (f : Nat → Nat → Int32) (hIv : XI v)  : ctI l (dC, dI) cy yX0_painted cX0_painted 4 .boolean 6 174 0 0 ((Nat → Int32) × (Nat → Nat → Int32)) [.ref (x 31), .int 3, .int p2] (XW cy x0 x v f) (fun r u => KV [38] u.1 v ∧ KF [20] u.2 f ∧ XI u.1 ∧ u.1 0 = v 0 ∧ u.1 1 = v 1 ∧ u.1 7 = v 7 ∧ u.1 8 = v 8 ∧ u.1 9 = v 9 ∧ u.1 10 = v 10 ∧ u.1 31 = v 31 ∧ u.1 32 = v 32 ∧ ((r = 1) ∨ (r = 0))) (fun u => XW cy x0 x u.1 u.2) := by
  refine ctI_of (by decide) (Nat.le_of_ble_eq_true rfl) (fun p e s m below meth c A ls Q hx hb hml hts hown hE hP hD hA hl ret => ?_)
  have hM_v : KV [38] v v := fun _ _ => rfl
  have hA_f : KF [20] f f := fun _ _ => rfl
  have hown : s.vm.findClass RX0 = some m.cls := hown
  have hS : va_S A s.heap s.heap [] := va_S.rf
  have hl : lv_has ls 4 [(0, .ref (x 31)), (1, .int 3), (2, .int p2)] := hl
  refine lv_iload_n hx hb dX0_painted_0 rfl (lv_at hl 1 rfl) ?_
  refine lv_aload_n hx hb dX0_painted_1 rfl (lv_at hl 0 rfl) ?_
  refine va_get (D := (dC, dI)) (ci := 0) (v := .ref (x 26)) (C := RX0) (T := TX0) (N := 8) hx hb hts inB_0 hown hE.1 hP 32 rfl rfl 0 (by decide) (hts _ k_430) (fun _ h9 => h9) rfl dX0_painted_2 ?_
  refine va_getN (D := (dC, dI)) (ci := 7) (v := .int (v 31)) (C := RX7) (T := TX7) (N := 10) hx hb hts inB_7 hown hE.1 hP 27 rfl rfl 3 (by decide) (va_Nw.use rfl (hE.2 _ k_216)) (fun _ h9 => h9) rfl dX0_painted_5 ?_
  have b31_v : 0 ≤ (v 31).toInt ∧ (v 31).toInt ≤ 6 := XI.b hIv 31 (by decide)
  refine lv_icmp_ge (tgt := 17) hx hb dX0_painted_8 (by decide) (fun c1 => ?_) (fun c1 => ?_)
  · skip
    have zc1 : (v 31).toInt ≤ 3 := by rw [fa_le, show (3 : Int32).toInt = 3 from by decide] at c1; exact c1
    refine lv_iconst (v := 1) hx hb dX0_painted_17 (by decide) ?_
    exact ret 1 (v, f) _ _ _ _ _ _ rfl ⟨hM_v, hA_f, hIv, rfl, rfl, rfl, rfl, rfl, rfl, rfl, rfl, (Or.inl rfl)⟩ hP hD hS dX0_painted_18 (Nat.le_refl _) (Nat.le_refl _)
  · skip
    have zc1 : ¬ ((v 31).toInt ≤ 3) := by rw [fa_le, show (3 : Int32).toInt = 3 from by decide] at c1; exact c1
    refine lv_iload_n hx hb dX0_painted_11 rfl (lv_at hl 1 rfl) ?_
    refine lv_bipush (v := 6) hx hb dX0_painted_12 (by decide) ?_
    refine lv_icmp_lt (tgt := 19) hx hb dX0_painted_14 (by decide) (fun _ => ?_) (fun c0 => absurd (by decide) c0)
    refine lv_iconst (v := 0) hx hb dX0_painted_19 (by decide) ?_
    refine lv_istore_n (lv' := [(3, .int 0), (0, .ref (x 31)), (1, .int 3), (2, .int p2)]) hx hb dX0_painted_20 rfl hl (by decide) rfl (fun ls hl => ?_)
    have lp2 : ∀ (n2 : Nat) (l3_2 : Int32) (v2 : Nat → Int32) (f2 : Nat → Nat → Int32), XI v2 → v2 0 = (v 0) → v2 1 = (v 1) → v2 7 = (v 7) → v2 8 = (v 8) → v2 9 = (v 9) → v2 10 = (v 10) → v2 31 = (v 31) → v2 32 = (v 32) → ((0 : Int) ≤ l3_2.toInt ∧ l3_2.toInt ≤ 2147483647) → KV [38] v2 v → KF [20] f2 f → (2147483647 - l3_2.toInt).toNat < n2 → ∀ (H : Heap) (locs : List Loc) (ls : Array Slot), va_P (dC, dI) vwCl (XW cy x0 x v2 f2) H → va_D A (XW cy x0 x v2 f2) → va_S A s.heap H locs → lv_has ls 4 [(3, .int l3_2), (0, .ref (x 31)), (1, .int 3), (2, .int p2)] → W p l e { frames := 6, cells := 0, slots := 0, locals := 174 } s m ([.ref (x 31), .int 3, .int p2] : List Value).toArray below meth c H locs 0 0 Q (F0 m 21 ls []) := by
      intro n2
      induction n2 with
      | zero => intro l3_2 v2 f2 hIv2 hq0_v2 hq1_v2 hq7_v2 hq8_v2 hq9_v2 hq10_v2 hq31_v2 hq32_v2 hr3_2 hM_v2 hA_f2 hm; exact absurd hm (Nat.not_lt_zero _)
      | succ n2 ih2 =>
        intro l3_2 v2 f2 hIv2 hq0_v2 hq1_v2 hq7_v2 hq8_v2 hq9_v2 hq10_v2 hq31_v2 hq32_v2 hr3_2 hM_v2 hA_f2 hm2 H locs ls hP hD hS hl
        refine lv_iload_n hx hb dX0_painted_21 rfl (lv_at hl 0 rfl) ?_
        refine lv_iload_n hx hb dX0_painted_22 rfl (lv_at hl 3 rfl) ?_
        refine lv_icmp_ge (tgt := 64) hx hb dX0_painted_23 (by decide) (fun c3 => ?_) (fun c3 => ?_)
        · skip
          have zc3 : p2.toInt ≤ l3_2.toInt := by rw [fa_le] at c3; exact c3
          have rg4 := fb_rng l3_2
          have rg5 := fb_rng p2
          refine lv_iconst (v := 0) hx hb dX0_painted_64 (by decide) ?_
          exact ret 0 (v2, f2) _ _ _ _ _ _ rfl ⟨hM_v2, hA_f2, hIv2, (show v2 0 = v 0 from hq0_v2), (show v2 1 = v 1 from hq1_v2), (show v2 7 = v 7 from hq7_v2), (show v2 8 = v 8 from hq8_v2), (show v2 9 = v 9 from hq9_v2), (show v2 10 = v 10 from hq10_v2), (show v2 31 = v 31 from hq31_v2), (show v2 32 = v 32 from hq32_v2), (Or.inr rfl)⟩ hP hD hS dX0_painted_65 (Nat.le_refl _) (Nat.le_refl _)
        · skip
          have zc3 : ¬ (p2.toInt ≤ l3_2.toInt) := by rw [fa_le] at c3; exact c3
          have rg6 := fb_rng l3_2
          have rg7 := fb_rng p2
          refine lv_aload_n hx hb dX0_painted_26 rfl (lv_at hl 1 rfl) ?_
          refine lv_iload_n hx hb dX0_painted_27 rfl (lv_at hl 2 rfl) ?_
          refine lv_iload_n hx hb dX0_painted_28 rfl (lv_at hl 0 rfl) ?_
          refine cbVi (n := 2) (rest := []) hx hb hml hown hts hE hP hD hS hA (sX_X0_isClear_1 l dC dI cy x0 x 3 l3_2 v2 f2 hIv2 ) k_1123 k_1125 k_34 k_111 k_1126 (by decide +kernel) ⟨Nat.le_of_ble_eq_true rfl, Nat.le_of_ble_eq_true rfl⟩ 32 0 rfl rfl (rfl) hl.1 rfl (Nat.le_of_ble_eq_true rfl) dX0_painted_29 (fun r8 u H locs hw hP hD hS => ?_)
          rcases hw with ⟨g9⟩ | ⟨g9⟩
          · skip
            subst g9
            refine lv_if_eq (tgt := 58) hx hb dX0_painted_32 (by decide) (fun c0 => absurd c0 (by decide)) (fun _ => ?_)
            refine lv_aload_n hx hb dX0_painted_35 rfl (lv_at hl 1 rfl) ?_
            refine lv_iload_n hx hb dX0_painted_36 rfl (lv_at hl 2 rfl) ?_
            refine va_put (D := (dC, dI)) (ci := 0) (v := .int 3) (ty := tyX0 3) (C := RX0) (T := TX0) (N := 8) hx hb hts inB_0 tyX0 tyX0_ok nmX0 hown hE.1 hP hD hS 32 rfl rfl 3 (by decide) (hts _ k_433) (fun _ h9 => h9) rfl (tyX0_ok 3 (by decide)) rfl rfl (Nat.le_of_ble_eq_true rfl) dX0_painted_37 (fun H locs hP hD hS => ?_)
            have hP : va_P (dC, dI) vwCl (XW cy x0 x (upd v2 38 3) f2) H := hP
            have hD : va_D A (XW cy x0 x (upd v2 38 3) f2) := hD
            refine lv_aload_n hx hb dX0_painted_40 rfl (lv_at hl 1 rfl) ?_
            refine lv_iload_n hx hb dX0_painted_41 rfl (lv_at hl 0 rfl) ?_
            refine cbVv (n := 1) (rest := []) hx hb hml hown hts hE hP hD hS hA (sX_X0_lay_1 l dC dI cy x0 x l3_2 (upd v2 38 3) f2 (XI.upd (j := 38) (x := 3) hIv2 (by decide) (by decide)) ) k_995 k_997 k_26 k_111 k_998 (by decide +kernel) ⟨Nat.le_of_ble_eq_true rfl, Nat.le_of_ble_eq_true rfl⟩ 32 0 rfl rfl (rfl) hl.1 rfl (Nat.le_of_ble_eq_true rfl) dX0_painted_42 (fun u H locs hw hP hD hS => ?_)
            obtain ⟨v10, f11⟩ := u
            obtain ⟨kV_v10, kF_f11, hIv10, hk0_v10, hk1_v10, hk7_v10, hk8_v10, hk9_v10, hk10_v10, hk31_v10, hk32_v10⟩ := hw
            have hM_v10 : KV [38] v10 v := KV.tr kV_v10 (KV.up (j := 38) (x := 3) hM_v2 rfl) rfl
            have hA_f11 : KF [20] f11 f := KF.tr kF_f11 hA_f2 rfl
            have hP : va_P (dC, dI) vwCl (XW cy x0 x v10 f11) H := hP
            have hD : va_D A (XW cy x0 x v10 f11) := hD
            have hq0_v10 : v10 0 = (v 0) := hk0_v10.trans hq0_v2
            have hq1_v10 : v10 1 = (v 1) := hk1_v10.trans hq1_v2
            have hq7_v10 : v10 7 = (v 7) := hk7_v10.trans hq7_v2
            have hq8_v10 : v10 8 = (v 8) := hk8_v10.trans hq8_v2
            have hq9_v10 : v10 9 = (v 9) := hk9_v10.trans hq9_v2
            have hq10_v10 : v10 10 = (v 10) := hk10_v10.trans hq10_v2
            have hq31_v10 : v10 31 = (v 31) := hk31_v10.trans hq31_v2
            have hq32_v10 : v10 32 = (v 32) := hk32_v10.trans hq32_v2
            refine lv_aload_n hx hb dX0_painted_45 rfl (lv_at hl 1 rfl) ?_
            refine lv_iload_n hx hb dX0_painted_46 rfl (lv_at hl 2 rfl) ?_
            refine lv_iconst (v := 1) hx hb dX0_painted_47 (by decide) ?_
            refine lv_iadd hx hb dX0_painted_48 ?_
            refine tI (y := 4) (by decide) ?_
            refine lv_iload_n hx hb dX0_painted_49 rfl (lv_at hl 3 rfl) ?_
            refine cbVi (n := 2) (rest := []) hx hb hml hown hts hE hP hD hS hA (sX_X0_painted_5 l dC dI cy x0 x p2 v10 f11 hIv10 ) k_1119 k_1121 k_33 k_111 k_1122 (by decide +kernel) ⟨Nat.le_of_ble_eq_true rfl, Nat.le_of_ble_eq_true rfl⟩ 32 0 rfl rfl (rfl) hl.1 rfl (Nat.le_of_ble_eq_true rfl) dX0_painted_50 (fun r12 u H locs hw hP hD hS => ?_)
            obtain ⟨v13, f14⟩ := u
            obtain ⟨kV_v13, kF_f14, hIv13, hk0_v13, hk1_v13, hk7_v13, hk8_v13, hk9_v13, hk10_v13, hk31_v13, hk32_v13, hw⟩ := hw
            have hM_v13 : KV [38] v13 v := KV.tr kV_v13 hM_v10 rfl
            have hA_f14 : KF [20] f14 f := KF.tr kF_f14 hA_f11 rfl
            have hP : va_P (dC, dI) vwCl (XW cy x0 x v13 f14) H := hP
            have hD : va_D A (XW cy x0 x v13 f14) := hD
            have hq0_v13 : v13 0 = (v 0) := hk0_v13.trans hq0_v10
            have hq1_v13 : v13 1 = (v 1) := hk1_v13.trans hq1_v10
            have hq7_v13 : v13 7 = (v 7) := hk7_v13.trans hq7_v10
            have hq8_v13 : v13 8 = (v 8) := hk8_v13.trans hq8_v10
            have hq9_v13 : v13 9 = (v 9) := hk9_v13.trans hq9_v10
            have hq10_v13 : v13 10 = (v 10) := hk10_v13.trans hq10_v10
            have hq31_v13 : v13 31 = (v 31) := hk31_v13.trans hq31_v10
            have hq32_v13 : v13 32 = (v 32) := hk32_v13.trans hq32_v10
            rcases hw with ⟨g15⟩ | ⟨g15⟩
            · skip
              subst g15
              refine lv_if_eq (tgt := 58) hx hb dX0_painted_53 (by decide) (fun c0 => absurd c0 (by decide)) (fun _ => ?_)
              refine lv_iconst (v := 1) hx hb dX0_painted_56 (by decide) ?_
              exact ret 1 (v13, f14) _ _ _ _ _ _ rfl ⟨hM_v13, hA_f14, hIv13, (hk0_v13.trans (hk0_v10.trans (show v2 0 = v 0 from hq0_v2))), (hk1_v13.trans (hk1_v10.trans (show v2 1 = v 1 from hq1_v2))), (hk7_v13.trans (hk7_v10.trans (show v2 7 = v 7 from hq7_v2))), (hk8_v13.trans (hk8_v10.trans (show v2 8 = v 8 from hq8_v2))), (hk9_v13.trans (hk9_v10.trans (show v2 9 = v 9 from hq9_v2))), (hk10_v13.trans (hk10_v10.trans (show v2 10 = v 10 from hq10_v2))), (hk31_v13.trans (hk31_v10.trans (show v2 31 = v 31 from hq31_v2))), (hk32_v13.trans (hk32_v10.trans (show v2 32 = v 32 from hq32_v2))), (Or.inl rfl)⟩ hP hD hS dX0_painted_57 (Nat.le_refl _) (Nat.le_refl _)
            · skip
              subst g15
              refine lv_if_eq (tgt := 58) hx hb dX0_painted_53 (by decide) (fun _ => ?_) (fun c0 => absurd (by decide) c0)
              obtain ⟨t16, et16⟩ : ∃ y : Int32, y = l3_2 + 1 := ⟨_, rfl⟩
              have zt16 : t16.toInt = l3_2.toInt + 1 := by rw [et16]; exact add_i rfl (by decide) (by omega) (by omega)
              refine lv_iinc (v := t16) (lv' := [(3, .int t16), (0, .ref (x 31)), (1, .int 3), (2, .int p2)]) hx hb dX0_painted_58 hl (k := 0) rfl (by rw [et16]; rfl) (by decide) rfl (fun ls hl => ?_)
              refine lv_goto (tgt := 21) hx hb dX0_painted_61 (by decide) ?_
              have rg17 := fb_rng t16
              exact ih2 t16 v13 f14 hIv13 hq0_v13 hq1_v13 hq7_v13 hq8_v13 hq9_v13 hq10_v13 hq31_v13 hq32_v13 ⟨show (0 : Int) ≤ t16.toInt by omega, show t16.toInt ≤ (2147483647 : Int) by omega⟩ hM_v13 hA_f14 (by show (2147483647 - t16.toInt).toNat < n2; omega) _ _ _ hP hD hS (lv_sub hl [0, 1, 2, 3] rfl)
          · skip
            subst g9
            refine lv_if_eq (tgt := 58) hx hb dX0_painted_32 (by decide) (fun _ => ?_) (fun c0 => absurd (by decide) c0)
            obtain ⟨t18, et18⟩ : ∃ y : Int32, y = l3_2 + 1 := ⟨_, rfl⟩
            have zt18 : t18.toInt = l3_2.toInt + 1 := by rw [et18]; exact add_i rfl (by decide) (by omega) (by omega)
            refine lv_iinc (v := t18) (lv' := [(3, .int t18), (0, .ref (x 31)), (1, .int 3), (2, .int p2)]) hx hb dX0_painted_58 hl (k := 0) rfl (by rw [et18]; rfl) (by decide) rfl (fun ls hl => ?_)
            refine lv_goto (tgt := 21) hx hb dX0_painted_61 (by decide) ?_
            have rg19 := fb_rng t18
            exact ih2 t18 v2 f2 hIv2 hq0_v2 hq1_v2 hq7_v2 hq8_v2 hq9_v2 hq10_v2 hq31_v2 hq32_v2 ⟨show (0 : Int) ≤ t18.toInt by omega, show t18.toInt ≤ (2147483647 : Int) by omega⟩ hM_v2 hA_f2 (by show (2147483647 - t18.toInt).toNat < n2; omega) _ _ _ hP hD hS (lv_sub hl [0, 1, 2, 3] rfl)
    exact lp2 _ 0 v f hIv rfl rfl rfl rfl rfl rfl rfl rfl ⟨by decide, by decide⟩ hM_v hA_f (Nat.lt_succ_self _) _ _ _ hP hD hS (lv_sub hl [0, 1, 2, 3] rfl)
