set_option maxHeartbeats 4000000 in
set_option maxRecDepth 100000 in
theorem sY_X11_wideOf_1 (l : Launch) (dC : Nat → ClassId) (dI : Nat → Nat → Nat) (cy : Nat → ClassId) (y0 : Nat) (r : Nat → Nat) (p1 : Int32) (v : Nat → Int32) (f : Nat → Nat → Int32) (w : Int64) (g : Nat → Int64) (hIv : YI v) (hCf : YC f) (hRf : progOK (f 4) (f 5) (v 9).toInt.toNat)  : ctI l (dC, dI) cy yX11_wideOf cX11_wideOf 4 .int 1 60 0 0 Unit [.ref y0, .int p1] (YW cy y0 r v f w g) (fun r u => True) (fun u => YW cy y0 r v f w g) := by
  refine ctI_of (by decide) (Nat.le_of_ble_eq_true rfl) (fun p e s m below meth c A ls Q hx hb hml hts hown hE hP hD hA hl ret => ?_)
  have hUv : (v 35).toInt + (v 36).toInt ≤ 40 := hIv.2
  have hown : s.vm.findClass RX11 = some m.cls := hown
  have hS : va_S A s.heap s.heap [] := va_S.rf
  have hl : lv_has ls 4 [(0, .ref y0), (1, .int p1)] := hl
  refine lv_iconst (v := 0) hx hb dX11_wideOf_0 (by decide) ?_
  refine lv_istore_n (lv' := [(2, .int 0), (0, .ref y0), (1, .int p1)]) hx hb dX11_wideOf_1 rfl hl (by decide) rfl (fun ls hl => ?_)
  refine lv_iconst (v := 0) hx hb dX11_wideOf_2 (by decide) ?_
  refine lv_istore_n (lv' := [(3, .int 0), (2, .int 0), (0, .ref y0), (1, .int p1)]) hx hb dX11_wideOf_3 rfl hl (by decide) rfl (fun ls hl => ?_)
  have lp1 : ∀ (n1 : Nat) (l2_1 : Int32) (l3_1 : Int32), ((0 : Int) ≤ l3_1.toInt ∧ l3_1.toInt ≤ 2147483647) → (2147483647 - l3_1.toInt).toNat < n1 → ∀ (H : Heap) (locs : List Loc) (ls : Array Slot), va_P (dC, dI) vwCl (YW cy y0 r v f w g) H → va_D A (YW cy y0 r v f w g) → va_S A s.heap H locs → lv_has ls 4 [(3, .int l3_1), (2, .int l2_1), (0, .ref y0), (1, .int p1)] → W p l e { frames := 1, cells := 0, slots := 0, locals := 60 } s m ([.ref y0, .int p1] : List Value).toArray below meth c H locs 0 0 Q (F0 m 4 ls []) := by
    intro n1
    induction n1 with
    | zero => intro l2_1 l3_1 hr3_1 hm; exact absurd hm (Nat.not_lt_zero _)
    | succ n1 ih1 =>
      intro l2_1 l3_1 hr3_1 hm1 H locs ls hP hD hS hl
      refine lv_iload_n hx hb dX11_wideOf_4 rfl (lv_at hl 0 rfl) ?_
      refine lv_aload_n hx hb dX11_wideOf_5 rfl (lv_at hl 2 rfl) ?_
      refine va_get (D := (dC, dI)) (ci := 11) (v := .int (v 24)) (C := RX11) (T := TX11) (N := 79) hx hb hts inB_11 hown hE.1 hP 0 rfl rfl 48 (by decide) (hts _ k_1368) (fun _ h9 => h9) rfl dX11_wideOf_6 ?_
      have b24_v : 0 ≤ (v 24).toInt ∧ (v 24).toInt ≤ 6 := YIb.b hIv.1 24 (by decide)
      refine lv_icmp_ge (tgt := 51) hx hb dX11_wideOf_9 (by decide) (fun c2 => ?_) (fun c2 => ?_)
      · skip
        have zc2 : (v 24).toInt ≤ l3_1.toInt := by rw [fa_le] at c2; exact c2
        have rg3 := fb_rng l3_1
        have rg4 := fb_rng (v 24)
        refine lv_iload_n hx hb dX11_wideOf_51 rfl (lv_at hl 1 rfl) ?_
        exact ret l2_1 () _ _ _ _ _ _ rfl trivial hP hD hS dX11_wideOf_52 (Nat.le_refl _) (Nat.le_refl _)
      · skip
        have zc2 : ¬ ((v 24).toInt ≤ l3_1.toInt) := by rw [fa_le] at c2; exact c2
        have rg5 := fb_rng l3_1
        have rg6 := fb_rng (v 24)
        refine lv_iload_n hx hb dX11_wideOf_12 rfl (lv_at hl 1 rfl) ?_
        refine lv_iload_n hx hb dX11_wideOf_13 rfl (lv_at hl 3 rfl) ?_
        refine lv_iload_n hx hb dX11_wideOf_14 rfl (lv_at hl 0 rfl) ?_
        refine lv_ishr hx hb dX11_wideOf_15 ?_
        refine lv_topi (fun t7 et7 => ?_)
        refine lv_iconst (v := 1) hx hb dX11_wideOf_16 (by decide) ?_
        refine lv_iand hx hb dX11_wideOf_17 ?_
        refine lv_topi (fun t8 et8 => ?_)
        have zt8 : 0 ≤ t8.toInt ∧ t8.toInt < 2 := by rw [et8]; exact and_rng _ (k := 1) (by decide) (by decide)
        refine lv_iconst (v := 1) hx hb dX11_wideOf_18 (by decide) ?_
        refine lv_icmp_ne (tgt := 42) hx hb dX11_wideOf_19 (by decide) (fun c9 => ?_) (fun c9 => ?_)
        · skip
          have zc9 : ¬ (t8.toInt = 1) := by rw [fa_eq, show (1 : Int32).toInt = 1 from by decide] at c9; exact c9
          refine lv_iconst (v := 0) hx hb dX11_wideOf_42 (by decide) ?_
          refine lv_iadd hx hb dX11_wideOf_43 ?_
          refine lv_topi (fun t10 et10 => ?_)
          have rg11 := fb_rng l2_1
          have zt10 : t10.toInt = l2_1.toInt + 0 := by rw [et10]; exact add_i rfl (by decide) (by omega) (by omega)
          refine lv_istore_n (lv' := [(2, .int t10), (3, .int l3_1), (0, .ref y0), (1, .int p1)]) hx hb dX11_wideOf_44 rfl hl (by decide) rfl (fun ls hl => ?_)
          obtain ⟨t12, et12⟩ : ∃ y : Int32, y = l3_1 + 1 := ⟨_, rfl⟩
          have zt12 : t12.toInt = l3_1.toInt + 1 := by rw [et12]; exact add_i rfl (by decide) (by omega) (by omega)
          refine lv_iinc (v := t12) (lv' := [(3, .int t12), (2, .int t10), (0, .ref y0), (1, .int p1)]) hx hb dX11_wideOf_45 hl (k := 1) rfl (by rw [et12]; rfl) (by decide) rfl (fun ls hl => ?_)
          refine lv_goto (tgt := 4) hx hb dX11_wideOf_48 (by decide) ?_
          have rg13 := fb_rng t12
          exact ih1 t10 t12 ⟨show (0 : Int) ≤ t12.toInt by omega, show t12.toInt ≤ (2147483647 : Int) by omega⟩ (by show (2147483647 - t12.toInt).toNat < n1; omega) _ _ _ hP hD hS (lv_sub hl [0, 1, 2, 3] rfl)
        · skip
          have zc9 : t8.toInt = 1 := by rw [fa_eq, show (1 : Int32).toInt = 1 from by decide] at c9; exact c9
          refine lv_aload_n hx hb dX11_wideOf_22 rfl (lv_at hl 2 rfl) ?_
          refine va_get (D := (dC, dI)) (ci := 11) (v := .ref (r 60)) (C := RX11) (T := TX11) (N := 79) hx hb hts inB_11 hown hE.1 hP 0 rfl rfl 60 (by decide) (hts _ k_1380) (fun _ h9 => h9) rfl dX11_wideOf_23 ?_
          refine lv_bipush (v := 18) hx hb dX11_wideOf_26 (by decide) ?_
          refine lv_aload_n hx hb dX11_wideOf_28 rfl (lv_at hl 2 rfl) ?_
          refine va_get (D := (dC, dI)) (ci := 11) (v := .ref (r 60)) (C := RX11) (T := TX11) (N := 79) hx hb hts inB_11 hown hE.1 hP 0 rfl rfl 60 (by decide) (hts _ k_1380) (fun _ h9 => h9) rfl dX11_wideOf_29 ?_
          refine lv_bipush (v := 6) hx hb dX11_wideOf_32 (by decide) ?_
          refine lv_iload_n hx hb dX11_wideOf_34 rfl (lv_at hl 0 rfl) ?_
          refine lv_iadd hx hb dX11_wideOf_35 ?_
          refine lv_topi (fun t14 et14 => ?_)
          have zt14 : t14.toInt = 6 + l3_1.toInt := by rw [et14]; exact add_i (by decide) rfl (by omega) (by omega)
          refine ldI hx hb hE hP 25 rfl (vp_in_iff.mpr ⟨by omega, by omega⟩) rfl rfl dX11_wideOf_36 ?_
          refine lv_topi (fun t15 et15 => ?_)
          have zt15 : t14.toInt.toNat % 39 < 6 ∨ 12 ≤ t14.toInt.toNat % 39 ∨ (-1 ≤ t15.toInt ∧ t15.toInt ≤ 5) := by rw [et15]; exact wear_ld hCf.2.1 (show t14.toInt.toNat < 39 by omega)
          refine lv_iadd hx hb dX11_wideOf_37 ?_
          refine lv_topi (fun t16 et16 => ?_)
          have rg17 := fb_rng t15
          have zt16 : t16.toInt = 18 + t15.toInt := by rw [et16]; exact add_i (by decide) rfl (by omega) (by omega)
          refine ldI hx hb hE hP 25 rfl (vp_in_iff.mpr ⟨by omega, by omega⟩) rfl rfl dX11_wideOf_38 ?_
          refine lv_topi (fun t18 et18 => ?_)
          have zt18 : t16.toInt.toNat % 39 < 6 ∨ 12 ≤ t16.toInt.toNat % 39 ∨ (-1 ≤ t18.toInt ∧ t18.toInt ≤ 5) := by rw [et18]; exact wear_ld hCf.2.1 (show t16.toInt.toNat < 39 by omega)
          refine lv_goto (tgt := 43) hx hb dX11_wideOf_39 (by decide) ?_
          refine lv_iadd hx hb dX11_wideOf_43 ?_
          refine lv_topi (fun t19 et19 => ?_)
          refine lv_istore_n (lv' := [(2, .int t19), (3, .int l3_1), (0, .ref y0), (1, .int p1)]) hx hb dX11_wideOf_44 rfl hl (by decide) rfl (fun ls hl => ?_)
          obtain ⟨t20, et20⟩ : ∃ y : Int32, y = l3_1 + 1 := ⟨_, rfl⟩
          have zt20 : t20.toInt = l3_1.toInt + 1 := by rw [et20]; exact add_i rfl (by decide) (by omega) (by omega)
          refine lv_iinc (v := t20) (lv' := [(3, .int t20), (2, .int t19), (0, .ref y0), (1, .int p1)]) hx hb dX11_wideOf_45 hl (k := 1) rfl (by rw [et20]; rfl) (by decide) rfl (fun ls hl => ?_)
          refine lv_goto (tgt := 4) hx hb dX11_wideOf_48 (by decide) ?_
          have rg21 := fb_rng t20
          exact ih1 t19 t20 ⟨show (0 : Int) ≤ t20.toInt by omega, show t20.toInt ≤ (2147483647 : Int) by omega⟩ (by show (2147483647 - t20.toInt).toNat < n1; omega) _ _ _ hP hD hS (lv_sub hl [0, 1, 2, 3] rfl)
  exact lp1 _ 0 0 ⟨by decide, by decide⟩ (Nat.lt_succ_self _) _ _ _ hP hD hS (lv_sub hl [0, 1, 2, 3] rfl)
set_option maxHeartbeats 4000000 in
set_option maxRecDepth 100000 in
theorem sY_X11_front_1 (l : Launch) (dC : Nat → ClassId) (dI : Nat → Nat → Nat) (cy : Nat → ClassId) (y0 : Nat) (r : Nat → Nat) (p1 : Int32) (p2 : Int32) (v : Nat → Int32) (f : Nat → Nat → Int32) (w : Int64) (g : Nat → Int64) (hIv : YI v) (hCf : YC f) (hRf : progOK (f 4) (f 5) (v 9).toInt.toNat)  : ctI l (dC, dI) cy yX11_front cX11_front 6 .int 3 102 0 0 ((Nat → Int32) × (Nat → Nat → Int32) × (Int64) × (Nat → Int64)) [.ref y0, .int p1, .int p2] (YW cy y0 r v f w g) (fun r u => KV [] u.1 v ∧ KF [24] u.2.1 f ∧ YI u.1 ∧ YC u.2.1 ∧ progOK (u.2.1 4) (u.2.1 5) (u.1 9).toInt.toNat ∧ u.1 0 = v 0 ∧ u.1 1 = v 1 ∧ u.1 2 = v 2 ∧ u.1 3 = v 3 ∧ u.1 4 = v 4 ∧ u.1 5 = v 5 ∧ u.1 8 = v 8 ∧ u.1 9 = v 9 ∧ u.1 10 = v 10 ∧ u.1 13 = v 13 ∧ u.1 14 = v 14 ∧ u.1 15 = v 15 ∧ u.1 17 = v 17 ∧ u.1 18 = v 18 ∧ u.1 24 = v 24 ∧ u.1 25 = v 25 ∧ u.1 35 = v 35 ∧ u.1 36 = v 36 ∧ u.1 38 = v 38 ∧ u.1 39 = v 39) (fun u => YW cy y0 r u.1 u.2.1 u.2.2.1 u.2.2.2) := by
  refine ctI_of (by decide) (Nat.le_of_ble_eq_true rfl) (fun p e s m below meth c A ls Q hx hb hml hts hown hE hP hD hA hl ret => ?_)
  have hUv : (v 35).toInt + (v 36).toInt ≤ 40 := hIv.2
  have hM_v : KV [] v v := fun _ _ => rfl
  have hA_f : KF [24] f f := fun _ _ => rfl
  have hown : s.vm.findClass RX11 = some m.cls := hown
  have hS : va_S A s.heap s.heap [] := va_S.rf
  have hl : lv_has ls 6 [(0, .ref y0), (1, .int p1), (2, .int p2)] := hl
  refine lv_iload_n hx hb dX11_front_0 rfl (lv_at hl 1 rfl) ?_
  refine lv_iconst (v := 0) hx hb dX11_front_1 (by decide) ?_
  refine lv_sipush (v := 999) hx hb dX11_front_2 (by decide) ?_
  have lt1 : (0 : Int32).toInt = 0 := by decide
  have lt2 : (999 : Int32).toInt = 999 := by decide
  refine cbSi (n := 3) (rest := []) hx hb hml hown hts hE hP hD hS hA (sY_X11_isIn_1 0 l dC dI cy y0 r p1 0 999 v f w g hIv hCf hRf ) k_1736 k_1737 k_114 k_1738 (by decide +kernel) ⟨Nat.le_of_ble_eq_true rfl, Nat.le_of_ble_eq_true rfl⟩ (rfl) hl.1 rfl (Nat.le_of_ble_eq_true rfl) dX11_front_5 (fun r3 u H locs hw hP hD hS => ?_)
  obtain ⟨hG4, hw⟩ := hw
  rcases hw with ⟨g5, g5_0, g5_1⟩ | ⟨g5⟩
  · skip
    subst g5
    refine lv_if_eq (tgt := 20) hx hb dX11_front_8 (by decide) (fun c0 => absurd c0 (by decide)) (fun _ => ?_)
    refine lv_iload_n hx hb dX11_front_11 rfl (lv_at hl 2 rfl) ?_
    refine lv_iconst (v := 0) hx hb dX11_front_12 (by decide) ?_
    refine lv_iconst (v := 1) hx hb dX11_front_13 (by decide) ?_
    have lt6 : (1 : Int32).toInt = 1 := by decide
    refine cbSi (n := 3) (rest := []) hx hb hml hown hts hE hP hD hS hA (sY_X11_isIn_1 0 l dC dI cy y0 r p2 0 1 v f w g hIv hCf hRf ) k_1736 k_1737 k_114 k_1738 (by decide +kernel) ⟨Nat.le_of_ble_eq_true rfl, Nat.le_of_ble_eq_true rfl⟩ (rfl) hl.1 rfl (Nat.le_of_ble_eq_true rfl) dX11_front_14 (fun r7 u H locs hw hP hD hS => ?_)
    obtain ⟨hG8, hw⟩ := hw
    rcases hw with ⟨g9, g9_0, g9_1⟩ | ⟨g9⟩
    · skip
      subst g9
      refine lv_if_ne (tgt := 22) hx hb dX11_front_17 (by decide) (fun _ => ?_) (fun c0 => absurd c0 (by decide))
      refine lv_aload_n hx hb dX11_front_22 rfl (lv_at hl 0 rfl) ?_
      refine cbVv (n := 0) (rest := []) hx hb hml hown hts hE hP hD hS hA (sY_X11_fill_1 l dC dI cy y0 r  v f w g hIv hCf hRf ) k_1739 k_1741 k_71 k_114 k_1742 (by decide +kernel) ⟨Nat.le_of_ble_eq_true rfl, Nat.le_of_ble_eq_true rfl⟩ 0 11 rfl rfl (rfl) hl.1 rfl (Nat.le_of_ble_eq_true rfl) dX11_front_23 (fun u H locs hw hP hD hS => ?_)
      obtain ⟨v10, f11, w12, g13⟩ := u
      obtain ⟨kV_v10, kF_f11, hIv10, hCf11, hRf11, hk0_v10, hk1_v10, hk2_v10, hk3_v10, hk4_v10, hk5_v10, hk8_v10, hk9_v10, hk10_v10, hk13_v10, hk14_v10, hk15_v10, hk17_v10, hk18_v10, hk24_v10, hk25_v10, hk35_v10, hk36_v10, hk38_v10, hk39_v10⟩ := hw
      have hM_v10 : KV [] v10 v := KV.tr kV_v10 hM_v rfl
      have hA_f11 : KF [24] f11 f := KF.tr kF_f11 hA_f rfl
      have hP : va_P (dC, dI) vwCl (YW cy y0 r v10 f11 w12 g13) H := hP
      have hD : va_D A (YW cy y0 r v10 f11 w12 g13) := hD
      have hUv10 : (v10 35).toInt + (v10 36).toInt ≤ 40 := hIv10.2
      have hq9_v10 : v10 9 = (v 9) := hk9_v10
      have zq9_v10 := congrArg Int32.toInt hq9_v10
      refine lv_aload_n hx hb dX11_front_26 rfl (lv_at hl 0 rfl) ?_
      refine cbVi (n := 0) (rest := []) hx hb hml hown hts hE hP hD hS hA (sY_X11_wearers_1 l dC dI cy y0 r  v10 f11 w12 g13 hIv10 hCf11 hRf11 ) k_1805 k_1807 k_80 k_114 k_1808 (by decide +kernel) ⟨Nat.le_of_ble_eq_true rfl, Nat.le_of_ble_eq_true rfl⟩ 0 11 rfl rfl (rfl) hl.1 rfl (Nat.le_of_ble_eq_true rfl) dX11_front_27 (fun r14 u H locs hw hP hD hS => ?_)
      refine lv_istore_n (lv' := [(3, .int r14), (0, .ref y0), (1, .int p1), (2, .int p2)]) hx hb dX11_front_30 rfl hl (by decide) rfl (fun ls hl => ?_)
      refine lv_iconst (v := (-1)) hx hb dX11_front_31 (by decide) ?_
      refine lv_istore (lv' := [(4, .int (-1)), (3, .int r14), (0, .ref y0), (1, .int p1), (2, .int p2)]) hx hb dX11_front_32 hl (by decide) rfl (fun ls hl => ?_)
      refine lv_iconst (v := 0) hx hb dX11_front_34 (by decide) ?_
      refine lv_istore (lv' := [(5, .int 0), (4, .int (-1)), (3, .int r14), (0, .ref y0), (1, .int p1), (2, .int p2)]) hx hb dX11_front_35 hl (by decide) rfl (fun ls hl => ?_)
      have lp15 : ∀ (n15 : Nat) (l4_15 : Int32) (l5_15 : Int32), ((0 : Int) ≤ l5_15.toInt ∧ l5_15.toInt ≤ 2147483647) → (2147483647 - l5_15.toInt).toNat < n15 → ∀ (H : Heap) (locs : List Loc) (ls : Array Slot), va_P (dC, dI) vwCl (YW cy y0 r v10 f11 w12 g13) H → va_D A (YW cy y0 r v10 f11 w12 g13) → va_S A s.heap H locs → lv_has ls 6 [(5, .int l5_15), (4, .int l4_15), (3, .int r14), (0, .ref y0), (1, .int p1), (2, .int p2)] → W p l e { frames := 3, cells := 0, slots := 0, locals := 102 } s m ([.ref y0, .int p1, .int p2] : List Value).toArray below meth c H locs 0 0 Q (F0 m 37 ls []) := by
        intro n15
        induction n15 with
        | zero => intro l4_15 l5_15 hr5_15 hm; exact absurd hm (Nat.not_lt_zero _)
        | succ n15 ih15 =>
          intro l4_15 l5_15 hr5_15 hm15 H locs ls hP hD hS hl
          refine lv_iload hx hb dX11_front_37 (lv_at hl 0 rfl) ?_
          refine lv_iload_n hx hb dX11_front_39 rfl (lv_at hl 2 rfl) ?_
          refine lv_icmp_gt (tgt := 90) hx hb dX11_front_40 (by decide) (fun c16 => ?_) (fun c16 => ?_)
          · skip
            have zc16 : r14.toInt < l5_15.toInt := by rw [fa_lt] at c16; exact c16
            have rg17 := fb_rng l5_15
            have rg18 := fb_rng r14
            refine lv_iload hx hb dX11_front_90 (lv_at hl 1 rfl) ?_
            refine lv_if_ge (tgt := 99) hx hb dX11_front_92 (by decide) (fun c19 => ?_) (fun c19 => ?_)
            · skip
              have zc19 : 0 ≤ l4_15.toInt := by rw [fa_le, show (0 : Int32).toInt = 0 from by decide] at c19; exact c19
              refine lv_iload_n hx hb dX11_front_99 rfl (lv_at hl 5 rfl) ?_
              refine lv_if_ne (tgt := 111) hx hb dX11_front_100 (by decide) (fun c20 => ?_) (fun c20 => ?_)
              · skip
                have zc20 : ¬ (p2.toInt = 0) := by rw [fa_eq, show (0 : Int32).toInt = 0 from by decide] at c20; exact c20
                refine lv_iload hx hb dX11_front_111 (lv_at hl 1 rfl) ?_
                exact ret l4_15 (v10, f11, w12, g13) _ _ _ _ _ _ rfl ⟨hM_v10, hA_f11, hIv10, hCf11, hRf11, hk0_v10, hk1_v10, hk2_v10, hk3_v10, hk4_v10, hk5_v10, hk8_v10, hk9_v10, hk10_v10, hk13_v10, hk14_v10, hk15_v10, hk17_v10, hk18_v10, hk24_v10, hk25_v10, hk35_v10, hk36_v10, hk38_v10, hk39_v10⟩ hP hD hS dX11_front_113 (Nat.le_refl _) (Nat.le_refl _)
              · skip
                have zc20 : p2.toInt = 0 := by rw [fa_eq, show (0 : Int32).toInt = 0 from by decide] at c20; exact c20
                refine lv_iload hx hb dX11_front_103 (lv_at hl 1 rfl) ?_
                refine cbSi (n := 1) (rest := []) hx hb hml hown hts hE hP hD hS hA (sY_X11_members_1 l dC dI cy y0 r l4_15 v10 f11 w12 g13 hIv10 hCf11 hRf11 ) k_1900 k_1901 k_114 k_1902 (by decide +kernel) ⟨Nat.le_of_ble_eq_true rfl, Nat.le_of_ble_eq_true rfl⟩ (rfl) hl.1 rfl (Nat.le_of_ble_eq_true rfl) dX11_front_105 (fun r21 u H locs hw hP hD hS => ?_)
                refine lv_goto (tgt := 113) hx hb dX11_front_108 (by decide) ?_
                exact ret r21 (v10, f11, w12, g13) _ _ _ _ _ _ rfl ⟨hM_v10, hA_f11, hIv10, hCf11, hRf11, hk0_v10, hk1_v10, hk2_v10, hk3_v10, hk4_v10, hk5_v10, hk8_v10, hk9_v10, hk10_v10, hk13_v10, hk14_v10, hk15_v10, hk17_v10, hk18_v10, hk24_v10, hk25_v10, hk35_v10, hk36_v10, hk38_v10, hk39_v10⟩ hP hD hS dX11_front_113 (Nat.le_refl _) (Nat.le_refl _)
            · skip
              have zc19 : ¬ (0 ≤ l4_15.toInt) := by rw [fa_le, show (0 : Int32).toInt = 0 from by decide] at c19; exact c19
              refine lv_iconst (v := (-1)) hx hb dX11_front_95 (by decide) ?_
              refine lv_goto (tgt := 113) hx hb dX11_front_96 (by decide) ?_
              exact ret (-1) (v10, f11, w12, g13) _ _ _ _ _ _ rfl ⟨hM_v10, hA_f11, hIv10, hCf11, hRf11, hk0_v10, hk1_v10, hk2_v10, hk3_v10, hk4_v10, hk5_v10, hk8_v10, hk9_v10, hk10_v10, hk13_v10, hk14_v10, hk15_v10, hk17_v10, hk18_v10, hk24_v10, hk25_v10, hk35_v10, hk36_v10, hk38_v10, hk39_v10⟩ hP hD hS dX11_front_113 (Nat.le_refl _) (Nat.le_refl _)
          · skip
            have zc16 : ¬ (r14.toInt < l5_15.toInt) := by rw [fa_lt] at c16; exact c16
            have rg22 := fb_rng l5_15
            have rg23 := fb_rng r14
            refine lv_iload hx hb dX11_front_43 (lv_at hl 0 rfl) ?_
            refine lv_iload_n hx hb dX11_front_45 rfl (lv_at hl 2 rfl) ?_
            refine lv_iconst (v := (-1)) hx hb dX11_front_46 (by decide) ?_
            refine lv_ixor hx hb dX11_front_47 ?_
            refine lv_topi (fun t24 et24 => ?_)
            refine lv_iand hx hb dX11_front_48 ?_
            refine lv_topi (fun t25 et25 => ?_)
            have zt25 : 0 ≤ t25.toInt ∧ t25.toInt ≤ 63 := by rw [et25]; exact and_left (by omega) (by omega)
            refine lv_if_ne (tgt := 84) hx hb dX11_front_49 (by decide) (fun c26 => ?_) (fun c26 => ?_)
            · skip
              have zc26 : ¬ (t25.toInt = 0) := by rw [fa_eq, show (0 : Int32).toInt = 0 from by decide] at c26; exact c26
              obtain ⟨t27, et27⟩ : ∃ y : Int32, y = l5_15 + 1 := ⟨_, rfl⟩
              have zt27 : t27.toInt = l5_15.toInt + 1 := by rw [et27]; exact add_i rfl (by decide) (by omega) (by omega)
              refine lv_iinc (v := t27) (lv' := [(5, .int t27), (4, .int l4_15), (3, .int r14), (0, .ref y0), (1, .int p1), (2, .int p2)]) hx hb dX11_front_84 hl (k := 0) rfl (by rw [et27]; rfl) (by decide) rfl (fun ls hl => ?_)
              refine lv_goto (tgt := 37) hx hb dX11_front_87 (by decide) ?_
              have rg28 := fb_rng t27
              exact ih15 l4_15 t27 ⟨show (0 : Int) ≤ t27.toInt by omega, show t27.toInt ≤ (2147483647 : Int) by omega⟩ (by show (2147483647 - t27.toInt).toNat < n15; omega) _ _ _ hP hD hS (lv_sub hl [0, 1, 2, 3, 4, 5] rfl)
            · skip
              have zc26 : t25.toInt = 0 := by rw [fa_eq, show (0 : Int32).toInt = 0 from by decide] at c26; exact c26
              refine lv_aload_n hx hb dX11_front_52 rfl (lv_at hl 3 rfl) ?_
              refine lv_iload hx hb dX11_front_53 (lv_at hl 0 rfl) ?_
              refine cbVi (n := 1) (rest := []) hx hb hml hown hts hE hP hD hS hA (sY_X11_wideOf_1 l dC dI cy y0 r l5_15 v10 f11 w12 g13 hIv10 hCf11 hRf11 ) k_1912 k_1914 k_88 k_114 k_1915 (by decide +kernel) ⟨Nat.le_of_ble_eq_true rfl, Nat.le_of_ble_eq_true rfl⟩ 0 11 rfl rfl (rfl) hl.1 rfl (Nat.le_of_ble_eq_true rfl) dX11_front_55 (fun r29 u H locs hw hP hD hS => ?_)
              refine lv_iload_n hx hb dX11_front_58 rfl (lv_at hl 4 rfl) ?_
              refine lv_icmp_lt (tgt := 84) hx hb dX11_front_59 (by decide) (fun c30 => ?_) (fun c30 => ?_)
              · skip
                have zc30 : r29.toInt < p1.toInt := by rw [fa_lt] at c30; exact c30
                have rg31 := fb_rng r29
                have rg32 := fb_rng p1
                obtain ⟨t33, et33⟩ : ∃ y : Int32, y = l5_15 + 1 := ⟨_, rfl⟩
                have zt33 : t33.toInt = l5_15.toInt + 1 := by rw [et33]; exact add_i rfl (by decide) (by omega) (by omega)
                refine lv_iinc (v := t33) (lv' := [(5, .int t33), (4, .int l4_15), (3, .int r14), (0, .ref y0), (1, .int p1), (2, .int p2)]) hx hb dX11_front_84 hl (k := 0) rfl (by rw [et33]; rfl) (by decide) rfl (fun ls hl => ?_)
                refine lv_goto (tgt := 37) hx hb dX11_front_87 (by decide) ?_
                have rg34 := fb_rng t33
                exact ih15 l4_15 t33 ⟨show (0 : Int) ≤ t33.toInt by omega, show t33.toInt ≤ (2147483647 : Int) by omega⟩ (by show (2147483647 - t33.toInt).toNat < n15; omega) _ _ _ hP hD hS (lv_sub hl [0, 1, 2, 3, 4, 5] rfl)
              · skip
                have zc30 : ¬ (r29.toInt < p1.toInt) := by rw [fa_lt] at c30; exact c30
                have rg35 := fb_rng r29
                have rg36 := fb_rng p1
                refine lv_iload hx hb dX11_front_62 (lv_at hl 1 rfl) ?_
                refine lv_if_lt (tgt := 80) hx hb dX11_front_64 (by decide) (fun c37 => ?_) (fun c37 => ?_)
                · skip
                  have zc37 : l4_15.toInt < 0 := by rw [fa_lt, show (0 : Int32).toInt = 0 from by decide] at c37; exact c37
                  refine lv_iload hx hb dX11_front_80 (lv_at hl 0 rfl) ?_
                  refine lv_istore (lv' := [(4, .int l5_15), (5, .int l5_15), (3, .int r14), (0, .ref y0), (1, .int p1), (2, .int p2)]) hx hb dX11_front_82 hl (by decide) rfl (fun ls hl => ?_)
                  obtain ⟨t38, et38⟩ : ∃ y : Int32, y = l5_15 + 1 := ⟨_, rfl⟩
                  have zt38 : t38.toInt = l5_15.toInt + 1 := by rw [et38]; exact add_i rfl (by decide) (by omega) (by omega)
                  refine lv_iinc (v := t38) (lv' := [(5, .int t38), (4, .int l5_15), (3, .int r14), (0, .ref y0), (1, .int p1), (2, .int p2)]) hx hb dX11_front_84 hl (k := 1) rfl (by rw [et38]; rfl) (by decide) rfl (fun ls hl => ?_)
                  refine lv_goto (tgt := 37) hx hb dX11_front_87 (by decide) ?_
                  have rg39 := fb_rng t38
                  exact ih15 l5_15 t38 ⟨show (0 : Int) ≤ t38.toInt by omega, show t38.toInt ≤ (2147483647 : Int) by omega⟩ (by show (2147483647 - t38.toInt).toNat < n15; omega) _ _ _ hP hD hS (lv_sub hl [0, 1, 2, 3, 4, 5] rfl)
                · skip
                  have zc37 : ¬ (l4_15.toInt < 0) := by rw [fa_lt, show (0 : Int32).toInt = 0 from by decide] at c37; exact c37
                  refine lv_iload hx hb dX11_front_67 (lv_at hl 0 rfl) ?_
                  refine cbSi (n := 1) (rest := []) hx hb hml hown hts hE hP hD hS hA (sY_X11_members_1 l dC dI cy y0 r l5_15 v10 f11 w12 g13 hIv10 hCf11 hRf11 ) k_1900 k_1901 k_114 k_1902 (by decide +kernel) ⟨Nat.le_of_ble_eq_true rfl, Nat.le_of_ble_eq_true rfl⟩ (rfl) hl.1 rfl (Nat.le_of_ble_eq_true rfl) dX11_front_69 (fun r40 u H locs hw hP hD hS => ?_)
                  refine lv_iload hx hb dX11_front_72 (lv_at hl 1 rfl) ?_
                  refine cbSi (n := 1) (rest := [.int r40]) hx hb hml hown hts hE hP hD hS hA (sY_X11_members_1 l dC dI cy y0 r l4_15 v10 f11 w12 g13 hIv10 hCf11 hRf11 ) k_1900 k_1901 k_114 k_1902 (by decide +kernel) ⟨Nat.le_of_ble_eq_true rfl, Nat.le_of_ble_eq_true rfl⟩ (rfl) hl.1 rfl (Nat.le_of_ble_eq_true rfl) dX11_front_74 (fun r41 u H locs hw hP hD hS => ?_)
                  refine lv_icmp_ge (tgt := 84) hx hb dX11_front_77 (by decide) (fun c42 => ?_) (fun c42 => ?_)
                  · skip
                    have zc42 : r41.toInt ≤ r40.toInt := by rw [fa_le] at c42; exact c42
                    have rg43 := fb_rng r40
                    have rg44 := fb_rng r41
                    obtain ⟨t45, et45⟩ : ∃ y : Int32, y = l5_15 + 1 := ⟨_, rfl⟩
                    have zt45 : t45.toInt = l5_15.toInt + 1 := by rw [et45]; exact add_i rfl (by decide) (by omega) (by omega)
                    refine lv_iinc (v := t45) (lv' := [(5, .int t45), (4, .int l4_15), (3, .int r14), (0, .ref y0), (1, .int p1), (2, .int p2)]) hx hb dX11_front_84 hl (k := 0) rfl (by rw [et45]; rfl) (by decide) rfl (fun ls hl => ?_)
                    refine lv_goto (tgt := 37) hx hb dX11_front_87 (by decide) ?_
                    have rg46 := fb_rng t45
                    exact ih15 l4_15 t45 ⟨show (0 : Int) ≤ t45.toInt by omega, show t45.toInt ≤ (2147483647 : Int) by omega⟩ (by show (2147483647 - t45.toInt).toNat < n15; omega) _ _ _ hP hD hS (lv_sub hl [0, 1, 2, 3, 4, 5] rfl)
                  · skip
                    have zc42 : ¬ (r41.toInt ≤ r40.toInt) := by rw [fa_le] at c42; exact c42
                    have rg47 := fb_rng r40
                    have rg48 := fb_rng r41
                    refine lv_iload hx hb dX11_front_80 (lv_at hl 0 rfl) ?_
                    refine lv_istore (lv' := [(4, .int l5_15), (5, .int l5_15), (3, .int r14), (0, .ref y0), (1, .int p1), (2, .int p2)]) hx hb dX11_front_82 hl (by decide) rfl (fun ls hl => ?_)
                    obtain ⟨t49, et49⟩ : ∃ y : Int32, y = l5_15 + 1 := ⟨_, rfl⟩
                    have zt49 : t49.toInt = l5_15.toInt + 1 := by rw [et49]; exact add_i rfl (by decide) (by omega) (by omega)
                    refine lv_iinc (v := t49) (lv' := [(5, .int t49), (4, .int l5_15), (3, .int r14), (0, .ref y0), (1, .int p1), (2, .int p2)]) hx hb dX11_front_84 hl (k := 1) rfl (by rw [et49]; rfl) (by decide) rfl (fun ls hl => ?_)
                    refine lv_goto (tgt := 37) hx hb dX11_front_87 (by decide) ?_
                    have rg50 := fb_rng t49
                    exact ih15 l5_15 t49 ⟨show (0 : Int) ≤ t49.toInt by omega, show t49.toInt ≤ (2147483647 : Int) by omega⟩ (by show (2147483647 - t49.toInt).toNat < n15; omega) _ _ _ hP hD hS (lv_sub hl [0, 1, 2, 3, 4, 5] rfl)
      exact lp15 _ (-1) 0 ⟨by decide, by decide⟩ (Nat.lt_succ_self _) _ _ _ hP hD hS (lv_sub hl [0, 1, 2, 3, 4, 5] rfl)
    · skip
      subst g9
      refine lv_if_ne (tgt := 22) hx hb dX11_front_17 (by decide) (fun c0 => absurd (by decide) c0) (fun _ => ?_)
      refine lv_iconst (v := (-1)) hx hb dX11_front_20 (by decide) ?_
      exact ret (-1) (v, f, w, g) _ _ _ _ _ _ rfl ⟨hM_v, hA_f, hIv, hCf, hRf, rfl, rfl, rfl, rfl, rfl, rfl, rfl, rfl, rfl, rfl, rfl, rfl, rfl, rfl, rfl, rfl, rfl, rfl, rfl, rfl⟩ hP hD hS dX11_front_21 (Nat.le_refl _) (Nat.le_refl _)
  · skip
    subst g5
    refine lv_if_eq (tgt := 20) hx hb dX11_front_8 (by decide) (fun _ => ?_) (fun c0 => absurd (by decide) c0)
    refine lv_iconst (v := (-1)) hx hb dX11_front_20 (by decide) ?_
    exact ret (-1) (v, f, w, g) _ _ _ _ _ _ rfl ⟨hM_v, hA_f, hIv, hCf, hRf, rfl, rfl, rfl, rfl, rfl, rfl, rfl, rfl, rfl, rfl, rfl, rfl, rfl, rfl, rfl, rfl, rfl, rfl, rfl, rfl⟩ hP hD hS dX11_front_21 (Nat.le_refl _) (Nat.le_refl _)
set_option maxHeartbeats 4000000 in
set_option maxRecDepth 100000 in
theorem sY_X11_plain_1 (l : Launch) (dC : Nat → ClassId) (dI : Nat → Nat → Nat) (cy : Nat → ClassId) (y0 : Nat) (r : Nat → Nat) (p0 : Int32) (v : Nat → Int32) (f : Nat → Nat → Int32) (w : Int64) (g : Nat → Int64) (hIv : YI v) (hCf : YC f) (hRf : progOK (f 4) (f 5) (v 9).toInt.toNat)  : ctI l (dC, dI) cy yX11_plain cX11_plain 1 .int 1 60 0 0 Unit [.int p0] (YW cy y0 r v f w g) (fun r u => True) (fun u => YW cy y0 r v f w g) := by
  refine ctI_of (by decide) (Nat.le_of_ble_eq_true rfl) (fun p e s m below meth c A ls Q hx hb hml hts hown hE hP hD hA hl ret => ?_)
  have hUv : (v 35).toInt + (v 36).toInt ≤ 40 := hIv.2
  have hown : s.vm.findClass RX11 = some m.cls := hown
  have hS : va_S A s.heap s.heap [] := va_S.rf
  have hl : lv_has ls 1 [(0, .int p0)] := hl
  refine lv_iload_n hx hb dX11_plain_0 rfl (lv_at hl 0 rfl) ?_
  refine lv_if_ge (tgt := 9) hx hb dX11_plain_1 (by decide) (fun c1 => ?_) (fun c1 => ?_)
  · skip
    have zc1 : 0 ≤ p0.toInt := by rw [fa_le, show (0 : Int32).toInt = 0 from by decide] at c1; exact c1
    refine lv_iload_n hx hb dX11_plain_9 rfl (lv_at hl 0 rfl) ?_
    exact ret p0 () _ _ _ _ _ _ rfl trivial hP hD hS dX11_plain_10 (Nat.le_refl _) (Nat.le_refl _)
  · skip
    have zc1 : ¬ (0 ≤ p0.toInt) := by rw [fa_le, show (0 : Int32).toInt = 0 from by decide] at c1; exact c1
    refine lv_iload_n hx hb dX11_plain_4 rfl (lv_at hl 0 rfl) ?_
    refine lv_ineg hx hb dX11_plain_5 ?_
    refine lv_topi (fun t2 et2 => ?_)
    refine lv_goto (tgt := 10) hx hb dX11_plain_6 (by decide) ?_
    exact ret t2 () _ _ _ _ _ _ rfl trivial hP hD hS dX11_plain_10 (Nat.le_refl _) (Nat.le_refl _)
set_option maxHeartbeats 4000000 in
set_option maxRecDepth 100000 in
theorem sY_X11_wings_1 (l : Launch) (dC : Nat → ClassId) (dI : Nat → Nat → Nat) (cy : Nat → ClassId) (y0 : Nat) (r : Nat → Nat) (p1 : Int32) (v : Nat → Int32) (f : Nat → Nat → Int32) (w : Int64) (g : Nat → Int64) (hIv : YI v) (hCf : YC f) (hRf : progOK (f 4) (f 5) (v 9).toInt.toNat)  : ctI l (dC, dI) cy yX11_wings cX11_wings 8 .int 3 102 0 0 ((Nat → Int32) × (Nat → Nat → Int32) × (Int64) × (Nat → Int64)) [.ref y0, .int p1] (YW cy y0 r v f w g) (fun r u => KV [] u.1 v ∧ KF [24] u.2.1 f ∧ YI u.1 ∧ YC u.2.1 ∧ progOK (u.2.1 4) (u.2.1 5) (u.1 9).toInt.toNat ∧ u.1 0 = v 0 ∧ u.1 1 = v 1 ∧ u.1 2 = v 2 ∧ u.1 3 = v 3 ∧ u.1 4 = v 4 ∧ u.1 5 = v 5 ∧ u.1 8 = v 8 ∧ u.1 9 = v 9 ∧ u.1 10 = v 10 ∧ u.1 13 = v 13 ∧ u.1 14 = v 14 ∧ u.1 15 = v 15 ∧ u.1 17 = v 17 ∧ u.1 18 = v 18 ∧ u.1 24 = v 24 ∧ u.1 25 = v 25 ∧ u.1 35 = v 35 ∧ u.1 36 = v 36 ∧ u.1 38 = v 38 ∧ u.1 39 = v 39) (fun u => YW cy y0 r u.1 u.2.1 u.2.2.1 u.2.2.2) := by
  refine ctI_of (by decide) (Nat.le_of_ble_eq_true rfl) (fun p e s m below meth c A ls Q hx hb hml hts hown hE hP hD hA hl ret => ?_)
  have hUv : (v 35).toInt + (v 36).toInt ≤ 40 := hIv.2
  have hM_v : KV [] v v := fun _ _ => rfl
  have hA_f : KF [24] f f := fun _ _ => rfl
  have hown : s.vm.findClass RX11 = some m.cls := hown
  have hS : va_S A s.heap s.heap [] := va_S.rf
  have hl : lv_has ls 8 [(0, .ref y0), (1, .int p1)] := hl
  refine lv_iload_n hx hb dX11_wings_0 rfl (lv_at hl 1 rfl) ?_
  refine lv_iconst (v := 0) hx hb dX11_wings_1 (by decide) ?_
  refine lv_iconst (v := 1) hx hb dX11_wings_2 (by decide) ?_
  have lt1 : (0 : Int32).toInt = 0 := by decide
  have lt2 : (1 : Int32).toInt = 1 := by decide
  refine cbSi (n := 3) (rest := []) hx hb hml hown hts hE hP hD hS hA (sY_X11_isIn_1 0 l dC dI cy y0 r p1 0 1 v f w g hIv hCf hRf ) k_1736 k_1737 k_114 k_1738 (by decide +kernel) ⟨Nat.le_of_ble_eq_true rfl, Nat.le_of_ble_eq_true rfl⟩ (rfl) hl.1 rfl (Nat.le_of_ble_eq_true rfl) dX11_wings_3 (fun r3 u H locs hw hP hD hS => ?_)
  obtain ⟨hG4, hw⟩ := hw
  rcases hw with ⟨g5, g5_0, g5_1⟩ | ⟨g5⟩
  · skip
    subst g5
    refine lv_if_ne (tgt := 11) hx hb dX11_wings_6 (by decide) (fun _ => ?_) (fun c0 => absurd c0 (by decide))
    refine lv_aload_n hx hb dX11_wings_11 rfl (lv_at hl 0 rfl) ?_
    refine cbVv (n := 0) (rest := []) hx hb hml hown hts hE hP hD hS hA (sY_X11_fill_1 l dC dI cy y0 r  v f w g hIv hCf hRf ) k_1739 k_1741 k_71 k_114 k_1742 (by decide +kernel) ⟨Nat.le_of_ble_eq_true rfl, Nat.le_of_ble_eq_true rfl⟩ 0 11 rfl rfl (rfl) hl.1 rfl (Nat.le_of_ble_eq_true rfl) dX11_wings_12 (fun u H locs hw hP hD hS => ?_)
    obtain ⟨v6, f7, w8, g9⟩ := u
    obtain ⟨kV_v6, kF_f7, hIv6, hCf7, hRf7, hk0_v6, hk1_v6, hk2_v6, hk3_v6, hk4_v6, hk5_v6, hk8_v6, hk9_v6, hk10_v6, hk13_v6, hk14_v6, hk15_v6, hk17_v6, hk18_v6, hk24_v6, hk25_v6, hk35_v6, hk36_v6, hk38_v6, hk39_v6⟩ := hw
    have hM_v6 : KV [] v6 v := KV.tr kV_v6 hM_v rfl
    have hA_f7 : KF [24] f7 f := KF.tr kF_f7 hA_f rfl
    have hP : va_P (dC, dI) vwCl (YW cy y0 r v6 f7 w8 g9) H := hP
    have hD : va_D A (YW cy y0 r v6 f7 w8 g9) := hD
    have hUv6 : (v6 35).toInt + (v6 36).toInt ≤ 40 := hIv6.2
    have hq9_v6 : v6 9 = (v 9) := hk9_v6
    have zq9_v6 := congrArg Int32.toInt hq9_v6
    refine lv_aload_n hx hb dX11_wings_15 rfl (lv_at hl 0 rfl) ?_
    refine cbVi (n := 0) (rest := []) hx hb hml hown hts hE hP hD hS hA (sY_X11_wearers_1 l dC dI cy y0 r  v6 f7 w8 g9 hIv6 hCf7 hRf7 ) k_1805 k_1807 k_80 k_114 k_1808 (by decide +kernel) ⟨Nat.le_of_ble_eq_true rfl, Nat.le_of_ble_eq_true rfl⟩ 0 11 rfl rfl (rfl) hl.1 rfl (Nat.le_of_ble_eq_true rfl) dX11_wings_16 (fun r10 u H locs hw hP hD hS => ?_)
    refine lv_istore_n (lv' := [(2, .int r10), (0, .ref y0), (1, .int p1)]) hx hb dX11_wings_19 rfl hl (by decide) rfl (fun ls hl => ?_)
    refine lv_iconst (v := 0) hx hb dX11_wings_20 (by decide) ?_
    refine lv_istore_n (lv' := [(3, .int 0), (2, .int r10), (0, .ref y0), (1, .int p1)]) hx hb dX11_wings_21 rfl hl (by decide) rfl (fun ls hl => ?_)
    refine lv_iconst (v := 5) hx hb dX11_wings_22 (by decide) ?_
    refine lv_istore (lv' := [(4, .int 5), (3, .int 0), (2, .int r10), (0, .ref y0), (1, .int p1)]) hx hb dX11_wings_23 hl (by decide) rfl (fun ls hl => ?_)
    have lp11 : ∀ (n11 : Nat) (l3_11 : Int32) (l4_11 : Int32), ((-2147483648 : Int) ≤ l4_11.toInt ∧ l4_11.toInt ≤ 5) → (l4_11.toInt + 2147483648).toNat < n11 → ∀ (H : Heap) (locs : List Loc) (ls : Array Slot), va_P (dC, dI) vwCl (YW cy y0 r v6 f7 w8 g9) H → va_D A (YW cy y0 r v6 f7 w8 g9) → va_S A s.heap H locs → lv_has ls 8 [(4, .int l4_11), (3, .int l3_11), (2, .int r10), (0, .ref y0), (1, .int p1)] → W p l e { frames := 3, cells := 0, slots := 0, locals := 102 } s m ([.ref y0, .int p1] : List Value).toArray below meth c H locs 0 0 Q (F0 m 25 ls []) := by
      intro n11
      induction n11 with
      | zero => intro l3_11 l4_11 hr4_11 hm; exact absurd hm (Nat.not_lt_zero _)
      | succ n11 ih11 =>
        intro l3_11 l4_11 hr4_11 hm11 H locs ls hP hD hS hl
        refine lv_iload hx hb dX11_wings_25 (lv_at hl 0 rfl) ?_
        refine lv_if_lt (tgt := 55) hx hb dX11_wings_27 (by decide) (fun c12 => ?_) (fun c12 => ?_)
        · skip
          have zc12 : l4_11.toInt < 0 := by rw [fa_lt, show (0 : Int32).toInt = 0 from by decide] at c12; exact c12
          refine lv_iload_n hx hb dX11_wings_55 rfl (lv_at hl 2 rfl) ?_
          refine lv_istore (lv' := [(4, .int r10), (3, .int l3_11), (2, .int r10), (0, .ref y0), (1, .int p1)]) hx hb dX11_wings_56 hl (by decide) rfl (fun ls hl => ?_)
          refine lv_aload_n hx hb dX11_wings_58 rfl (lv_at hl 3 rfl) ?_
          refine lv_iload_n hx hb dX11_wings_59 rfl (lv_at hl 2 rfl) ?_
          refine cbVi (n := 1) (rest := []) hx hb hml hown hts hE hP hD hS hA (sY_X11_wideOf_1 l dC dI cy y0 r r10 v6 f7 w8 g9 hIv6 hCf7 hRf7 ) k_1912 k_1914 k_88 k_114 k_1915 (by decide +kernel) ⟨Nat.le_of_ble_eq_true rfl, Nat.le_of_ble_eq_true rfl⟩ 0 11 rfl rfl (rfl) hl.1 rfl (Nat.le_of_ble_eq_true rfl) dX11_wings_60 (fun r13 u H locs hw hP hD hS => ?_)
          refine lv_istore (lv' := [(5, .int r13), (4, .int r10), (3, .int l3_11), (2, .int r10), (0, .ref y0), (1, .int p1)]) hx hb dX11_wings_63 hl (by decide) rfl (fun ls hl => ?_)
          refine lv_iconst (v := 0) hx hb dX11_wings_65 (by decide) ?_
          refine lv_istore (lv' := [(6, .int 0), (5, .int r13), (4, .int r10), (3, .int l3_11), (2, .int r10), (0, .ref y0), (1, .int p1)]) hx hb dX11_wings_66 hl (by decide) rfl (fun ls hl => ?_)
          have lp14 : ∀ (n14 : Nat) (l4_14 : Int32) (l5_14 : Int32) (l6_14 : Int32), ((0 : Int) ≤ l6_14.toInt ∧ l6_14.toInt ≤ 2147483647) → (2147483647 - l6_14.toInt).toNat < n14 → ∀ (H : Heap) (locs : List Loc) (ls : Array Slot), va_P (dC, dI) vwCl (YW cy y0 r v6 f7 w8 g9) H → va_D A (YW cy y0 r v6 f7 w8 g9) → va_S A s.heap H locs → lv_has ls 8 [(6, .int l6_14), (5, .int l5_14), (4, .int l4_14), (3, .int l3_11), (2, .int r10), (0, .ref y0), (1, .int p1)] → W p l e { frames := 3, cells := 0, slots := 0, locals := 102 } s m ([.ref y0, .int p1] : List Value).toArray below meth c H locs 0 0 Q (F0 m 68 ls []) := by
            intro n14
            induction n14 with
            | zero => intro l4_14 l5_14 l6_14 hr6_14 hm; exact absurd hm (Nat.not_lt_zero _)
            | succ n14 ih14 =>
              intro l4_14 l5_14 l6_14 hr6_14 hm14 H locs ls hP hD hS hl
              refine lv_iload hx hb dX11_wings_68 (lv_at hl 0 rfl) ?_
              refine lv_iload_n hx hb dX11_wings_70 rfl (lv_at hl 4 rfl) ?_
              refine lv_icmp_gt (tgt := 154) hx hb dX11_wings_71 (by decide) (fun c15 => ?_) (fun c15 => ?_)
              · skip
                have zc15 : r10.toInt < l6_14.toInt := by rw [fa_lt] at c15; exact c15
                have rg16 := fb_rng l6_14
                have rg17 := fb_rng r10
                refine lv_iload_n hx hb dX11_wings_154 rfl (lv_at hl 6 rfl) ?_
                refine lv_if_ne (tgt := 163) hx hb dX11_wings_155 (by decide) (fun c18 => ?_) (fun c18 => ?_)
                · skip
                  have zc18 : ¬ (p1.toInt = 0) := by rw [fa_eq, show (0 : Int32).toInt = 0 from by decide] at c18; exact c18
                  refine lv_iload hx hb dX11_wings_163 (lv_at hl 2 rfl) ?_
                  exact ret l4_14 (v6, f7, w8, g9) _ _ _ _ _ _ rfl ⟨hM_v6, hA_f7, hIv6, hCf7, hRf7, hk0_v6, hk1_v6, hk2_v6, hk3_v6, hk4_v6, hk5_v6, hk8_v6, hk9_v6, hk10_v6, hk13_v6, hk14_v6, hk15_v6, hk17_v6, hk18_v6, hk24_v6, hk25_v6, hk35_v6, hk36_v6, hk38_v6, hk39_v6⟩ hP hD hS dX11_wings_165 (Nat.le_refl _) (Nat.le_refl _)
                · skip
                  have zc18 : p1.toInt = 0 := by rw [fa_eq, show (0 : Int32).toInt = 0 from by decide] at c18; exact c18
                  refine lv_iload hx hb dX11_wings_158 (lv_at hl 1 rfl) ?_
                  refine lv_goto (tgt := 165) hx hb dX11_wings_160 (by decide) ?_
                  exact ret l5_14 (v6, f7, w8, g9) _ _ _ _ _ _ rfl ⟨hM_v6, hA_f7, hIv6, hCf7, hRf7, hk0_v6, hk1_v6, hk2_v6, hk3_v6, hk4_v6, hk5_v6, hk8_v6, hk9_v6, hk10_v6, hk13_v6, hk14_v6, hk15_v6, hk17_v6, hk18_v6, hk24_v6, hk25_v6, hk35_v6, hk36_v6, hk38_v6, hk39_v6⟩ hP hD hS dX11_wings_165 (Nat.le_refl _) (Nat.le_refl _)
              · skip
                have zc15 : ¬ (r10.toInt < l6_14.toInt) := by rw [fa_lt] at c15; exact c15
                have rg19 := fb_rng l6_14
                have rg20 := fb_rng r10
                refine lv_iload hx hb dX11_wings_74 (lv_at hl 0 rfl) ?_
                refine lv_iload_n hx hb dX11_wings_76 rfl (lv_at hl 4 rfl) ?_
                refine lv_iconst (v := (-1)) hx hb dX11_wings_77 (by decide) ?_
                refine lv_ixor hx hb dX11_wings_78 ?_
                refine lv_topi (fun t21 et21 => ?_)
                refine lv_iand hx hb dX11_wings_79 ?_
                refine lv_topi (fun t22 et22 => ?_)
                have zt22 : 0 ≤ t22.toInt ∧ t22.toInt ≤ 63 := by rw [et22]; exact and_left (by omega) (by omega)
                refine lv_if_ne (tgt := 148) hx hb dX11_wings_80 (by decide) (fun c23 => ?_) (fun c23 => ?_)
                · skip
                  have zc23 : ¬ (t22.toInt = 0) := by rw [fa_eq, show (0 : Int32).toInt = 0 from by decide] at c23; exact c23
                  obtain ⟨t24, et24⟩ : ∃ y : Int32, y = l6_14 + 1 := ⟨_, rfl⟩
                  have zt24 : t24.toInt = l6_14.toInt + 1 := by rw [et24]; exact add_i rfl (by decide) (by omega) (by omega)
                  refine lv_iinc (v := t24) (lv' := [(6, .int t24), (5, .int l5_14), (4, .int l4_14), (3, .int l3_11), (2, .int r10), (0, .ref y0), (1, .int p1)]) hx hb dX11_wings_148 hl (k := 0) rfl (by rw [et24]; rfl) (by decide) rfl (fun ls hl => ?_)
                  refine lv_goto (tgt := 68) hx hb dX11_wings_151 (by decide) ?_
                  have rg25 := fb_rng t24
                  exact ih14 l4_14 l5_14 t24 ⟨show (0 : Int) ≤ t24.toInt by omega, show t24.toInt ≤ (2147483647 : Int) by omega⟩ (by show (2147483647 - t24.toInt).toNat < n14; omega) _ _ _ hP hD hS (lv_sub hl [0, 1, 2, 3, 4, 5, 6] rfl)
                · skip
                  have zc23 : t22.toInt = 0 := by rw [fa_eq, show (0 : Int32).toInt = 0 from by decide] at c23; exact c23
                  refine lv_iload hx hb dX11_wings_83 (lv_at hl 0 rfl) ?_
                  refine lv_iload_n hx hb dX11_wings_85 rfl (lv_at hl 3 rfl) ?_
                  refine lv_iand hx hb dX11_wings_86 ?_
                  refine lv_topi (fun t26 et26 => ?_)
                  have zt26 : 0 ≤ t26.toInt ∧ t26.toInt ≤ 63 := by rw [et26]; exact and_left (by omega) (by omega)
                  refine lv_iload_n hx hb dX11_wings_87 rfl (lv_at hl 3 rfl) ?_
                  refine lv_icmp_eq (tgt := 94) hx hb dX11_wings_88 (by decide) (fun c27 => ?_) (fun c27 => ?_)
                  · skip
                    have zc27 : t26.toInt = l3_11.toInt := by rw [fa_eq] at c27; exact c27
                    have rg28 := fb_rng t26
                    have rg29 := fb_rng l3_11
                    refine lv_aload_n hx hb dX11_wings_94 rfl (lv_at hl 5 rfl) ?_
                    refine lv_iload hx hb dX11_wings_95 (lv_at hl 0 rfl) ?_
                    refine cbVi (n := 1) (rest := []) hx hb hml hown hts hE hP hD hS hA (sY_X11_wideOf_1 l dC dI cy y0 r l6_14 v6 f7 w8 g9 hIv6 hCf7 hRf7 ) k_1912 k_1914 k_88 k_114 k_1915 (by decide +kernel) ⟨Nat.le_of_ble_eq_true rfl, Nat.le_of_ble_eq_true rfl⟩ 0 11 rfl rfl (rfl) hl.1 rfl (Nat.le_of_ble_eq_true rfl) dX11_wings_97 (fun r30 u H locs hw hP hD hS => ?_)
                    refine lv_aload_n hx hb dX11_wings_100 rfl (lv_at hl 5 rfl) ?_
                    refine lv_iload_n hx hb dX11_wings_101 rfl (lv_at hl 4 rfl) ?_
                    refine lv_iload hx hb dX11_wings_102 (lv_at hl 0 rfl) ?_
                    refine lv_iconst (v := (-1)) hx hb dX11_wings_104 (by decide) ?_
                    refine lv_ixor hx hb dX11_wings_105 ?_
                    refine lv_topi (fun t31 et31 => ?_)
                    refine lv_iand hx hb dX11_wings_106 ?_
                    refine lv_topi (fun t32 et32 => ?_)
                    have zt32 : 0 ≤ t32.toInt ∧ t32.toInt ≤ 63 := by rw [et32]; exact and_left (by omega) (by omega)
                    refine cbVi (n := 1) (rest := [.int r30]) hx hb hml hown hts hE hP hD hS hA (sY_X11_wideOf_1 l dC dI cy y0 r t32 v6 f7 w8 g9 hIv6 hCf7 hRf7 ) k_1912 k_1914 k_88 k_114 k_1915 (by decide +kernel) ⟨Nat.le_of_ble_eq_true rfl, Nat.le_of_ble_eq_true rfl⟩ 0 11 rfl rfl (rfl) hl.1 rfl (Nat.le_of_ble_eq_true rfl) dX11_wings_107 (fun r33 u H locs hw hP hD hS => ?_)
                    refine lv_isub hx hb dX11_wings_110 ?_
                    refine lv_topi (fun t34 et34 => ?_)
                    refine cbSi (n := 1) (rest := []) hx hb hml hown hts hE hP hD hS hA (sY_X11_plain_1 l dC dI cy y0 r t34 v6 f7 w8 g9 hIv6 hCf7 hRf7 ) k_1920 k_1921 k_114 k_1922 (by decide +kernel) ⟨Nat.le_of_ble_eq_true rfl, Nat.le_of_ble_eq_true rfl⟩ (rfl) hl.1 rfl (Nat.le_of_ble_eq_true rfl) dX11_wings_111 (fun r35 u H locs hw hP hD hS => ?_)
                    refine lv_istore (lv' := [(7, .int r35), (6, .int l6_14), (5, .int l5_14), (4, .int l4_14), (3, .int l3_11), (2, .int r10), (0, .ref y0), (1, .int p1)]) hx hb dX11_wings_114 hl (by decide) rfl (fun ls hl => ?_)
                    refine lv_iload hx hb dX11_wings_116 (lv_at hl 0 rfl) ?_
                    refine lv_iload hx hb dX11_wings_118 (lv_at hl 2 rfl) ?_
                    refine lv_icmp_gt (tgt := 148) hx hb dX11_wings_120 (by decide) (fun c36 => ?_) (fun c36 => ?_)
                    · skip
                      have zc36 : l5_14.toInt < r35.toInt := by rw [fa_lt] at c36; exact c36
                      have rg37 := fb_rng r35
                      have rg38 := fb_rng l5_14
                      obtain ⟨t39, et39⟩ : ∃ y : Int32, y = l6_14 + 1 := ⟨_, rfl⟩
                      have zt39 : t39.toInt = l6_14.toInt + 1 := by rw [et39]; exact add_i rfl (by decide) (by omega) (by omega)
                      refine lv_iinc (v := t39) (lv' := [(6, .int t39), (7, .int r35), (5, .int l5_14), (4, .int l4_14), (3, .int l3_11), (2, .int r10), (0, .ref y0), (1, .int p1)]) hx hb dX11_wings_148 hl (k := 1) rfl (by rw [et39]; rfl) (by decide) rfl (fun ls hl => ?_)
                      refine lv_goto (tgt := 68) hx hb dX11_wings_151 (by decide) ?_
                      have rg40 := fb_rng t39
                      exact ih14 l4_14 l5_14 t39 ⟨show (0 : Int) ≤ t39.toInt by omega, show t39.toInt ≤ (2147483647 : Int) by omega⟩ (by show (2147483647 - t39.toInt).toNat < n14; omega) _ _ _ hP hD hS (lv_sub hl [0, 2, 3, 4, 5, 6, 7] rfl)
                    · skip
                      have zc36 : ¬ (l5_14.toInt < r35.toInt) := by rw [fa_lt] at c36; exact c36
                      have rg41 := fb_rng r35
                      have rg42 := fb_rng l5_14
                      refine lv_iload hx hb dX11_wings_123 (lv_at hl 0 rfl) ?_
                      refine lv_iload hx hb dX11_wings_125 (lv_at hl 2 rfl) ?_
                      refine lv_icmp_ne (tgt := 140) hx hb dX11_wings_127 (by decide) (fun c43 => ?_) (fun c43 => ?_)
                      · skip
                        have zc43 : ¬ (r35.toInt = l5_14.toInt) := by rw [fa_eq] at c43; exact c43
                        refine lv_iload hx hb dX11_wings_140 (lv_at hl 0 rfl) ?_
                        refine lv_istore (lv' := [(5, .int r35), (7, .int r35), (6, .int l6_14), (4, .int l4_14), (3, .int l3_11), (2, .int r10), (0, .ref y0), (1, .int p1)]) hx hb dX11_wings_142 hl (by decide) rfl (fun ls hl => ?_)
                        refine lv_iload hx hb dX11_wings_144 (lv_at hl 2 rfl) ?_
                        refine lv_istore (lv' := [(4, .int l6_14), (5, .int r35), (7, .int r35), (6, .int l6_14), (3, .int l3_11), (2, .int r10), (0, .ref y0), (1, .int p1)]) hx hb dX11_wings_146 hl (by decide) rfl (fun ls hl => ?_)
                        obtain ⟨t44, et44⟩ : ∃ y : Int32, y = l6_14 + 1 := ⟨_, rfl⟩
                        have zt44 : t44.toInt = l6_14.toInt + 1 := by rw [et44]; exact add_i rfl (by decide) (by omega) (by omega)
                        refine lv_iinc (v := t44) (lv' := [(6, .int t44), (4, .int l6_14), (5, .int r35), (7, .int r35), (3, .int l3_11), (2, .int r10), (0, .ref y0), (1, .int p1)]) hx hb dX11_wings_148 hl (k := 3) rfl (by rw [et44]; rfl) (by decide) rfl (fun ls hl => ?_)
                        refine lv_goto (tgt := 68) hx hb dX11_wings_151 (by decide) ?_
                        have rg45 := fb_rng t44
                        exact ih14 l6_14 r35 t44 ⟨show (0 : Int) ≤ t44.toInt by omega, show t44.toInt ≤ (2147483647 : Int) by omega⟩ (by show (2147483647 - t44.toInt).toNat < n14; omega) _ _ _ hP hD hS (lv_sub hl [0, 2, 1, 4, 5, 6, 7] rfl)
                      · skip
                        have zc43 : r35.toInt = l5_14.toInt := by rw [fa_eq] at c43; exact c43
                        refine lv_iload hx hb dX11_wings_130 (lv_at hl 1 rfl) ?_
                        refine lv_iload hx hb dX11_wings_132 (lv_at hl 3 rfl) ?_
                        refine lv_icmp_lt (tgt := 140) hx hb dX11_wings_134 (by decide) (fun c46 => ?_) (fun c46 => ?_)
                        · skip
                          have zc46 : l6_14.toInt < l4_14.toInt := by rw [fa_lt] at c46; exact c46
                          have rg47 := fb_rng l4_14
                          refine lv_iload hx hb dX11_wings_140 (lv_at hl 0 rfl) ?_
                          refine lv_istore (lv' := [(5, .int r35), (7, .int r35), (6, .int l6_14), (4, .int l4_14), (3, .int l3_11), (2, .int r10), (0, .ref y0), (1, .int p1)]) hx hb dX11_wings_142 hl (by decide) rfl (fun ls hl => ?_)
                          refine lv_iload hx hb dX11_wings_144 (lv_at hl 2 rfl) ?_
                          refine lv_istore (lv' := [(4, .int l6_14), (5, .int r35), (7, .int r35), (6, .int l6_14), (3, .int l3_11), (2, .int r10), (0, .ref y0), (1, .int p1)]) hx hb dX11_wings_146 hl (by decide) rfl (fun ls hl => ?_)
                          obtain ⟨t48, et48⟩ : ∃ y : Int32, y = l6_14 + 1 := ⟨_, rfl⟩
                          have zt48 : t48.toInt = l6_14.toInt + 1 := by rw [et48]; exact add_i rfl (by decide) (by omega) (by omega)
                          refine lv_iinc (v := t48) (lv' := [(6, .int t48), (4, .int l6_14), (5, .int r35), (7, .int r35), (3, .int l3_11), (2, .int r10), (0, .ref y0), (1, .int p1)]) hx hb dX11_wings_148 hl (k := 3) rfl (by rw [et48]; rfl) (by decide) rfl (fun ls hl => ?_)
                          refine lv_goto (tgt := 68) hx hb dX11_wings_151 (by decide) ?_
                          have rg49 := fb_rng t48
                          exact ih14 l6_14 r35 t48 ⟨show (0 : Int) ≤ t48.toInt by omega, show t48.toInt ≤ (2147483647 : Int) by omega⟩ (by show (2147483647 - t48.toInt).toNat < n14; omega) _ _ _ hP hD hS (lv_sub hl [0, 2, 1, 4, 5, 6, 7] rfl)
                        · skip
                          have zc46 : ¬ (l6_14.toInt < l4_14.toInt) := by rw [fa_lt] at c46; exact c46
                          have rg50 := fb_rng l4_14
                          refine lv_goto (tgt := 148) hx hb dX11_wings_137 (by decide) ?_
                          obtain ⟨t51, et51⟩ : ∃ y : Int32, y = l6_14 + 1 := ⟨_, rfl⟩
                          have zt51 : t51.toInt = l6_14.toInt + 1 := by rw [et51]; exact add_i rfl (by decide) (by omega) (by omega)
                          refine lv_iinc (v := t51) (lv' := [(6, .int t51), (7, .int r35), (5, .int l5_14), (4, .int l4_14), (3, .int l3_11), (2, .int r10), (0, .ref y0), (1, .int p1)]) hx hb dX11_wings_148 hl (k := 1) rfl (by rw [et51]; rfl) (by decide) rfl (fun ls hl => ?_)
                          refine lv_goto (tgt := 68) hx hb dX11_wings_151 (by decide) ?_
                          have rg52 := fb_rng t51
                          exact ih14 l4_14 l5_14 t51 ⟨show (0 : Int) ≤ t51.toInt by omega, show t51.toInt ≤ (2147483647 : Int) by omega⟩ (by show (2147483647 - t51.toInt).toNat < n14; omega) _ _ _ hP hD hS (lv_sub hl [0, 2, 3, 4, 5, 6, 7] rfl)
                  · skip
                    have zc27 : ¬ (t26.toInt = l3_11.toInt) := by rw [fa_eq] at c27; exact c27
                    have rg53 := fb_rng t26
                    have rg54 := fb_rng l3_11
                    refine lv_goto (tgt := 148) hx hb dX11_wings_91 (by decide) ?_
                    obtain ⟨t55, et55⟩ : ∃ y : Int32, y = l6_14 + 1 := ⟨_, rfl⟩
                    have zt55 : t55.toInt = l6_14.toInt + 1 := by rw [et55]; exact add_i rfl (by decide) (by omega) (by omega)
                    refine lv_iinc (v := t55) (lv' := [(6, .int t55), (5, .int l5_14), (4, .int l4_14), (3, .int l3_11), (2, .int r10), (0, .ref y0), (1, .int p1)]) hx hb dX11_wings_148 hl (k := 0) rfl (by rw [et55]; rfl) (by decide) rfl (fun ls hl => ?_)
                    refine lv_goto (tgt := 68) hx hb dX11_wings_151 (by decide) ?_
                    have rg56 := fb_rng t55
                    exact ih14 l4_14 l5_14 t55 ⟨show (0 : Int) ≤ t55.toInt by omega, show t55.toInt ≤ (2147483647 : Int) by omega⟩ (by show (2147483647 - t55.toInt).toNat < n14; omega) _ _ _ hP hD hS (lv_sub hl [0, 1, 2, 3, 4, 5, 6] rfl)
          exact lp14 _ r10 r13 0 ⟨by decide, by decide⟩ (Nat.lt_succ_self _) _ _ _ hP hD hS (lv_sub hl [0, 1, 2, 3, 4, 5, 6] rfl)
        · skip
          have zc12 : ¬ (l4_11.toInt < 0) := by rw [fa_lt, show (0 : Int32).toInt = 0 from by decide] at c12; exact c12
          refine lv_iload_n hx hb dX11_wings_30 rfl (lv_at hl 2 rfl) ?_
          refine lv_iload hx hb dX11_wings_31 (lv_at hl 0 rfl) ?_
          refine lv_ishr hx hb dX11_wings_33 ?_
          refine lv_topi (fun t57 et57 => ?_)
          refine lv_iconst (v := 1) hx hb dX11_wings_34 (by decide) ?_
          refine lv_iand hx hb dX11_wings_35 ?_
          refine lv_topi (fun t58 et58 => ?_)
          have zt58 : 0 ≤ t58.toInt ∧ t58.toInt < 2 := by rw [et58]; exact and_rng _ (k := 1) (by decide) (by decide)
          refine lv_iconst (v := 1) hx hb dX11_wings_36 (by decide) ?_
          refine lv_icmp_ne (tgt := 47) hx hb dX11_wings_37 (by decide) (fun c59 => ?_) (fun c59 => ?_)
          · skip
            have zc59 : ¬ (t58.toInt = 1) := by rw [fa_eq, show (1 : Int32).toInt = 1 from by decide] at c59; exact c59
            refine lv_iload_n hx hb dX11_wings_47 rfl (lv_at hl 1 rfl) ?_
            refine lv_istore_n (lv' := [(3, .int l3_11), (4, .int l4_11), (2, .int r10), (0, .ref y0), (1, .int p1)]) hx hb dX11_wings_48 rfl hl (by decide) rfl (fun ls hl => ?_)
            obtain ⟨t60, et60⟩ : ∃ y : Int32, y = l4_11 + (-1) := ⟨_, rfl⟩
            have rg61 := fb_rng l4_11
            have zt60 : t60.toInt = l4_11.toInt + (-1) := by rw [et60]; exact add_i rfl (by decide) (by omega) (by omega)
            refine lv_iinc (v := t60) (lv' := [(4, .int t60), (3, .int l3_11), (2, .int r10), (0, .ref y0), (1, .int p1)]) hx hb dX11_wings_49 hl (k := 1) rfl (by rw [et60]; rfl) (by decide) rfl (fun ls hl => ?_)
            refine lv_goto (tgt := 25) hx hb dX11_wings_52 (by decide) ?_
            have rg62 := fb_rng t60
            exact ih11 l3_11 t60 ⟨show (-2147483648 : Int) ≤ t60.toInt by omega, show t60.toInt ≤ (5 : Int) by omega⟩ (by show (t60.toInt + 2147483648).toNat < n11; omega) _ _ _ hP hD hS (lv_sub hl [0, 1, 2, 3, 4] rfl)
          · skip
            have zc59 : t58.toInt = 1 := by rw [fa_eq, show (1 : Int32).toInt = 1 from by decide] at c59; exact c59
            refine lv_iconst (v := 1) hx hb dX11_wings_40 (by decide) ?_
            refine lv_iload hx hb dX11_wings_41 (lv_at hl 0 rfl) ?_
            refine lv_ishl hx hb dX11_wings_43 ?_
            refine lv_topi (fun t63 et63 => ?_)
            have zt63 : 1 ≤ t63.toInt ∧ t63.toInt ≤ 32 := by rw [et63]; exact shl1_rng (by omega) (by omega)
            refine lv_goto (tgt := 48) hx hb dX11_wings_44 (by decide) ?_
            refine lv_istore_n (lv' := [(3, .int t63), (4, .int l4_11), (2, .int r10), (0, .ref y0), (1, .int p1)]) hx hb dX11_wings_48 rfl hl (by decide) rfl (fun ls hl => ?_)
            obtain ⟨t64, et64⟩ : ∃ y : Int32, y = l4_11 + (-1) := ⟨_, rfl⟩
            have rg65 := fb_rng l4_11
            have zt64 : t64.toInt = l4_11.toInt + (-1) := by rw [et64]; exact add_i rfl (by decide) (by omega) (by omega)
            refine lv_iinc (v := t64) (lv' := [(4, .int t64), (3, .int t63), (2, .int r10), (0, .ref y0), (1, .int p1)]) hx hb dX11_wings_49 hl (k := 1) rfl (by rw [et64]; rfl) (by decide) rfl (fun ls hl => ?_)
            refine lv_goto (tgt := 25) hx hb dX11_wings_52 (by decide) ?_
            have rg66 := fb_rng t64
            exact ih11 t63 t64 ⟨show (-2147483648 : Int) ≤ t64.toInt by omega, show t64.toInt ≤ (5 : Int) by omega⟩ (by show (t64.toInt + 2147483648).toNat < n11; omega) _ _ _ hP hD hS (lv_sub hl [0, 1, 2, 3, 4] rfl)
    exact lp11 _ 0 5 ⟨by decide, by decide⟩ (Nat.lt_succ_self _) _ _ _ hP hD hS (lv_sub hl [0, 1, 2, 3, 4] rfl)
  · skip
    subst g5
    refine lv_if_ne (tgt := 11) hx hb dX11_wings_6 (by decide) (fun c0 => absurd (by decide) c0) (fun _ => ?_)
    refine lv_iconst (v := (-1)) hx hb dX11_wings_9 (by decide) ?_
    exact ret (-1) (v, f, w, g) _ _ _ _ _ _ rfl ⟨hM_v, hA_f, hIv, hCf, hRf, rfl, rfl, rfl, rfl, rfl, rfl, rfl, rfl, rfl, rfl, rfl, rfl, rfl, rfl, rfl, rfl, rfl, rfl, rfl, rfl⟩ hP hD hS dX11_wings_10 (Nat.le_refl _) (Nat.le_refl _)
set_option maxHeartbeats 4000000 in
set_option maxRecDepth 100000 in
theorem sY_X11_rowOf_1 (l : Launch) (dC : Nat → ClassId) (dI : Nat → Nat → Nat) (cy : Nat → ClassId) (y0 : Nat) (r : Nat → Nat) (p1 : Int32) (v : Nat → Int32) (f : Nat → Nat → Int32) (w : Int64) (g : Nat → Int64) (hIv : YI v) (hCf : YC f) (hRf : progOK (f 4) (f 5) (v 9).toInt.toNat)  : ctI l (dC, dI) cy yX11_rowOf cX11_rowOf 5 .int 2 81 0 0 Unit [.ref y0, .int p1] (YW cy y0 r v f w g) (fun r u => True) (fun u => YW cy y0 r v f w g) := by
  refine ctI_of (by decide) (Nat.le_of_ble_eq_true rfl) (fun p e s m below meth c A ls Q hx hb hml hts hown hE hP hD hA hl ret => ?_)
  have hUv : (v 35).toInt + (v 36).toInt ≤ 40 := hIv.2
  have hown : s.vm.findClass RX11 = some m.cls := hown
  have hS : va_S A s.heap s.heap [] := va_S.rf
  have hl : lv_has ls 5 [(0, .ref y0), (1, .int p1)] := hl
  refine lv_iconst (v := 0) hx hb dX11_rowOf_0 (by decide) ?_
  refine lv_istore_n (lv' := [(2, .int 0), (0, .ref y0), (1, .int p1)]) hx hb dX11_rowOf_1 rfl hl (by decide) rfl (fun ls hl => ?_)
  refine lv_iconst (v := 0) hx hb dX11_rowOf_2 (by decide) ?_
  refine lv_istore_n (lv' := [(3, .int 0), (2, .int 0), (0, .ref y0), (1, .int p1)]) hx hb dX11_rowOf_3 rfl hl (by decide) rfl (fun ls hl => ?_)
  refine lv_iconst (v := 0) hx hb dX11_rowOf_4 (by decide) ?_
  refine lv_istore (lv' := [(4, .int 0), (3, .int 0), (2, .int 0), (0, .ref y0), (1, .int p1)]) hx hb dX11_rowOf_5 hl (by decide) rfl (fun ls hl => ?_)
  have lp1 : ∀ (n1 : Nat) (l2_1 : Int32) (l3_1 : Int32) (l4_1 : Int32), ((0 : Int) ≤ l4_1.toInt ∧ l4_1.toInt ≤ 2147483647) → (2147483647 - l4_1.toInt).toNat < n1 → ∀ (H : Heap) (locs : List Loc) (ls : Array Slot), va_P (dC, dI) vwCl (YW cy y0 r v f w g) H → va_D A (YW cy y0 r v f w g) → va_S A s.heap H locs → lv_has ls 5 [(4, .int l4_1), (3, .int l3_1), (2, .int l2_1), (0, .ref y0), (1, .int p1)] → W p l e { frames := 2, cells := 0, slots := 0, locals := 81 } s m ([.ref y0, .int p1] : List Value).toArray below meth c H locs 0 0 Q (F0 m 7 ls []) := by
    intro n1
    induction n1 with
    | zero => intro l2_1 l3_1 l4_1 hr4_1 hm; exact absurd hm (Nat.not_lt_zero _)
    | succ n1 ih1 =>
      intro l2_1 l3_1 l4_1 hr4_1 hm1 H locs ls hP hD hS hl
      refine lv_iload hx hb dX11_rowOf_7 (lv_at hl 0 rfl) ?_
      refine lv_aload_n hx hb dX11_rowOf_9 rfl (lv_at hl 3 rfl) ?_
      refine va_get (D := (dC, dI)) (ci := 11) (v := .int (v 25)) (C := RX11) (T := TX11) (N := 79) hx hb hts inB_11 hown hE.1 hP 0 rfl rfl 49 (by decide) (hts _ k_1369) (fun _ h9 => h9) rfl dX11_rowOf_10 ?_
      have b25_v : 0 ≤ (v 25).toInt ∧ (v 25).toInt ≤ 6 := YIb.b hIv.1 25 (by decide)
      refine lv_icmp_ge (tgt := 62) hx hb dX11_rowOf_13 (by decide) (fun c2 => ?_) (fun c2 => ?_)
      · skip
        have zc2 : (v 25).toInt ≤ l4_1.toInt := by rw [fa_le] at c2; exact c2
        have rg3 := fb_rng l4_1
        have rg4 := fb_rng (v 25)
        refine lv_iload_n hx hb dX11_rowOf_62 rfl (lv_at hl 2 rfl) ?_
        refine lv_aload_n hx hb dX11_rowOf_63 rfl (lv_at hl 3 rfl) ?_
        refine va_get (D := (dC, dI)) (ci := 11) (v := .int (v 27)) (C := RX11) (T := TX11) (N := 79) hx hb hts inB_11 hown hE.1 hP 0 rfl rfl 51 (by decide) (hts _ k_1371) (fun _ h9 => h9) rfl dX11_rowOf_64 ?_
        refine lv_icmp_le (tgt := 76) hx hb dX11_rowOf_67 (by decide) (fun c5 => ?_) (fun c5 => ?_)
        · skip
          have zc5 : l2_1.toInt ≤ (v 27).toInt := by rw [fa_le] at c5; exact c5
          have rg6 := fb_rng l2_1
          have rg7 := fb_rng (v 27)
          refine lv_iload_n hx hb dX11_rowOf_76 rfl (lv_at hl 1 rfl) ?_
          exact ret l3_1 () _ _ _ _ _ _ rfl trivial hP hD hS dX11_rowOf_77 (Nat.le_refl _) (Nat.le_refl _)
        · skip
          have zc5 : ¬ (l2_1.toInt ≤ (v 27).toInt) := by rw [fa_le] at c5; exact c5
          have rg8 := fb_rng l2_1
          have rg9 := fb_rng (v 27)
          refine lv_ldcw (v := 1000000) hx hb hown (hts _ k_1927) dX11_rowOf_70 ?_
          refine lv_goto (tgt := 77) hx hb dX11_rowOf_73 (by decide) ?_
          exact ret 1000000 () _ _ _ _ _ _ rfl trivial hP hD hS dX11_rowOf_77 (Nat.le_refl _) (Nat.le_refl _)
      · skip
        have zc2 : ¬ ((v 25).toInt ≤ l4_1.toInt) := by rw [fa_le] at c2; exact c2
        have rg10 := fb_rng l4_1
        have rg11 := fb_rng (v 25)
        refine lv_iload_n hx hb dX11_rowOf_16 rfl (lv_at hl 4 rfl) ?_
        refine lv_iload hx hb dX11_rowOf_17 (lv_at hl 0 rfl) ?_
        refine lv_ishr hx hb dX11_rowOf_19 ?_
        refine lv_topi (fun t12 et12 => ?_)
        refine lv_iconst (v := 1) hx hb dX11_rowOf_20 (by decide) ?_
        refine lv_iand hx hb dX11_rowOf_21 ?_
        refine lv_topi (fun t13 et13 => ?_)
        have zt13 : 0 ≤ t13.toInt ∧ t13.toInt < 2 := by rw [et13]; exact and_rng _ (k := 1) (by decide) (by decide)
        refine lv_if_ne (tgt := 28) hx hb dX11_rowOf_22 (by decide) (fun c14 => ?_) (fun c14 => ?_)
        · skip
          have zc14 : ¬ (t13.toInt = 0) := by rw [fa_eq, show (0 : Int32).toInt = 0 from by decide] at c14; exact c14
          refine lv_iload_n hx hb dX11_rowOf_28 rfl (lv_at hl 2 rfl) ?_
          refine lv_aload_n hx hb dX11_rowOf_29 rfl (lv_at hl 3 rfl) ?_
          refine va_get (D := (dC, dI)) (ci := 11) (v := .ref (r 59)) (C := RX11) (T := TX11) (N := 79) hx hb hts inB_11 hown hE.1 hP 0 rfl rfl 59 (by decide) (hts _ k_1379) (fun _ h9 => h9) rfl dX11_rowOf_30 ?_
          refine lv_bipush (v := 18) hx hb dX11_rowOf_33 (by decide) ?_
          refine lv_iload hx hb dX11_rowOf_35 (lv_at hl 0 rfl) ?_
          refine lv_iadd hx hb dX11_rowOf_37 ?_
          refine lv_topi (fun t15 et15 => ?_)
          have zt15 : t15.toInt = 18 + l4_1.toInt := by rw [et15]; exact add_i (by decide) rfl (by omega) (by omega)
          refine ldI hx hb hE hP 24 rfl (vp_in_iff.mpr ⟨by omega, by omega⟩) rfl rfl dX11_rowOf_38 ?_
          refine lv_topi (fun t16 et16 => ?_)
          have zt16 : t15.toInt.toNat % 39 < 6 ∨ 12 ≤ t15.toInt.toNat % 39 ∨ (-1 ≤ t16.toInt ∧ t16.toInt ≤ 5) := by rw [et16]; exact wear_ld hCf.1 (show t15.toInt.toNat < 39 by omega)
          refine lv_iadd hx hb dX11_rowOf_39 ?_
          refine lv_topi (fun t17 et17 => ?_)
          refine lv_istore_n (lv' := [(2, .int t17), (4, .int l4_1), (3, .int l3_1), (0, .ref y0), (1, .int p1)]) hx hb dX11_rowOf_40 rfl hl (by decide) rfl (fun ls hl => ?_)
          refine lv_iload_n hx hb dX11_rowOf_41 rfl (lv_at hl 2 rfl) ?_
          refine lv_aload_n hx hb dX11_rowOf_42 rfl (lv_at hl 3 rfl) ?_
          refine va_get (D := (dC, dI)) (ci := 11) (v := .ref (r 59)) (C := RX11) (T := TX11) (N := 79) hx hb hts inB_11 hown hE.1 hP 0 rfl rfl 59 (by decide) (hts _ k_1379) (fun _ h9 => h9) rfl dX11_rowOf_43 ?_
          refine lv_bipush (v := 12) hx hb dX11_rowOf_46 (by decide) ?_
          refine lv_iload hx hb dX11_rowOf_48 (lv_at hl 1 rfl) ?_
          refine lv_iadd hx hb dX11_rowOf_50 ?_
          refine lv_topi (fun t18 et18 => ?_)
          have zt18 : t18.toInt = 12 + l4_1.toInt := by rw [et18]; exact add_i (by decide) rfl (by omega) (by omega)
          refine ldI hx hb hE hP 24 rfl (vp_in_iff.mpr ⟨by omega, by omega⟩) rfl rfl dX11_rowOf_51 ?_
          refine lv_topi (fun t19 et19 => ?_)
          have zt19 : t18.toInt.toNat % 39 < 6 ∨ 12 ≤ t18.toInt.toNat % 39 ∨ (-1 ≤ t19.toInt ∧ t19.toInt ≤ 5) := by rw [et19]; exact wear_ld hCf.1 (show t18.toInt.toNat < 39 by omega)
          refine cbSi (n := 2) (rest := []) hx hb hml hown hts hE hP hD hS hA (sY_X11_greater_1 l dC dI cy y0 r l3_1 t19 v f w g hIv hCf hRf ) k_1802 k_1803 k_114 k_1804 (by decide +kernel) ⟨Nat.le_of_ble_eq_true rfl, Nat.le_of_ble_eq_true rfl⟩ (rfl) hl.1 rfl (Nat.le_of_ble_eq_true rfl) dX11_rowOf_52 (fun r20 u H locs hw hP hD hS => ?_)
          refine lv_istore_n (lv' := [(3, .int r20), (2, .int t17), (4, .int l4_1), (0, .ref y0), (1, .int p1)]) hx hb dX11_rowOf_55 rfl hl (by decide) rfl (fun ls hl => ?_)
          obtain ⟨t21, et21⟩ : ∃ y : Int32, y = l4_1 + 1 := ⟨_, rfl⟩
          have zt21 : t21.toInt = l4_1.toInt + 1 := by rw [et21]; exact add_i rfl (by decide) (by omega) (by omega)
          refine lv_iinc (v := t21) (lv' := [(4, .int t21), (3, .int r20), (2, .int t17), (0, .ref y0), (1, .int p1)]) hx hb dX11_rowOf_56 hl (k := 2) rfl (by rw [et21]; rfl) (by decide) rfl (fun ls hl => ?_)
          refine lv_goto (tgt := 7) hx hb dX11_rowOf_59 (by decide) ?_
          have rg22 := fb_rng t21
          exact ih1 t17 r20 t21 ⟨show (0 : Int) ≤ t21.toInt by omega, show t21.toInt ≤ (2147483647 : Int) by omega⟩ (by show (2147483647 - t21.toInt).toNat < n1; omega) _ _ _ hP hD hS (lv_sub hl [0, 1, 2, 3, 4] rfl)
        · skip
          have zc14 : t13.toInt = 0 := by rw [fa_eq, show (0 : Int32).toInt = 0 from by decide] at c14; exact c14
          refine lv_goto (tgt := 56) hx hb dX11_rowOf_25 (by decide) ?_
          obtain ⟨t23, et23⟩ : ∃ y : Int32, y = l4_1 + 1 := ⟨_, rfl⟩
          have zt23 : t23.toInt = l4_1.toInt + 1 := by rw [et23]; exact add_i rfl (by decide) (by omega) (by omega)
          refine lv_iinc (v := t23) (lv' := [(4, .int t23), (3, .int l3_1), (2, .int l2_1), (0, .ref y0), (1, .int p1)]) hx hb dX11_rowOf_56 hl (k := 0) rfl (by rw [et23]; rfl) (by decide) rfl (fun ls hl => ?_)
          refine lv_goto (tgt := 7) hx hb dX11_rowOf_59 (by decide) ?_
          have rg24 := fb_rng t23
          exact ih1 l2_1 l3_1 t23 ⟨show (0 : Int) ≤ t23.toInt by omega, show t23.toInt ≤ (2147483647 : Int) by omega⟩ (by show (2147483647 - t23.toInt).toNat < n1; omega) _ _ _ hP hD hS (lv_sub hl [0, 1, 2, 3, 4] rfl)
  exact lp1 _ 0 0 0 ⟨by decide, by decide⟩ (Nat.lt_succ_self _) _ _ _ hP hD hS (lv_sub hl [0, 1, 2, 3, 4] rfl)
set_option maxHeartbeats 4000000 in
set_option maxRecDepth 100000 in
theorem sY_X11_cloth_1 (l : Launch) (dC : Nat → ClassId) (dI : Nat → Nat → Nat) (cy : Nat → ClassId) (y0 : Nat) (r : Nat → Nat)  (v : Nat → Int32) (f : Nat → Nat → Int32) (w : Int64) (g : Nat → Int64) (hIv : YI v) (hCf : YC f) (hRf : progOK (f 4) (f 5) (v 9).toInt.toNat)  : ctI l (dC, dI) cy yX11_cloth cX11_cloth 3 .int 3 105 0 0 ((Nat → Int32) × (Nat → Nat → Int32) × (Int64) × (Nat → Int64)) [.ref y0] (YW cy y0 r v f w g) (fun r u => KV [] u.1 v ∧ KF [29] u.2.1 f ∧ YI u.1 ∧ YC u.2.1 ∧ progOK (u.2.1 4) (u.2.1 5) (u.1 9).toInt.toNat ∧ u.1 0 = v 0 ∧ u.1 1 = v 1 ∧ u.1 2 = v 2 ∧ u.1 3 = v 3 ∧ u.1 4 = v 4 ∧ u.1 5 = v 5 ∧ u.1 8 = v 8 ∧ u.1 9 = v 9 ∧ u.1 10 = v 10 ∧ u.1 13 = v 13 ∧ u.1 14 = v 14 ∧ u.1 15 = v 15 ∧ u.1 17 = v 17 ∧ u.1 18 = v 18 ∧ u.1 24 = v 24 ∧ u.1 25 = v 25 ∧ u.1 35 = v 35 ∧ u.1 36 = v 36 ∧ u.1 38 = v 38 ∧ u.1 39 = v 39) (fun u => YW cy y0 r u.1 u.2.1 u.2.2.1 u.2.2.2) := by
  refine ctI_of (by decide) (Nat.le_of_ble_eq_true rfl) (fun p e s m below meth c A ls Q hx hb hml hts hown hE hP hD hA hl ret => ?_)
  have hUv : (v 35).toInt + (v 36).toInt ≤ 40 := hIv.2
  have hM_v : KV [] v v := fun _ _ => rfl
  have hA_f : KF [29] f f := fun _ _ => rfl
  have hown : s.vm.findClass RX11 = some m.cls := hown
  have hS : va_S A s.heap s.heap [] := va_S.rf
  have hl : lv_has ls 3 [(0, .ref y0)] := hl
  refine lv_aload_n hx hb dX11_cloth_0 rfl (lv_at hl 0 rfl) ?_
  refine va_get (D := (dC, dI)) (ci := 11) (v := .ref (r 68)) (C := RX11) (T := TX11) (N := 79) hx hb hts inB_11 hown hE.1 hP 0 rfl rfl 68 (by decide) (hts _ k_1388) (fun _ h9 => h9) rfl dX11_cloth_1 ?_
  refine lv_iconst (v := 0) hx hb dX11_cloth_4 (by decide) ?_
  refine lv_iconst (v := 0) hx hb dX11_cloth_5 (by decide) ?_
  refine stI hx hb hE hP hD hS 30 rfl (vp_in_nI (n := 0) (by decide) (by decide)) rfl dX11_cloth_6 (fun H locs hP hD hS => ?_)
  obtain ⟨f1, ef1, hP, hD⟩ : ∃ fz9, fz9 = upd2 f 29 (upd (f 29) (0 : Int32).toNatClampNeg 0) ∧ va_P (dC, dI) vwCl (YW cy y0 r v fz9 w g) H ∧ va_D A (YW cy y0 r v fz9 w g) := ⟨_, rfl, hP, hD⟩
  have hCf1 : YC f1 := by rw [ef1]; exact hCf
  have hRf1 : progOK (f1 4) (f1 5) (v 9).toInt.toNat := by rw [ef1]; exact hRf
  have hA_f1 : KF [29] f1 f := by rw [ef1]; exact KF.up hA_f rfl
  refine lv_iconst (v := 1) hx hb dX11_cloth_7 (by decide) ?_
  refine lv_istore_n (lv' := [(1, .int 1), (0, .ref y0)]) hx hb dX11_cloth_8 rfl hl (by decide) rfl (fun ls hl => ?_)
  have lp2 : ∀ (n2 : Nat) (l1_2 : Int32) (v2 : Nat → Int32) (f2 : Nat → Nat → Int32) (w2 : Int64) (g2 : Nat → Int64), YI v2 → YC f2 → progOK (f2 4) (f2 5) (v2 9).toInt.toNat → v2 0 = (v 0) → v2 1 = (v 1) → v2 2 = (v 2) → v2 3 = (v 3) → v2 4 = (v 4) → v2 5 = (v 5) → v2 8 = (v 8) → v2 9 = (v 9) → v2 10 = (v 10) → v2 13 = (v 13) → v2 14 = (v 14) → v2 15 = (v 15) → v2 17 = (v 17) → v2 18 = (v 18) → v2 24 = (v 24) → v2 25 = (v 25) → v2 35 = (v 35) → v2 36 = (v 36) → v2 38 = (v 38) → v2 39 = (v 39) → ((1 : Int) ≤ l1_2.toInt ∧ l1_2.toInt ≤ 2147483647) → KV [] v2 v → KF [29] f2 f → (2147483647 - l1_2.toInt).toNat < n2 → ∀ (H : Heap) (locs : List Loc) (ls : Array Slot), va_P (dC, dI) vwCl (YW cy y0 r v2 f2 w2 g2) H → va_D A (YW cy y0 r v2 f2 w2 g2) → va_S A s.heap H locs → lv_has ls 3 [(1, .int l1_2), (0, .ref y0)] → W p l e { frames := 3, cells := 0, slots := 0, locals := 105 } s m ([.ref y0] : List Value).toArray below meth c H locs 0 0 Q (F0 m 9 ls []) := by
    intro n2
    induction n2 with
    | zero => intro l1_2 v2 f2 w2 g2 hIv2 hCf2 hRf2 hq0_v2 hq1_v2 hq2_v2 hq3_v2 hq4_v2 hq5_v2 hq8_v2 hq9_v2 hq10_v2 hq13_v2 hq14_v2 hq15_v2 hq17_v2 hq18_v2 hq24_v2 hq25_v2 hq35_v2 hq36_v2 hq38_v2 hq39_v2 hr1_2 hM_v2 hA_f2 hm; exact absurd hm (Nat.not_lt_zero _)
    | succ n2 ih2 =>
      intro l1_2 v2 f2 w2 g2 hIv2 hCf2 hRf2 hq0_v2 hq1_v2 hq2_v2 hq3_v2 hq4_v2 hq5_v2 hq8_v2 hq9_v2 hq10_v2 hq13_v2 hq14_v2 hq15_v2 hq17_v2 hq18_v2 hq24_v2 hq25_v2 hq35_v2 hq36_v2 hq38_v2 hq39_v2 hr1_2 hM_v2 hA_f2 hm2 H locs ls hP hD hS hl
      have hUv2 : (v2 35).toInt + (v2 36).toInt ≤ 40 := hIv2.2
      have zq9_v2 := congrArg Int32.toInt hq9_v2
      refine lv_iload_n hx hb dX11_cloth_9 rfl (lv_at hl 0 rfl) ?_
      refine lv_iconst (v := 1) hx hb dX11_cloth_10 (by decide) ?_
      refine lv_aload_n hx hb dX11_cloth_11 rfl (lv_at hl 1 rfl) ?_
      refine va_get (D := (dC, dI)) (ci := 11) (v := .int (v2 25)) (C := RX11) (T := TX11) (N := 79) hx hb hts inB_11 hown hE.1 hP 0 rfl rfl 49 (by decide) (hts _ k_1369) (fun _ h9 => h9) rfl dX11_cloth_12 ?_
      refine tI (y := (v 25)) hq25_v2 ?_
      have b25_v : 0 ≤ (v 25).toInt ∧ (v 25).toInt ≤ 6 := YIb.b hIv.1 25 (by decide)
      refine lv_ishl hx hb dX11_cloth_15 ?_
      refine lv_topi (fun t3 et3 => ?_)
      have zt3 : 1 ≤ t3.toInt ∧ t3.toInt ≤ 64 := by rw [et3]; exact shl1_rng6 (by omega) (by omega)
      refine lv_icmp_ge (tgt := 86) hx hb dX11_cloth_16 (by decide) (fun c4 => ?_) (fun c4 => ?_)
      · skip
        have zc4 : t3.toInt ≤ l1_2.toInt := by rw [fa_le] at c4; exact c4
        have rg5 := fb_rng l1_2
        have rg6 := fb_rng t3
        refine lv_aload_n hx hb dX11_cloth_86 rfl (lv_at hl 1 rfl) ?_
        refine va_get (D := (dC, dI)) (ci := 11) (v := .ref (r 68)) (C := RX11) (T := TX11) (N := 79) hx hb hts inB_11 hown hE.1 hP 0 rfl rfl 68 (by decide) (hts _ k_1388) (fun _ h9 => h9) rfl dX11_cloth_87 ?_
        refine lv_iconst (v := 1) hx hb dX11_cloth_90 (by decide) ?_
        refine lv_aload_n hx hb dX11_cloth_91 rfl (lv_at hl 1 rfl) ?_
        refine va_get (D := (dC, dI)) (ci := 11) (v := .int (v2 25)) (C := RX11) (T := TX11) (N := 79) hx hb hts inB_11 hown hE.1 hP 0 rfl rfl 49 (by decide) (hts _ k_1369) (fun _ h9 => h9) rfl dX11_cloth_92 ?_
        refine tI (y := (v 25)) hq25_v2 ?_
        refine lv_ishl hx hb dX11_cloth_95 ?_
        refine tI (y := t3) et3.symm ?_
        refine lv_iconst (v := 1) hx hb dX11_cloth_96 (by decide) ?_
        refine lv_isub hx hb dX11_cloth_97 ?_
        refine lv_topi (fun t7 et7 => ?_)
        have zt7 : t7.toInt = t3.toInt - 1 := by rw [et7]; exact sub_i rfl (by decide) (by omega) (by omega)
        refine ldI hx hb hE hP 30 rfl (vp_in_iff.mpr ⟨by omega, by omega⟩) rfl rfl dX11_cloth_98 ?_
        refine lv_topi (fun t8 et8 => ?_)
        refine lv_istore_n (lv' := [(1, .int t8), (0, .ref y0)]) hx hb dX11_cloth_99 rfl hl (by decide) rfl (fun ls hl => ?_)
        refine lv_iload_n hx hb dX11_cloth_100 rfl (lv_at hl 0 rfl) ?_
        refine lv_ldcw (v := 1000000) hx hb hown (hts _ k_1927) dX11_cloth_101 ?_
        refine lv_icmp_lt (tgt := 111) hx hb dX11_cloth_104 (by decide) (fun c9 => ?_) (fun c9 => ?_)
        · skip
          have zc9 : t8.toInt < 1000000 := by rw [fa_lt, show (1000000 : Int32).toInt = 1000000 from by decide] at c9; exact c9
          refine lv_iload_n hx hb dX11_cloth_111 rfl (lv_at hl 0 rfl) ?_
          exact ret t8 (v2, f2, w2, g2) _ _ _ _ _ _ rfl ⟨hM_v2, hA_f2, hIv2, hCf2, hRf2, (show v2 0 = v 0 from hq0_v2), (show v2 1 = v 1 from hq1_v2), (show v2 2 = v 2 from hq2_v2), (show v2 3 = v 3 from hq3_v2), (show v2 4 = v 4 from hq4_v2), (show v2 5 = v 5 from hq5_v2), (show v2 8 = v 8 from hq8_v2), (show v2 9 = v 9 from hq9_v2), (show v2 10 = v 10 from hq10_v2), (show v2 13 = v 13 from hq13_v2), (show v2 14 = v 14 from hq14_v2), (show v2 15 = v 15 from hq15_v2), (show v2 17 = v 17 from hq17_v2), (show v2 18 = v 18 from hq18_v2), (show v2 24 = v 24 from hq24_v2), (show v2 25 = v 25 from hq25_v2), (show v2 35 = v 35 from hq35_v2), (show v2 36 = v 36 from hq36_v2), (show v2 38 = v 38 from hq38_v2), (show v2 39 = v 39 from hq39_v2)⟩ hP hD hS dX11_cloth_112 (Nat.le_refl _) (Nat.le_refl _)
        · skip
          have zc9 : ¬ (t8.toInt < 1000000) := by rw [fa_lt, show (1000000 : Int32).toInt = 1000000 from by decide] at c9; exact c9
          refine lv_iconst (v := (-1)) hx hb dX11_cloth_107 (by decide) ?_
          refine lv_goto (tgt := 112) hx hb dX11_cloth_108 (by decide) ?_
          exact ret (-1) (v2, f2, w2, g2) _ _ _ _ _ _ rfl ⟨hM_v2, hA_f2, hIv2, hCf2, hRf2, (show v2 0 = v 0 from hq0_v2), (show v2 1 = v 1 from hq1_v2), (show v2 2 = v 2 from hq2_v2), (show v2 3 = v 3 from hq3_v2), (show v2 4 = v 4 from hq4_v2), (show v2 5 = v 5 from hq5_v2), (show v2 8 = v 8 from hq8_v2), (show v2 9 = v 9 from hq9_v2), (show v2 10 = v 10 from hq10_v2), (show v2 13 = v 13 from hq13_v2), (show v2 14 = v 14 from hq14_v2), (show v2 15 = v 15 from hq15_v2), (show v2 17 = v 17 from hq17_v2), (show v2 18 = v 18 from hq18_v2), (show v2 24 = v 24 from hq24_v2), (show v2 25 = v 25 from hq25_v2), (show v2 35 = v 35 from hq35_v2), (show v2 36 = v 36 from hq36_v2), (show v2 38 = v 38 from hq38_v2), (show v2 39 = v 39 from hq39_v2)⟩ hP hD hS dX11_cloth_112 (Nat.le_refl _) (Nat.le_refl _)
      · skip
        have zc4 : ¬ (t3.toInt ≤ l1_2.toInt) := by rw [fa_le] at c4; exact c4
        have rg10 := fb_rng l1_2
        have rg11 := fb_rng t3
        refine lv_aload_n hx hb dX11_cloth_19 rfl (lv_at hl 1 rfl) ?_
        refine va_get (D := (dC, dI)) (ci := 11) (v := .ref (r 68)) (C := RX11) (T := TX11) (N := 79) hx hb hts inB_11 hown hE.1 hP 0 rfl rfl 68 (by decide) (hts _ k_1388) (fun _ h9 => h9) rfl dX11_cloth_20 ?_
        refine lv_iload_n hx hb dX11_cloth_23 rfl (lv_at hl 0 rfl) ?_
        refine lv_ldcw (v := 1000000) hx hb hown (hts _ k_1927) dX11_cloth_24 ?_
        refine stI hx hb hE hP hD hS 30 rfl (vp_in_iff.mpr ⟨by omega, by omega⟩) rfl dX11_cloth_27 (fun H locs hP hD hS => ?_)
        obtain ⟨f12, ef12, hP, hD⟩ : ∃ fz9, fz9 = upd2 f2 29 (upd (f2 29) l1_2.toNatClampNeg 1000000) ∧ va_P (dC, dI) vwCl (YW cy y0 r v2 fz9 w2 g2) H ∧ va_D A (YW cy y0 r v2 fz9 w2 g2) := ⟨_, rfl, hP, hD⟩
        have hCf12 : YC f12 := by rw [ef12]; exact hCf2
        have hRf12 : progOK (f12 4) (f12 5) (v2 9).toInt.toNat := by rw [ef12]; exact hRf2
        have hA_f12 : KF [29] f12 f := by rw [ef12]; exact KF.up hA_f2 rfl
        refine lv_iconst (v := 1) hx hb dX11_cloth_28 (by decide) ?_
        refine lv_istore_n (lv' := [(2, .int 1), (1, .int l1_2), (0, .ref y0)]) hx hb dX11_cloth_29 rfl hl (by decide) rfl (fun ls hl => ?_)
        have lp13 : ∀ (n13 : Nat) (l2_13 : Int32) (v13 : Nat → Int32) (f13 : Nat → Nat → Int32) (w13 : Int64) (g13 : Nat → Int64), YI v13 → YC f13 → progOK (f13 4) (f13 5) (v13 9).toInt.toNat → v13 0 = (v 0) → v13 1 = (v 1) → v13 2 = (v 2) → v13 3 = (v 3) → v13 4 = (v 4) → v13 5 = (v 5) → v13 8 = (v 8) → v13 9 = (v 9) → v13 10 = (v 10) → v13 13 = (v 13) → v13 14 = (v 14) → v13 15 = (v 15) → v13 17 = (v 17) → v13 18 = (v 18) → v13 24 = (v 24) → v13 25 = (v 25) → v13 35 = (v 35) → v13 36 = (v 36) → v13 38 = (v 38) → v13 39 = (v 39) → ((1 : Int) ≤ l2_13.toInt ∧ l2_13.toInt ≤ 2147483647) → KV [] v13 v → KF [29] f13 f → (2147483647 - l2_13.toInt).toNat < n13 → ∀ (H : Heap) (locs : List Loc) (ls : Array Slot), va_P (dC, dI) vwCl (YW cy y0 r v13 f13 w13 g13) H → va_D A (YW cy y0 r v13 f13 w13 g13) → va_S A s.heap H locs → lv_has ls 3 [(2, .int l2_13), (1, .int l1_2), (0, .ref y0)] → W p l e { frames := 3, cells := 0, slots := 0, locals := 105 } s m ([.ref y0] : List Value).toArray below meth c H locs 0 0 Q (F0 m 30 ls []) := by
          intro n13
          induction n13 with
          | zero => intro l2_13 v13 f13 w13 g13 hIv13 hCf13 hRf13 hq0_v13 hq1_v13 hq2_v13 hq3_v13 hq4_v13 hq5_v13 hq8_v13 hq9_v13 hq10_v13 hq13_v13 hq14_v13 hq15_v13 hq17_v13 hq18_v13 hq24_v13 hq25_v13 hq35_v13 hq36_v13 hq38_v13 hq39_v13 hr2_13 hM_v13 hA_f13 hm; exact absurd hm (Nat.not_lt_zero _)
          | succ n13 ih13 =>
            intro l2_13 v13 f13 w13 g13 hIv13 hCf13 hRf13 hq0_v13 hq1_v13 hq2_v13 hq3_v13 hq4_v13 hq5_v13 hq8_v13 hq9_v13 hq10_v13 hq13_v13 hq14_v13 hq15_v13 hq17_v13 hq18_v13 hq24_v13 hq25_v13 hq35_v13 hq36_v13 hq38_v13 hq39_v13 hr2_13 hM_v13 hA_f13 hm13 H locs ls hP hD hS hl
            have hUv13 : (v13 35).toInt + (v13 36).toInt ≤ 40 := hIv13.2
            have zq9_v13 := congrArg Int32.toInt hq9_v13
            refine lv_iload_n hx hb dX11_cloth_30 rfl (lv_at hl 0 rfl) ?_
            refine lv_iload_n hx hb dX11_cloth_31 rfl (lv_at hl 1 rfl) ?_
            refine lv_icmp_gt (tgt := 80) hx hb dX11_cloth_32 (by decide) (fun c14 => ?_) (fun c14 => ?_)
            · skip
              have zc14 : l1_2.toInt < l2_13.toInt := by rw [fa_lt] at c14; exact c14
              have rg15 := fb_rng l2_13
              obtain ⟨t16, et16⟩ : ∃ y : Int32, y = l1_2 + 1 := ⟨_, rfl⟩
              have zt16 : t16.toInt = l1_2.toInt + 1 := by rw [et16]; exact add_i rfl (by decide) (by omega) (by omega)
              refine lv_iinc (v := t16) (lv' := [(1, .int t16), (2, .int l2_13), (0, .ref y0)]) hx hb dX11_cloth_80 hl (k := 1) rfl (by rw [et16]; rfl) (by decide) rfl (fun ls hl => ?_)
              refine lv_goto (tgt := 9) hx hb dX11_cloth_83 (by decide) ?_
              have rg17 := fb_rng t16
              exact ih2 t16 v13 f13 w13 g13 hIv13 hCf13 hRf13 hq0_v13 hq1_v13 hq2_v13 hq3_v13 hq4_v13 hq5_v13 hq8_v13 hq9_v13 hq10_v13 hq13_v13 hq14_v13 hq15_v13 hq17_v13 hq18_v13 hq24_v13 hq25_v13 hq35_v13 hq36_v13 hq38_v13 hq39_v13 ⟨show (1 : Int) ≤ t16.toInt by omega, show t16.toInt ≤ (2147483647 : Int) by omega⟩ hM_v13 hA_f13 (by show (2147483647 - t16.toInt).toNat < n2; omega) _ _ _ hP hD hS (lv_sub hl [0, 2] rfl)
            · skip
              have zc14 : ¬ (l1_2.toInt < l2_13.toInt) := by rw [fa_lt] at c14; exact c14
              have rg18 := fb_rng l2_13
              refine lv_iload_n hx hb dX11_cloth_35 rfl (lv_at hl 0 rfl) ?_
              refine lv_iload_n hx hb dX11_cloth_36 rfl (lv_at hl 1 rfl) ?_
              refine lv_iconst (v := (-1)) hx hb dX11_cloth_37 (by decide) ?_
              refine lv_ixor hx hb dX11_cloth_38 ?_
              refine lv_topi (fun t19 et19 => ?_)
              refine lv_iand hx hb dX11_cloth_39 ?_
              refine lv_topi (fun t20 et20 => ?_)
              have zt20 : 0 ≤ t20.toInt ∧ t20.toInt ≤ 63 := by rw [et20]; exact and_left (by omega) (by omega)
              refine lv_if_ne (tgt := 74) hx hb dX11_cloth_40 (by decide) (fun c21 => ?_) (fun c21 => ?_)
              · skip
                have zc21 : ¬ (t20.toInt = 0) := by rw [fa_eq, show (0 : Int32).toInt = 0 from by decide] at c21; exact c21
                obtain ⟨t22, et22⟩ : ∃ y : Int32, y = l2_13 + 1 := ⟨_, rfl⟩
                have zt22 : t22.toInt = l2_13.toInt + 1 := by rw [et22]; exact add_i rfl (by decide) (by omega) (by omega)
                refine lv_iinc (v := t22) (lv' := [(2, .int t22), (1, .int l1_2), (0, .ref y0)]) hx hb dX11_cloth_74 hl (k := 0) rfl (by rw [et22]; rfl) (by decide) rfl (fun ls hl => ?_)
                refine lv_goto (tgt := 30) hx hb dX11_cloth_77 (by decide) ?_
                have rg23 := fb_rng t22
                exact ih13 t22 v13 f13 w13 g13 hIv13 hCf13 hRf13 hq0_v13 hq1_v13 hq2_v13 hq3_v13 hq4_v13 hq5_v13 hq8_v13 hq9_v13 hq10_v13 hq13_v13 hq14_v13 hq15_v13 hq17_v13 hq18_v13 hq24_v13 hq25_v13 hq35_v13 hq36_v13 hq38_v13 hq39_v13 ⟨show (1 : Int) ≤ t22.toInt by omega, show t22.toInt ≤ (2147483647 : Int) by omega⟩ hM_v13 hA_f13 (by show (2147483647 - t22.toInt).toNat < n13; omega) _ _ _ hP hD hS (lv_sub hl [0, 1, 2] rfl)
              · skip
                have zc21 : t20.toInt = 0 := by rw [fa_eq, show (0 : Int32).toInt = 0 from by decide] at c21; exact c21
                refine lv_aload_n hx hb dX11_cloth_43 rfl (lv_at hl 2 rfl) ?_
                refine va_get (D := (dC, dI)) (ci := 11) (v := .ref (r 68)) (C := RX11) (T := TX11) (N := 79) hx hb hts inB_11 hown hE.1 hP 0 rfl rfl 68 (by decide) (hts _ k_1388) (fun _ h9 => h9) rfl dX11_cloth_44 ?_
                refine lv_iload_n hx hb dX11_cloth_47 rfl (lv_at hl 1 rfl) ?_
                refine lv_aload_n hx hb dX11_cloth_48 rfl (lv_at hl 2 rfl) ?_
                refine va_get (D := (dC, dI)) (ci := 11) (v := .ref (r 68)) (C := RX11) (T := TX11) (N := 79) hx hb hts inB_11 hown hE.1 hP 0 rfl rfl 68 (by decide) (hts _ k_1388) (fun _ h9 => h9) rfl dX11_cloth_49 ?_
                refine lv_iload_n hx hb dX11_cloth_52 rfl (lv_at hl 1 rfl) ?_
                refine ldI hx hb hE hP 30 rfl (vp_in_iff.mpr ⟨by omega, by omega⟩) rfl rfl dX11_cloth_53 ?_
                refine lv_topi (fun t24 et24 => ?_)
                refine lv_aload_n hx hb dX11_cloth_54 rfl (lv_at hl 2 rfl) ?_
                refine lv_iload_n hx hb dX11_cloth_55 rfl (lv_at hl 0 rfl) ?_
                refine cbVi (n := 1) (rest := [.int t24, .int l1_2, .ref (r 68)]) hx hb hml hown hts hE hP hD hS hA (sY_X11_rowOf_1 l dC dI cy y0 r l2_13 v13 f13 w13 g13 hIv13 hCf13 hRf13 ) k_1928 k_1930 k_89 k_114 k_1931 (by decide +kernel) ⟨Nat.le_of_ble_eq_true rfl, Nat.le_of_ble_eq_true rfl⟩ 0 11 rfl rfl (rfl) hl.1 rfl (Nat.le_of_ble_eq_true rfl) dX11_cloth_56 (fun r25 u H locs hw hP hD hS => ?_)
                refine lv_aload_n hx hb dX11_cloth_59 rfl (lv_at hl 2 rfl) ?_
                refine va_get (D := (dC, dI)) (ci := 11) (v := .ref (r 68)) (C := RX11) (T := TX11) (N := 79) hx hb hts inB_11 hown hE.1 hP 0 rfl rfl 68 (by decide) (hts _ k_1388) (fun _ h9 => h9) rfl dX11_cloth_60 ?_
                refine lv_iload_n hx hb dX11_cloth_63 rfl (lv_at hl 1 rfl) ?_
                refine lv_iload_n hx hb dX11_cloth_64 rfl (lv_at hl 0 rfl) ?_
                refine lv_iconst (v := (-1)) hx hb dX11_cloth_65 (by decide) ?_
                refine lv_ixor hx hb dX11_cloth_66 ?_
                refine lv_topi (fun t26 et26 => ?_)
                refine lv_iand hx hb dX11_cloth_67 ?_
                refine lv_topi (fun t27 et27 => ?_)
                have zt27 : 0 ≤ t27.toInt ∧ t27.toInt ≤ 63 := by rw [et27]; exact and_left (by omega) (by omega)
                refine ldI hx hb hE hP 30 rfl (vp_in_iff.mpr ⟨by omega, by omega⟩) rfl rfl dX11_cloth_68 ?_
                refine lv_topi (fun t28 et28 => ?_)
                refine lv_iadd hx hb dX11_cloth_69 ?_
                refine lv_topi (fun t29 et29 => ?_)
                refine cbSi (n := 2) (rest := [.int l1_2, .ref (r 68)]) hx hb hml hown hts hE hP hD hS hA (sY_X11_lesser_1 l dC dI cy y0 r t24 t29 v13 f13 w13 g13 hIv13 hCf13 hRf13 ) k_1799 k_1800 k_114 k_1801 (by decide +kernel) ⟨Nat.le_of_ble_eq_true rfl, Nat.le_of_ble_eq_true rfl⟩ (rfl) hl.1 rfl (Nat.le_of_ble_eq_true rfl) dX11_cloth_70 (fun r30 u H locs hw hP hD hS => ?_)
                obtain ⟨pp31, pp32⟩ := hw
                have pp31 : r30.toInt ≤ t24.toInt := pp31
                have pp32 : r30.toInt ≤ t29.toInt := pp32
                refine stI hx hb hE hP hD hS 30 rfl (vp_in_iff.mpr ⟨by omega, by omega⟩) rfl dX11_cloth_73 (fun H locs hP hD hS => ?_)
                obtain ⟨f33, ef33, hP, hD⟩ : ∃ fz9, fz9 = upd2 f13 29 (upd (f13 29) l1_2.toNatClampNeg r30) ∧ va_P (dC, dI) vwCl (YW cy y0 r v13 fz9 w13 g13) H ∧ va_D A (YW cy y0 r v13 fz9 w13 g13) := ⟨_, rfl, hP, hD⟩
                have hCf33 : YC f33 := by rw [ef33]; exact hCf13
                have hRf33 : progOK (f33 4) (f33 5) (v13 9).toInt.toNat := by rw [ef33]; exact hRf13
                have hA_f33 : KF [29] f33 f := by rw [ef33]; exact KF.up hA_f13 rfl
                obtain ⟨t34, et34⟩ : ∃ y : Int32, y = l2_13 + 1 := ⟨_, rfl⟩
                have zt34 : t34.toInt = l2_13.toInt + 1 := by rw [et34]; exact add_i rfl (by decide) (by omega) (by omega)
                refine lv_iinc (v := t34) (lv' := [(2, .int t34), (1, .int l1_2), (0, .ref y0)]) hx hb dX11_cloth_74 hl (k := 0) rfl (by rw [et34]; rfl) (by decide) rfl (fun ls hl => ?_)
                refine lv_goto (tgt := 30) hx hb dX11_cloth_77 (by decide) ?_
                have rg35 := fb_rng t34
                exact ih13 t34 v13 f33 w13 g13 hIv13 hCf33 hRf33 hq0_v13 hq1_v13 hq2_v13 hq3_v13 hq4_v13 hq5_v13 hq8_v13 hq9_v13 hq10_v13 hq13_v13 hq14_v13 hq15_v13 hq17_v13 hq18_v13 hq24_v13 hq25_v13 hq35_v13 hq36_v13 hq38_v13 hq39_v13 ⟨show (1 : Int) ≤ t34.toInt by omega, show t34.toInt ≤ (2147483647 : Int) by omega⟩ hM_v13 hA_f33 (by show (2147483647 - t34.toInt).toNat < n13; omega) _ _ _ hP hD hS (lv_sub hl [0, 1, 2] rfl)
        exact lp13 _ 1 v2 f12 w2 g2 hIv2 hCf12 hRf12 hq0_v2 hq1_v2 hq2_v2 hq3_v2 hq4_v2 hq5_v2 hq8_v2 hq9_v2 hq10_v2 hq13_v2 hq14_v2 hq15_v2 hq17_v2 hq18_v2 hq24_v2 hq25_v2 hq35_v2 hq36_v2 hq38_v2 hq39_v2 ⟨by decide, by decide⟩ hM_v2 hA_f12 (Nat.lt_succ_self _) _ _ _ hP hD hS (lv_sub hl [0, 1, 2] rfl)
  exact lp2 _ 1 v f1 w g hIv hCf1 hRf1 rfl rfl rfl rfl rfl rfl rfl rfl rfl rfl rfl rfl rfl rfl rfl rfl rfl rfl rfl rfl ⟨by decide, by decide⟩ hM_v hA_f1 (Nat.lt_succ_self _) _ _ _ hP hD hS (lv_sub hl [0, 1] rfl)
set_option maxHeartbeats 4000000 in
set_option maxRecDepth 100000 in
theorem sY_X11_areTaken_1 (l : Launch) (dC : Nat → ClassId) (dI : Nat → Nat → Nat) (cy : Nat → ClassId) (y0 : Nat) (r : Nat → Nat) (p1 : Int32) (p2 : Int32) (v : Nat → Int32) (f : Nat → Nat → Int32) (w : Int64) (g : Nat → Int64) (hIv : YI v) (hCf : YC f) (hRf : progOK (f 4) (f 5) (v 9).toInt.toNat) (hp1 : (0 : Int) ≤ p1.toInt ∧ p1.toInt ≤ 5) (hp2 : (0 : Int) ≤ p2.toInt ∧ p2.toInt ≤ 5) : ctI l (dC, dI) cy yX11_areTaken cX11_areTaken 3 .boolean 2 80 0 0 Unit [.ref y0, .int p1, .int p2] (YW cy y0 r v f w g) (fun r u => ((r = 1) ∨ (r = 0))) (fun u => YW cy y0 r v f w g) := by
  refine ctI_of (by decide) (Nat.le_of_ble_eq_true rfl) (fun p e s m below meth c A ls Q hx hb hml hts hown hE hP hD hA hl ret => ?_)
  have hUv : (v 35).toInt + (v 36).toInt ≤ 40 := hIv.2
  have hown : s.vm.findClass RX11 = some m.cls := hown
  have hS : va_S A s.heap s.heap [] := va_S.rf
  have hl : lv_has ls 3 [(0, .ref y0), (1, .int p1), (2, .int p2)] := hl
  refine lv_aload_n hx hb dX11_areTaken_0 rfl (lv_at hl 0 rfl) ?_
  refine va_get (D := (dC, dI)) (ci := 11) (v := .ref (r 34)) (C := RX11) (T := TX11) (N := 79) hx hb hts inB_11 hown hE.1 hP 0 rfl rfl 34 (by decide) (hts _ k_1354) (fun _ h9 => h9) rfl dX11_areTaken_1 ?_
  refine lv_iload_n hx hb dX11_areTaken_4 rfl (lv_at hl 1 rfl) ?_
  refine ldI hx hb hE hP 17 rfl (vp_in_iff.mpr ⟨by omega, by omega⟩) rfl rfl dX11_areTaken_5 ?_
  refine lv_topi (fun t1 et1 => ?_)
  refine lv_aload_n hx hb dX11_areTaken_6 rfl (lv_at hl 0 rfl) ?_
  refine va_get (D := (dC, dI)) (ci := 11) (v := .ref (r 34)) (C := RX11) (T := TX11) (N := 79) hx hb hts inB_11 hown hE.1 hP 0 rfl rfl 34 (by decide) (hts _ k_1354) (fun _ h9 => h9) rfl dX11_areTaken_7 ?_
  refine lv_iload_n hx hb dX11_areTaken_10 rfl (lv_at hl 2 rfl) ?_
  refine ldI hx hb hE hP 17 rfl (vp_in_iff.mpr ⟨by omega, by omega⟩) rfl rfl dX11_areTaken_11 ?_
  refine lv_topi (fun t2 et2 => ?_)
  refine lv_isub hx hb dX11_areTaken_12 ?_
  refine lv_topi (fun t3 et3 => ?_)
  refine cbSi (n := 1) (rest := []) hx hb hml hown hts hE hP hD hS hA (sY_X11_plain_1 l dC dI cy y0 r t3 v f w g hIv hCf hRf ) k_1920 k_1921 k_114 k_1922 (by decide +kernel) ⟨Nat.le_of_ble_eq_true rfl, Nat.le_of_ble_eq_true rfl⟩ (rfl) hl.1 rfl (Nat.le_of_ble_eq_true rfl) dX11_areTaken_13 (fun r4 u H locs hw hP hD hS => ?_)
  refine lv_aload_n hx hb dX11_areTaken_16 rfl (lv_at hl 0 rfl) ?_
  refine va_get (D := (dC, dI)) (ci := 11) (v := .int (v 28)) (C := RX11) (T := TX11) (N := 79) hx hb hts inB_11 hown hE.1 hP 0 rfl rfl 52 (by decide) (hts _ k_1372) (fun _ h9 => h9) rfl dX11_areTaken_17 ?_
  refine lv_icmp_gt (tgt := 27) hx hb dX11_areTaken_20 (by decide) (fun c5 => ?_) (fun c5 => ?_)
  · skip
    have zc5 : (v 28).toInt < r4.toInt := by rw [fa_lt] at c5; exact c5
    have rg6 := fb_rng r4
    have rg7 := fb_rng (v 28)
    refine lv_iconst (v := 0) hx hb dX11_areTaken_27 (by decide) ?_
    exact ret 0 () _ _ _ _ _ _ rfl (Or.inr rfl) hP hD hS dX11_areTaken_28 (Nat.le_refl _) (Nat.le_refl _)
  · skip
    have zc5 : ¬ ((v 28).toInt < r4.toInt) := by rw [fa_lt] at c5; exact c5
    have rg8 := fb_rng r4
    have rg9 := fb_rng (v 28)
    refine lv_iconst (v := 1) hx hb dX11_areTaken_23 (by decide) ?_
    refine lv_goto (tgt := 28) hx hb dX11_areTaken_24 (by decide) ?_
    exact ret 1 () _ _ _ _ _ _ rfl (Or.inl rfl) hP hD hS dX11_areTaken_28 (Nat.le_refl _) (Nat.le_refl _)
set_option maxHeartbeats 4000000 in
set_option maxRecDepth 100000 in
theorem sY_X11_layColours_1 (l : Launch) (dC : Nat → ClassId) (dI : Nat → Nat → Nat) (cy : Nat → ClassId) (y0 : Nat) (r : Nat → Nat) (p1 : Int32) (p2 : Int32) (v : Nat → Int32) (f : Nat → Nat → Int32) (w : Int64) (g : Nat → Int64) (hIv : YI v) (hCf : YC f) (hRf : progOK (f 4) (f 5) (v 9).toInt.toNat) (hp1 : (1 : Int) ≤ p1.toInt ∧ p1.toInt ≤ 6) (hp2 : (0 : Int) ≤ p2.toInt ∧ p2.toInt ≤ 2147483647) : ctI l (dC, dI) cy yX11_layColours cX11_layColours 7 .boolean 3 102 0 0 ((Nat → Int32) × (Nat → Nat → Int32) × (Int64) × (Nat → Int64)) [.ref y0, .int p1, .int p2] (YW cy y0 r v f w g) (fun r u => KV [] u.1 v ∧ KF [27] u.2.1 f ∧ YI u.1 ∧ YC u.2.1 ∧ progOK (u.2.1 4) (u.2.1 5) (u.1 9).toInt.toNat ∧ u.1 0 = v 0 ∧ u.1 1 = v 1 ∧ u.1 2 = v 2 ∧ u.1 3 = v 3 ∧ u.1 4 = v 4 ∧ u.1 5 = v 5 ∧ u.1 8 = v 8 ∧ u.1 9 = v 9 ∧ u.1 10 = v 10 ∧ u.1 13 = v 13 ∧ u.1 14 = v 14 ∧ u.1 15 = v 15 ∧ u.1 17 = v 17 ∧ u.1 18 = v 18 ∧ u.1 24 = v 24 ∧ u.1 25 = v 25 ∧ u.1 35 = v 35 ∧ u.1 36 = v 36 ∧ u.1 38 = v 38 ∧ u.1 39 = v 39 ∧ ((r = 1) ∨ (r = 0))) (fun u => YW cy y0 r u.1 u.2.1 u.2.2.1 u.2.2.2) := by
  refine ctI_of (by decide) (Nat.le_of_ble_eq_true rfl) (fun p e s m below meth c A ls Q hx hb hml hts hown hE hP hD hA hl ret => ?_)
  have hUv : (v 35).toInt + (v 36).toInt ≤ 40 := hIv.2
  have hM_v : KV [] v v := fun _ _ => rfl
  have hA_f : KF [27] f f := fun _ _ => rfl
  have hown : s.vm.findClass RX11 = some m.cls := hown
  have hS : va_S A s.heap s.heap [] := va_S.rf
  have hl : lv_has ls 7 [(0, .ref y0), (1, .int p1), (2, .int p2)] := hl
  refine lv_iload_n hx hb dX11_layColours_0 rfl (lv_at hl 2 rfl) ?_
  refine lv_istore_n (lv' := [(3, .int p2), (0, .ref y0), (1, .int p1), (2, .int p2)]) hx hb dX11_layColours_1 rfl hl (by decide) rfl (fun ls hl => ?_)
  refine lv_aload_n hx hb dX11_layColours_2 rfl (lv_at hl 1 rfl) ?_
  refine va_get (D := (dC, dI)) (ci := 11) (v := .int (v 24)) (C := RX11) (T := TX11) (N := 79) hx hb hts inB_11 hown hE.1 hP 0 rfl rfl 48 (by decide) (hts _ k_1368) (fun _ h9 => h9) rfl dX11_layColours_3 ?_
  have b24_v : 0 ≤ (v 24).toInt ∧ (v 24).toInt ≤ 6 := YIb.b hIv.1 24 (by decide)
  refine lv_iconst (v := 1) hx hb dX11_layColours_6 (by decide) ?_
  refine lv_isub hx hb dX11_layColours_7 ?_
  refine lv_topi (fun t1 et1 => ?_)
  have rg2 := fb_rng (v 24)
  have zt1 : t1.toInt = (v 24).toInt - 1 := by rw [et1]; exact sub_i rfl (by decide) (by omega) (by omega)
  refine lv_istore (lv' := [(4, .int t1), (3, .int p2), (0, .ref y0), (1, .int p1), (2, .int p2)]) hx hb dX11_layColours_8 hl (by decide) rfl (fun ls hl => ?_)
  have lp3 : ∀ (n3 : Nat) (l3_3 : Int32) (l4_3 : Int32) (v3 : Nat → Int32) (f3 : Nat → Nat → Int32) (w3 : Int64) (g3 : Nat → Int64), YI v3 → YC f3 → progOK (f3 4) (f3 5) (v3 9).toInt.toNat → v3 0 = (v 0) → v3 1 = (v 1) → v3 2 = (v 2) → v3 3 = (v 3) → v3 4 = (v 4) → v3 5 = (v 5) → v3 8 = (v 8) → v3 9 = (v 9) → v3 10 = (v 10) → v3 13 = (v 13) → v3 14 = (v 14) → v3 15 = (v 15) → v3 17 = (v 17) → v3 18 = (v 18) → v3 24 = (v 24) → v3 25 = (v 25) → v3 35 = (v 35) → v3 36 = (v 36) → v3 38 = (v 38) → v3 39 = (v 39) → ((0 : Int) ≤ l3_3.toInt ∧ l3_3.toInt ≤ 2147483647) → ((-2147483648 : Int) ≤ l4_3.toInt ∧ l4_3.toInt ≤ 5) → KV [] v3 v → KF [27] f3 f → (l4_3.toInt + 2147483648).toNat < n3 → ∀ (H : Heap) (locs : List Loc) (ls : Array Slot), va_P (dC, dI) vwCl (YW cy y0 r v3 f3 w3 g3) H → va_D A (YW cy y0 r v3 f3 w3 g3) → va_S A s.heap H locs → lv_has ls 7 [(4, .int l4_3), (3, .int l3_3), (0, .ref y0), (1, .int p1), (2, .int p2)] → W p l e { frames := 3, cells := 0, slots := 0, locals := 102 } s m ([.ref y0, .int p1, .int p2] : List Value).toArray below meth c H locs 0 0 Q (F0 m 10 ls []) := by
    intro n3
    induction n3 with
    | zero => intro l3_3 l4_3 v3 f3 w3 g3 hIv3 hCf3 hRf3 hq0_v3 hq1_v3 hq2_v3 hq3_v3 hq4_v3 hq5_v3 hq8_v3 hq9_v3 hq10_v3 hq13_v3 hq14_v3 hq15_v3 hq17_v3 hq18_v3 hq24_v3 hq25_v3 hq35_v3 hq36_v3 hq38_v3 hq39_v3 hr3_3 hr4_3 hM_v3 hA_f3 hm; exact absurd hm (Nat.not_lt_zero _)
    | succ n3 ih3 =>
      intro l3_3 l4_3 v3 f3 w3 g3 hIv3 hCf3 hRf3 hq0_v3 hq1_v3 hq2_v3 hq3_v3 hq4_v3 hq5_v3 hq8_v3 hq9_v3 hq10_v3 hq13_v3 hq14_v3 hq15_v3 hq17_v3 hq18_v3 hq24_v3 hq25_v3 hq35_v3 hq36_v3 hq38_v3 hq39_v3 hr3_3 hr4_3 hM_v3 hA_f3 hm3 H locs ls hP hD hS hl
      have hUv3 : (v3 35).toInt + (v3 36).toInt ≤ 40 := hIv3.2
      have zq9_v3 := congrArg Int32.toInt hq9_v3
      refine lv_iload hx hb dX11_layColours_10 (lv_at hl 0 rfl) ?_
      refine lv_if_lt (tgt := 35) hx hb dX11_layColours_12 (by decide) (fun c4 => ?_) (fun c4 => ?_)
      · skip
        have zc4 : l4_3.toInt < 0 := by rw [fa_lt, show (0 : Int32).toInt = 0 from by decide] at c4; exact c4
        refine lv_iconst (v := 1) hx hb dX11_layColours_35 (by decide) ?_
        refine lv_istore (lv' := [(4, .int 1), (3, .int l3_3), (0, .ref y0), (1, .int p1), (2, .int p2)]) hx hb dX11_layColours_36 hl (by decide) rfl (fun ls hl => ?_)
        refine lv_iconst (v := 0) hx hb dX11_layColours_38 (by decide) ?_
        refine lv_istore (lv' := [(5, .int 0), (4, .int 1), (3, .int l3_3), (0, .ref y0), (1, .int p1), (2, .int p2)]) hx hb dX11_layColours_39 hl (by decide) rfl (fun ls hl => ?_)
        have lp5 : ∀ (n5 : Nat) (l4_5 : Int32) (l5_5 : Int32), ((0 : Int) ≤ l4_5.toInt ∧ l4_5.toInt ≤ 1) → ((0 : Int) ≤ l5_5.toInt ∧ l5_5.toInt ≤ 2147483647) → (2147483647 - l5_5.toInt).toNat < n5 → ∀ (H : Heap) (locs : List Loc) (ls : Array Slot), va_P (dC, dI) vwCl (YW cy y0 r v3 f3 w3 g3) H → va_D A (YW cy y0 r v3 f3 w3 g3) → va_S A s.heap H locs → lv_has ls 7 [(5, .int l5_5), (4, .int l4_5), (3, .int l3_3), (0, .ref y0), (1, .int p1), (2, .int p2)] → W p l e { frames := 3, cells := 0, slots := 0, locals := 102 } s m ([.ref y0, .int p1, .int p2] : List Value).toArray below meth c H locs 0 0 Q (F0 m 41 ls []) := by
          intro n5
          induction n5 with
          | zero => intro l4_5 l5_5 hr4_5 hr5_5 hm; exact absurd hm (Nat.not_lt_zero _)
          | succ n5 ih5 =>
            intro l4_5 l5_5 hr4_5 hr5_5 hm5 H locs ls hP hD hS hl
            refine lv_iload hx hb dX11_layColours_41 (lv_at hl 0 rfl) ?_
            refine lv_aload_n hx hb dX11_layColours_43 rfl (lv_at hl 3 rfl) ?_
            refine va_get (D := (dC, dI)) (ci := 11) (v := .int (v3 24)) (C := RX11) (T := TX11) (N := 79) hx hb hts inB_11 hown hE.1 hP 0 rfl rfl 48 (by decide) (hts _ k_1368) (fun _ h9 => h9) rfl dX11_layColours_44 ?_
            refine tI (y := (v 24)) hq24_v3 ?_
            have b24_v : 0 ≤ (v 24).toInt ∧ (v 24).toInt ≤ 6 := YIb.b hIv.1 24 (by decide)
            refine lv_icmp_ge (tgt := 112) hx hb dX11_layColours_47 (by decide) (fun c6 => ?_) (fun c6 => ?_)
            · skip
              have zc6 : (v 24).toInt ≤ l5_5.toInt := by rw [fa_le] at c6; exact c6
              have rg7 := fb_rng l5_5
              refine lv_iload hx hb dX11_layColours_112 (lv_at hl 1 rfl) ?_
              rcases b01 (x := l4_5) (by omega) (by omega) with h8 | h8
              · skip
                refine tI (y := 1) h8 ?_
                exact ret 1 (v3, f3, w3, g3) _ _ _ _ _ _ rfl ⟨hM_v3, hA_f3, hIv3, hCf3, hRf3, (show v3 0 = v 0 from hq0_v3), (show v3 1 = v 1 from hq1_v3), (show v3 2 = v 2 from hq2_v3), (show v3 3 = v 3 from hq3_v3), (show v3 4 = v 4 from hq4_v3), (show v3 5 = v 5 from hq5_v3), (show v3 8 = v 8 from hq8_v3), (show v3 9 = v 9 from hq9_v3), (show v3 10 = v 10 from hq10_v3), (show v3 13 = v 13 from hq13_v3), (show v3 14 = v 14 from hq14_v3), (show v3 15 = v 15 from hq15_v3), (show v3 17 = v 17 from hq17_v3), (show v3 18 = v 18 from hq18_v3), (show v3 24 = v 24 from hq24_v3), (show v3 25 = v 25 from hq25_v3), (show v3 35 = v 35 from hq35_v3), (show v3 36 = v 36 from hq36_v3), (show v3 38 = v 38 from hq38_v3), (show v3 39 = v 39 from hq39_v3), (Or.inl rfl)⟩ hP hD hS dX11_layColours_114 (Nat.le_refl _) (Nat.le_refl _)
              · skip
                refine tI (y := 0) h8 ?_
                exact ret 0 (v3, f3, w3, g3) _ _ _ _ _ _ rfl ⟨hM_v3, hA_f3, hIv3, hCf3, hRf3, (show v3 0 = v 0 from hq0_v3), (show v3 1 = v 1 from hq1_v3), (show v3 2 = v 2 from hq2_v3), (show v3 3 = v 3 from hq3_v3), (show v3 4 = v 4 from hq4_v3), (show v3 5 = v 5 from hq5_v3), (show v3 8 = v 8 from hq8_v3), (show v3 9 = v 9 from hq9_v3), (show v3 10 = v 10 from hq10_v3), (show v3 13 = v 13 from hq13_v3), (show v3 14 = v 14 from hq14_v3), (show v3 15 = v 15 from hq15_v3), (show v3 17 = v 17 from hq17_v3), (show v3 18 = v 18 from hq18_v3), (show v3 24 = v 24 from hq24_v3), (show v3 25 = v 25 from hq25_v3), (show v3 35 = v 35 from hq35_v3), (show v3 36 = v 36 from hq36_v3), (show v3 38 = v 38 from hq38_v3), (show v3 39 = v 39 from hq39_v3), (Or.inr rfl)⟩ hP hD hS dX11_layColours_114 (Nat.le_refl _) (Nat.le_refl _)
            · skip
              have zc6 : ¬ ((v 24).toInt ≤ l5_5.toInt) := by rw [fa_le] at c6; exact c6
              have rg9 := fb_rng l5_5
              refine lv_iconst (v := 0) hx hb dX11_layColours_50 (by decide) ?_
              refine lv_istore (lv' := [(6, .int 0), (5, .int l5_5), (4, .int l4_5), (3, .int l3_3), (0, .ref y0), (1, .int p1), (2, .int p2)]) hx hb dX11_layColours_51 hl (by decide) rfl (fun ls hl => ?_)
              have lp10 : ∀ (n10 : Nat) (l4_10 : Int32) (l6_10 : Int32), ((0 : Int) ≤ l4_10.toInt ∧ l4_10.toInt ≤ 1) → ((0 : Int) ≤ l6_10.toInt ∧ l6_10.toInt ≤ 2147483647) → (2147483647 - l6_10.toInt).toNat < n10 → ∀ (H : Heap) (locs : List Loc) (ls : Array Slot), va_P (dC, dI) vwCl (YW cy y0 r v3 f3 w3 g3) H → va_D A (YW cy y0 r v3 f3 w3 g3) → va_S A s.heap H locs → lv_has ls 7 [(6, .int l6_10), (5, .int l5_5), (4, .int l4_10), (3, .int l3_3), (0, .ref y0), (1, .int p1), (2, .int p2)] → W p l e { frames := 3, cells := 0, slots := 0, locals := 102 } s m ([.ref y0, .int p1, .int p2] : List Value).toArray below meth c H locs 0 0 Q (F0 m 53 ls []) := by
                intro n10
                induction n10 with
                | zero => intro l4_10 l6_10 hr4_10 hr6_10 hm; exact absurd hm (Nat.not_lt_zero _)
                | succ n10 ih10 =>
                  intro l4_10 l6_10 hr4_10 hr6_10 hm10 H locs ls hP hD hS hl
                  refine lv_iload hx hb dX11_layColours_53 (lv_at hl 0 rfl) ?_
                  refine lv_iload hx hb dX11_layColours_55 (lv_at hl 1 rfl) ?_
                  refine lv_icmp_ge (tgt := 106) hx hb dX11_layColours_57 (by decide) (fun c11 => ?_) (fun c11 => ?_)
                  · skip
                    have zc11 : l5_5.toInt ≤ l6_10.toInt := by rw [fa_le] at c11; exact c11
                    have rg12 := fb_rng l6_10
                    obtain ⟨t13, et13⟩ : ∃ y : Int32, y = l5_5 + 1 := ⟨_, rfl⟩
                    have zt13 : t13.toInt = l5_5.toInt + 1 := by rw [et13]; exact add_i rfl (by decide) (by omega) (by omega)
                    refine lv_iinc (v := t13) (lv' := [(5, .int t13), (6, .int l6_10), (4, .int l4_10), (3, .int l3_3), (0, .ref y0), (1, .int p1), (2, .int p2)]) hx hb dX11_layColours_106 hl (k := 1) rfl (by rw [et13]; rfl) (by decide) rfl (fun ls hl => ?_)
                    refine lv_goto (tgt := 41) hx hb dX11_layColours_109 (by decide) ?_
                    have rg14 := fb_rng l4_10
                    have rg15 := fb_rng t13
                    exact ih5 l4_10 t13 ⟨show (0 : Int) ≤ l4_10.toInt by omega, show l4_10.toInt ≤ (1 : Int) by omega⟩ ⟨show (0 : Int) ≤ t13.toInt by omega, show t13.toInt ≤ (2147483647 : Int) by omega⟩ (by show (2147483647 - t13.toInt).toNat < n5; omega) _ _ _ hP hD hS (lv_sub hl [0, 2, 3, 4, 5, 6] rfl)
                  · skip
                    have zc11 : ¬ (l5_5.toInt ≤ l6_10.toInt) := by rw [fa_le] at c11; exact c11
                    have rg16 := fb_rng l6_10
                    refine lv_iload hx hb dX11_layColours_60 (lv_at hl 2 rfl) ?_
                    refine lv_if_eq (tgt := 97) hx hb dX11_layColours_62 (by decide) (fun c17 => ?_) (fun c17 => ?_)
                    · skip
                      have zc17 : l4_10.toInt = 0 := by rw [fa_eq, show (0 : Int32).toInt = 0 from by decide] at c17; exact c17
                      refine lv_iconst (v := 0) hx hb dX11_layColours_97 (by decide) ?_
                      refine lv_istore (lv' := [(4, .int 0), (6, .int l6_10), (5, .int l5_5), (3, .int l3_3), (0, .ref y0), (1, .int p1), (2, .int p2)]) hx hb dX11_layColours_98 hl (by decide) rfl (fun ls hl => ?_)
                      obtain ⟨t18, et18⟩ : ∃ y : Int32, y = l6_10 + 1 := ⟨_, rfl⟩
                      have zt18 : t18.toInt = l6_10.toInt + 1 := by rw [et18]; exact add_i rfl (by decide) (by omega) (by omega)
                      refine lv_iinc (v := t18) (lv' := [(6, .int t18), (4, .int 0), (5, .int l5_5), (3, .int l3_3), (0, .ref y0), (1, .int p1), (2, .int p2)]) hx hb dX11_layColours_100 hl (k := 1) rfl (by rw [et18]; rfl) (by decide) rfl (fun ls hl => ?_)
                      refine lv_goto (tgt := 53) hx hb dX11_layColours_103 (by decide) ?_
                      have rg19 := fb_rng t18
                      exact ih10 0 t18 ⟨by decide, by decide⟩ ⟨show (0 : Int) ≤ t18.toInt by omega, show t18.toInt ≤ (2147483647 : Int) by omega⟩ (by show (2147483647 - t18.toInt).toNat < n10; omega) _ _ _ hP hD hS (lv_sub hl [0, 2, 1, 3, 4, 5, 6] rfl)
                    · skip
                      have zc17 : ¬ (l4_10.toInt = 0) := by rw [fa_eq, show (0 : Int32).toInt = 0 from by decide] at c17; exact c17
                      refine lv_aload_n hx hb dX11_layColours_65 rfl (lv_at hl 4 rfl) ?_
                      refine va_get (D := (dC, dI)) (ci := 11) (v := .ref (r 65)) (C := RX11) (T := TX11) (N := 79) hx hb hts inB_11 hown hE.1 hP 0 rfl rfl 65 (by decide) (hts _ k_1385) (fun _ h9 => h9) rfl dX11_layColours_66 ?_
                      refine lv_iload hx hb dX11_layColours_69 (lv_at hl 1 rfl) ?_
                      refine ldI hx hb hE hP 28 rfl (vp_in_iff.mpr ⟨by omega, by omega⟩) rfl rfl dX11_layColours_71 ?_
                      refine lv_topi (fun t20 et20 => ?_)
                      have zt20 : -1 ≤ t20.toInt ∧ t20.toInt ≤ 5 := by rw [et20]; exact hCf3.2.2.2.1 l5_5.toInt.toNat (show l5_5.toInt.toNat < 6 by omega)
                      refine lv_aload_n hx hb dX11_layColours_72 rfl (lv_at hl 4 rfl) ?_
                      refine va_get (D := (dC, dI)) (ci := 11) (v := .ref (r 65)) (C := RX11) (T := TX11) (N := 79) hx hb hts inB_11 hown hE.1 hP 0 rfl rfl 65 (by decide) (hts _ k_1385) (fun _ h9 => h9) rfl dX11_layColours_73 ?_
                      refine lv_iload hx hb dX11_layColours_76 (lv_at hl 0 rfl) ?_
                      refine ldI hx hb hE hP 28 rfl (vp_in_iff.mpr ⟨by omega, by omega⟩) rfl rfl dX11_layColours_78 ?_
                      refine lv_topi (fun t21 et21 => ?_)
                      have zt21 : -1 ≤ t21.toInt ∧ t21.toInt ≤ 5 := by rw [et21]; exact hCf3.2.2.2.1 l6_10.toInt.toNat (show l6_10.toInt.toNat < 6 by omega)
                      refine lv_icmp_ne (tgt := 93) hx hb dX11_layColours_79 (by decide) (fun c22 => ?_) (fun c22 => ?_)
                      · skip
                        have zc22 : ¬ (t20.toInt = t21.toInt) := by rw [fa_eq] at c22; exact c22
                        have rg23 := fb_rng t20
                        have rg24 := fb_rng t21
                        refine lv_iconst (v := 1) hx hb dX11_layColours_93 (by decide) ?_
                        refine lv_goto (tgt := 98) hx hb dX11_layColours_94 (by decide) ?_
                        refine lv_istore (lv' := [(4, .int 1), (6, .int l6_10), (5, .int l5_5), (3, .int l3_3), (0, .ref y0), (1, .int p1), (2, .int p2)]) hx hb dX11_layColours_98 hl (by decide) rfl (fun ls hl => ?_)
                        obtain ⟨t25, et25⟩ : ∃ y : Int32, y = l6_10 + 1 := ⟨_, rfl⟩
                        have zt25 : t25.toInt = l6_10.toInt + 1 := by rw [et25]; exact add_i rfl (by decide) (by omega) (by omega)
                        refine lv_iinc (v := t25) (lv' := [(6, .int t25), (4, .int 1), (5, .int l5_5), (3, .int l3_3), (0, .ref y0), (1, .int p1), (2, .int p2)]) hx hb dX11_layColours_100 hl (k := 1) rfl (by rw [et25]; rfl) (by decide) rfl (fun ls hl => ?_)
                        refine lv_goto (tgt := 53) hx hb dX11_layColours_103 (by decide) ?_
                        have rg26 := fb_rng t25
                        exact ih10 1 t25 ⟨by decide, by decide⟩ ⟨show (0 : Int) ≤ t25.toInt by omega, show t25.toInt ≤ (2147483647 : Int) by omega⟩ (by show (2147483647 - t25.toInt).toNat < n10; omega) _ _ _ hP hD hS (lv_sub hl [0, 2, 1, 3, 4, 5, 6] rfl)
                      · skip
                        have zc22 : t20.toInt = t21.toInt := by rw [fa_eq] at c22; exact c22
                        have rg27 := fb_rng t20
                        have rg28 := fb_rng t21
                        refine lv_aload_n hx hb dX11_layColours_82 rfl (lv_at hl 4 rfl) ?_
                        refine lv_iload hx hb dX11_layColours_83 (lv_at hl 1 rfl) ?_
                        refine lv_iload hx hb dX11_layColours_85 (lv_at hl 0 rfl) ?_
                        refine cbVi (n := 2) (rest := []) hx hb hml hown hts hE hP hD hS hA (sY_X11_areTaken_1 l dC dI cy y0 r l5_5 l6_10 v3 f3 w3 g3 hIv3 hCf3 hRf3 ⟨show (0 : Int) ≤ l5_5.toInt by omega, show l5_5.toInt ≤ (5 : Int) by omega⟩ ⟨show (0 : Int) ≤ l6_10.toInt by omega, show l6_10.toInt ≤ (5 : Int) by omega⟩) k_1940 k_1942 k_91 k_114 k_1943 (by decide +kernel) ⟨Nat.le_of_ble_eq_true rfl, Nat.le_of_ble_eq_true rfl⟩ 0 11 rfl rfl (rfl) hl.1 rfl (Nat.le_of_ble_eq_true rfl) dX11_layColours_87 (fun r29 u H locs hw hP hD hS => ?_)
                        rcases hw with ⟨g30⟩ | ⟨g30⟩
                        · skip
                          subst g30
                          refine lv_if_ne (tgt := 97) hx hb dX11_layColours_90 (by decide) (fun _ => ?_) (fun c0 => absurd c0 (by decide))
                          refine lv_iconst (v := 0) hx hb dX11_layColours_97 (by decide) ?_
                          refine lv_istore (lv' := [(4, .int 0), (6, .int l6_10), (5, .int l5_5), (3, .int l3_3), (0, .ref y0), (1, .int p1), (2, .int p2)]) hx hb dX11_layColours_98 hl (by decide) rfl (fun ls hl => ?_)
                          obtain ⟨t31, et31⟩ : ∃ y : Int32, y = l6_10 + 1 := ⟨_, rfl⟩
                          have zt31 : t31.toInt = l6_10.toInt + 1 := by rw [et31]; exact add_i rfl (by decide) (by omega) (by omega)
                          refine lv_iinc (v := t31) (lv' := [(6, .int t31), (4, .int 0), (5, .int l5_5), (3, .int l3_3), (0, .ref y0), (1, .int p1), (2, .int p2)]) hx hb dX11_layColours_100 hl (k := 1) rfl (by rw [et31]; rfl) (by decide) rfl (fun ls hl => ?_)
                          refine lv_goto (tgt := 53) hx hb dX11_layColours_103 (by decide) ?_
                          have rg32 := fb_rng t31
                          exact ih10 0 t31 ⟨by decide, by decide⟩ ⟨show (0 : Int) ≤ t31.toInt by omega, show t31.toInt ≤ (2147483647 : Int) by omega⟩ (by show (2147483647 - t31.toInt).toNat < n10; omega) _ _ _ hP hD hS (lv_sub hl [0, 2, 1, 3, 4, 5, 6] rfl)
                        · skip
                          subst g30
                          refine lv_if_ne (tgt := 97) hx hb dX11_layColours_90 (by decide) (fun c0 => absurd (by decide) c0) (fun _ => ?_)
                          refine lv_iconst (v := 1) hx hb dX11_layColours_93 (by decide) ?_
                          refine lv_goto (tgt := 98) hx hb dX11_layColours_94 (by decide) ?_
                          refine lv_istore (lv' := [(4, .int 1), (6, .int l6_10), (5, .int l5_5), (3, .int l3_3), (0, .ref y0), (1, .int p1), (2, .int p2)]) hx hb dX11_layColours_98 hl (by decide) rfl (fun ls hl => ?_)
                          obtain ⟨t33, et33⟩ : ∃ y : Int32, y = l6_10 + 1 := ⟨_, rfl⟩
                          have zt33 : t33.toInt = l6_10.toInt + 1 := by rw [et33]; exact add_i rfl (by decide) (by omega) (by omega)
                          refine lv_iinc (v := t33) (lv' := [(6, .int t33), (4, .int 1), (5, .int l5_5), (3, .int l3_3), (0, .ref y0), (1, .int p1), (2, .int p2)]) hx hb dX11_layColours_100 hl (k := 1) rfl (by rw [et33]; rfl) (by decide) rfl (fun ls hl => ?_)
                          refine lv_goto (tgt := 53) hx hb dX11_layColours_103 (by decide) ?_
                          have rg34 := fb_rng t33
                          exact ih10 1 t33 ⟨by decide, by decide⟩ ⟨show (0 : Int) ≤ t33.toInt by omega, show t33.toInt ≤ (2147483647 : Int) by omega⟩ (by show (2147483647 - t33.toInt).toNat < n10; omega) _ _ _ hP hD hS (lv_sub hl [0, 2, 1, 3, 4, 5, 6] rfl)
              have rg35 := fb_rng l4_5
              exact lp10 _ l4_5 0 ⟨show (0 : Int) ≤ l4_5.toInt by omega, show l4_5.toInt ≤ (1 : Int) by omega⟩ ⟨by decide, by decide⟩ (Nat.lt_succ_self _) _ _ _ hP hD hS (lv_sub hl [0, 1, 2, 3, 4, 5, 6] rfl)
        exact lp5 _ 1 0 ⟨by decide, by decide⟩ ⟨by decide, by decide⟩ (Nat.lt_succ_self _) _ _ _ hP hD hS (lv_sub hl [0, 1, 2, 3, 4, 5] rfl)
      · skip
        have zc4 : ¬ (l4_3.toInt < 0) := by rw [fa_lt, show (0 : Int32).toInt = 0 from by decide] at c4; exact c4
        refine lv_aload_n hx hb dX11_layColours_15 rfl (lv_at hl 2 rfl) ?_
        refine va_get (D := (dC, dI)) (ci := 11) (v := .ref (r 65)) (C := RX11) (T := TX11) (N := 79) hx hb hts inB_11 hown hE.1 hP 0 rfl rfl 65 (by decide) (hts _ k_1385) (fun _ h9 => h9) rfl dX11_layColours_16 ?_
        refine lv_iload hx hb dX11_layColours_19 (lv_at hl 0 rfl) ?_
        refine lv_iload_n hx hb dX11_layColours_21 rfl (lv_at hl 1 rfl) ?_
        refine lv_iload_n hx hb dX11_layColours_22 rfl (lv_at hl 3 rfl) ?_
        refine lv_irem hx hb dX11_layColours_23 (ne0 (by omega)) ?_
        refine lv_topi (fun t36 et36 => ?_)
        have zt36 : 0 ≤ t36.toInt ∧ t36.toInt < p1.toInt := by rw [et36]; exact rem_rng (zx := l3_3.toInt) (zy := p1.toInt) rfl rfl (by omega) (by omega)
        refine stI hx hb hE hP hD hS 28 rfl (vp_in_iff.mpr ⟨by omega, by omega⟩) rfl dX11_layColours_24 (fun H locs hP hD hS => ?_)
        obtain ⟨f37, ef37, hP, hD⟩ : ∃ fz9, fz9 = upd2 f3 27 (upd (f3 27) l4_3.toNatClampNeg t36) ∧ va_P (dC, dI) vwCl (YW cy y0 r v3 fz9 w3 g3) H ∧ va_D A (YW cy y0 r v3 fz9 w3 g3) := ⟨_, rfl, hP, hD⟩
        have hCf37 : YC f37 := by rw [ef37]; exact ⟨hCf3.1, hCf3.2.1, hCf3.2.2.1, (rng_st hCf3.2.2.2.1 (by show -1 ≤ t36.toInt ∧ t36.toInt ≤ 5; omega)), hCf3.2.2.2.2.1, hCf3.2.2.2.2.2⟩
        have hRf37 : progOK (f37 4) (f37 5) (v3 9).toInt.toNat := by rw [ef37]; exact hRf3
        have hA_f37 : KF [27] f37 f := by rw [ef37]; exact KF.up hA_f3 rfl
        refine lv_iload_n hx hb dX11_layColours_25 rfl (lv_at hl 1 rfl) ?_
        refine lv_iload_n hx hb dX11_layColours_26 rfl (lv_at hl 3 rfl) ?_
        refine lv_idiv hx hb dX11_layColours_27 (ne0 (by omega)) ?_
        refine lv_topi (fun t38 et38 => ?_)
        have zt38 : 0 ≤ t38.toInt ∧ t38.toInt ≤ l3_3.toInt := by rw [et38]; exact div_rng (zx := l3_3.toInt) (zy := p1.toInt) rfl rfl (by omega) (by omega)
        refine lv_istore_n (lv' := [(3, .int t38), (4, .int l4_3), (0, .ref y0), (1, .int p1), (2, .int p2)]) hx hb dX11_layColours_28 rfl hl (by decide) rfl (fun ls hl => ?_)
        obtain ⟨t39, et39⟩ : ∃ y : Int32, y = l4_3 + (-1) := ⟨_, rfl⟩
        have rg40 := fb_rng l4_3
        have zt39 : t39.toInt = l4_3.toInt + (-1) := by rw [et39]; exact add_i rfl (by decide) (by omega) (by omega)
        refine lv_iinc (v := t39) (lv' := [(4, .int t39), (3, .int t38), (0, .ref y0), (1, .int p1), (2, .int p2)]) hx hb dX11_layColours_29 hl (k := 1) rfl (by rw [et39]; rfl) (by decide) rfl (fun ls hl => ?_)
        refine lv_goto (tgt := 10) hx hb dX11_layColours_32 (by decide) ?_
        have rg41 := fb_rng t38
        have rg42 := fb_rng t39
        exact ih3 t38 t39 v3 f37 w3 g3 hIv3 hCf37 hRf37 hq0_v3 hq1_v3 hq2_v3 hq3_v3 hq4_v3 hq5_v3 hq8_v3 hq9_v3 hq10_v3 hq13_v3 hq14_v3 hq15_v3 hq17_v3 hq18_v3 hq24_v3 hq25_v3 hq35_v3 hq36_v3 hq38_v3 hq39_v3 ⟨show (0 : Int) ≤ t38.toInt by omega, show t38.toInt ≤ (2147483647 : Int) by omega⟩ ⟨show (-2147483648 : Int) ≤ t39.toInt by omega, show t39.toInt ≤ (5 : Int) by omega⟩ hM_v3 hA_f37 (by show (t39.toInt + 2147483648).toNat < n3; omega) _ _ _ hP hD hS (lv_sub hl [0, 1, 2, 3, 4] rfl)
  have rg43 := fb_rng p2
  have rg44 := fb_rng t1
  exact lp3 _ p2 t1 v f w g hIv hCf hRf rfl rfl rfl rfl rfl rfl rfl rfl rfl rfl rfl rfl rfl rfl rfl rfl rfl rfl rfl rfl ⟨show (0 : Int) ≤ p2.toInt by omega, show p2.toInt ≤ (2147483647 : Int) by omega⟩ ⟨show (-2147483648 : Int) ≤ t1.toInt by omega, show t1.toInt ≤ (5 : Int) by omega⟩ hM_v hA_f (Nat.lt_succ_self _) _ _ _ hP hD hS (lv_sub hl [0, 1, 2, 3, 4] rfl)
set_option maxHeartbeats 4000000 in
set_option maxRecDepth 100000 in
theorem sY_X11_buttons_1 (l : Launch) (dC : Nat → ClassId) (dI : Nat → Nat → Nat) (cy : Nat → ClassId) (y0 : Nat) (r : Nat → Nat)  (v : Nat → Int32) (f : Nat → Nat → Int32) (w : Int64) (g : Nat → Int64) (hIv : YI v) (hCf : YC f) (hRf : progOK (f 4) (f 5) (v 9).toInt.toNat)  : ctI l (dC, dI) cy yX11_buttons cX11_buttons 4 .int 4 128 0 0 ((Nat → Int32) × (Nat → Nat → Int32) × (Int64) × (Nat → Int64)) [.ref y0] (YW cy y0 r v f w g) (fun r u => KV [37] u.1 v ∧ KF [26, 27] u.2.1 f ∧ YI u.1 ∧ YC u.2.1 ∧ progOK (u.2.1 4) (u.2.1 5) (u.1 9).toInt.toNat ∧ u.1 0 = v 0 ∧ u.1 1 = v 1 ∧ u.1 2 = v 2 ∧ u.1 3 = v 3 ∧ u.1 4 = v 4 ∧ u.1 5 = v 5 ∧ u.1 8 = v 8 ∧ u.1 9 = v 9 ∧ u.1 10 = v 10 ∧ u.1 13 = v 13 ∧ u.1 14 = v 14 ∧ u.1 15 = v 15 ∧ u.1 17 = v 17 ∧ u.1 18 = v 18 ∧ u.1 24 = v 24 ∧ u.1 25 = v 25 ∧ u.1 35 = v 35 ∧ u.1 36 = v 36 ∧ u.1 38 = v 38 ∧ u.1 39 = v 39) (fun u => YW cy y0 r u.1 u.2.1 u.2.2.1 u.2.2.2) := by
  refine ctI_of (by decide) (Nat.le_of_ble_eq_true rfl) (fun p e s m below meth c A ls Q hx hb hml hts hown hE hP hD hA hl ret => ?_)
  have hUv : (v 35).toInt + (v 36).toInt ≤ 40 := hIv.2
  have hM_v : KV [37] v v := fun _ _ => rfl
  have hA_f : KF [26, 27] f f := fun _ _ => rfl
  have hown : s.vm.findClass RX11 = some m.cls := hown
  have hS : va_S A s.heap s.heap [] := va_S.rf
  have hl : lv_has ls 4 [(0, .ref y0)] := hl
  refine lv_aload_n hx hb dX11_buttons_0 rfl (lv_at hl 0 rfl) ?_
  refine lv_aload_n hx hb dX11_buttons_1 rfl (lv_at hl 0 rfl) ?_
  refine va_get (D := (dC, dI)) (ci := 11) (v := .int (v 24)) (C := RX11) (T := TX11) (N := 79) hx hb hts inB_11 hown hE.1 hP 0 rfl rfl 48 (by decide) (hts _ k_1368) (fun _ h9 => h9) rfl dX11_buttons_2 ?_
  have b24_v : 0 ≤ (v 24).toInt ∧ (v 24).toInt ≤ 6 := YIb.b hIv.1 24 (by decide)
  refine va_put (D := (dC, dI)) (ci := 11) (v := .int (v 24)) (ty := tyX11 67) (C := RX11) (T := TX11) (N := 79) hx hb hts inB_11 tyX11 tyX11_ok nmX11 hown hE.1 hP hD hS 0 rfl rfl 67 (by decide) (hts _ k_1387) (fun _ h9 => h9) rfl (tyX11_ok 67 (by decide)) rfl rfl (Nat.le_of_ble_eq_true rfl) dX11_buttons_5 (fun H locs hP hD hS => ?_)
  have hP : va_P (dC, dI) vwCl (YW cy y0 r (upd v 37 (v 24)) f w g) H := hP
  have hD : va_D A (YW cy y0 r (upd v 37 (v 24)) f w g) := hD
  refine lv_iconst (v := 1) hx hb dX11_buttons_8 (by decide) ?_
  refine lv_istore_n (lv' := [(1, .int 1), (0, .ref y0)]) hx hb dX11_buttons_9 rfl hl (by decide) rfl (fun ls hl => ?_)
  have lp1 : ∀ (n1 : Nat) (l1_1 : Int32) (v1 : Nat → Int32) (f1 : Nat → Nat → Int32) (w1 : Int64) (g1 : Nat → Int64), YI v1 → YC f1 → progOK (f1 4) (f1 5) (v1 9).toInt.toNat → v1 0 = (v 0) → v1 1 = (v 1) → v1 2 = (v 2) → v1 3 = (v 3) → v1 4 = (v 4) → v1 5 = (v 5) → v1 8 = (v 8) → v1 9 = (v 9) → v1 10 = (v 10) → v1 13 = (v 13) → v1 14 = (v 14) → v1 15 = (v 15) → v1 17 = (v 17) → v1 18 = (v 18) → v1 24 = (v 24) → v1 25 = (v 25) → v1 35 = (v 35) → v1 36 = (v 36) → v1 38 = (v 38) → v1 39 = (v 39) → ((1 : Int) ≤ l1_1.toInt ∧ l1_1.toInt ≤ 2147483647) → KV [37] v1 v → KF [26, 27] f1 f → (2147483647 - l1_1.toInt).toNat < n1 → ∀ (H : Heap) (locs : List Loc) (ls : Array Slot), va_P (dC, dI) vwCl (YW cy y0 r v1 f1 w1 g1) H → va_D A (YW cy y0 r v1 f1 w1 g1) → va_S A s.heap H locs → lv_has ls 4 [(1, .int l1_1), (0, .ref y0)] → W p l e { frames := 4, cells := 0, slots := 0, locals := 128 } s m ([.ref y0] : List Value).toArray below meth c H locs 0 0 Q (F0 m 10 ls []) := by
    intro n1
    induction n1 with
    | zero => intro l1_1 v1 f1 w1 g1 hIv1 hCf1 hRf1 hq0_v1 hq1_v1 hq2_v1 hq3_v1 hq4_v1 hq5_v1 hq8_v1 hq9_v1 hq10_v1 hq13_v1 hq14_v1 hq15_v1 hq17_v1 hq18_v1 hq24_v1 hq25_v1 hq35_v1 hq36_v1 hq38_v1 hq39_v1 hr1_1 hM_v1 hA_f1 hm; exact absurd hm (Nat.not_lt_zero _)
    | succ n1 ih1 =>
      intro l1_1 v1 f1 w1 g1 hIv1 hCf1 hRf1 hq0_v1 hq1_v1 hq2_v1 hq3_v1 hq4_v1 hq5_v1 hq8_v1 hq9_v1 hq10_v1 hq13_v1 hq14_v1 hq15_v1 hq17_v1 hq18_v1 hq24_v1 hq25_v1 hq35_v1 hq36_v1 hq38_v1 hq39_v1 hr1_1 hM_v1 hA_f1 hm1 H locs ls hP hD hS hl
      have hUv1 : (v1 35).toInt + (v1 36).toInt ≤ 40 := hIv1.2
      have zq9_v1 := congrArg Int32.toInt hq9_v1
      refine lv_iload_n hx hb dX11_buttons_10 rfl (lv_at hl 0 rfl) ?_
      refine lv_aload_n hx hb dX11_buttons_11 rfl (lv_at hl 1 rfl) ?_
      refine va_get (D := (dC, dI)) (ci := 11) (v := .int (v1 24)) (C := RX11) (T := TX11) (N := 79) hx hb hts inB_11 hown hE.1 hP 0 rfl rfl 48 (by decide) (hts _ k_1368) (fun _ h9 => h9) rfl dX11_buttons_12 ?_
      refine tI (y := (v 24)) hq24_v1 ?_
      have b24_v : 0 ≤ (v 24).toInt ∧ (v 24).toInt ≤ 6 := YIb.b hIv.1 24 (by decide)
      refine lv_icmp_gt (tgt := 86) hx hb dX11_buttons_15 (by decide) (fun c2 => ?_) (fun c2 => ?_)
      · skip
        have zc2 : (v 24).toInt < l1_1.toInt := by rw [fa_lt] at c2; exact c2
        have rg3 := fb_rng l1_1
        have rg4 := fb_rng (v 24)
        refine lv_iconst (v := 0) hx hb dX11_buttons_86 (by decide) ?_
        exact ret 0 (v1, f1, w1, g1) _ _ _ _ _ _ rfl ⟨hM_v1, hA_f1, hIv1, hCf1, hRf1, (show v1 0 = v 0 from hq0_v1), (show v1 1 = v 1 from hq1_v1), (show v1 2 = v 2 from hq2_v1), (show v1 3 = v 3 from hq3_v1), (show v1 4 = v 4 from hq4_v1), (show v1 5 = v 5 from hq5_v1), (show v1 8 = v 8 from hq8_v1), (show v1 9 = v 9 from hq9_v1), (show v1 10 = v 10 from hq10_v1), (show v1 13 = v 13 from hq13_v1), (show v1 14 = v 14 from hq14_v1), (show v1 15 = v 15 from hq15_v1), (show v1 17 = v 17 from hq17_v1), (show v1 18 = v 18 from hq18_v1), (show v1 24 = v 24 from hq24_v1), (show v1 25 = v 25 from hq25_v1), (show v1 35 = v 35 from hq35_v1), (show v1 36 = v 36 from hq36_v1), (show v1 38 = v 38 from hq38_v1), (show v1 39 = v 39 from hq39_v1)⟩ hP hD hS dX11_buttons_87 (Nat.le_refl _) (Nat.le_refl _)
      · skip
        have zc2 : ¬ ((v 24).toInt < l1_1.toInt) := by rw [fa_lt] at c2; exact c2
        have rg5 := fb_rng l1_1
        have rg6 := fb_rng (v 24)
        refine lv_iconst (v := 0) hx hb dX11_buttons_18 (by decide) ?_
        refine lv_istore_n (lv' := [(2, .int 0), (1, .int l1_1), (0, .ref y0)]) hx hb dX11_buttons_19 rfl hl (by decide) rfl (fun ls hl => ?_)
        have lp7 : ∀ (n7 : Nat) (l2_7 : Int32) (v7 : Nat → Int32) (f7 : Nat → Nat → Int32) (w7 : Int64) (g7 : Nat → Int64), YI v7 → YC f7 → progOK (f7 4) (f7 5) (v7 9).toInt.toNat → v7 0 = (v 0) → v7 1 = (v 1) → v7 2 = (v 2) → v7 3 = (v 3) → v7 4 = (v 4) → v7 5 = (v 5) → v7 8 = (v 8) → v7 9 = (v 9) → v7 10 = (v 10) → v7 13 = (v 13) → v7 14 = (v 14) → v7 15 = (v 15) → v7 17 = (v 17) → v7 18 = (v 18) → v7 24 = (v 24) → v7 25 = (v 25) → v7 35 = (v 35) → v7 36 = (v 36) → v7 38 = (v 38) → v7 39 = (v 39) → ((0 : Int) ≤ l2_7.toInt ∧ l2_7.toInt ≤ 2147483647) → KV [37] v7 v → KF [26, 27] f7 f → (2147483647 - l2_7.toInt).toNat < n7 → ∀ (H : Heap) (locs : List Loc) (ls : Array Slot), va_P (dC, dI) vwCl (YW cy y0 r v7 f7 w7 g7) H → va_D A (YW cy y0 r v7 f7 w7 g7) → va_S A s.heap H locs → lv_has ls 4 [(2, .int l2_7), (1, .int l1_1), (0, .ref y0)] → W p l e { frames := 4, cells := 0, slots := 0, locals := 128 } s m ([.ref y0] : List Value).toArray below meth c H locs 0 0 Q (F0 m 20 ls []) := by
          intro n7
          induction n7 with
          | zero => intro l2_7 v7 f7 w7 g7 hIv7 hCf7 hRf7 hq0_v7 hq1_v7 hq2_v7 hq3_v7 hq4_v7 hq5_v7 hq8_v7 hq9_v7 hq10_v7 hq13_v7 hq14_v7 hq15_v7 hq17_v7 hq18_v7 hq24_v7 hq25_v7 hq35_v7 hq36_v7 hq38_v7 hq39_v7 hr2_7 hM_v7 hA_f7 hm; exact absurd hm (Nat.not_lt_zero _)
          | succ n7 ih7 =>
            intro l2_7 v7 f7 w7 g7 hIv7 hCf7 hRf7 hq0_v7 hq1_v7 hq2_v7 hq3_v7 hq4_v7 hq5_v7 hq8_v7 hq9_v7 hq10_v7 hq13_v7 hq14_v7 hq15_v7 hq17_v7 hq18_v7 hq24_v7 hq25_v7 hq35_v7 hq36_v7 hq38_v7 hq39_v7 hr2_7 hM_v7 hA_f7 hm7 H locs ls hP hD hS hl
            have hUv7 : (v7 35).toInt + (v7 36).toInt ≤ 40 := hIv7.2
            have zq9_v7 := congrArg Int32.toInt hq9_v7
            refine lv_iload_n hx hb dX11_buttons_20 rfl (lv_at hl 0 rfl) ?_
            refine lv_iload_n hx hb dX11_buttons_21 rfl (lv_at hl 1 rfl) ?_
            refine lv_aload_n hx hb dX11_buttons_22 rfl (lv_at hl 2 rfl) ?_
            refine va_get (D := (dC, dI)) (ci := 11) (v := .int (v7 24)) (C := RX11) (T := TX11) (N := 79) hx hb hts inB_11 hown hE.1 hP 0 rfl rfl 48 (by decide) (hts _ k_1368) (fun _ h9 => h9) rfl dX11_buttons_23 ?_
            refine tI (y := (v 24)) hq24_v7 ?_
            have b24_v : 0 ≤ (v 24).toInt ∧ (v 24).toInt ≤ 6 := YIb.b hIv.1 24 (by decide)
            refine cbSi (n := 2) (rest := [.int l2_7]) hx hb hml hown hts hE hP hD hS hA (sY_X11_power_1 0 l dC dI cy y0 r l1_1 (v 24) v7 f7 w7 g7 hIv7 hCf7 hRf7 ) k_1877 k_1878 k_114 k_1879 (by decide +kernel) ⟨Nat.le_of_ble_eq_true rfl, Nat.le_of_ble_eq_true rfl⟩ (rfl) hl.1 rfl (Nat.le_of_ble_eq_true rfl) dX11_buttons_26 (fun r8 u H locs hw hP hD hS => ?_)
            have hG9 := hw
            refine lv_icmp_ge (tgt := 80) hx hb dX11_buttons_29 (by decide) (fun c10 => ?_) (fun c10 => ?_)
            · skip
              have zc10 : r8.toInt ≤ l2_7.toInt := by rw [fa_le] at c10; exact c10
              have rg11 := fb_rng l2_7
              have rg12 := fb_rng r8
              obtain ⟨t13, et13⟩ : ∃ y : Int32, y = l1_1 + 1 := ⟨_, rfl⟩
              have zt13 : t13.toInt = l1_1.toInt + 1 := by rw [et13]; exact add_i rfl (by decide) (by omega) (by omega)
              refine lv_iinc (v := t13) (lv' := [(1, .int t13), (2, .int l2_7), (0, .ref y0)]) hx hb dX11_buttons_80 hl (k := 1) rfl (by rw [et13]; rfl) (by decide) rfl (fun ls hl => ?_)
              refine lv_goto (tgt := 10) hx hb dX11_buttons_83 (by decide) ?_
              have rg14 := fb_rng t13
              exact ih1 t13 v7 f7 w7 g7 hIv7 hCf7 hRf7 hq0_v7 hq1_v7 hq2_v7 hq3_v7 hq4_v7 hq5_v7 hq8_v7 hq9_v7 hq10_v7 hq13_v7 hq14_v7 hq15_v7 hq17_v7 hq18_v7 hq24_v7 hq25_v7 hq35_v7 hq36_v7 hq38_v7 hq39_v7 ⟨show (1 : Int) ≤ t13.toInt by omega, show t13.toInt ≤ (2147483647 : Int) by omega⟩ hM_v7 hA_f7 (by show (2147483647 - t13.toInt).toNat < n1; omega) _ _ _ hP hD hS (lv_sub hl [0, 2] rfl)
            · skip
              have zc10 : ¬ (r8.toInt ≤ l2_7.toInt) := by rw [fa_le] at c10; exact c10
              have rg15 := fb_rng l2_7
              have rg16 := fb_rng r8
              refine lv_aload_n hx hb dX11_buttons_32 rfl (lv_at hl 2 rfl) ?_
              refine lv_iload_n hx hb dX11_buttons_33 rfl (lv_at hl 1 rfl) ?_
              refine lv_iload_n hx hb dX11_buttons_34 rfl (lv_at hl 0 rfl) ?_
              refine cbVi (n := 2) (rest := []) hx hb hml hown hts hE hP hD hS hA (sY_X11_layColours_1 l dC dI cy y0 r l1_1 l2_7 v7 f7 w7 g7 hIv7 hCf7 hRf7 ⟨show (1 : Int) ≤ l1_1.toInt by omega, show l1_1.toInt ≤ (6 : Int) by omega⟩ ⟨show (0 : Int) ≤ l2_7.toInt by omega, show l2_7.toInt ≤ (2147483647 : Int) by omega⟩) k_1936 k_1938 k_90 k_114 k_1939 (by decide +kernel) ⟨Nat.le_of_ble_eq_true rfl, Nat.le_of_ble_eq_true rfl⟩ 0 11 rfl rfl (rfl) hl.1 rfl (Nat.le_of_ble_eq_true rfl) dX11_buttons_35 (fun r17 u H locs hw hP hD hS => ?_)
              obtain ⟨v18, f19, w20, g21⟩ := u
              obtain ⟨kV_v18, kF_f19, hIv18, hCf19, hRf19, hk0_v18, hk1_v18, hk2_v18, hk3_v18, hk4_v18, hk5_v18, hk8_v18, hk9_v18, hk10_v18, hk13_v18, hk14_v18, hk15_v18, hk17_v18, hk18_v18, hk24_v18, hk25_v18, hk35_v18, hk36_v18, hk38_v18, hk39_v18, hw⟩ := hw
              have hM_v18 : KV [37] v18 v := KV.tr kV_v18 hM_v7 rfl
              have hA_f19 : KF [26, 27] f19 f := KF.tr kF_f19 hA_f7 rfl
              have hP : va_P (dC, dI) vwCl (YW cy y0 r v18 f19 w20 g21) H := hP
              have hD : va_D A (YW cy y0 r v18 f19 w20 g21) := hD
              have hUv18 : (v18 35).toInt + (v18 36).toInt ≤ 40 := hIv18.2
              have hq0_v18 : v18 0 = (v 0) := hk0_v18.trans hq0_v7
              have hq1_v18 : v18 1 = (v 1) := hk1_v18.trans hq1_v7
              have hq2_v18 : v18 2 = (v 2) := hk2_v18.trans hq2_v7
              have hq3_v18 : v18 3 = (v 3) := hk3_v18.trans hq3_v7
              have hq4_v18 : v18 4 = (v 4) := hk4_v18.trans hq4_v7
              have hq5_v18 : v18 5 = (v 5) := hk5_v18.trans hq5_v7
              have hq8_v18 : v18 8 = (v 8) := hk8_v18.trans hq8_v7
              have hq9_v18 : v18 9 = (v 9) := hk9_v18.trans hq9_v7
              have zq9_v18 := congrArg Int32.toInt hq9_v18
              have hq10_v18 : v18 10 = (v 10) := hk10_v18.trans hq10_v7
              have hq13_v18 : v18 13 = (v 13) := hk13_v18.trans hq13_v7
              have hq14_v18 : v18 14 = (v 14) := hk14_v18.trans hq14_v7
              have hq15_v18 : v18 15 = (v 15) := hk15_v18.trans hq15_v7
              have hq17_v18 : v18 17 = (v 17) := hk17_v18.trans hq17_v7
              have hq18_v18 : v18 18 = (v 18) := hk18_v18.trans hq18_v7
              have hq24_v18 : v18 24 = (v 24) := hk24_v18.trans hq24_v7
              have hq25_v18 : v18 25 = (v 25) := hk25_v18.trans hq25_v7
              have hq35_v18 : v18 35 = (v 35) := hk35_v18.trans hq35_v7
              have hq36_v18 : v18 36 = (v 36) := hk36_v18.trans hq36_v7
              have hq38_v18 : v18 38 = (v 38) := hk38_v18.trans hq38_v7
              have hq39_v18 : v18 39 = (v 39) := hk39_v18.trans hq39_v7
              rcases hw with ⟨g22⟩ | ⟨g22⟩
              · skip
                subst g22
                refine lv_if_ne (tgt := 44) hx hb dX11_buttons_38 (by decide) (fun _ => ?_) (fun c0 => absurd c0 (by decide))
                refine lv_iconst (v := 0) hx hb dX11_buttons_44 (by decide) ?_
                refine lv_istore_n (lv' := [(3, .int 0), (2, .int l2_7), (1, .int l1_1), (0, .ref y0)]) hx hb dX11_buttons_45 rfl hl (by decide) rfl (fun ls hl => ?_)
                have lp23 : ∀ (n23 : Nat) (l3_23 : Int32) (v23 : Nat → Int32) (f23 : Nat → Nat → Int32) (w23 : Int64) (g23 : Nat → Int64), YI v23 → YC f23 → progOK (f23 4) (f23 5) (v23 9).toInt.toNat → v23 0 = (v 0) → v23 1 = (v 1) → v23 2 = (v 2) → v23 3 = (v 3) → v23 4 = (v 4) → v23 5 = (v 5) → v23 8 = (v 8) → v23 9 = (v 9) → v23 10 = (v 10) → v23 13 = (v 13) → v23 14 = (v 14) → v23 15 = (v 15) → v23 17 = (v 17) → v23 18 = (v 18) → v23 24 = (v 24) → v23 25 = (v 25) → v23 35 = (v 35) → v23 36 = (v 36) → v23 38 = (v 38) → v23 39 = (v 39) → ((0 : Int) ≤ l3_23.toInt ∧ l3_23.toInt ≤ 2147483647) → KV [37] v23 v → KF [26, 27] f23 f → (2147483647 - l3_23.toInt).toNat < n23 → ∀ (H : Heap) (locs : List Loc) (ls : Array Slot), va_P (dC, dI) vwCl (YW cy y0 r v23 f23 w23 g23) H → va_D A (YW cy y0 r v23 f23 w23 g23) → va_S A s.heap H locs → lv_has ls 4 [(3, .int l3_23), (2, .int l2_7), (1, .int l1_1), (0, .ref y0)] → W p l e { frames := 4, cells := 0, slots := 0, locals := 128 } s m ([.ref y0] : List Value).toArray below meth c H locs 0 0 Q (F0 m 46 ls []) := by
                  intro n23
                  induction n23 with
                  | zero => intro l3_23 v23 f23 w23 g23 hIv23 hCf23 hRf23 hq0_v23 hq1_v23 hq2_v23 hq3_v23 hq4_v23 hq5_v23 hq8_v23 hq9_v23 hq10_v23 hq13_v23 hq14_v23 hq15_v23 hq17_v23 hq18_v23 hq24_v23 hq25_v23 hq35_v23 hq36_v23 hq38_v23 hq39_v23 hr3_23 hM_v23 hA_f23 hm; exact absurd hm (Nat.not_lt_zero _)
                  | succ n23 ih23 =>
                    intro l3_23 v23 f23 w23 g23 hIv23 hCf23 hRf23 hq0_v23 hq1_v23 hq2_v23 hq3_v23 hq4_v23 hq5_v23 hq8_v23 hq9_v23 hq10_v23 hq13_v23 hq14_v23 hq15_v23 hq17_v23 hq18_v23 hq24_v23 hq25_v23 hq35_v23 hq36_v23 hq38_v23 hq39_v23 hr3_23 hM_v23 hA_f23 hm23 H locs ls hP hD hS hl
                    have hUv23 : (v23 35).toInt + (v23 36).toInt ≤ 40 := hIv23.2
                    have zq9_v23 := congrArg Int32.toInt hq9_v23
                    refine lv_iload_n hx hb dX11_buttons_46 rfl (lv_at hl 0 rfl) ?_
                    refine lv_aload_n hx hb dX11_buttons_47 rfl (lv_at hl 3 rfl) ?_
                    refine va_get (D := (dC, dI)) (ci := 11) (v := .int (v23 24)) (C := RX11) (T := TX11) (N := 79) hx hb hts inB_11 hown hE.1 hP 0 rfl rfl 48 (by decide) (hts _ k_1368) (fun _ h9 => h9) rfl dX11_buttons_48 ?_
                    refine tI (y := (v 24)) hq24_v23 ?_
                    have b24_v : 0 ≤ (v 24).toInt ∧ (v 24).toInt ≤ 6 := YIb.b hIv.1 24 (by decide)
                    refine lv_icmp_ge (tgt := 72) hx hb dX11_buttons_51 (by decide) (fun c24 => ?_) (fun c24 => ?_)
                    · skip
                      have zc24 : (v 24).toInt ≤ l3_23.toInt := by rw [fa_le] at c24; exact c24
                      have rg25 := fb_rng l3_23
                      refine lv_iload_n hx hb dX11_buttons_72 rfl (lv_at hl 2 rfl) ?_
                      exact ret l1_1 (v23, f23, w23, g23) _ _ _ _ _ _ rfl ⟨hM_v23, hA_f23, hIv23, hCf23, hRf23, hq0_v23, hq1_v23, hq2_v23, hq3_v23, hq4_v23, hq5_v23, hq8_v23, hq9_v23, hq10_v23, hq13_v23, hq14_v23, hq15_v23, hq17_v23, hq18_v23, hq24_v23, hq25_v23, hq35_v23, hq36_v23, hq38_v23, hq39_v23⟩ hP hD hS dX11_buttons_73 (Nat.le_refl _) (Nat.le_refl _)
                    · skip
                      have zc24 : ¬ ((v 24).toInt ≤ l3_23.toInt) := by rw [fa_le] at c24; exact c24
                      have rg26 := fb_rng l3_23
                      refine lv_aload_n hx hb dX11_buttons_54 rfl (lv_at hl 3 rfl) ?_
                      refine va_get (D := (dC, dI)) (ci := 11) (v := .ref (r 64)) (C := RX11) (T := TX11) (N := 79) hx hb hts inB_11 hown hE.1 hP 0 rfl rfl 64 (by decide) (hts _ k_1384) (fun _ h9 => h9) rfl dX11_buttons_55 ?_
                      refine lv_iload_n hx hb dX11_buttons_58 rfl (lv_at hl 0 rfl) ?_
                      refine lv_aload_n hx hb dX11_buttons_59 rfl (lv_at hl 3 rfl) ?_
                      refine va_get (D := (dC, dI)) (ci := 11) (v := .ref (r 65)) (C := RX11) (T := TX11) (N := 79) hx hb hts inB_11 hown hE.1 hP 0 rfl rfl 65 (by decide) (hts _ k_1385) (fun _ h9 => h9) rfl dX11_buttons_60 ?_
                      refine lv_iload_n hx hb dX11_buttons_63 rfl (lv_at hl 0 rfl) ?_
                      refine ldI hx hb hE hP 28 rfl (vp_in_iff.mpr ⟨by omega, by omega⟩) rfl rfl dX11_buttons_64 ?_
                      refine lv_topi (fun t27 et27 => ?_)
                      have zt27 : -1 ≤ t27.toInt ∧ t27.toInt ≤ 5 := by rw [et27]; exact hCf23.2.2.2.1 l3_23.toInt.toNat (show l3_23.toInt.toNat < 6 by omega)
                      refine stI hx hb hE hP hD hS 27 rfl (vp_in_iff.mpr ⟨by omega, by omega⟩) rfl dX11_buttons_65 (fun H locs hP hD hS => ?_)
                      obtain ⟨f28, ef28, hP, hD⟩ : ∃ fz9, fz9 = upd2 f23 26 (upd (f23 26) l3_23.toNatClampNeg t27) ∧ va_P (dC, dI) vwCl (YW cy y0 r v23 fz9 w23 g23) H ∧ va_D A (YW cy y0 r v23 fz9 w23 g23) := ⟨_, rfl, hP, hD⟩
                      have hCf28 : YC f28 := by rw [ef28]; exact hCf23
                      have hRf28 : progOK (f28 4) (f28 5) (v23 9).toInt.toNat := by rw [ef28]; exact hRf23
                      have hA_f28 : KF [26, 27] f28 f := by rw [ef28]; exact KF.up hA_f23 rfl
                      obtain ⟨t29, et29⟩ : ∃ y : Int32, y = l3_23 + 1 := ⟨_, rfl⟩
                      have zt29 : t29.toInt = l3_23.toInt + 1 := by rw [et29]; exact add_i rfl (by decide) (by omega) (by omega)
                      refine lv_iinc (v := t29) (lv' := [(3, .int t29), (2, .int l2_7), (1, .int l1_1), (0, .ref y0)]) hx hb dX11_buttons_66 hl (k := 0) rfl (by rw [et29]; rfl) (by decide) rfl (fun ls hl => ?_)
                      refine lv_goto (tgt := 46) hx hb dX11_buttons_69 (by decide) ?_
                      have rg30 := fb_rng t29
                      exact ih23 t29 v23 f28 w23 g23 hIv23 hCf28 hRf28 hq0_v23 hq1_v23 hq2_v23 hq3_v23 hq4_v23 hq5_v23 hq8_v23 hq9_v23 hq10_v23 hq13_v23 hq14_v23 hq15_v23 hq17_v23 hq18_v23 hq24_v23 hq25_v23 hq35_v23 hq36_v23 hq38_v23 hq39_v23 ⟨show (0 : Int) ≤ t29.toInt by omega, show t29.toInt ≤ (2147483647 : Int) by omega⟩ hM_v23 hA_f28 (by show (2147483647 - t29.toInt).toNat < n23; omega) _ _ _ hP hD hS (lv_sub hl [0, 1, 2, 3] rfl)
                exact lp23 _ 0 v18 f19 w20 g21 hIv18 hCf19 hRf19 hq0_v18 hq1_v18 hq2_v18 hq3_v18 hq4_v18 hq5_v18 hq8_v18 hq9_v18 hq10_v18 hq13_v18 hq14_v18 hq15_v18 hq17_v18 hq18_v18 hq24_v18 hq25_v18 hq35_v18 hq36_v18 hq38_v18 hq39_v18 ⟨by decide, by decide⟩ hM_v18 hA_f19 (Nat.lt_succ_self _) _ _ _ hP hD hS (lv_sub hl [0, 1, 2, 3] rfl)
              · skip
                subst g22
                refine lv_if_ne (tgt := 44) hx hb dX11_buttons_38 (by decide) (fun c0 => absurd (by decide) c0) (fun _ => ?_)
                refine lv_goto (tgt := 74) hx hb dX11_buttons_41 (by decide) ?_
                obtain ⟨t31, et31⟩ : ∃ y : Int32, y = l2_7 + 1 := ⟨_, rfl⟩
                have zt31 : t31.toInt = l2_7.toInt + 1 := by rw [et31]; exact add_i rfl (by decide) (by omega) (by omega)
                refine lv_iinc (v := t31) (lv' := [(2, .int t31), (1, .int l1_1), (0, .ref y0)]) hx hb dX11_buttons_74 hl (k := 0) rfl (by rw [et31]; rfl) (by decide) rfl (fun ls hl => ?_)
                refine lv_goto (tgt := 20) hx hb dX11_buttons_77 (by decide) ?_
                have rg32 := fb_rng t31
                exact ih7 t31 v18 f19 w20 g21 hIv18 hCf19 hRf19 hq0_v18 hq1_v18 hq2_v18 hq3_v18 hq4_v18 hq5_v18 hq8_v18 hq9_v18 hq10_v18 hq13_v18 hq14_v18 hq15_v18 hq17_v18 hq18_v18 hq24_v18 hq25_v18 hq35_v18 hq36_v18 hq38_v18 hq39_v18 ⟨show (0 : Int) ≤ t31.toInt by omega, show t31.toInt ≤ (2147483647 : Int) by omega⟩ hM_v18 hA_f19 (by show (2147483647 - t31.toInt).toNat < n7; omega) _ _ _ hP hD hS (lv_sub hl [0, 1, 2] rfl)
        exact lp7 _ 0 v1 f1 w1 g1 hIv1 hCf1 hRf1 hq0_v1 hq1_v1 hq2_v1 hq3_v1 hq4_v1 hq5_v1 hq8_v1 hq9_v1 hq10_v1 hq13_v1 hq14_v1 hq15_v1 hq17_v1 hq18_v1 hq24_v1 hq25_v1 hq35_v1 hq36_v1 hq38_v1 hq39_v1 ⟨by decide, by decide⟩ hM_v1 hA_f1 (Nat.lt_succ_self _) _ _ _ hP hD hS (lv_sub hl [0, 1, 2] rfl)
  exact lp1 _ 1 (upd v 37 (v 24)) f w g ⟨(YIb.upd (j := 37) (x := (v 24)) hIv.1 (show (0 : Int) ≤ (v 24).toInt by omega) (show (v 24).toInt ≤ (6 : Int) by omega)), hIv.2⟩ hCf hRf rfl rfl rfl rfl rfl rfl rfl rfl rfl rfl rfl rfl rfl rfl rfl rfl rfl rfl rfl rfl ⟨by decide, by decide⟩ (KV.up (j := 37) (x := (v 24)) hM_v rfl) hA_f (Nat.lt_succ_self _) _ _ _ hP hD hS (lv_sub hl [0, 1] rfl)
