set_option maxHeartbeats 4000000 in
set_option maxRecDepth 100000 in
theorem sY_X11_leftBy_1 (l : Launch) (dC : Nat → ClassId) (dI : Nat → Nat → Nat) (cy : Nat → ClassId) (y0 : Nat) (r : Nat → Nat) (p1 : Int32) (p2 : Int32) (v : Nat → Int32) (f : Nat → Nat → Int32) (w : Int64) (g : Nat → Int64) (hIv : YI v) (hCf : YC f) (hRf : progOK (f 4) (f 5) (v 9).toInt.toNat) (hp1 : (0 : Int) ≤ p1.toInt ∧ p1.toInt ≤ 20) : ctI l (dC, dI) cy yX11_leftBy cX11_leftBy 5 .int 2 81 0 0 Unit [.ref y0, .int p1, .int p2] (YW cy y0 r v f w g) (fun r u => True) (fun u => YW cy y0 r v f w g) := by
  refine ctI_of (by decide) (Nat.le_of_ble_eq_true rfl) (fun p e s m below meth c A ls Q hx hb hml hts hown hE hP hD hA hl ret => ?_)
  have hUv : (v 35).toInt + (v 36).toInt ≤ 40 := hIv.2
  have hown : s.vm.findClass RX11 = some m.cls := hown
  have hS : va_S A s.heap s.heap [] := va_S.rf
  have hl : lv_has ls 5 [(0, .ref y0), (1, .int p1), (2, .int p2)] := hl
  refine lv_iconst (v := 0) hx hb dX11_leftBy_0 (by decide) ?_
  refine lv_istore_n (lv' := [(3, .int 0), (0, .ref y0), (1, .int p1), (2, .int p2)]) hx hb dX11_leftBy_1 rfl hl (by decide) rfl (fun ls hl => ?_)
  refine lv_iconst (v := 0) hx hb dX11_leftBy_2 (by decide) ?_
  refine lv_istore (lv' := [(4, .int 0), (3, .int 0), (0, .ref y0), (1, .int p1), (2, .int p2)]) hx hb dX11_leftBy_3 hl (by decide) rfl (fun ls hl => ?_)
  have lp1 : ∀ (n1 : Nat) (l3_1 : Int32) (l4_1 : Int32), ((0 : Int) ≤ l4_1.toInt ∧ l4_1.toInt ≤ 2147483647) → (2147483647 - l4_1.toInt).toNat < n1 → ∀ (H : Heap) (locs : List Loc) (ls : Array Slot), va_P (dC, dI) vwCl (YW cy y0 r v f w g) H → va_D A (YW cy y0 r v f w g) → va_S A s.heap H locs → lv_has ls 5 [(4, .int l4_1), (3, .int l3_1), (0, .ref y0), (1, .int p1), (2, .int p2)] → W p l e { frames := 2, cells := 0, slots := 0, locals := 81 } s m ([.ref y0, .int p1, .int p2] : List Value).toArray below meth c H locs 0 0 Q (F0 m 5 ls []) := by
    intro n1
    induction n1 with
    | zero => intro l3_1 l4_1 hr4_1 hm; exact absurd hm (Nat.not_lt_zero _)
    | succ n1 ih1 =>
      intro l3_1 l4_1 hr4_1 hm1 H locs ls hP hD hS hl
      refine lv_iload hx hb dX11_leftBy_5 (lv_at hl 0 rfl) ?_
      refine lv_bipush (v := 30) hx hb dX11_leftBy_7 (by decide) ?_
      refine lv_icmp_gt (tgt := 54) hx hb dX11_leftBy_9 (by decide) (fun c2 => ?_) (fun c2 => ?_)
      · skip
        have zc2 : 30 < l4_1.toInt := by rw [fa_lt, show (30 : Int32).toInt = 30 from by decide] at c2; exact c2
        refine lv_iload_n hx hb dX11_leftBy_54 rfl (lv_at hl 1 rfl) ?_
        refine lv_iload_n hx hb dX11_leftBy_55 rfl (lv_at hl 4 rfl) ?_
        refine lv_iload_n hx hb dX11_leftBy_56 rfl (lv_at hl 1 rfl) ?_
        refine lv_isub hx hb dX11_leftBy_57 ?_
        refine lv_topi (fun t3 et3 => ?_)
        refine cbSi (n := 2) (rest := []) hx hb hml hown hts hE hP hD hS hA (sY_X11_greater_1 l dC dI cy y0 r l3_1 t3 v f w g hIv hCf hRf ) k_1802 k_1803 k_114 k_1804 (by decide +kernel) ⟨Nat.le_of_ble_eq_true rfl, Nat.le_of_ble_eq_true rfl⟩ (rfl) hl.1 rfl (Nat.le_of_ble_eq_true rfl) dX11_leftBy_58 (fun r4 u H locs hw hP hD hS => ?_)
        exact ret r4 () _ _ _ _ _ _ rfl trivial hP hD hS dX11_leftBy_61 (Nat.le_refl _) (Nat.le_refl _)
      · skip
        have zc2 : ¬ (30 < l4_1.toInt) := by rw [fa_lt, show (30 : Int32).toInt = 30 from by decide] at c2; exact c2
        refine lv_iload_n hx hb dX11_leftBy_12 rfl (lv_at hl 1 rfl) ?_
        refine lv_aload_n hx hb dX11_leftBy_13 rfl (lv_at hl 2 rfl) ?_
        refine va_get (D := (dC, dI)) (ci := 11) (v := .ref (r 76)) (C := RX11) (T := TX11) (N := 79) hx hb hts inB_11 hown hE.1 hP 0 rfl rfl 76 (by decide) (hts _ k_1396) (fun _ h9 => h9) rfl dX11_leftBy_14 ?_
        refine lv_iload hx hb dX11_leftBy_17 (lv_at hl 0 rfl) ?_
        refine ldZ hx hb hE hP 36 rfl (vp_in_iff.mpr ⟨by omega, by omega⟩) rfl rfl dX11_leftBy_19 ?_
        refine lv_topi (fun t5 et5 => ?_)
        refine lv_if_eq (tgt := 42) hx hb dX11_leftBy_20 (by decide) (fun c6 => ?_) (fun c6 => ?_)
        · skip
          have zc6 : t5.toInt = 0 := by rw [fa_eq, show (0 : Int32).toInt = 0 from by decide] at c6; exact c6
          refine lv_iconst (v := 0) hx hb dX11_leftBy_42 (by decide) ?_
          have lt7 : (0 : Int32).toInt = 0 := by decide
          refine cbSi (n := 1) (rest := [.int l3_1]) hx hb hml hown hts hE hP hD hS hA (sY_X11_truth_1 l dC dI cy y0 r 0 v f w g hIv hCf hRf ) k_1761 k_1762 k_114 k_1763 (by decide +kernel) ⟨Nat.le_of_ble_eq_true rfl, Nat.le_of_ble_eq_true rfl⟩ (rfl) hl.1 rfl (Nat.le_of_ble_eq_true rfl) dX11_leftBy_43 (fun r8 u H locs hw hP hD hS => ?_)
          refine lv_iadd hx hb dX11_leftBy_46 ?_
          refine lv_topi (fun t9 et9 => ?_)
          refine lv_istore_n (lv' := [(3, .int t9), (4, .int l4_1), (0, .ref y0), (1, .int p1), (2, .int p2)]) hx hb dX11_leftBy_47 rfl hl (by decide) rfl (fun ls hl => ?_)
          obtain ⟨t10, et10⟩ : ∃ y : Int32, y = l4_1 + 1 := ⟨_, rfl⟩
          have rg11 := fb_rng l4_1
          have zt10 : t10.toInt = l4_1.toInt + 1 := by rw [et10]; exact add_i rfl (by decide) (by omega) (by omega)
          refine lv_iinc (v := t10) (lv' := [(4, .int t10), (3, .int t9), (0, .ref y0), (1, .int p1), (2, .int p2)]) hx hb dX11_leftBy_48 hl (k := 1) rfl (by rw [et10]; rfl) (by decide) rfl (fun ls hl => ?_)
          refine lv_goto (tgt := 5) hx hb dX11_leftBy_51 (by decide) ?_
          have rg12 := fb_rng t10
          exact ih1 t9 t10 ⟨show (0 : Int) ≤ t10.toInt by omega, show t10.toInt ≤ (2147483647 : Int) by omega⟩ (by show (2147483647 - t10.toInt).toNat < n1; omega) _ _ _ hP hD hS (lv_sub hl [0, 1, 2, 3, 4] rfl)
        · skip
          have zc6 : ¬ (t5.toInt = 0) := by rw [fa_eq, show (0 : Int32).toInt = 0 from by decide] at c6; exact c6
          refine lv_aload_n hx hb dX11_leftBy_23 rfl (lv_at hl 2 rfl) ?_
          refine va_get (D := (dC, dI)) (ci := 11) (v := .ref (r 75)) (C := RX11) (T := TX11) (N := 79) hx hb hts inB_11 hown hE.1 hP 0 rfl rfl 75 (by decide) (hts _ k_1395) (fun _ h9 => h9) rfl dX11_leftBy_24 ?_
          refine lv_bipush (v := 21) hx hb dX11_leftBy_27 (by decide) ?_
          refine lv_iload hx hb dX11_leftBy_29 (lv_at hl 0 rfl) ?_
          refine lv_imul hx hb dX11_leftBy_31 ?_
          refine lv_topi (fun t13 et13 => ?_)
          have rg14 := fb_rng l4_1
          have zt13 : t13.toInt = 21 * l4_1.toInt := by rw [et13]; exact mul_i (by decide) rfl (by omega) (by omega)
          refine lv_iload_n hx hb dX11_leftBy_32 rfl (lv_at hl 3 rfl) ?_
          refine lv_iadd hx hb dX11_leftBy_33 ?_
          refine lv_topi (fun t15 et15 => ?_)
          have rg16 := fb_rng t13
          have rg17 := fb_rng p1
          have zt15 : t15.toInt = t13.toInt + p1.toInt := by rw [et15]; exact add_i rfl rfl (by omega) (by omega)
          refine ldZ hx hb hE hP 35 rfl (vp_in_iff.mpr ⟨by omega, by omega⟩) rfl rfl dX11_leftBy_34 ?_
          refine lv_topi (fun t18 et18 => ?_)
          refine lv_if_eq (tgt := 42) hx hb dX11_leftBy_35 (by decide) (fun c19 => ?_) (fun c19 => ?_)
          · skip
            have zc19 : t18.toInt = 0 := by rw [fa_eq, show (0 : Int32).toInt = 0 from by decide] at c19; exact c19
            refine lv_iconst (v := 0) hx hb dX11_leftBy_42 (by decide) ?_
            have lt20 : (0 : Int32).toInt = 0 := by decide
            refine cbSi (n := 1) (rest := [.int l3_1]) hx hb hml hown hts hE hP hD hS hA (sY_X11_truth_1 l dC dI cy y0 r 0 v f w g hIv hCf hRf ) k_1761 k_1762 k_114 k_1763 (by decide +kernel) ⟨Nat.le_of_ble_eq_true rfl, Nat.le_of_ble_eq_true rfl⟩ (rfl) hl.1 rfl (Nat.le_of_ble_eq_true rfl) dX11_leftBy_43 (fun r21 u H locs hw hP hD hS => ?_)
            refine lv_iadd hx hb dX11_leftBy_46 ?_
            refine lv_topi (fun t22 et22 => ?_)
            refine lv_istore_n (lv' := [(3, .int t22), (4, .int l4_1), (0, .ref y0), (1, .int p1), (2, .int p2)]) hx hb dX11_leftBy_47 rfl hl (by decide) rfl (fun ls hl => ?_)
            obtain ⟨t23, et23⟩ : ∃ y : Int32, y = l4_1 + 1 := ⟨_, rfl⟩
            have zt23 : t23.toInt = l4_1.toInt + 1 := by rw [et23]; exact add_i rfl (by decide) (by omega) (by omega)
            refine lv_iinc (v := t23) (lv' := [(4, .int t23), (3, .int t22), (0, .ref y0), (1, .int p1), (2, .int p2)]) hx hb dX11_leftBy_48 hl (k := 1) rfl (by rw [et23]; rfl) (by decide) rfl (fun ls hl => ?_)
            refine lv_goto (tgt := 5) hx hb dX11_leftBy_51 (by decide) ?_
            have rg24 := fb_rng t23
            exact ih1 t22 t23 ⟨show (0 : Int) ≤ t23.toInt by omega, show t23.toInt ≤ (2147483647 : Int) by omega⟩ (by show (2147483647 - t23.toInt).toNat < n1; omega) _ _ _ hP hD hS (lv_sub hl [0, 1, 2, 3, 4] rfl)
          · skip
            have zc19 : ¬ (t18.toInt = 0) := by rw [fa_eq, show (0 : Int32).toInt = 0 from by decide] at c19; exact c19
            refine lv_iconst (v := 1) hx hb dX11_leftBy_38 (by decide) ?_
            refine lv_goto (tgt := 43) hx hb dX11_leftBy_39 (by decide) ?_
            have lt25 : (1 : Int32).toInt = 1 := by decide
            refine cbSi (n := 1) (rest := [.int l3_1]) hx hb hml hown hts hE hP hD hS hA (sY_X11_truth_1 l dC dI cy y0 r 1 v f w g hIv hCf hRf ) k_1761 k_1762 k_114 k_1763 (by decide +kernel) ⟨Nat.le_of_ble_eq_true rfl, Nat.le_of_ble_eq_true rfl⟩ (rfl) hl.1 rfl (Nat.le_of_ble_eq_true rfl) dX11_leftBy_43 (fun r26 u H locs hw hP hD hS => ?_)
            refine lv_iadd hx hb dX11_leftBy_46 ?_
            refine lv_topi (fun t27 et27 => ?_)
            refine lv_istore_n (lv' := [(3, .int t27), (4, .int l4_1), (0, .ref y0), (1, .int p1), (2, .int p2)]) hx hb dX11_leftBy_47 rfl hl (by decide) rfl (fun ls hl => ?_)
            obtain ⟨t28, et28⟩ : ∃ y : Int32, y = l4_1 + 1 := ⟨_, rfl⟩
            have zt28 : t28.toInt = l4_1.toInt + 1 := by rw [et28]; exact add_i rfl (by decide) (by omega) (by omega)
            refine lv_iinc (v := t28) (lv' := [(4, .int t28), (3, .int t27), (0, .ref y0), (1, .int p1), (2, .int p2)]) hx hb dX11_leftBy_48 hl (k := 1) rfl (by rw [et28]; rfl) (by decide) rfl (fun ls hl => ?_)
            refine lv_goto (tgt := 5) hx hb dX11_leftBy_51 (by decide) ?_
            have rg29 := fb_rng t28
            exact ih1 t27 t28 ⟨show (0 : Int) ≤ t28.toInt by omega, show t28.toInt ≤ (2147483647 : Int) by omega⟩ (by show (2147483647 - t28.toInt).toNat < n1; omega) _ _ _ hP hD hS (lv_sub hl [0, 1, 2, 3, 4] rfl)
  exact lp1 _ 0 0 ⟨by decide, by decide⟩ (Nat.lt_succ_self _) _ _ _ hP hD hS (lv_sub hl [0, 1, 2, 3, 4] rfl)
set_option maxHeartbeats 4000000 in
set_option maxRecDepth 100000 in
theorem sY_X11_ask_1 (l : Launch) (dC : Nat → ClassId) (dI : Nat → Nat → Nat) (cy : Nat → ClassId) (y0 : Nat) (r : Nat → Nat) (p1 : Int32) (p2 : Int32) (v : Nat → Int32) (f : Nat → Nat → Int32) (w : Int64) (g : Nat → Int64) (hIv : YI v) (hCf : YC f) (hRf : progOK (f 4) (f 5) (v 9).toInt.toNat)  : ctI l (dC, dI) cy yX11_ask cX11_ask 6 .int 6 172 0 0 ((Nat → Int32) × (Nat → Nat → Int32) × (Int64) × (Nat → Int64)) [.ref y0, .int p1, .int p2] (YW cy y0 r v f w g) (fun r u => KV [] u.1 v ∧ KF [7, 8, 24, 34, 35] u.2.1 f ∧ YI u.1 ∧ YC u.2.1 ∧ progOK (u.2.1 4) (u.2.1 5) (u.1 9).toInt.toNat ∧ u.1 0 = v 0 ∧ u.1 1 = v 1 ∧ u.1 2 = v 2 ∧ u.1 3 = v 3 ∧ u.1 4 = v 4 ∧ u.1 5 = v 5 ∧ u.1 8 = v 8 ∧ u.1 9 = v 9 ∧ u.1 10 = v 10 ∧ u.1 13 = v 13 ∧ u.1 14 = v 14 ∧ u.1 15 = v 15 ∧ u.1 17 = v 17 ∧ u.1 18 = v 18 ∧ u.1 24 = v 24 ∧ u.1 25 = v 25 ∧ u.1 35 = v 35 ∧ u.1 36 = v 36 ∧ u.1 38 = v 38 ∧ u.1 39 = v 39) (fun u => YW cy y0 r u.1 u.2.1 u.2.2.1 u.2.2.2) := by
  refine ctI_of (by decide) (Nat.le_of_ble_eq_true rfl) (fun p e s m below meth c A ls Q hx hb hml hts hown hE hP hD hA hl ret => ?_)
  have hUv : (v 35).toInt + (v 36).toInt ≤ 40 := hIv.2
  have hM_v : KV [] v v := fun _ _ => rfl
  have hA_f : KF [7, 8, 24, 34, 35] f f := fun _ _ => rfl
  have hown : s.vm.findClass RX11 = some m.cls := hown
  have hS : va_S A s.heap s.heap [] := va_S.rf
  have hl : lv_has ls 6 [(0, .ref y0), (1, .int p1), (2, .int p2)] := hl
  refine lv_iload_n hx hb dX11_ask_0 rfl (lv_at hl 1 rfl) ?_
  refine lv_iconst (v := 0) hx hb dX11_ask_1 (by decide) ?_
  refine lv_iconst (v := 1) hx hb dX11_ask_2 (by decide) ?_
  have lt1 : (0 : Int32).toInt = 0 := by decide
  have lt2 : (1 : Int32).toInt = 1 := by decide
  refine cbSi (n := 3) (rest := []) hx hb hml hown hts hE hP hD hS hA (sY_X11_isIn_1 0 l dC dI cy y0 r p1 0 1 v f w g hIv hCf hRf ) k_1736 k_1737 k_114 k_1738 (by decide +kernel) ⟨Nat.le_of_ble_eq_true rfl, Nat.le_of_ble_eq_true rfl⟩ (rfl) hl.1 rfl (Nat.le_of_ble_eq_true rfl) dX11_ask_3 (fun r3 u H locs hw hP hD hS => ?_)
  obtain ⟨hG4, hw⟩ := hw
  rcases hw with ⟨g5, g5_0, g5_1⟩ | ⟨g5⟩
  · skip
    subst g5
    refine lv_if_ne (tgt := 11) hx hb dX11_ask_6 (by decide) (fun _ => ?_) (fun c0 => absurd c0 (by decide))
    refine lv_aload_n hx hb dX11_ask_11 rfl (lv_at hl 0 rfl) ?_
    refine lv_iload_n hx hb dX11_ask_12 rfl (lv_at hl 2 rfl) ?_
    refine cbVi (n := 1) (rest := []) hx hb hml hown hts hE hP hD hS hA (sY_X11_layGrowths_1 l dC dI cy y0 r p2 v f w g hIv hCf hRf ) k_2024 k_2026 k_97 k_114 k_2027 (by decide +kernel) ⟨Nat.le_of_ble_eq_true rfl, Nat.le_of_ble_eq_true rfl⟩ 0 11 rfl rfl (rfl) hl.1 rfl (Nat.le_of_ble_eq_true rfl) dX11_ask_13 (fun r6 u H locs hw hP hD hS => ?_)
    obtain ⟨v7, f8, w9, g10⟩ := u
    obtain ⟨kV_v7, kF_f8, hIv7, hCf8, hRf8, hk0_v7, hk1_v7, hk2_v7, hk3_v7, hk4_v7, hk5_v7, hk8_v7, hk9_v7, hk10_v7, hk13_v7, hk14_v7, hk15_v7, hk17_v7, hk18_v7, hk24_v7, hk25_v7, hk35_v7, hk36_v7, hk38_v7, hk39_v7⟩ := hw
    have hM_v7 : KV [] v7 v := KV.tr kV_v7 hM_v rfl
    have hA_f8 : KF [7, 8, 24, 34, 35] f8 f := KF.tr kF_f8 hA_f rfl
    have hP : va_P (dC, dI) vwCl (YW cy y0 r v7 f8 w9 g10) H := hP
    have hD : va_D A (YW cy y0 r v7 f8 w9 g10) := hD
    have hUv7 : (v7 35).toInt + (v7 36).toInt ≤ 40 := hIv7.2
    have hq9_v7 : v7 9 = (v 9) := hk9_v7
    have zq9_v7 := congrArg Int32.toInt hq9_v7
    refine lv_istore_n (lv' := [(3, .int r6), (0, .ref y0), (1, .int p1), (2, .int p2)]) hx hb dX11_ask_16 rfl hl (by decide) rfl (fun ls hl => ?_)
    refine lv_iload_n hx hb dX11_ask_17 rfl (lv_at hl 0 rfl) ?_
    refine lv_if_ne (tgt := 23) hx hb dX11_ask_18 (by decide) (fun c11 => ?_) (fun c11 => ?_)
    · skip
      have zc11 : ¬ (r6.toInt = 0) := by rw [fa_eq, show (0 : Int32).toInt = 0 from by decide] at c11; exact c11
      refine lv_iconst (v := 0) hx hb dX11_ask_23 (by decide) ?_
      refine lv_istore (lv' := [(4, .int 0), (3, .int r6), (0, .ref y0), (1, .int p1), (2, .int p2)]) hx hb dX11_ask_24 hl (by decide) rfl (fun ls hl => ?_)
      refine lv_iconst (v := 1) hx hb dX11_ask_26 (by decide) ?_
      refine lv_istore (lv' := [(5, .int 1), (4, .int 0), (3, .int r6), (0, .ref y0), (1, .int p1), (2, .int p2)]) hx hb dX11_ask_27 hl (by decide) rfl (fun ls hl => ?_)
      have lp12 : ∀ (n12 : Nat) (l4_12 : Int32) (l5_12 : Int32), ((0 : Int) ≤ l4_12.toInt ∧ l4_12.toInt ≤ 20) → ((1 : Int) ≤ l5_12.toInt ∧ l5_12.toInt ≤ 2147483647) → (2147483647 - l5_12.toInt).toNat < n12 → ∀ (H : Heap) (locs : List Loc) (ls : Array Slot), va_P (dC, dI) vwCl (YW cy y0 r v7 f8 w9 g10) H → va_D A (YW cy y0 r v7 f8 w9 g10) → va_S A s.heap H locs → lv_has ls 6 [(5, .int l5_12), (4, .int l4_12), (3, .int r6), (0, .ref y0), (1, .int p1), (2, .int p2)] → W p l e { frames := 6, cells := 0, slots := 0, locals := 172 } s m ([.ref y0, .int p1, .int p2] : List Value).toArray below meth c H locs 0 0 Q (F0 m 29 ls []) := by
        intro n12
        induction n12 with
        | zero => intro l4_12 l5_12 hr4_12 hr5_12 hm; exact absurd hm (Nat.not_lt_zero _)
        | succ n12 ih12 =>
          intro l4_12 l5_12 hr4_12 hr5_12 hm12 H locs ls hP hD hS hl
          refine lv_iload hx hb dX11_ask_29 (lv_at hl 0 rfl) ?_
          refine lv_bipush (v := 20) hx hb dX11_ask_31 (by decide) ?_
          refine lv_icmp_gt (tgt := 68) hx hb dX11_ask_33 (by decide) (fun c13 => ?_) (fun c13 => ?_)
          · skip
            have zc13 : 20 < l5_12.toInt := by rw [fa_lt, show (20 : Int32).toInt = 20 from by decide] at c13; exact c13
            refine lv_iload_n hx hb dX11_ask_68 rfl (lv_at hl 4 rfl) ?_
            refine lv_if_ne (tgt := 77) hx hb dX11_ask_69 (by decide) (fun c14 => ?_) (fun c14 => ?_)
            · skip
              have zc14 : ¬ (p1.toInt = 0) := by rw [fa_eq, show (0 : Int32).toInt = 0 from by decide] at c14; exact c14
              refine lv_aload_n hx hb dX11_ask_77 rfl (lv_at hl 3 rfl) ?_
              refine lv_iload hx hb dX11_ask_78 (lv_at hl 1 rfl) ?_
              refine lv_iload_n hx hb dX11_ask_80 rfl (lv_at hl 2 rfl) ?_
              refine cbVi (n := 2) (rest := []) hx hb hml hown hts hE hP hD hS hA (sY_X11_leftBy_1 l dC dI cy y0 r l4_12 r6 v7 f8 w9 g10 hIv7 hCf8 hRf8 ⟨show (0 : Int) ≤ l4_12.toInt by omega, show l4_12.toInt ≤ (20 : Int) by omega⟩) k_2040 k_2042 k_99 k_114 k_2043 (by decide +kernel) ⟨Nat.le_of_ble_eq_true rfl, Nat.le_of_ble_eq_true rfl⟩ 0 11 rfl rfl (rfl) hl.1 rfl (Nat.le_of_ble_eq_true rfl) dX11_ask_81 (fun r15 u H locs hw hP hD hS => ?_)
              exact ret r15 (v7, f8, w9, g10) _ _ _ _ _ _ rfl ⟨hM_v7, hA_f8, hIv7, hCf8, hRf8, hk0_v7, hk1_v7, hk2_v7, hk3_v7, hk4_v7, hk5_v7, hk8_v7, hk9_v7, hk10_v7, hk13_v7, hk14_v7, hk15_v7, hk17_v7, hk18_v7, hk24_v7, hk25_v7, hk35_v7, hk36_v7, hk38_v7, hk39_v7⟩ hP hD hS dX11_ask_84 (Nat.le_refl _) (Nat.le_refl _)
            · skip
              have zc14 : p1.toInt = 0 := by rw [fa_eq, show (0 : Int32).toInt = 0 from by decide] at c14; exact c14
              refine lv_iload hx hb dX11_ask_72 (lv_at hl 1 rfl) ?_
              refine lv_goto (tgt := 84) hx hb dX11_ask_74 (by decide) ?_
              exact ret l4_12 (v7, f8, w9, g10) _ _ _ _ _ _ rfl ⟨hM_v7, hA_f8, hIv7, hCf8, hRf8, hk0_v7, hk1_v7, hk2_v7, hk3_v7, hk4_v7, hk5_v7, hk8_v7, hk9_v7, hk10_v7, hk13_v7, hk14_v7, hk15_v7, hk17_v7, hk18_v7, hk24_v7, hk25_v7, hk35_v7, hk36_v7, hk38_v7, hk39_v7⟩ hP hD hS dX11_ask_84 (Nat.le_refl _) (Nat.le_refl _)
          · skip
            have zc13 : ¬ (20 < l5_12.toInt) := by rw [fa_lt, show (20 : Int32).toInt = 20 from by decide] at c13; exact c13
            refine lv_aload_n hx hb dX11_ask_36 rfl (lv_at hl 3 rfl) ?_
            refine lv_iload hx hb dX11_ask_37 (lv_at hl 0 rfl) ?_
            refine lv_iload_n hx hb dX11_ask_39 rfl (lv_at hl 2 rfl) ?_
            refine cbVi (n := 2) (rest := []) hx hb hml hown hts hE hP hD hS hA (sY_X11_leftBy_1 l dC dI cy y0 r l5_12 r6 v7 f8 w9 g10 hIv7 hCf8 hRf8 ⟨show (0 : Int) ≤ l5_12.toInt by omega, show l5_12.toInt ≤ (20 : Int) by omega⟩) k_2040 k_2042 k_99 k_114 k_2043 (by decide +kernel) ⟨Nat.le_of_ble_eq_true rfl, Nat.le_of_ble_eq_true rfl⟩ 0 11 rfl rfl (rfl) hl.1 rfl (Nat.le_of_ble_eq_true rfl) dX11_ask_40 (fun r16 u H locs hw hP hD hS => ?_)
            refine lv_aload_n hx hb dX11_ask_43 rfl (lv_at hl 3 rfl) ?_
            refine lv_iload hx hb dX11_ask_44 (lv_at hl 1 rfl) ?_
            refine lv_iload_n hx hb dX11_ask_46 rfl (lv_at hl 2 rfl) ?_
            refine cbVi (n := 2) (rest := [.int r16]) hx hb hml hown hts hE hP hD hS hA (sY_X11_leftBy_1 l dC dI cy y0 r l4_12 r6 v7 f8 w9 g10 hIv7 hCf8 hRf8 ⟨show (0 : Int) ≤ l4_12.toInt by omega, show l4_12.toInt ≤ (20 : Int) by omega⟩) k_2040 k_2042 k_99 k_114 k_2043 (by decide +kernel) ⟨Nat.le_of_ble_eq_true rfl, Nat.le_of_ble_eq_true rfl⟩ 0 11 rfl rfl (rfl) hl.1 rfl (Nat.le_of_ble_eq_true rfl) dX11_ask_47 (fun r17 u H locs hw hP hD hS => ?_)
            refine lv_icmp_ge (tgt := 58) hx hb dX11_ask_50 (by decide) (fun c18 => ?_) (fun c18 => ?_)
            · skip
              have zc18 : r17.toInt ≤ r16.toInt := by rw [fa_le] at c18; exact c18
              have rg19 := fb_rng r16
              have rg20 := fb_rng r17
              refine lv_iload hx hb dX11_ask_58 (lv_at hl 1 rfl) ?_
              refine lv_istore (lv' := [(4, .int l4_12), (5, .int l5_12), (3, .int r6), (0, .ref y0), (1, .int p1), (2, .int p2)]) hx hb dX11_ask_60 hl (by decide) rfl (fun ls hl => ?_)
              obtain ⟨t21, et21⟩ : ∃ y : Int32, y = l5_12 + 1 := ⟨_, rfl⟩
              have rg22 := fb_rng l5_12
              have zt21 : t21.toInt = l5_12.toInt + 1 := by rw [et21]; exact add_i rfl (by decide) (by omega) (by omega)
              refine lv_iinc (v := t21) (lv' := [(5, .int t21), (4, .int l4_12), (3, .int r6), (0, .ref y0), (1, .int p1), (2, .int p2)]) hx hb dX11_ask_62 hl (k := 1) rfl (by rw [et21]; rfl) (by decide) rfl (fun ls hl => ?_)
              refine lv_goto (tgt := 29) hx hb dX11_ask_65 (by decide) ?_
              have rg23 := fb_rng l4_12
              have rg24 := fb_rng t21
              exact ih12 l4_12 t21 ⟨show (0 : Int) ≤ l4_12.toInt by omega, show l4_12.toInt ≤ (20 : Int) by omega⟩ ⟨show (1 : Int) ≤ t21.toInt by omega, show t21.toInt ≤ (2147483647 : Int) by omega⟩ (by show (2147483647 - t21.toInt).toNat < n12; omega) _ _ _ hP hD hS (lv_sub hl [0, 1, 2, 3, 4, 5] rfl)
            · skip
              have zc18 : ¬ (r17.toInt ≤ r16.toInt) := by rw [fa_le] at c18; exact c18
              have rg25 := fb_rng r16
              have rg26 := fb_rng r17
              refine lv_iload hx hb dX11_ask_53 (lv_at hl 0 rfl) ?_
              refine lv_goto (tgt := 60) hx hb dX11_ask_55 (by decide) ?_
              refine lv_istore (lv' := [(4, .int l5_12), (5, .int l5_12), (3, .int r6), (0, .ref y0), (1, .int p1), (2, .int p2)]) hx hb dX11_ask_60 hl (by decide) rfl (fun ls hl => ?_)
              obtain ⟨t27, et27⟩ : ∃ y : Int32, y = l5_12 + 1 := ⟨_, rfl⟩
              have rg28 := fb_rng l5_12
              have zt27 : t27.toInt = l5_12.toInt + 1 := by rw [et27]; exact add_i rfl (by decide) (by omega) (by omega)
              refine lv_iinc (v := t27) (lv' := [(5, .int t27), (4, .int l5_12), (3, .int r6), (0, .ref y0), (1, .int p1), (2, .int p2)]) hx hb dX11_ask_62 hl (k := 1) rfl (by rw [et27]; rfl) (by decide) rfl (fun ls hl => ?_)
              refine lv_goto (tgt := 29) hx hb dX11_ask_65 (by decide) ?_
              have rg29 := fb_rng t27
              exact ih12 l5_12 t27 ⟨show (0 : Int) ≤ l5_12.toInt by omega, show l5_12.toInt ≤ (20 : Int) by omega⟩ ⟨show (1 : Int) ≤ t27.toInt by omega, show t27.toInt ≤ (2147483647 : Int) by omega⟩ (by show (2147483647 - t27.toInt).toNat < n12; omega) _ _ _ hP hD hS (lv_sub hl [0, 1, 2, 3, 4, 5] rfl)
      exact lp12 _ 0 1 ⟨by decide, by decide⟩ ⟨by decide, by decide⟩ (Nat.lt_succ_self _) _ _ _ hP hD hS (lv_sub hl [0, 1, 2, 3, 4, 5] rfl)
    · skip
      have zc11 : r6.toInt = 0 := by rw [fa_eq, show (0 : Int32).toInt = 0 from by decide] at c11; exact c11
      refine lv_iconst (v := (-1)) hx hb dX11_ask_21 (by decide) ?_
      exact ret (-1) (v7, f8, w9, g10) _ _ _ _ _ _ rfl ⟨hM_v7, hA_f8, hIv7, hCf8, hRf8, hk0_v7, hk1_v7, hk2_v7, hk3_v7, hk4_v7, hk5_v7, hk8_v7, hk9_v7, hk10_v7, hk13_v7, hk14_v7, hk15_v7, hk17_v7, hk18_v7, hk24_v7, hk25_v7, hk35_v7, hk36_v7, hk38_v7, hk39_v7⟩ hP hD hS dX11_ask_22 (Nat.le_refl _) (Nat.le_refl _)
  · skip
    subst g5
    refine lv_if_ne (tgt := 11) hx hb dX11_ask_6 (by decide) (fun c0 => absurd (by decide) c0) (fun _ => ?_)
    refine lv_iconst (v := (-1)) hx hb dX11_ask_9 (by decide) ?_
    exact ret (-1) (v, f, w, g) _ _ _ _ _ _ rfl ⟨hM_v, hA_f, hIv, hCf, hRf, rfl, rfl, rfl, rfl, rfl, rfl, rfl, rfl, rfl, rfl, rfl, rfl, rfl, rfl, rfl, rfl, rfl, rfl, rfl, rfl⟩ hP hD hS dX11_ask_10 (Nat.le_refl _) (Nat.le_refl _)
set_option maxHeartbeats 4000000 in
set_option maxRecDepth 100000 in
theorem sY_X11_isBox_1 (l : Launch) (dC : Nat → ClassId) (dI : Nat → Nat → Nat) (cy : Nat → ClassId) (y0 : Nat) (r : Nat → Nat) (p0 : Int32) (v : Nat → Int32) (f : Nat → Nat → Int32) (w : Int64) (g : Nat → Int64) (hIv : YI v) (hCf : YC f) (hRf : progOK (f 4) (f 5) (v 9).toInt.toNat)  : ctI l (dC, dI) cy yX11_isBox cX11_isBox 1 .boolean 1 60 0 0 Unit [.int p0] (YW cy y0 r v f w g) (fun r u => ((r = 1 ∧ 0 ≤ p0.toInt ∧ p0.toInt ≤ 2) ∨ (r = 0))) (fun u => YW cy y0 r v f w g) := by
  refine ctI_of (by decide) (Nat.le_of_ble_eq_true rfl) (fun p e s m below meth c A ls Q hx hb hml hts hown hE hP hD hA hl ret => ?_)
  have hUv : (v 35).toInt + (v 36).toInt ≤ 40 := hIv.2
  have hown : s.vm.findClass RX11 = some m.cls := hown
  have hS : va_S A s.heap s.heap [] := va_S.rf
  have hl : lv_has ls 1 [(0, .int p0)] := hl
  refine lv_iload_n hx hb dX11_isBox_0 rfl (lv_at hl 0 rfl) ?_
  refine lv_if_lt (tgt := 13) hx hb dX11_isBox_1 (by decide) (fun c1 => ?_) (fun c1 => ?_)
  · skip
    have zc1 : p0.toInt < 0 := by rw [fa_lt, show (0 : Int32).toInt = 0 from by decide] at c1; exact c1
    refine lv_iconst (v := 0) hx hb dX11_isBox_13 (by decide) ?_
    exact ret 0 () _ _ _ _ _ _ rfl (Or.inr rfl) hP hD hS dX11_isBox_14 (Nat.le_refl _) (Nat.le_refl _)
  · skip
    have zc1 : ¬ (p0.toInt < 0) := by rw [fa_lt, show (0 : Int32).toInt = 0 from by decide] at c1; exact c1
    refine lv_iload_n hx hb dX11_isBox_4 rfl (lv_at hl 0 rfl) ?_
    refine lv_iconst (v := 3) hx hb dX11_isBox_5 (by decide) ?_
    refine lv_icmp_ge (tgt := 13) hx hb dX11_isBox_6 (by decide) (fun c2 => ?_) (fun c2 => ?_)
    · skip
      have zc2 : 3 ≤ p0.toInt := by rw [fa_le, show (3 : Int32).toInt = 3 from by decide] at c2; exact c2
      refine lv_iconst (v := 0) hx hb dX11_isBox_13 (by decide) ?_
      exact ret 0 () _ _ _ _ _ _ rfl (Or.inr rfl) hP hD hS dX11_isBox_14 (Nat.le_refl _) (Nat.le_refl _)
    · skip
      have zc2 : ¬ (3 ≤ p0.toInt) := by rw [fa_le, show (3 : Int32).toInt = 3 from by decide] at c2; exact c2
      refine lv_iconst (v := 1) hx hb dX11_isBox_9 (by decide) ?_
      refine lv_goto (tgt := 14) hx hb dX11_isBox_10 (by decide) ?_
      exact ret 1 () _ _ _ _ _ _ rfl (Or.inl ⟨rfl, by omega, by omega⟩) hP hD hS dX11_isBox_14 (Nat.le_refl _) (Nat.le_refl _)
set_option maxHeartbeats 4000000 in
set_option maxRecDepth 100000 in
theorem sY_X11_image_1 (l : Launch) (dC : Nat → ClassId) (dI : Nat → Nat → Nat) (cy : Nat → ClassId) (y0 : Nat) (r : Nat → Nat) (p1 : Int32) (v : Nat → Int32) (f : Nat → Nat → Int32) (w : Int64) (g : Nat → Int64) (hIv : YI v) (hCf : YC f) (hRf : progOK (f 4) (f 5) (v 9).toInt.toNat)  : ctI l (dC, dI) cy yX11_image cX11_image 3 .int 2 80 0 0 ((Nat → Int32) × (Nat → Nat → Int32) × (Int64) × (Nat → Int64)) [.ref y0, .int p1] (YW cy y0 r v f w g) (fun r u => KV [] u.1 v ∧ KF [36, 37] u.2.1 f ∧ YI u.1 ∧ YC u.2.1 ∧ progOK (u.2.1 4) (u.2.1 5) (u.1 9).toInt.toNat ∧ u.1 0 = v 0 ∧ u.1 1 = v 1 ∧ u.1 2 = v 2 ∧ u.1 3 = v 3 ∧ u.1 4 = v 4 ∧ u.1 5 = v 5 ∧ u.1 8 = v 8 ∧ u.1 9 = v 9 ∧ u.1 10 = v 10 ∧ u.1 13 = v 13 ∧ u.1 14 = v 14 ∧ u.1 15 = v 15 ∧ u.1 17 = v 17 ∧ u.1 18 = v 18 ∧ u.1 24 = v 24 ∧ u.1 25 = v 25 ∧ u.1 35 = v 35 ∧ u.1 36 = v 36 ∧ u.1 38 = v 38 ∧ u.1 39 = v 39) (fun u => YW cy y0 r u.1 u.2.1 u.2.2.1 u.2.2.2) := by
  refine ctI_of (by decide) (Nat.le_of_ble_eq_true rfl) (fun p e s m below meth c A ls Q hx hb hml hts hown hE hP hD hA hl ret => ?_)
  have hUv : (v 35).toInt + (v 36).toInt ≤ 40 := hIv.2
  have hM_v : KV [] v v := fun _ _ => rfl
  have hA_f : KF [36, 37] f f := fun _ _ => rfl
  have hown : s.vm.findClass RX11 = some m.cls := hown
  have hS : va_S A s.heap s.heap [] := va_S.rf
  have hl : lv_has ls 3 [(0, .ref y0), (1, .int p1)] := hl
  refine lv_iload_n hx hb dX11_image_0 rfl (lv_at hl 1 rfl) ?_
  refine cbSi (n := 1) (rest := []) hx hb hml hown hts hE hP hD hS hA (sY_X11_isBox_1 l dC dI cy y0 r p1 v f w g hIv hCf hRf ) k_2048 k_2049 k_114 k_2050 (by decide +kernel) ⟨Nat.le_of_ble_eq_true rfl, Nat.le_of_ble_eq_true rfl⟩ (rfl) hl.1 rfl (Nat.le_of_ble_eq_true rfl) dX11_image_1 (fun r1 u H locs hw hP hD hS => ?_)
  rcases hw with ⟨g2, g2_0, g2_1⟩ | ⟨g2⟩
  · skip
    subst g2
    refine lv_if_ne (tgt := 9) hx hb dX11_image_4 (by decide) (fun _ => ?_) (fun c0 => absurd c0 (by decide))
    refine lv_aload_n hx hb dX11_image_9 rfl (lv_at hl 0 rfl) ?_
    refine va_get (D := (dC, dI)) (ci := 11) (v := .ref (r 77)) (C := RX11) (T := TX11) (N := 79) hx hb hts inB_11 hown hE.1 hP 0 rfl rfl 77 (by decide) (hts _ k_1397) (fun _ h9 => h9) rfl dX11_image_10 ?_
    refine lv_iload_n hx hb dX11_image_13 rfl (lv_at hl 1 rfl) ?_
    refine lv_iconst (v := 1) hx hb dX11_image_14 (by decide) ?_
    refine stZ hx hb hE hP hD hS 37 rfl (vp_in_iff.mpr ⟨by omega, by omega⟩) rfl dX11_image_15 (fun H locs hP hD hS => ?_)
    obtain ⟨f3, ef3, hP, hD⟩ : ∃ fz9, fz9 = upd2 f 36 (upd (f 36) p1.toNatClampNeg (vp_nar .boolean 1)) ∧ va_P (dC, dI) vwCl (YW cy y0 r v fz9 w g) H ∧ va_D A (YW cy y0 r v fz9 w g) := ⟨_, rfl, hP, hD⟩
    have hCf3 : YC f3 := by rw [ef3]; exact hCf
    have hRf3 : progOK (f3 4) (f3 5) (v 9).toInt.toNat := by rw [ef3]; exact hRf
    have hA_f3 : KF [36, 37] f3 f := by rw [ef3]; exact KF.up hA_f rfl
    refine lv_iconst (v := 0) hx hb dX11_image_16 (by decide) ?_
    refine lv_istore_n (lv' := [(2, .int 0), (0, .ref y0), (1, .int p1)]) hx hb dX11_image_17 rfl hl (by decide) rfl (fun ls hl => ?_)
    have lp4 : ∀ (n4 : Nat) (l2_4 : Int32) (v4 : Nat → Int32) (f4 : Nat → Nat → Int32) (w4 : Int64) (g4 : Nat → Int64), YI v4 → YC f4 → progOK (f4 4) (f4 5) (v4 9).toInt.toNat → v4 0 = (v 0) → v4 1 = (v 1) → v4 2 = (v 2) → v4 3 = (v 3) → v4 4 = (v 4) → v4 5 = (v 5) → v4 8 = (v 8) → v4 9 = (v 9) → v4 10 = (v 10) → v4 13 = (v 13) → v4 14 = (v 14) → v4 15 = (v 15) → v4 17 = (v 17) → v4 18 = (v 18) → v4 24 = (v 24) → v4 25 = (v 25) → v4 35 = (v 35) → v4 36 = (v 36) → v4 38 = (v 38) → v4 39 = (v 39) → ((0 : Int) ≤ l2_4.toInt ∧ l2_4.toInt ≤ 2147483647) → KV [] v4 v → KF [36, 37] f4 f → (2147483647 - l2_4.toInt).toNat < n4 → ∀ (H : Heap) (locs : List Loc) (ls : Array Slot), va_P (dC, dI) vwCl (YW cy y0 r v4 f4 w4 g4) H → va_D A (YW cy y0 r v4 f4 w4 g4) → va_S A s.heap H locs → lv_has ls 3 [(2, .int l2_4), (0, .ref y0), (1, .int p1)] → W p l e { frames := 2, cells := 0, slots := 0, locals := 80 } s m ([.ref y0, .int p1] : List Value).toArray below meth c H locs 0 0 Q (F0 m 18 ls []) := by
      intro n4
      induction n4 with
      | zero => intro l2_4 v4 f4 w4 g4 hIv4 hCf4 hRf4 hq0_v4 hq1_v4 hq2_v4 hq3_v4 hq4_v4 hq5_v4 hq8_v4 hq9_v4 hq10_v4 hq13_v4 hq14_v4 hq15_v4 hq17_v4 hq18_v4 hq24_v4 hq25_v4 hq35_v4 hq36_v4 hq38_v4 hq39_v4 hr2_4 hM_v4 hA_f4 hm; exact absurd hm (Nat.not_lt_zero _)
      | succ n4 ih4 =>
        intro l2_4 v4 f4 w4 g4 hIv4 hCf4 hRf4 hq0_v4 hq1_v4 hq2_v4 hq3_v4 hq4_v4 hq5_v4 hq8_v4 hq9_v4 hq10_v4 hq13_v4 hq14_v4 hq15_v4 hq17_v4 hq18_v4 hq24_v4 hq25_v4 hq35_v4 hq36_v4 hq38_v4 hq39_v4 hr2_4 hM_v4 hA_f4 hm4 H locs ls hP hD hS hl
        have hUv4 : (v4 35).toInt + (v4 36).toInt ≤ 40 := hIv4.2
        have zq9_v4 := congrArg Int32.toInt hq9_v4
        refine lv_iload_n hx hb dX11_image_18 rfl (lv_at hl 0 rfl) ?_
        refine lv_bipush (v := 39) hx hb dX11_image_19 (by decide) ?_
        refine lv_icmp_ge (tgt := 47) hx hb dX11_image_21 (by decide) (fun c5 => ?_) (fun c5 => ?_)
        · skip
          have zc5 : 39 ≤ l2_4.toInt := by rw [fa_le, show (39 : Int32).toInt = 39 from by decide] at c5; exact c5
          refine lv_aload_n hx hb dX11_image_47 rfl (lv_at hl 1 rfl) ?_
          refine va_get (D := (dC, dI)) (ci := 11) (v := .ref (r 59)) (C := RX11) (T := TX11) (N := 79) hx hb hts inB_11 hown hE.1 hP 0 rfl rfl 59 (by decide) (hts _ k_1379) (fun _ h9 => h9) rfl dX11_image_48 ?_
          refine lv_bipush (v := 37) hx hb dX11_image_51 (by decide) ?_
          refine ldI hx hb hE hP 24 rfl (vp_in_nI (n := 37) (by decide) (by decide)) rfl rfl dX11_image_53 ?_
          refine lv_topi (fun t6 et6 => ?_)
          have zt6 : 37 % 39 < 6 ∨ 12 ≤ 37 % 39 ∨ (-1 ≤ t6.toInt ∧ t6.toInt ≤ 5) := by rw [et6]; exact wear_ld hCf4.1 (show 37 < 39 by omega)
          exact ret t6 (v4, f4, w4, g4) _ _ _ _ _ _ rfl ⟨hM_v4, hA_f4, hIv4, hCf4, hRf4, (show v4 0 = v 0 from hq0_v4), (show v4 1 = v 1 from hq1_v4), (show v4 2 = v 2 from hq2_v4), (show v4 3 = v 3 from hq3_v4), (show v4 4 = v 4 from hq4_v4), (show v4 5 = v 5 from hq5_v4), (show v4 8 = v 8 from hq8_v4), (show v4 9 = v 9 from hq9_v4), (show v4 10 = v 10 from hq10_v4), (show v4 13 = v 13 from hq13_v4), (show v4 14 = v 14 from hq14_v4), (show v4 15 = v 15 from hq15_v4), (show v4 17 = v 17 from hq17_v4), (show v4 18 = v 18 from hq18_v4), (show v4 24 = v 24 from hq24_v4), (show v4 25 = v 25 from hq25_v4), (show v4 35 = v 35 from hq35_v4), (show v4 36 = v 36 from hq36_v4), (show v4 38 = v 38 from hq38_v4), (show v4 39 = v 39 from hq39_v4)⟩ hP hD hS dX11_image_54 (Nat.le_refl _) (Nat.le_refl _)
        · skip
          have zc5 : ¬ (39 ≤ l2_4.toInt) := by rw [fa_le, show (39 : Int32).toInt = 39 from by decide] at c5; exact c5
          refine lv_aload_n hx hb dX11_image_24 rfl (lv_at hl 1 rfl) ?_
          refine va_get (D := (dC, dI)) (ci := 11) (v := .ref (r 78)) (C := RX11) (T := TX11) (N := 79) hx hb hts inB_11 hown hE.1 hP 0 rfl rfl 78 (by decide) (hts _ k_1398) (fun _ h9 => h9) rfl dX11_image_25 ?_
          refine lv_bipush (v := 39) hx hb dX11_image_28 (by decide) ?_
          refine lv_iload_n hx hb dX11_image_30 rfl (lv_at hl 2 rfl) ?_
          refine lv_imul hx hb dX11_image_31 ?_
          refine lv_topi (fun t7 et7 => ?_)
          have rg8 := fb_rng p1
          have zt7 : t7.toInt = 39 * p1.toInt := by rw [et7]; exact mul_i (by decide) rfl (by omega) (by omega)
          refine lv_iload_n hx hb dX11_image_32 rfl (lv_at hl 0 rfl) ?_
          refine lv_iadd hx hb dX11_image_33 ?_
          refine lv_topi (fun t9 et9 => ?_)
          have rg10 := fb_rng t7
          have rg11 := fb_rng l2_4
          have zt9 : t9.toInt = t7.toInt + l2_4.toInt := by rw [et9]; exact add_i rfl rfl (by omega) (by omega)
          refine lv_aload_n hx hb dX11_image_34 rfl (lv_at hl 1 rfl) ?_
          refine va_get (D := (dC, dI)) (ci := 11) (v := .ref (r 59)) (C := RX11) (T := TX11) (N := 79) hx hb hts inB_11 hown hE.1 hP 0 rfl rfl 59 (by decide) (hts _ k_1379) (fun _ h9 => h9) rfl dX11_image_35 ?_
          refine lv_iload_n hx hb dX11_image_38 rfl (lv_at hl 0 rfl) ?_
          refine ldI hx hb hE hP 24 rfl (vp_in_iff.mpr ⟨by omega, by omega⟩) rfl rfl dX11_image_39 ?_
          refine lv_topi (fun t12 et12 => ?_)
          have zt12 : l2_4.toInt.toNat % 39 < 6 ∨ 12 ≤ l2_4.toInt.toNat % 39 ∨ (-1 ≤ t12.toInt ∧ t12.toInt ≤ 5) := by rw [et12]; exact wear_ld hCf4.1 (show l2_4.toInt.toNat < 39 by omega)
          refine stI hx hb hE hP hD hS 38 rfl (vp_in_iff.mpr ⟨by omega, by omega⟩) rfl dX11_image_40 (fun H locs hP hD hS => ?_)
          obtain ⟨f13, ef13, hP, hD⟩ : ∃ fz9, fz9 = upd2 f4 37 (upd (f4 37) t9.toNatClampNeg t12) ∧ va_P (dC, dI) vwCl (YW cy y0 r v4 fz9 w4 g4) H ∧ va_D A (YW cy y0 r v4 fz9 w4 g4) := ⟨_, rfl, hP, hD⟩
          have hCf13 : YC f13 := by rw [ef13]; exact ⟨hCf4.1, hCf4.2.1, hCf4.2.2.1, hCf4.2.2.2.1, hCf4.2.2.2.2.1, (wear_st hCf4.2.2.2.2.2 (by show t9.toInt.toNat % 39 < 6 ∨ 12 ≤ t9.toInt.toNat % 39 ∨ (-1 ≤ t12.toInt ∧ t12.toInt ≤ 5); omega))⟩
          have hRf13 : progOK (f13 4) (f13 5) (v4 9).toInt.toNat := by rw [ef13]; exact hRf4
          have hA_f13 : KF [36, 37] f13 f := by rw [ef13]; exact KF.up hA_f4 rfl
          obtain ⟨t14, et14⟩ : ∃ y : Int32, y = l2_4 + 1 := ⟨_, rfl⟩
          have zt14 : t14.toInt = l2_4.toInt + 1 := by rw [et14]; exact add_i rfl (by decide) (by omega) (by omega)
          refine lv_iinc (v := t14) (lv' := [(2, .int t14), (0, .ref y0), (1, .int p1)]) hx hb dX11_image_41 hl (k := 0) rfl (by rw [et14]; rfl) (by decide) rfl (fun ls hl => ?_)
          refine lv_goto (tgt := 18) hx hb dX11_image_44 (by decide) ?_
          have rg15 := fb_rng t14
          exact ih4 t14 v4 f13 w4 g4 hIv4 hCf13 hRf13 hq0_v4 hq1_v4 hq2_v4 hq3_v4 hq4_v4 hq5_v4 hq8_v4 hq9_v4 hq10_v4 hq13_v4 hq14_v4 hq15_v4 hq17_v4 hq18_v4 hq24_v4 hq25_v4 hq35_v4 hq36_v4 hq38_v4 hq39_v4 ⟨show (0 : Int) ≤ t14.toInt by omega, show t14.toInt ≤ (2147483647 : Int) by omega⟩ hM_v4 hA_f13 (by show (2147483647 - t14.toInt).toNat < n4; omega) _ _ _ hP hD hS (lv_sub hl [0, 1, 2] rfl)
    exact lp4 _ 0 v f3 w g hIv hCf3 hRf3 rfl rfl rfl rfl rfl rfl rfl rfl rfl rfl rfl rfl rfl rfl rfl rfl rfl rfl rfl rfl ⟨by decide, by decide⟩ hM_v hA_f3 (Nat.lt_succ_self _) _ _ _ hP hD hS (lv_sub hl [0, 1, 2] rfl)
  · skip
    subst g2
    refine lv_if_ne (tgt := 9) hx hb dX11_image_4 (by decide) (fun c0 => absurd (by decide) c0) (fun _ => ?_)
    refine lv_iconst (v := (-1)) hx hb dX11_image_7 (by decide) ?_
    exact ret (-1) (v, f, w, g) _ _ _ _ _ _ rfl ⟨hM_v, hA_f, hIv, hCf, hRf, rfl, rfl, rfl, rfl, rfl, rfl, rfl, rfl, rfl, rfl, rfl, rfl, rfl, rfl, rfl, rfl, rfl, rfl, rfl, rfl⟩ hP hD hS dX11_image_8 (Nat.le_refl _) (Nat.le_refl _)
set_option maxHeartbeats 4000000 in
set_option maxRecDepth 100000 in
theorem sY_X11_back_1 (l : Launch) (dC : Nat → ClassId) (dI : Nat → Nat → Nat) (cy : Nat → ClassId) (y0 : Nat) (r : Nat → Nat) (p1 : Int32) (v : Nat → Int32) (f : Nat → Nat → Int32) (w : Int64) (g : Nat → Int64) (hIv : YI v) (hCf : YC f) (hRf : progOK (f 4) (f 5) (v 9).toInt.toNat)  : ctI l (dC, dI) cy yX11_back cX11_back 3 .int 2 80 0 0 ((Nat → Int32) × (Nat → Nat → Int32) × (Int64) × (Nat → Int64)) [.ref y0, .int p1] (YW cy y0 r v f w g) (fun r u => KV [35, 36] u.1 v ∧ KF [23] u.2.1 f ∧ YI u.1 ∧ YC u.2.1 ∧ progOK (u.2.1 4) (u.2.1 5) (u.1 9).toInt.toNat ∧ u.1 0 = v 0 ∧ u.1 1 = v 1 ∧ u.1 2 = v 2 ∧ u.1 3 = v 3 ∧ u.1 4 = v 4 ∧ u.1 5 = v 5 ∧ u.1 8 = v 8 ∧ u.1 9 = v 9 ∧ u.1 10 = v 10 ∧ u.1 13 = v 13 ∧ u.1 14 = v 14 ∧ u.1 15 = v 15 ∧ u.1 17 = v 17 ∧ u.1 18 = v 18 ∧ u.1 24 = v 24 ∧ u.1 25 = v 25 ∧ u.1 38 = v 38 ∧ u.1 39 = v 39) (fun u => YW cy y0 r u.1 u.2.1 u.2.2.1 u.2.2.2) := by
  refine ctI_of (by decide) (Nat.le_of_ble_eq_true rfl) (fun p e s m below meth c A ls Q hx hb hml hts hown hE hP hD hA hl ret => ?_)
  have hUv : (v 35).toInt + (v 36).toInt ≤ 40 := hIv.2
  have hM_v : KV [35, 36] v v := fun _ _ => rfl
  have hA_f : KF [23] f f := fun _ _ => rfl
  have hown : s.vm.findClass RX11 = some m.cls := hown
  have hS : va_S A s.heap s.heap [] := va_S.rf
  have hl : lv_has ls 3 [(0, .ref y0), (1, .int p1)] := hl
  refine lv_iload_n hx hb dX11_back_0 rfl (lv_at hl 1 rfl) ?_
  refine cbSi (n := 1) (rest := []) hx hb hml hown hts hE hP hD hS hA (sY_X11_isBox_1 l dC dI cy y0 r p1 v f w g hIv hCf hRf ) k_2048 k_2049 k_114 k_2050 (by decide +kernel) ⟨Nat.le_of_ble_eq_true rfl, Nat.le_of_ble_eq_true rfl⟩ (rfl) hl.1 rfl (Nat.le_of_ble_eq_true rfl) dX11_back_1 (fun r1 u H locs hw hP hD hS => ?_)
  rcases hw with ⟨g2, g2_0, g2_1⟩ | ⟨g2⟩
  · skip
    subst g2
    refine lv_if_eq (tgt := 16) hx hb dX11_back_4 (by decide) (fun c0 => absurd c0 (by decide)) (fun _ => ?_)
    refine lv_aload_n hx hb dX11_back_7 rfl (lv_at hl 0 rfl) ?_
    refine va_get (D := (dC, dI)) (ci := 11) (v := .ref (r 77)) (C := RX11) (T := TX11) (N := 79) hx hb hts inB_11 hown hE.1 hP 0 rfl rfl 77 (by decide) (hts _ k_1397) (fun _ h9 => h9) rfl dX11_back_8 ?_
    refine lv_iload_n hx hb dX11_back_11 rfl (lv_at hl 1 rfl) ?_
    refine ldZ hx hb hE hP 37 rfl (vp_in_iff.mpr ⟨by omega, by omega⟩) rfl rfl dX11_back_12 ?_
    refine lv_topi (fun t3 et3 => ?_)
    refine lv_if_ne (tgt := 18) hx hb dX11_back_13 (by decide) (fun c4 => ?_) (fun c4 => ?_)
    · skip
      have zc4 : ¬ (t3.toInt = 0) := by rw [fa_eq, show (0 : Int32).toInt = 0 from by decide] at c4; exact c4
      refine lv_iconst (v := 0) hx hb dX11_back_18 (by decide) ?_
      refine lv_istore_n (lv' := [(2, .int 0), (0, .ref y0), (1, .int p1)]) hx hb dX11_back_19 rfl hl (by decide) rfl (fun ls hl => ?_)
      have lp5 : ∀ (n5 : Nat) (l2_5 : Int32) (v5 : Nat → Int32) (f5 : Nat → Nat → Int32) (w5 : Int64) (g5 : Nat → Int64), YI v5 → YC f5 → progOK (f5 4) (f5 5) (v5 9).toInt.toNat → v5 0 = (v 0) → v5 1 = (v 1) → v5 2 = (v 2) → v5 3 = (v 3) → v5 4 = (v 4) → v5 5 = (v 5) → v5 8 = (v 8) → v5 9 = (v 9) → v5 10 = (v 10) → v5 13 = (v 13) → v5 14 = (v 14) → v5 15 = (v 15) → v5 17 = (v 17) → v5 18 = (v 18) → v5 24 = (v 24) → v5 25 = (v 25) → v5 35 = (v 35) → v5 36 = (v 36) → v5 38 = (v 38) → v5 39 = (v 39) → ((0 : Int) ≤ l2_5.toInt ∧ l2_5.toInt ≤ 2147483647) → KV [35, 36] v5 v → KF [23] f5 f → (2147483647 - l2_5.toInt).toNat < n5 → ∀ (H : Heap) (locs : List Loc) (ls : Array Slot), va_P (dC, dI) vwCl (YW cy y0 r v5 f5 w5 g5) H → va_D A (YW cy y0 r v5 f5 w5 g5) → va_S A s.heap H locs → lv_has ls 3 [(2, .int l2_5), (0, .ref y0), (1, .int p1)] → W p l e { frames := 2, cells := 0, slots := 0, locals := 80 } s m ([.ref y0, .int p1] : List Value).toArray below meth c H locs 0 0 Q (F0 m 20 ls []) := by
        intro n5
        induction n5 with
        | zero => intro l2_5 v5 f5 w5 g5 hIv5 hCf5 hRf5 hq0_v5 hq1_v5 hq2_v5 hq3_v5 hq4_v5 hq5_v5 hq8_v5 hq9_v5 hq10_v5 hq13_v5 hq14_v5 hq15_v5 hq17_v5 hq18_v5 hq24_v5 hq25_v5 hq35_v5 hq36_v5 hq38_v5 hq39_v5 hr2_5 hM_v5 hA_f5 hm; exact absurd hm (Nat.not_lt_zero _)
        | succ n5 ih5 =>
          intro l2_5 v5 f5 w5 g5 hIv5 hCf5 hRf5 hq0_v5 hq1_v5 hq2_v5 hq3_v5 hq4_v5 hq5_v5 hq8_v5 hq9_v5 hq10_v5 hq13_v5 hq14_v5 hq15_v5 hq17_v5 hq18_v5 hq24_v5 hq25_v5 hq35_v5 hq36_v5 hq38_v5 hq39_v5 hr2_5 hM_v5 hA_f5 hm5 H locs ls hP hD hS hl
          have hUv5 : (v5 35).toInt + (v5 36).toInt ≤ 40 := hIv5.2
          have zq9_v5 := congrArg Int32.toInt hq9_v5
          refine lv_iload_n hx hb dX11_back_20 rfl (lv_at hl 0 rfl) ?_
          refine lv_bipush (v := 39) hx hb dX11_back_21 (by decide) ?_
          refine lv_icmp_ge (tgt := 49) hx hb dX11_back_23 (by decide) (fun c6 => ?_) (fun c6 => ?_)
          · skip
            have zc6 : 39 ≤ l2_5.toInt := by rw [fa_le, show (39 : Int32).toInt = 39 from by decide] at c6; exact c6
            refine lv_aload_n hx hb dX11_back_49 rfl (lv_at hl 1 rfl) ?_
            refine lv_iconst (v := 0) hx hb dX11_back_50 (by decide) ?_
            refine va_put (D := (dC, dI)) (ci := 11) (v := .int 0) (ty := tyX11 62) (C := RX11) (T := TX11) (N := 79) hx hb hts inB_11 tyX11 tyX11_ok nmX11 hown hE.1 hP hD hS 0 rfl rfl 62 (by decide) (hts _ k_1382) (fun _ h9 => h9) rfl (tyX11_ok 62 (by decide)) rfl rfl (Nat.le_of_ble_eq_true rfl) dX11_back_51 (fun H locs hP hD hS => ?_)
            have hP : va_P (dC, dI) vwCl (YW cy y0 r (upd v5 35 0) f5 w5 g5) H := hP
            have hD : va_D A (YW cy y0 r (upd v5 35 0) f5 w5 g5) := hD
            refine lv_aload_n hx hb dX11_back_54 rfl (lv_at hl 1 rfl) ?_
            refine lv_iconst (v := 0) hx hb dX11_back_55 (by decide) ?_
            refine va_put (D := (dC, dI)) (ci := 11) (v := .int 0) (ty := tyX11 63) (C := RX11) (T := TX11) (N := 79) hx hb hts inB_11 tyX11 tyX11_ok nmX11 hown hE.1 hP hD hS 0 rfl rfl 63 (by decide) (hts _ k_1383) (fun _ h9 => h9) rfl (tyX11_ok 63 (by decide)) rfl rfl (Nat.le_of_ble_eq_true rfl) dX11_back_56 (fun H locs hP hD hS => ?_)
            have hP : va_P (dC, dI) vwCl (YW cy y0 r (upd (upd v5 35 0) 36 0) f5 w5 g5) H := hP
            have hD : va_D A (YW cy y0 r (upd (upd v5 35 0) 36 0) f5 w5 g5) := hD
            refine lv_aload_n hx hb dX11_back_59 rfl (lv_at hl 1 rfl) ?_
            refine va_get (D := (dC, dI)) (ci := 11) (v := .ref (r 59)) (C := RX11) (T := TX11) (N := 79) hx hb hts inB_11 hown hE.1 hP 0 rfl rfl 59 (by decide) (hts _ k_1379) (fun _ h9 => h9) rfl dX11_back_60 ?_
            refine lv_bipush (v := 37) hx hb dX11_back_63 (by decide) ?_
            refine ldI hx hb hE hP 24 rfl (vp_in_nI (n := 37) (by decide) (by decide)) rfl rfl dX11_back_65 ?_
            refine lv_topi (fun t7 et7 => ?_)
            have zt7 : 37 % 39 < 6 ∨ 12 ≤ 37 % 39 ∨ (-1 ≤ t7.toInt ∧ t7.toInt ≤ 5) := by rw [et7]; exact wear_ld hCf5.1 (show 37 < 39 by omega)
            exact ret t7 ((upd (upd v5 35 0) 36 0), f5, w5, g5) _ _ _ _ _ _ rfl ⟨(KV.up (j := 36) (x := 0) (KV.up (j := 35) (x := 0) hM_v5 rfl) rfl), hA_f5, ⟨(YIb.upd (j := 36) (x := 0) (YIb.upd (j := 35) (x := 0) hIv5.1 (by decide) (by decide)) (by decide) (by decide)), (by have q9 := hIv5.2; have q0 : (0 : Int32).toInt = 0 := (by decide); show (0 : Int32).toInt + (0 : Int32).toInt ≤ 40; omega)⟩, hCf5, hRf5, (show v5 0 = v 0 from hq0_v5), (show v5 1 = v 1 from hq1_v5), (show v5 2 = v 2 from hq2_v5), (show v5 3 = v 3 from hq3_v5), (show v5 4 = v 4 from hq4_v5), (show v5 5 = v 5 from hq5_v5), (show v5 8 = v 8 from hq8_v5), (show v5 9 = v 9 from hq9_v5), (show v5 10 = v 10 from hq10_v5), (show v5 13 = v 13 from hq13_v5), (show v5 14 = v 14 from hq14_v5), (show v5 15 = v 15 from hq15_v5), (show v5 17 = v 17 from hq17_v5), (show v5 18 = v 18 from hq18_v5), (show v5 24 = v 24 from hq24_v5), (show v5 25 = v 25 from hq25_v5), (show v5 38 = v 38 from hq38_v5), (show v5 39 = v 39 from hq39_v5)⟩ hP hD hS dX11_back_66 (Nat.le_refl _) (Nat.le_refl _)
          · skip
            have zc6 : ¬ (39 ≤ l2_5.toInt) := by rw [fa_le, show (39 : Int32).toInt = 39 from by decide] at c6; exact c6
            refine lv_aload_n hx hb dX11_back_26 rfl (lv_at hl 1 rfl) ?_
            refine va_get (D := (dC, dI)) (ci := 11) (v := .ref (r 59)) (C := RX11) (T := TX11) (N := 79) hx hb hts inB_11 hown hE.1 hP 0 rfl rfl 59 (by decide) (hts _ k_1379) (fun _ h9 => h9) rfl dX11_back_27 ?_
            refine lv_iload_n hx hb dX11_back_30 rfl (lv_at hl 0 rfl) ?_
            refine lv_aload_n hx hb dX11_back_31 rfl (lv_at hl 1 rfl) ?_
            refine va_get (D := (dC, dI)) (ci := 11) (v := .ref (r 78)) (C := RX11) (T := TX11) (N := 79) hx hb hts inB_11 hown hE.1 hP 0 rfl rfl 78 (by decide) (hts _ k_1398) (fun _ h9 => h9) rfl dX11_back_32 ?_
            refine lv_bipush (v := 39) hx hb dX11_back_35 (by decide) ?_
            refine lv_iload_n hx hb dX11_back_37 rfl (lv_at hl 2 rfl) ?_
            refine lv_imul hx hb dX11_back_38 ?_
            refine lv_topi (fun t8 et8 => ?_)
            have rg9 := fb_rng p1
            have zt8 : t8.toInt = 39 * p1.toInt := by rw [et8]; exact mul_i (by decide) rfl (by omega) (by omega)
            refine lv_iload_n hx hb dX11_back_39 rfl (lv_at hl 0 rfl) ?_
            refine lv_iadd hx hb dX11_back_40 ?_
            refine lv_topi (fun t10 et10 => ?_)
            have rg11 := fb_rng t8
            have rg12 := fb_rng l2_5
            have zt10 : t10.toInt = t8.toInt + l2_5.toInt := by rw [et10]; exact add_i rfl rfl (by omega) (by omega)
            refine ldI hx hb hE hP 38 rfl (vp_in_iff.mpr ⟨by omega, by omega⟩) rfl rfl dX11_back_41 ?_
            refine lv_topi (fun t13 et13 => ?_)
            have zt13 : t10.toInt.toNat % 39 < 6 ∨ 12 ≤ t10.toInt.toNat % 39 ∨ (-1 ≤ t13.toInt ∧ t13.toInt ≤ 5) := by rw [et13]; exact wear_ld hCf5.2.2.2.2.2 (show t10.toInt.toNat < 117 by omega)
            refine stI hx hb hE hP hD hS 24 rfl (vp_in_iff.mpr ⟨by omega, by omega⟩) rfl dX11_back_42 (fun H locs hP hD hS => ?_)
            obtain ⟨f14, ef14, hP, hD⟩ : ∃ fz9, fz9 = upd2 f5 23 (upd (f5 23) l2_5.toNatClampNeg t13) ∧ va_P (dC, dI) vwCl (YW cy y0 r v5 fz9 w5 g5) H ∧ va_D A (YW cy y0 r v5 fz9 w5 g5) := ⟨_, rfl, hP, hD⟩
            have hCf14 : YC f14 := by rw [ef14]; exact ⟨(wear_st hCf5.1 (by show l2_5.toInt.toNat % 39 < 6 ∨ 12 ≤ l2_5.toInt.toNat % 39 ∨ (-1 ≤ t13.toInt ∧ t13.toInt ≤ 5); omega)), hCf5.2.1, hCf5.2.2.1, hCf5.2.2.2.1, hCf5.2.2.2.2.1, hCf5.2.2.2.2.2⟩
            have hRf14 : progOK (f14 4) (f14 5) (v5 9).toInt.toNat := by rw [ef14]; exact hRf5
            have hA_f14 : KF [23] f14 f := by rw [ef14]; exact KF.up hA_f5 rfl
            obtain ⟨t15, et15⟩ : ∃ y : Int32, y = l2_5 + 1 := ⟨_, rfl⟩
            have zt15 : t15.toInt = l2_5.toInt + 1 := by rw [et15]; exact add_i rfl (by decide) (by omega) (by omega)
            refine lv_iinc (v := t15) (lv' := [(2, .int t15), (0, .ref y0), (1, .int p1)]) hx hb dX11_back_43 hl (k := 0) rfl (by rw [et15]; rfl) (by decide) rfl (fun ls hl => ?_)
            refine lv_goto (tgt := 20) hx hb dX11_back_46 (by decide) ?_
            have rg16 := fb_rng t15
            exact ih5 t15 v5 f14 w5 g5 hIv5 hCf14 hRf14 hq0_v5 hq1_v5 hq2_v5 hq3_v5 hq4_v5 hq5_v5 hq8_v5 hq9_v5 hq10_v5 hq13_v5 hq14_v5 hq15_v5 hq17_v5 hq18_v5 hq24_v5 hq25_v5 hq35_v5 hq36_v5 hq38_v5 hq39_v5 ⟨show (0 : Int) ≤ t15.toInt by omega, show t15.toInt ≤ (2147483647 : Int) by omega⟩ hM_v5 hA_f14 (by show (2147483647 - t15.toInt).toNat < n5; omega) _ _ _ hP hD hS (lv_sub hl [0, 1, 2] rfl)
      exact lp5 _ 0 v f w g hIv hCf hRf rfl rfl rfl rfl rfl rfl rfl rfl rfl rfl rfl rfl rfl rfl rfl rfl rfl rfl rfl rfl ⟨by decide, by decide⟩ hM_v hA_f (Nat.lt_succ_self _) _ _ _ hP hD hS (lv_sub hl [0, 1, 2] rfl)
    · skip
      have zc4 : t3.toInt = 0 := by rw [fa_eq, show (0 : Int32).toInt = 0 from by decide] at c4; exact c4
      refine lv_iconst (v := (-1)) hx hb dX11_back_16 (by decide) ?_
      exact ret (-1) (v, f, w, g) _ _ _ _ _ _ rfl ⟨hM_v, hA_f, hIv, hCf, hRf, rfl, rfl, rfl, rfl, rfl, rfl, rfl, rfl, rfl, rfl, rfl, rfl, rfl, rfl, rfl, rfl, rfl, rfl⟩ hP hD hS dX11_back_17 (Nat.le_refl _) (Nat.le_refl _)
  · skip
    subst g2
    refine lv_if_eq (tgt := 16) hx hb dX11_back_4 (by decide) (fun _ => ?_) (fun c0 => absurd (by decide) c0)
    refine lv_iconst (v := (-1)) hx hb dX11_back_16 (by decide) ?_
    exact ret (-1) (v, f, w, g) _ _ _ _ _ _ rfl ⟨hM_v, hA_f, hIv, hCf, hRf, rfl, rfl, rfl, rfl, rfl, rfl, rfl, rfl, rfl, rfl, rfl, rfl, rfl, rfl, rfl, rfl, rfl, rfl⟩ hP hD hS dX11_back_17 (Nat.le_refl _) (Nat.le_refl _)
set_option maxHeartbeats 4000000 in
set_option maxRecDepth 100000 in
theorem sY_X11_about_1 (l : Launch) (dC : Nat → ClassId) (dI : Nat → Nat → Nat) (cy : Nat → ClassId) (y0 : Nat) (r : Nat → Nat) (p1 : Int32) (v : Nat → Int32) (f : Nat → Nat → Int32) (w : Int64) (g : Nat → Int64) (hIv : YI v) (hCf : YC f) (hRf : progOK (f 4) (f 5) (v 9).toInt.toNat)  : ctI l (dC, dI) cy yX11_about cX11_about 2 .int 1 60 0 0 Unit [.ref y0, .int p1] (YW cy y0 r v f w g) (fun r u => True) (fun u => YW cy y0 r v f w g) := by
  refine ctI_of (by decide) (Nat.le_of_ble_eq_true rfl) (fun p e s m below meth c A ls Q hx hb hml hts hown hE hP hD hA hl ret => ?_)
  have hUv : (v 35).toInt + (v 36).toInt ≤ 40 := hIv.2
  have hown : s.vm.findClass RX11 = some m.cls := hown
  have hS : va_S A s.heap s.heap [] := va_S.rf
  have hl : lv_has ls 2 [(0, .ref y0), (1, .int p1)] := hl
  refine lv_iload_n hx hb dX11_about_0 rfl (lv_at hl 1 rfl) ?_
  by_cases c1 : p1 = 0
  · skip
    refine lv_tableIn (off := 71) (tgt := 72) hx hb dX11_about_1 (by rw [c1]; decide) (by rw [c1]; decide) (by rw [c1]; decide) (by decide) ?_
    have zc1 : p1.toInt = 0 := by rw [fa_eq, show (0 : Int32).toInt = 0 from by decide] at c1; exact c1
    refine lv_aload_n hx hb dX11_about_72 rfl (lv_at hl 0 rfl) ?_
    refine va_get (D := (dC, dI)) (ci := 11) (v := .int (v 24)) (C := RX11) (T := TX11) (N := 79) hx hb hts inB_11 hown hE.1 hP 0 rfl rfl 48 (by decide) (hts _ k_1368) (fun _ h9 => h9) rfl dX11_about_73 ?_
    have b24_v : 0 ≤ (v 24).toInt ∧ (v 24).toInt ≤ 6 := YIb.b hIv.1 24 (by decide)
    exact ret (v 24) () _ _ _ _ _ _ rfl trivial hP hD hS dX11_about_76 (Nat.le_refl _) (Nat.le_refl _)
  · skip
    have zc1 : ¬ (p1.toInt = 0) := by rw [fa_eq, show (0 : Int32).toInt = 0 from by decide] at c1; exact c1
    by_cases c2 : p1 = 1
    · skip
      refine lv_tableIn (off := 76) (tgt := 77) hx hb dX11_about_1 (by rw [c2]; decide) (by rw [c2]; decide) (by rw [c2]; decide) (by decide) ?_
      have zc2 : p1.toInt = 1 := by rw [fa_eq, show (1 : Int32).toInt = 1 from by decide] at c2; exact c2
      refine lv_aload_n hx hb dX11_about_77 rfl (lv_at hl 0 rfl) ?_
      refine va_get (D := (dC, dI)) (ci := 11) (v := .int (v 25)) (C := RX11) (T := TX11) (N := 79) hx hb hts inB_11 hown hE.1 hP 0 rfl rfl 49 (by decide) (hts _ k_1369) (fun _ h9 => h9) rfl dX11_about_78 ?_
      have b25_v : 0 ≤ (v 25).toInt ∧ (v 25).toInt ≤ 6 := YIb.b hIv.1 25 (by decide)
      exact ret (v 25) () _ _ _ _ _ _ rfl trivial hP hD hS dX11_about_81 (Nat.le_refl _) (Nat.le_refl _)
    · skip
      have zc2 : ¬ (p1.toInt = 1) := by rw [fa_eq, show (1 : Int32).toInt = 1 from by decide] at c2; exact c2
      by_cases c3 : p1 = 2
      · skip
        refine lv_tableIn (off := 81) (tgt := 82) hx hb dX11_about_1 (by rw [c3]; decide) (by rw [c3]; decide) (by rw [c3]; decide) (by decide) ?_
        have zc3 : p1.toInt = 2 := by rw [fa_eq, show (2 : Int32).toInt = 2 from by decide] at c3; exact c3
        refine lv_aload_n hx hb dX11_about_82 rfl (lv_at hl 0 rfl) ?_
        refine va_get (D := (dC, dI)) (ci := 11) (v := .int (v 26)) (C := RX11) (T := TX11) (N := 79) hx hb hts inB_11 hown hE.1 hP 0 rfl rfl 50 (by decide) (hts _ k_1370) (fun _ h9 => h9) rfl dX11_about_83 ?_
        exact ret (v 26) () _ _ _ _ _ _ rfl trivial hP hD hS dX11_about_86 (Nat.le_refl _) (Nat.le_refl _)
      · skip
        have zc3 : ¬ (p1.toInt = 2) := by rw [fa_eq, show (2 : Int32).toInt = 2 from by decide] at c3; exact c3
        by_cases c4 : p1 = 3
        · skip
          refine lv_tableIn (off := 86) (tgt := 87) hx hb dX11_about_1 (by rw [c4]; decide) (by rw [c4]; decide) (by rw [c4]; decide) (by decide) ?_
          have zc4 : p1.toInt = 3 := by rw [fa_eq, show (3 : Int32).toInt = 3 from by decide] at c4; exact c4
          refine lv_aload_n hx hb dX11_about_87 rfl (lv_at hl 0 rfl) ?_
          refine va_get (D := (dC, dI)) (ci := 11) (v := .int (v 27)) (C := RX11) (T := TX11) (N := 79) hx hb hts inB_11 hown hE.1 hP 0 rfl rfl 51 (by decide) (hts _ k_1371) (fun _ h9 => h9) rfl dX11_about_88 ?_
          exact ret (v 27) () _ _ _ _ _ _ rfl trivial hP hD hS dX11_about_91 (Nat.le_refl _) (Nat.le_refl _)
        · skip
          have zc4 : ¬ (p1.toInt = 3) := by rw [fa_eq, show (3 : Int32).toInt = 3 from by decide] at c4; exact c4
          by_cases c5 : p1 = 4
          · skip
            refine lv_tableIn (off := 91) (tgt := 92) hx hb dX11_about_1 (by rw [c5]; decide) (by rw [c5]; decide) (by rw [c5]; decide) (by decide) ?_
            have zc5 : p1.toInt = 4 := by rw [fa_eq, show (4 : Int32).toInt = 4 from by decide] at c5; exact c5
            refine lv_aload_n hx hb dX11_about_92 rfl (lv_at hl 0 rfl) ?_
            refine va_get (D := (dC, dI)) (ci := 11) (v := .int (v 28)) (C := RX11) (T := TX11) (N := 79) hx hb hts inB_11 hown hE.1 hP 0 rfl rfl 52 (by decide) (hts _ k_1372) (fun _ h9 => h9) rfl dX11_about_93 ?_
            exact ret (v 28) () _ _ _ _ _ _ rfl trivial hP hD hS dX11_about_96 (Nat.le_refl _) (Nat.le_refl _)
          · skip
            have zc5 : ¬ (p1.toInt = 4) := by rw [fa_eq, show (4 : Int32).toInt = 4 from by decide] at c5; exact c5
            by_cases c6 : p1 = 5
            · skip
              refine lv_tableIn (off := 96) (tgt := 97) hx hb dX11_about_1 (by rw [c6]; decide) (by rw [c6]; decide) (by rw [c6]; decide) (by decide) ?_
              have zc6 : p1.toInt = 5 := by rw [fa_eq, show (5 : Int32).toInt = 5 from by decide] at c6; exact c6
              refine lv_aload_n hx hb dX11_about_97 rfl (lv_at hl 0 rfl) ?_
              refine va_get (D := (dC, dI)) (ci := 11) (v := .ref (r 59)) (C := RX11) (T := TX11) (N := 79) hx hb hts inB_11 hown hE.1 hP 0 rfl rfl 59 (by decide) (hts _ k_1379) (fun _ h9 => h9) rfl dX11_about_98 ?_
              refine lv_bipush (v := 37) hx hb dX11_about_101 (by decide) ?_
              refine ldI hx hb hE hP 24 rfl (vp_in_nI (n := 37) (by decide) (by decide)) rfl rfl dX11_about_103 ?_
              refine lv_topi (fun t7 et7 => ?_)
              have zt7 : 37 % 39 < 6 ∨ 12 ≤ 37 % 39 ∨ (-1 ≤ t7.toInt ∧ t7.toInt ≤ 5) := by rw [et7]; exact wear_ld hCf.1 (show 37 < 39 by omega)
              exact ret t7 () _ _ _ _ _ _ rfl trivial hP hD hS dX11_about_104 (Nat.le_refl _) (Nat.le_refl _)
            · skip
              have zc6 : ¬ (p1.toInt = 5) := by rw [fa_eq, show (5 : Int32).toInt = 5 from by decide] at c6; exact c6
              by_cases c8 : p1 = 6
              · skip
                refine lv_tableIn (off := 104) (tgt := 105) hx hb dX11_about_1 (by rw [c8]; decide) (by rw [c8]; decide) (by rw [c8]; decide) (by decide) ?_
                have zc8 : p1.toInt = 6 := by rw [fa_eq, show (6 : Int32).toInt = 6 from by decide] at c8; exact c8
                refine lv_aload_n hx hb dX11_about_105 rfl (lv_at hl 0 rfl) ?_
                refine va_get (D := (dC, dI)) (ci := 11) (v := .ref (r 59)) (C := RX11) (T := TX11) (N := 79) hx hb hts inB_11 hown hE.1 hP 0 rfl rfl 59 (by decide) (hts _ k_1379) (fun _ h9 => h9) rfl dX11_about_106 ?_
                refine lv_bipush (v := 38) hx hb dX11_about_109 (by decide) ?_
                refine ldI hx hb hE hP 24 rfl (vp_in_nI (n := 38) (by decide) (by decide)) rfl rfl dX11_about_111 ?_
                refine lv_topi (fun t9 et9 => ?_)
                have zt9 : 38 % 39 < 6 ∨ 12 ≤ 38 % 39 ∨ (-1 ≤ t9.toInt ∧ t9.toInt ≤ 5) := by rw [et9]; exact wear_ld hCf.1 (show 38 < 39 by omega)
                exact ret t9 () _ _ _ _ _ _ rfl trivial hP hD hS dX11_about_112 (Nat.le_refl _) (Nat.le_refl _)
              · skip
                have zc8 : ¬ (p1.toInt = 6) := by rw [fa_eq, show (6 : Int32).toInt = 6 from by decide] at c8; exact c8
                by_cases c10 : p1 = 7
                · skip
                  refine lv_tableIn (off := 112) (tgt := 113) hx hb dX11_about_1 (by rw [c10]; decide) (by rw [c10]; decide) (by rw [c10]; decide) (by decide) ?_
                  have zc10 : p1.toInt = 7 := by rw [fa_eq, show (7 : Int32).toInt = 7 from by decide] at c10; exact c10
                  refine lv_aload_n hx hb dX11_about_113 rfl (lv_at hl 0 rfl) ?_
                  refine va_get (D := (dC, dI)) (ci := 11) (v := .int (v 35)) (C := RX11) (T := TX11) (N := 79) hx hb hts inB_11 hown hE.1 hP 0 rfl rfl 62 (by decide) (hts _ k_1382) (fun _ h9 => h9) rfl dX11_about_114 ?_
                  have b35_v : 0 ≤ (v 35).toInt ∧ (v 35).toInt ≤ 40 := YIb.b hIv.1 35 (by decide)
                  exact ret (v 35) () _ _ _ _ _ _ rfl trivial hP hD hS dX11_about_117 (Nat.le_refl _) (Nat.le_refl _)
                · skip
                  have zc10 : ¬ (p1.toInt = 7) := by rw [fa_eq, show (7 : Int32).toInt = 7 from by decide] at c10; exact c10
                  by_cases c11 : p1 = 8
                  · skip
                    refine lv_tableIn (off := 117) (tgt := 118) hx hb dX11_about_1 (by rw [c11]; decide) (by rw [c11]; decide) (by rw [c11]; decide) (by decide) ?_
                    have zc11 : p1.toInt = 8 := by rw [fa_eq, show (8 : Int32).toInt = 8 from by decide] at c11; exact c11
                    refine lv_aload_n hx hb dX11_about_118 rfl (lv_at hl 0 rfl) ?_
                    refine va_get (D := (dC, dI)) (ci := 11) (v := .int (v 36)) (C := RX11) (T := TX11) (N := 79) hx hb hts inB_11 hown hE.1 hP 0 rfl rfl 63 (by decide) (hts _ k_1383) (fun _ h9 => h9) rfl dX11_about_119 ?_
                    have b36_v : 0 ≤ (v 36).toInt ∧ (v 36).toInt ≤ 40 := YIb.b hIv.1 36 (by decide)
                    exact ret (v 36) () _ _ _ _ _ _ rfl trivial hP hD hS dX11_about_122 (Nat.le_refl _) (Nat.le_refl _)
                  · skip
                    have zc11 : ¬ (p1.toInt = 8) := by rw [fa_eq, show (8 : Int32).toInt = 8 from by decide] at c11; exact c11
                    by_cases c12 : p1 = 9
                    · skip
                      refine lv_tableIn (off := 122) (tgt := 123) hx hb dX11_about_1 (by rw [c12]; decide) (by rw [c12]; decide) (by rw [c12]; decide) (by decide) ?_
                      have zc12 : p1.toInt = 9 := by rw [fa_eq, show (9 : Int32).toInt = 9 from by decide] at c12; exact c12
                      refine lv_aload_n hx hb dX11_about_123 rfl (lv_at hl 0 rfl) ?_
                      refine va_get (D := (dC, dI)) (ci := 11) (v := .int (v 38)) (C := RX11) (T := TX11) (N := 79) hx hb hts inB_11 hown hE.1 hP 0 rfl rfl 73 (by decide) (hts _ k_1393) (fun _ h9 => h9) rfl dX11_about_124 ?_
                      have b38_v : 0 ≤ (v 38).toInt ∧ (v 38).toInt ≤ 30 := YIb.b hIv.1 38 (by decide)
                      exact ret (v 38) () _ _ _ _ _ _ rfl trivial hP hD hS dX11_about_127 (Nat.le_refl _) (Nat.le_refl _)
                    · skip
                      have zc12 : ¬ (p1.toInt = 9) := by rw [fa_eq, show (9 : Int32).toInt = 9 from by decide] at c12; exact c12
                      by_cases c13 : p1 = 10
                      · skip
                        refine lv_tableIn (off := 127) (tgt := 128) hx hb dX11_about_1 (by rw [c13]; decide) (by rw [c13]; decide) (by rw [c13]; decide) (by decide) ?_
                        have zc13 : p1.toInt = 10 := by rw [fa_eq, show (10 : Int32).toInt = 10 from by decide] at c13; exact c13
                        refine lv_aload_n hx hb dX11_about_128 rfl (lv_at hl 0 rfl) ?_
                        refine va_get (D := (dC, dI)) (ci := 11) (v := .int (v 39)) (C := RX11) (T := TX11) (N := 79) hx hb hts inB_11 hown hE.1 hP 0 rfl rfl 74 (by decide) (hts _ k_1394) (fun _ h9 => h9) rfl dX11_about_129 ?_
                        have b39_v : 0 ≤ (v 39).toInt ∧ (v 39).toInt ≤ 100000 := YIb.b hIv.1 39 (by decide)
                        exact ret (v 39) () _ _ _ _ _ _ rfl trivial hP hD hS dX11_about_132 (Nat.le_refl _) (Nat.le_refl _)
                      · skip
                        have zc13 : ¬ (p1.toInt = 10) := by rw [fa_eq, show (10 : Int32).toInt = 10 from by decide] at c13; exact c13
                        by_cases c14 : p1 = 11
                        · skip
                          refine lv_tableIn (off := 132) (tgt := 133) hx hb dX11_about_1 (by rw [c14]; decide) (by rw [c14]; decide) (by rw [c14]; decide) (by decide) ?_
                          have zc14 : p1.toInt = 11 := by rw [fa_eq, show (11 : Int32).toInt = 11 from by decide] at c14; exact c14
                          refine lv_aload_n hx hb dX11_about_133 rfl (lv_at hl 0 rfl) ?_
                          refine va_get (D := (dC, dI)) (ci := 11) (v := .int (v 0)) (C := RX11) (T := TX11) (N := 79) hx hb hts inB_11 hown hE.1 hP 0 rfl rfl 1 (by decide) (hts _ k_1321) (fun _ h9 => h9) rfl dX11_about_134 ?_
                          have b0_v : 0 ≤ (v 0).toInt ∧ (v 0).toInt ≤ 1600 := YIb.b hIv.1 0 (by decide)
                          exact ret (v 0) () _ _ _ _ _ _ rfl trivial hP hD hS dX11_about_137 (Nat.le_refl _) (Nat.le_refl _)
                        · skip
                          have zc14 : ¬ (p1.toInt = 11) := by rw [fa_eq, show (11 : Int32).toInt = 11 from by decide] at c14; exact c14
                          by_cases c15 : p1 = 12
                          · skip
                            refine lv_tableIn (off := 137) (tgt := 138) hx hb dX11_about_1 (by rw [c15]; decide) (by rw [c15]; decide) (by rw [c15]; decide) (by decide) ?_
                            have zc15 : p1.toInt = 12 := by rw [fa_eq, show (12 : Int32).toInt = 12 from by decide] at c15; exact c15
                            refine lv_aload_n hx hb dX11_about_138 rfl (lv_at hl 0 rfl) ?_
                            refine va_get (D := (dC, dI)) (ci := 11) (v := .int (v 12)) (C := RX11) (T := TX11) (N := 79) hx hb hts inB_11 hown hE.1 hP 0 rfl rfl 21 (by decide) (hts _ k_1341) (fun _ h9 => h9) rfl dX11_about_139 ?_
                            exact ret (v 12) () _ _ _ _ _ _ rfl trivial hP hD hS dX11_about_142 (Nat.le_refl _) (Nat.le_refl _)
                          · skip
                            have zc15 : ¬ (p1.toInt = 12) := by rw [fa_eq, show (12 : Int32).toInt = 12 from by decide] at c15; exact c15
                            by_cases c16 : p1 = 13
                            · skip
                              refine lv_tableIn (off := 142) (tgt := 143) hx hb dX11_about_1 (by rw [c16]; decide) (by rw [c16]; decide) (by rw [c16]; decide) (by decide) ?_
                              have zc16 : p1.toInt = 13 := by rw [fa_eq, show (13 : Int32).toInt = 13 from by decide] at c16; exact c16
                              refine lv_aload_n hx hb dX11_about_143 rfl (lv_at hl 0 rfl) ?_
                              refine va_get (D := (dC, dI)) (ci := 11) (v := .int (v 37)) (C := RX11) (T := TX11) (N := 79) hx hb hts inB_11 hown hE.1 hP 0 rfl rfl 67 (by decide) (hts _ k_1387) (fun _ h9 => h9) rfl dX11_about_144 ?_
                              have b37_v : 0 ≤ (v 37).toInt ∧ (v 37).toInt ≤ 6 := YIb.b hIv.1 37 (by decide)
                              exact ret (v 37) () _ _ _ _ _ _ rfl trivial hP hD hS dX11_about_147 (Nat.le_refl _) (Nat.le_refl _)
                            · skip
                              have zc16 : ¬ (p1.toInt = 13) := by rw [fa_eq, show (13 : Int32).toInt = 13 from by decide] at c16; exact c16
                              refine lv_tableOut (tgt := 148) hx hb dX11_about_1 (by omega) (by decide) ?_
                              refine lv_iconst (v := (-1)) hx hb dX11_about_148 (by decide) ?_
                              exact ret (-1) () _ _ _ _ _ _ rfl trivial hP hD hS dX11_about_149 (Nat.le_refl _) (Nat.le_refl _)
