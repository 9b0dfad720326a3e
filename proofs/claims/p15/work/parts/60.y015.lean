set_option maxHeartbeats 4000000 in
set_option maxRecDepth 100000 in
theorem sY_X11_illOfRow_1 (l : Launch) (dC : Nat → ClassId) (dI : Nat → Nat → Nat) (cy : Nat → ClassId) (y0 : Nat) (r : Nat → Nat)  (v : Nat → Int32) (f : Nat → Nat → Int32) (w : Int64) (g : Nat → Int64) (hIv : YI v) (hCf : YC f) (hRf : progOK (f 4) (f 5) (v 9).toInt.toNat)  : ctI l (dC, dI) cy yX11_illOfRow cX11_illOfRow 3 .int 1 60 0 0 Unit [.ref y0] (YW cy y0 r v f w g) (fun r u => True) (fun u => YW cy y0 r v f w g) := by
  refine ctI_of (by decide) (Nat.le_of_ble_eq_true rfl) (fun p e s m below meth c A ls Q hx hb hml hts hown hE hP hD hA hl ret => ?_)
  have hUv : (v 35).toInt + (v 36).toInt ≤ 40 := hIv.2
  have hown : s.vm.findClass RX11 = some m.cls := hown
  have hS : va_S A s.heap s.heap [] := va_S.rf
  have hl : lv_has ls 3 [(0, .ref y0)] := hl
  refine lv_iconst (v := 0) hx hb dX11_illOfRow_0 (by decide) ?_
  refine lv_istore_n (lv' := [(1, .int 0), (0, .ref y0)]) hx hb dX11_illOfRow_1 rfl hl (by decide) rfl (fun ls hl => ?_)
  refine lv_iconst (v := 0) hx hb dX11_illOfRow_2 (by decide) ?_
  refine lv_istore_n (lv' := [(2, .int 0), (1, .int 0), (0, .ref y0)]) hx hb dX11_illOfRow_3 rfl hl (by decide) rfl (fun ls hl => ?_)
  have lp1 : ∀ (n1 : Nat) (l1_1 : Int32) (l2_1 : Int32), ((0 : Int) ≤ l2_1.toInt ∧ l2_1.toInt ≤ 2147483647) → (2147483647 - l2_1.toInt).toNat < n1 → ∀ (H : Heap) (locs : List Loc) (ls : Array Slot), va_P (dC, dI) vwCl (YW cy y0 r v f w g) H → va_D A (YW cy y0 r v f w g) → va_S A s.heap H locs → lv_has ls 3 [(2, .int l2_1), (1, .int l1_1), (0, .ref y0)] → W p l e { frames := 1, cells := 0, slots := 0, locals := 60 } s m ([.ref y0] : List Value).toArray below meth c H locs 0 0 Q (F0 m 4 ls []) := by
    intro n1
    induction n1 with
    | zero => intro l1_1 l2_1 hr2_1 hm; exact absurd hm (Nat.not_lt_zero _)
    | succ n1 ih1 =>
      intro l1_1 l2_1 hr2_1 hm1 H locs ls hP hD hS hl
      refine lv_iload_n hx hb dX11_illOfRow_4 rfl (lv_at hl 0 rfl) ?_
      refine lv_aload_n hx hb dX11_illOfRow_5 rfl (lv_at hl 2 rfl) ?_
      refine va_get (D := (dC, dI)) (ci := 11) (v := .int (v 24)) (C := RX11) (T := TX11) (N := 79) hx hb hts inB_11 hown hE.1 hP 0 rfl rfl 48 (by decide) (hts _ k_1368) (fun _ h9 => h9) rfl dX11_illOfRow_6 ?_
      have b24_v : 0 ≤ (v 24).toInt ∧ (v 24).toInt ≤ 6 := YIb.b hIv.1 24 (by decide)
      refine lv_icmp_ge (tgt := 50) hx hb dX11_illOfRow_9 (by decide) (fun c2 => ?_) (fun c2 => ?_)
      · skip
        have zc2 : (v 24).toInt ≤ l2_1.toInt := by rw [fa_le] at c2; exact c2
        have rg3 := fb_rng l2_1
        have rg4 := fb_rng (v 24)
        refine lv_iload_n hx hb dX11_illOfRow_50 rfl (lv_at hl 1 rfl) ?_
        exact ret l1_1 () _ _ _ _ _ _ rfl trivial hP hD hS dX11_illOfRow_51 (Nat.le_refl _) (Nat.le_refl _)
      · skip
        have zc2 : ¬ ((v 24).toInt ≤ l2_1.toInt) := by rw [fa_le] at c2; exact c2
        have rg5 := fb_rng l2_1
        have rg6 := fb_rng (v 24)
        refine lv_iload_n hx hb dX11_illOfRow_12 rfl (lv_at hl 1 rfl) ?_
        refine lv_aload_n hx hb dX11_illOfRow_13 rfl (lv_at hl 2 rfl) ?_
        refine va_get (D := (dC, dI)) (ci := 11) (v := .ref (r 65)) (C := RX11) (T := TX11) (N := 79) hx hb hts inB_11 hown hE.1 hP 0 rfl rfl 65 (by decide) (hts _ k_1385) (fun _ h9 => h9) rfl dX11_illOfRow_14 ?_
        refine lv_iload_n hx hb dX11_illOfRow_17 rfl (lv_at hl 0 rfl) ?_
        refine ldI hx hb hE hP 28 rfl (vp_in_iff.mpr ⟨by omega, by omega⟩) rfl rfl dX11_illOfRow_18 ?_
        refine lv_topi (fun t7 et7 => ?_)
        have zt7 : -1 ≤ t7.toInt ∧ t7.toInt ≤ 5 := by rw [et7]; exact hCf.2.2.2.1 l2_1.toInt.toNat (show l2_1.toInt.toNat < 6 by omega)
        refine lv_if_ge (tgt := 26) hx hb dX11_illOfRow_19 (by decide) (fun c8 => ?_) (fun c8 => ?_)
        · skip
          have zc8 : 0 ≤ t7.toInt := by rw [fa_le, show (0 : Int32).toInt = 0 from by decide] at c8; exact c8
          refine lv_aload_n hx hb dX11_illOfRow_26 rfl (lv_at hl 2 rfl) ?_
          refine va_get (D := (dC, dI)) (ci := 11) (v := .ref (r 66)) (C := RX11) (T := TX11) (N := 79) hx hb hts inB_11 hown hE.1 hP 0 rfl rfl 66 (by decide) (hts _ k_1386) (fun _ h9 => h9) rfl dX11_illOfRow_27 ?_
          refine lv_bipush (v := 6) hx hb dX11_illOfRow_30 (by decide) ?_
          refine lv_iload_n hx hb dX11_illOfRow_32 rfl (lv_at hl 0 rfl) ?_
          refine lv_imul hx hb dX11_illOfRow_33 ?_
          refine lv_topi (fun t9 et9 => ?_)
          have zt9 : t9.toInt = 6 * l2_1.toInt := by rw [et9]; exact mul_i (by decide) rfl (by omega) (by omega)
          refine lv_aload_n hx hb dX11_illOfRow_34 rfl (lv_at hl 2 rfl) ?_
          refine va_get (D := (dC, dI)) (ci := 11) (v := .ref (r 65)) (C := RX11) (T := TX11) (N := 79) hx hb hts inB_11 hown hE.1 hP 0 rfl rfl 65 (by decide) (hts _ k_1385) (fun _ h9 => h9) rfl dX11_illOfRow_35 ?_
          refine lv_iload_n hx hb dX11_illOfRow_38 rfl (lv_at hl 0 rfl) ?_
          refine ldI hx hb hE hP 28 rfl (vp_in_iff.mpr ⟨by omega, by omega⟩) rfl rfl dX11_illOfRow_39 ?_
          refine tI (y := t7) et7.symm ?_
          refine lv_iadd hx hb dX11_illOfRow_40 ?_
          refine lv_topi (fun t10 et10 => ?_)
          have rg11 := fb_rng t9
          have rg12 := fb_rng t7
          have zt10 : t10.toInt = t9.toInt + t7.toInt := by rw [et10]; exact add_i rfl rfl (by omega) (by omega)
          refine ldI hx hb hE hP 29 rfl (vp_in_iff.mpr ⟨by omega, by omega⟩) rfl rfl dX11_illOfRow_41 ?_
          refine lv_topi (fun t13 et13 => ?_)
          refine lv_iadd hx hb dX11_illOfRow_42 ?_
          refine lv_topi (fun t14 et14 => ?_)
          refine lv_istore_n (lv' := [(1, .int t14), (2, .int l2_1), (0, .ref y0)]) hx hb dX11_illOfRow_43 rfl hl (by decide) rfl (fun ls hl => ?_)
          obtain ⟨t15, et15⟩ : ∃ y : Int32, y = l2_1 + 1 := ⟨_, rfl⟩
          have zt15 : t15.toInt = l2_1.toInt + 1 := by rw [et15]; exact add_i rfl (by decide) (by omega) (by omega)
          refine lv_iinc (v := t15) (lv' := [(2, .int t15), (1, .int t14), (0, .ref y0)]) hx hb dX11_illOfRow_44 hl (k := 1) rfl (by rw [et15]; rfl) (by decide) rfl (fun ls hl => ?_)
          refine lv_goto (tgt := 4) hx hb dX11_illOfRow_47 (by decide) ?_
          have rg16 := fb_rng t15
          exact ih1 t14 t15 ⟨show (0 : Int) ≤ t15.toInt by omega, show t15.toInt ≤ (2147483647 : Int) by omega⟩ (by show (2147483647 - t15.toInt).toNat < n1; omega) _ _ _ hP hD hS (lv_sub hl [0, 1, 2] rfl)
        · skip
          have zc8 : ¬ (0 ≤ t7.toInt) := by rw [fa_le, show (0 : Int32).toInt = 0 from by decide] at c8; exact c8
          refine lv_iconst (v := 0) hx hb dX11_illOfRow_22 (by decide) ?_
          refine lv_goto (tgt := 42) hx hb dX11_illOfRow_23 (by decide) ?_
          refine lv_iadd hx hb dX11_illOfRow_42 ?_
          refine lv_topi (fun t17 et17 => ?_)
          have rg18 := fb_rng l1_1
          have zt17 : t17.toInt = l1_1.toInt + 0 := by rw [et17]; exact add_i rfl (by decide) (by omega) (by omega)
          refine lv_istore_n (lv' := [(1, .int t17), (2, .int l2_1), (0, .ref y0)]) hx hb dX11_illOfRow_43 rfl hl (by decide) rfl (fun ls hl => ?_)
          obtain ⟨t19, et19⟩ : ∃ y : Int32, y = l2_1 + 1 := ⟨_, rfl⟩
          have zt19 : t19.toInt = l2_1.toInt + 1 := by rw [et19]; exact add_i rfl (by decide) (by omega) (by omega)
          refine lv_iinc (v := t19) (lv' := [(2, .int t19), (1, .int t17), (0, .ref y0)]) hx hb dX11_illOfRow_44 hl (k := 1) rfl (by rw [et19]; rfl) (by decide) rfl (fun ls hl => ?_)
          refine lv_goto (tgt := 4) hx hb dX11_illOfRow_47 (by decide) ?_
          have rg20 := fb_rng t19
          exact ih1 t17 t19 ⟨show (0 : Int) ≤ t19.toInt by omega, show t19.toInt ≤ (2147483647 : Int) by omega⟩ (by show (2147483647 - t19.toInt).toNat < n1; omega) _ _ _ hP hD hS (lv_sub hl [0, 1, 2] rfl)
  exact lp1 _ 0 0 ⟨by decide, by decide⟩ (Nat.lt_succ_self _) _ _ _ hP hD hS (lv_sub hl [0, 1, 2] rfl)
set_option maxHeartbeats 4000000 in
set_option maxRecDepth 100000 in
theorem sY_X11_dress_1 (l : Launch) (dC : Nat → ClassId) (dI : Nat → Nat → Nat) (cy : Nat → ClassId) (y0 : Nat) (r : Nat → Nat) (p1 : Int32) (v : Nat → Int32) (f : Nat → Nat → Int32) (w : Int64) (g : Nat → Int64) (hIv : YI v) (hCf : YC f) (hRf : progOK (f 4) (f 5) (v 9).toInt.toNat)  : ctI l (dC, dI) cy yX11_dress cX11_dress 7 .int 5 148 0 0 ((Nat → Int32) × (Nat → Nat → Int32) × (Int64) × (Nat → Int64)) [.ref y0, .int p1] (YW cy y0 r v f w g) (fun r u => KV [37] u.1 v ∧ KF [7, 8, 24, 26, 27, 28] u.2.1 f ∧ YI u.1 ∧ YC u.2.1 ∧ progOK (u.2.1 4) (u.2.1 5) (u.1 9).toInt.toNat ∧ u.1 0 = v 0 ∧ u.1 1 = v 1 ∧ u.1 2 = v 2 ∧ u.1 3 = v 3 ∧ u.1 4 = v 4 ∧ u.1 5 = v 5 ∧ u.1 8 = v 8 ∧ u.1 9 = v 9 ∧ u.1 10 = v 10 ∧ u.1 13 = v 13 ∧ u.1 14 = v 14 ∧ u.1 15 = v 15 ∧ u.1 17 = v 17 ∧ u.1 18 = v 18 ∧ u.1 24 = v 24 ∧ u.1 25 = v 25 ∧ u.1 35 = v 35 ∧ u.1 36 = v 36 ∧ u.1 38 = v 38 ∧ u.1 39 = v 39) (fun u => YW cy y0 r u.1 u.2.1 u.2.2.1 u.2.2.2) := by
  refine ctI_of (by decide) (Nat.le_of_ble_eq_true rfl) (fun p e s m below meth c A ls Q hx hb hml hts hown hE hP hD hA hl ret => ?_)
  have hUv : (v 35).toInt + (v 36).toInt ≤ 40 := hIv.2
  have hM_v : KV [37] v v := fun _ _ => rfl
  have hA_f : KF [7, 8, 24, 26, 27, 28] f f := fun _ _ => rfl
  have hown : s.vm.findClass RX11 = some m.cls := hown
  have hS : va_S A s.heap s.heap [] := va_S.rf
  have hl : lv_has ls 7 [(0, .ref y0), (1, .int p1)] := hl
  refine lv_iload_n hx hb dX11_dress_0 rfl (lv_at hl 1 rfl) ?_
  refine lv_iconst (v := 0) hx hb dX11_dress_1 (by decide) ?_
  refine lv_iconst (v := 1) hx hb dX11_dress_2 (by decide) ?_
  have lt1 : (0 : Int32).toInt = 0 := by decide
  have lt2 : (1 : Int32).toInt = 1 := by decide
  refine cbSi (n := 3) (rest := []) hx hb hml hown hts hE hP hD hS hA (sY_X11_isIn_1 0 l dC dI cy y0 r p1 0 1 v f w g hIv hCf hRf ) k_1736 k_1737 k_114 k_1738 (by decide +kernel) ⟨Nat.le_of_ble_eq_true rfl, Nat.le_of_ble_eq_true rfl⟩ (rfl) hl.1 rfl (Nat.le_of_ble_eq_true rfl) dX11_dress_3 (fun r3 u H locs hw hP hD hS => ?_)
  obtain ⟨hG4, hw⟩ := hw
  rcases hw with ⟨g5, g5_0, g5_1⟩ | ⟨g5⟩
  · skip
    subst g5
    refine lv_if_ne (tgt := 11) hx hb dX11_dress_6 (by decide) (fun _ => ?_) (fun c0 => absurd c0 (by decide))
    refine lv_aload_n hx hb dX11_dress_11 rfl (lv_at hl 0 rfl) ?_
    refine cbVv (n := 0) (rest := []) hx hb hml hown hts hE hP hD hS hA (sY_X11_layIlls_1 l dC dI cy y0 r  v f w g hIv hCf hRf ) k_1873 k_1875 k_84 k_114 k_1876 (by decide +kernel) ⟨Nat.le_of_ble_eq_true rfl, Nat.le_of_ble_eq_true rfl⟩ 0 11 rfl rfl (rfl) hl.1 rfl (Nat.le_of_ble_eq_true rfl) dX11_dress_12 (fun u H locs hw hP hD hS => ?_)
    obtain ⟨v6, f7, w8, g9⟩ := u
    obtain ⟨kV_v6, kF_f7, hIv6, hCf7, hRf7, hk0_v6, hk1_v6, hk2_v6, hk3_v6, hk4_v6, hk5_v6, hk8_v6, hk9_v6, hk10_v6, hk13_v6, hk14_v6, hk15_v6, hk17_v6, hk18_v6, hk24_v6, hk25_v6, hk35_v6, hk36_v6, hk38_v6, hk39_v6⟩ := hw
    have hM_v6 : KV [37] v6 v := KV.tr kV_v6 hM_v rfl
    have hA_f7 : KF [7, 8, 24, 26, 27, 28] f7 f := KF.tr kF_f7 hA_f rfl
    have hP : va_P (dC, dI) vwCl (YW cy y0 r v6 f7 w8 g9) H := hP
    have hD : va_D A (YW cy y0 r v6 f7 w8 g9) := hD
    have hUv6 : (v6 35).toInt + (v6 36).toInt ≤ 40 := hIv6.2
    have hq0_v6 : v6 0 = (v 0) := hk0_v6
    have hq1_v6 : v6 1 = (v 1) := hk1_v6
    have hq2_v6 : v6 2 = (v 2) := hk2_v6
    have hq3_v6 : v6 3 = (v 3) := hk3_v6
    have hq4_v6 : v6 4 = (v 4) := hk4_v6
    have hq5_v6 : v6 5 = (v 5) := hk5_v6
    have hq8_v6 : v6 8 = (v 8) := hk8_v6
    have hq9_v6 : v6 9 = (v 9) := hk9_v6
    have zq9_v6 := congrArg Int32.toInt hq9_v6
    have hq10_v6 : v6 10 = (v 10) := hk10_v6
    have hq13_v6 : v6 13 = (v 13) := hk13_v6
    have hq14_v6 : v6 14 = (v 14) := hk14_v6
    have hq15_v6 : v6 15 = (v 15) := hk15_v6
    have hq17_v6 : v6 17 = (v 17) := hk17_v6
    have hq18_v6 : v6 18 = (v 18) := hk18_v6
    have hq24_v6 : v6 24 = (v 24) := hk24_v6
    have hq25_v6 : v6 25 = (v 25) := hk25_v6
    have hq35_v6 : v6 35 = (v 35) := hk35_v6
    have hq36_v6 : v6 36 = (v 36) := hk36_v6
    have hq38_v6 : v6 38 = (v 38) := hk38_v6
    have hq39_v6 : v6 39 = (v 39) := hk39_v6
    refine lv_iconst (v := (-1)) hx hb dX11_dress_15 (by decide) ?_
    refine lv_istore_n (lv' := [(2, .int (-1)), (0, .ref y0), (1, .int p1)]) hx hb dX11_dress_16 rfl hl (by decide) rfl (fun ls hl => ?_)
    refine lv_iconst (v := 0) hx hb dX11_dress_17 (by decide) ?_
    refine lv_istore_n (lv' := [(3, .int 0), (2, .int (-1)), (0, .ref y0), (1, .int p1)]) hx hb dX11_dress_18 rfl hl (by decide) rfl (fun ls hl => ?_)
    refine lv_iconst (v := 0) hx hb dX11_dress_19 (by decide) ?_
    refine lv_istore (lv' := [(4, .int 0), (3, .int 0), (2, .int (-1)), (0, .ref y0), (1, .int p1)]) hx hb dX11_dress_20 hl (by decide) rfl (fun ls hl => ?_)
    have lp10 : ∀ (n10 : Nat) (l2_10 : Int32) (l3_10 : Int32) (l4_10 : Int32) (v10 : Nat → Int32) (f10 : Nat → Nat → Int32) (w10 : Int64) (g10 : Nat → Int64), YI v10 → YC f10 → progOK (f10 4) (f10 5) (v10 9).toInt.toNat → v10 0 = (v 0) → v10 1 = (v 1) → v10 2 = (v 2) → v10 3 = (v 3) → v10 4 = (v 4) → v10 5 = (v 5) → v10 8 = (v 8) → v10 9 = (v 9) → v10 10 = (v 10) → v10 13 = (v 13) → v10 14 = (v 14) → v10 15 = (v 15) → v10 17 = (v 17) → v10 18 = (v 18) → v10 24 = (v 24) → v10 25 = (v 25) → v10 35 = (v 35) → v10 36 = (v 36) → v10 38 = (v 38) → v10 39 = (v 39) → ((0 : Int) ≤ l4_10.toInt ∧ l4_10.toInt ≤ 2147483647) → KV [37] v10 v → KF [7, 8, 24, 26, 27, 28] f10 f → (2147483647 - l4_10.toInt).toNat < n10 → ∀ (H : Heap) (locs : List Loc) (ls : Array Slot), va_P (dC, dI) vwCl (YW cy y0 r v10 f10 w10 g10) H → va_D A (YW cy y0 r v10 f10 w10 g10) → va_S A s.heap H locs → lv_has ls 7 [(4, .int l4_10), (3, .int l3_10), (2, .int l2_10), (0, .ref y0), (1, .int p1)] → W p l e { frames := 5, cells := 0, slots := 0, locals := 148 } s m ([.ref y0, .int p1] : List Value).toArray below meth c H locs 0 0 Q (F0 m 22 ls []) := by
      intro n10
      induction n10 with
      | zero => intro l2_10 l3_10 l4_10 v10 f10 w10 g10 hIv10 hCf10 hRf10 hq0_v10 hq1_v10 hq2_v10 hq3_v10 hq4_v10 hq5_v10 hq8_v10 hq9_v10 hq10_v10 hq13_v10 hq14_v10 hq15_v10 hq17_v10 hq18_v10 hq24_v10 hq25_v10 hq35_v10 hq36_v10 hq38_v10 hq39_v10 hr4_10 hM_v10 hA_f10 hm; exact absurd hm (Nat.not_lt_zero _)
      | succ n10 ih10 =>
        intro l2_10 l3_10 l4_10 v10 f10 w10 g10 hIv10 hCf10 hRf10 hq0_v10 hq1_v10 hq2_v10 hq3_v10 hq4_v10 hq5_v10 hq8_v10 hq9_v10 hq10_v10 hq13_v10 hq14_v10 hq15_v10 hq17_v10 hq18_v10 hq24_v10 hq25_v10 hq35_v10 hq36_v10 hq38_v10 hq39_v10 hr4_10 hM_v10 hA_f10 hm10 H locs ls hP hD hS hl
        have hUv10 : (v10 35).toInt + (v10 36).toInt ≤ 40 := hIv10.2
        have zq9_v10 := congrArg Int32.toInt hq9_v10
        refine lv_iload hx hb dX11_dress_22 (lv_at hl 0 rfl) ?_
        refine lv_aload_n hx hb dX11_dress_24 rfl (lv_at hl 3 rfl) ?_
        refine va_get (D := (dC, dI)) (ci := 11) (v := .int (v10 25)) (C := RX11) (T := TX11) (N := 79) hx hb hts inB_11 hown hE.1 hP 0 rfl rfl 49 (by decide) (hts _ k_1369) (fun _ h9 => h9) rfl dX11_dress_25 ?_
        refine tI (y := (v 25)) hq25_v10 ?_
        have b25_v : 0 ≤ (v 25).toInt ∧ (v 25).toInt ≤ 6 := YIb.b hIv.1 25 (by decide)
        refine lv_iconst (v := 1) hx hb dX11_dress_28 (by decide) ?_
        refine lv_iadd hx hb dX11_dress_29 ?_
        refine lv_topi (fun t11 et11 => ?_)
        have rg12 := fb_rng (v 25)
        have zt11 : t11.toInt = (v 25).toInt + 1 := by rw [et11]; exact add_i rfl (by decide) (by omega) (by omega)
        refine lv_aload_n hx hb dX11_dress_30 rfl (lv_at hl 3 rfl) ?_
        refine va_get (D := (dC, dI)) (ci := 11) (v := .int (v10 24)) (C := RX11) (T := TX11) (N := 79) hx hb hts inB_11 hown hE.1 hP 0 rfl rfl 48 (by decide) (hts _ k_1368) (fun _ h9 => h9) rfl dX11_dress_31 ?_
        refine tI (y := (v 24)) hq24_v10 ?_
        have b24_v : 0 ≤ (v 24).toInt ∧ (v 24).toInt ≤ 6 := YIb.b hIv.1 24 (by decide)
        refine cbSi (n := 2) (rest := [.int l4_10]) hx hb hml hown hts hE hP hD hS hA (sY_X11_power_1 0 l dC dI cy y0 r t11 (v 24) v10 f10 w10 g10 hIv10 hCf10 hRf10 ) k_1877 k_1878 k_114 k_1879 (by decide +kernel) ⟨Nat.le_of_ble_eq_true rfl, Nat.le_of_ble_eq_true rfl⟩ (rfl) hl.1 rfl (Nat.le_of_ble_eq_true rfl) dX11_dress_34 (fun r13 u H locs hw hP hD hS => ?_)
        have hG14 := hw
        refine lv_icmp_ge (tgt := 122) hx hb dX11_dress_37 (by decide) (fun c15 => ?_) (fun c15 => ?_)
        · skip
          have zc15 : r13.toInt ≤ l4_10.toInt := by rw [fa_le] at c15; exact c15
          have rg16 := fb_rng l4_10
          have rg17 := fb_rng r13
          refine lv_aload_n hx hb dX11_dress_122 rfl (lv_at hl 3 rfl) ?_
          refine lv_aload_n hx hb dX11_dress_123 rfl (lv_at hl 3 rfl) ?_
          refine va_get (D := (dC, dI)) (ci := 11) (v := .int (v10 24)) (C := RX11) (T := TX11) (N := 79) hx hb hts inB_11 hown hE.1 hP 0 rfl rfl 48 (by decide) (hts _ k_1368) (fun _ h9 => h9) rfl dX11_dress_124 ?_
          refine tI (y := (v 24)) hq24_v10 ?_
          refine va_put (D := (dC, dI)) (ci := 11) (v := .int (v 24)) (ty := tyX11 67) (C := RX11) (T := TX11) (N := 79) hx hb hts inB_11 tyX11 tyX11_ok nmX11 hown hE.1 hP hD hS 0 rfl rfl 67 (by decide) (hts _ k_1387) (fun _ h9 => h9) rfl (tyX11_ok 67 (by decide)) rfl rfl (Nat.le_of_ble_eq_true rfl) dX11_dress_127 (fun H locs hP hD hS => ?_)
          have hP : va_P (dC, dI) vwCl (YW cy y0 r (upd v10 37 (v 24)) f10 w10 g10) H := hP
          have hD : va_D A (YW cy y0 r (upd v10 37 (v 24)) f10 w10 g10) := hD
          refine lv_iload_n hx hb dX11_dress_130 rfl (lv_at hl 4 rfl) ?_
          refine lv_if_ne (tgt := 138) hx hb dX11_dress_131 (by decide) (fun c18 => ?_) (fun c18 => ?_)
          · skip
            have zc18 : ¬ (p1.toInt = 0) := by rw [fa_eq, show (0 : Int32).toInt = 0 from by decide] at c18; exact c18
            refine lv_iload_n hx hb dX11_dress_138 rfl (lv_at hl 1 rfl) ?_
            exact ret l3_10 ((upd v10 37 (v 24)), f10, w10, g10) _ _ _ _ _ _ rfl ⟨(KV.up (j := 37) (x := (v 24)) hM_v10 rfl), hA_f10, ⟨(YIb.upd (j := 37) (x := (v 24)) hIv10.1 (show (0 : Int) ≤ (v 24).toInt by omega) (show (v 24).toInt ≤ (6 : Int) by omega)), hIv10.2⟩, hCf10, hRf10, hq0_v10, hq1_v10, hq2_v10, hq3_v10, hq4_v10, hq5_v10, hq8_v10, hq9_v10, hq10_v10, hq13_v10, hq14_v10, hq15_v10, hq17_v10, hq18_v10, hq24_v10, hq25_v10, hq35_v10, hq36_v10, hq38_v10, hq39_v10⟩ hP hD hS dX11_dress_139 (Nat.le_refl _) (Nat.le_refl _)
          · skip
            have zc18 : p1.toInt = 0 := by rw [fa_eq, show (0 : Int32).toInt = 0 from by decide] at c18; exact c18
            refine lv_iload_n hx hb dX11_dress_134 rfl (lv_at hl 2 rfl) ?_
            refine lv_goto (tgt := 139) hx hb dX11_dress_135 (by decide) ?_
            exact ret l2_10 ((upd v10 37 (v 24)), f10, w10, g10) _ _ _ _ _ _ rfl ⟨(KV.up (j := 37) (x := (v 24)) hM_v10 rfl), hA_f10, ⟨(YIb.upd (j := 37) (x := (v 24)) hIv10.1 (show (0 : Int) ≤ (v 24).toInt by omega) (show (v 24).toInt ≤ (6 : Int) by omega)), hIv10.2⟩, hCf10, hRf10, hq0_v10, hq1_v10, hq2_v10, hq3_v10, hq4_v10, hq5_v10, hq8_v10, hq9_v10, hq10_v10, hq13_v10, hq14_v10, hq15_v10, hq17_v10, hq18_v10, hq24_v10, hq25_v10, hq35_v10, hq36_v10, hq38_v10, hq39_v10⟩ hP hD hS dX11_dress_139 (Nat.le_refl _) (Nat.le_refl _)
        · skip
          have zc15 : ¬ (r13.toInt ≤ l4_10.toInt) := by rw [fa_le] at c15; exact c15
          have rg19 := fb_rng l4_10
          have rg20 := fb_rng r13
          refine lv_aload_n hx hb dX11_dress_40 rfl (lv_at hl 3 rfl) ?_
          refine lv_iload hx hb dX11_dress_41 (lv_at hl 0 rfl) ?_
          refine cbVi (n := 1) (rest := []) hx hb hml hown hts hE hP hD hS hA (sY_X11_layDress_1 l dC dI cy y0 r l4_10 v10 f10 w10 g10 hIv10 hCf10 hRf10 ⟨show (0 : Int) ≤ l4_10.toInt by omega, show l4_10.toInt ≤ (2147483647 : Int) by omega⟩) k_1880 k_1882 k_85 k_114 k_1883 (by decide +kernel) ⟨Nat.le_of_ble_eq_true rfl, Nat.le_of_ble_eq_true rfl⟩ 0 11 rfl rfl (rfl) hl.1 rfl (Nat.le_of_ble_eq_true rfl) dX11_dress_43 (fun r21 u H locs hw hP hD hS => ?_)
          obtain ⟨v22, f23, w24, g25⟩ := u
          obtain ⟨kV_v22, kF_f23, hIv22, hCf23, hRf23, hk0_v22, hk1_v22, hk2_v22, hk3_v22, hk4_v22, hk5_v22, hk8_v22, hk9_v22, hk10_v22, hk13_v22, hk14_v22, hk15_v22, hk17_v22, hk18_v22, hk24_v22, hk25_v22, hk35_v22, hk36_v22, hk38_v22, hk39_v22⟩ := hw
          have hM_v22 : KV [37] v22 v := KV.tr kV_v22 hM_v10 rfl
          have hA_f23 : KF [7, 8, 24, 26, 27, 28] f23 f := KF.tr kF_f23 hA_f10 rfl
          have hP : va_P (dC, dI) vwCl (YW cy y0 r v22 f23 w24 g25) H := hP
          have hD : va_D A (YW cy y0 r v22 f23 w24 g25) := hD
          have hUv22 : (v22 35).toInt + (v22 36).toInt ≤ 40 := hIv22.2
          have hq0_v22 : v22 0 = (v 0) := hk0_v22.trans hq0_v10
          have hq1_v22 : v22 1 = (v 1) := hk1_v22.trans hq1_v10
          have hq2_v22 : v22 2 = (v 2) := hk2_v22.trans hq2_v10
          have hq3_v22 : v22 3 = (v 3) := hk3_v22.trans hq3_v10
          have hq4_v22 : v22 4 = (v 4) := hk4_v22.trans hq4_v10
          have hq5_v22 : v22 5 = (v 5) := hk5_v22.trans hq5_v10
          have hq8_v22 : v22 8 = (v 8) := hk8_v22.trans hq8_v10
          have hq9_v22 : v22 9 = (v 9) := hk9_v22.trans hq9_v10
          have zq9_v22 := congrArg Int32.toInt hq9_v22
          have hq10_v22 : v22 10 = (v 10) := hk10_v22.trans hq10_v10
          have hq13_v22 : v22 13 = (v 13) := hk13_v22.trans hq13_v10
          have hq14_v22 : v22 14 = (v 14) := hk14_v22.trans hq14_v10
          have hq15_v22 : v22 15 = (v 15) := hk15_v22.trans hq15_v10
          have hq17_v22 : v22 17 = (v 17) := hk17_v22.trans hq17_v10
          have hq18_v22 : v22 18 = (v 18) := hk18_v22.trans hq18_v10
          have hq24_v22 : v22 24 = (v 24) := hk24_v22.trans hq24_v10
          have hq25_v22 : v22 25 = (v 25) := hk25_v22.trans hq25_v10
          have hq35_v22 : v22 35 = (v 35) := hk35_v22.trans hq35_v10
          have hq36_v22 : v22 36 = (v 36) := hk36_v22.trans hq36_v10
          have hq38_v22 : v22 38 = (v 38) := hk38_v22.trans hq38_v10
          have hq39_v22 : v22 39 = (v 39) := hk39_v22.trans hq39_v10
          refine lv_istore (lv' := [(5, .int r21), (4, .int l4_10), (3, .int l3_10), (2, .int l2_10), (0, .ref y0), (1, .int p1)]) hx hb dX11_dress_46 hl (by decide) rfl (fun ls hl => ?_)
          refine lv_iload hx hb dX11_dress_48 (lv_at hl 0 rfl) ?_
          refine lv_if_lt (tgt := 116) hx hb dX11_dress_50 (by decide) (fun c26 => ?_) (fun c26 => ?_)
          · skip
            have zc26 : r21.toInt < 0 := by rw [fa_lt, show (0 : Int32).toInt = 0 from by decide] at c26; exact c26
            obtain ⟨t27, et27⟩ : ∃ y : Int32, y = l4_10 + 1 := ⟨_, rfl⟩
            have zt27 : t27.toInt = l4_10.toInt + 1 := by rw [et27]; exact add_i rfl (by decide) (by omega) (by omega)
            refine lv_iinc (v := t27) (lv' := [(4, .int t27), (5, .int r21), (3, .int l3_10), (2, .int l2_10), (0, .ref y0), (1, .int p1)]) hx hb dX11_dress_116 hl (k := 1) rfl (by rw [et27]; rfl) (by decide) rfl (fun ls hl => ?_)
            refine lv_goto (tgt := 22) hx hb dX11_dress_119 (by decide) ?_
            have rg28 := fb_rng t27
            exact ih10 l2_10 l3_10 t27 v22 f23 w24 g25 hIv22 hCf23 hRf23 hq0_v22 hq1_v22 hq2_v22 hq3_v22 hq4_v22 hq5_v22 hq8_v22 hq9_v22 hq10_v22 hq13_v22 hq14_v22 hq15_v22 hq17_v22 hq18_v22 hq24_v22 hq25_v22 hq35_v22 hq36_v22 hq38_v22 hq39_v22 ⟨show (0 : Int) ≤ t27.toInt by omega, show t27.toInt ≤ (2147483647 : Int) by omega⟩ hM_v22 hA_f23 (by show (2147483647 - t27.toInt).toNat < n10; omega) _ _ _ hP hD hS (lv_sub hl [0, 2, 3, 4, 5] rfl)
          · skip
            have zc26 : ¬ (r21.toInt < 0) := by rw [fa_lt, show (0 : Int32).toInt = 0 from by decide] at c26; exact c26
            refine lv_iload hx hb dX11_dress_53 (lv_at hl 0 rfl) ?_
            refine lv_iload_n hx hb dX11_dress_55 rfl (lv_at hl 3 rfl) ?_
            refine lv_icmp_lt (tgt := 116) hx hb dX11_dress_56 (by decide) (fun c29 => ?_) (fun c29 => ?_)
            · skip
              have zc29 : r21.toInt < l2_10.toInt := by rw [fa_lt] at c29; exact c29
              have rg30 := fb_rng r21
              have rg31 := fb_rng l2_10
              obtain ⟨t32, et32⟩ : ∃ y : Int32, y = l4_10 + 1 := ⟨_, rfl⟩
              have zt32 : t32.toInt = l4_10.toInt + 1 := by rw [et32]; exact add_i rfl (by decide) (by omega) (by omega)
              refine lv_iinc (v := t32) (lv' := [(4, .int t32), (5, .int r21), (3, .int l3_10), (2, .int l2_10), (0, .ref y0), (1, .int p1)]) hx hb dX11_dress_116 hl (k := 1) rfl (by rw [et32]; rfl) (by decide) rfl (fun ls hl => ?_)
              refine lv_goto (tgt := 22) hx hb dX11_dress_119 (by decide) ?_
              have rg33 := fb_rng t32
              exact ih10 l2_10 l3_10 t32 v22 f23 w24 g25 hIv22 hCf23 hRf23 hq0_v22 hq1_v22 hq2_v22 hq3_v22 hq4_v22 hq5_v22 hq8_v22 hq9_v22 hq10_v22 hq13_v22 hq14_v22 hq15_v22 hq17_v22 hq18_v22 hq24_v22 hq25_v22 hq35_v22 hq36_v22 hq38_v22 hq39_v22 ⟨show (0 : Int) ≤ t32.toInt by omega, show t32.toInt ≤ (2147483647 : Int) by omega⟩ hM_v22 hA_f23 (by show (2147483647 - t32.toInt).toNat < n10; omega) _ _ _ hP hD hS (lv_sub hl [0, 2, 3, 4, 5] rfl)
            · skip
              have zc29 : ¬ (r21.toInt < l2_10.toInt) := by rw [fa_lt] at c29; exact c29
              have rg34 := fb_rng r21
              have rg35 := fb_rng l2_10
              refine lv_iload hx hb dX11_dress_59 (lv_at hl 0 rfl) ?_
              refine lv_iload_n hx hb dX11_dress_61 rfl (lv_at hl 3 rfl) ?_
              refine lv_icmp_ne (tgt := 76) hx hb dX11_dress_62 (by decide) (fun c36 => ?_) (fun c36 => ?_)
              · skip
                have zc36 : ¬ (r21.toInt = l2_10.toInt) := by rw [fa_eq] at c36; exact c36
                refine lv_iload hx hb dX11_dress_76 (lv_at hl 0 rfl) ?_
                refine lv_istore_n (lv' := [(2, .int r21), (5, .int r21), (4, .int l4_10), (3, .int l3_10), (0, .ref y0), (1, .int p1)]) hx hb dX11_dress_78 rfl hl (by decide) rfl (fun ls hl => ?_)
                refine lv_aload_n hx hb dX11_dress_79 rfl (lv_at hl 4 rfl) ?_
                refine cbVi (n := 0) (rest := []) hx hb hml hown hts hE hP hD hS hA (sY_X11_illOfRow_1 l dC dI cy y0 r  v22 f23 w24 g25 hIv22 hCf23 hRf23 ) k_1884 k_1886 k_86 k_114 k_1887 (by decide +kernel) ⟨Nat.le_of_ble_eq_true rfl, Nat.le_of_ble_eq_true rfl⟩ 0 11 rfl rfl (rfl) hl.1 rfl (Nat.le_of_ble_eq_true rfl) dX11_dress_80 (fun r37 u H locs hw hP hD hS => ?_)
                refine lv_istore_n (lv' := [(3, .int r37), (2, .int r21), (5, .int r21), (4, .int l4_10), (0, .ref y0), (1, .int p1)]) hx hb dX11_dress_83 rfl hl (by decide) rfl (fun ls hl => ?_)
                refine lv_iconst (v := 0) hx hb dX11_dress_84 (by decide) ?_
                refine lv_istore (lv' := [(6, .int 0), (3, .int r37), (2, .int r21), (5, .int r21), (4, .int l4_10), (0, .ref y0), (1, .int p1)]) hx hb dX11_dress_85 hl (by decide) rfl (fun ls hl => ?_)
                have lp38 : ∀ (n38 : Nat) (l6_38 : Int32) (v38 : Nat → Int32) (f38 : Nat → Nat → Int32) (w38 : Int64) (g38 : Nat → Int64), YI v38 → YC f38 → progOK (f38 4) (f38 5) (v38 9).toInt.toNat → v38 0 = (v 0) → v38 1 = (v 1) → v38 2 = (v 2) → v38 3 = (v 3) → v38 4 = (v 4) → v38 5 = (v 5) → v38 8 = (v 8) → v38 9 = (v 9) → v38 10 = (v 10) → v38 13 = (v 13) → v38 14 = (v 14) → v38 15 = (v 15) → v38 17 = (v 17) → v38 18 = (v 18) → v38 24 = (v 24) → v38 25 = (v 25) → v38 35 = (v 35) → v38 36 = (v 36) → v38 38 = (v 38) → v38 39 = (v 39) → ((0 : Int) ≤ l6_38.toInt ∧ l6_38.toInt ≤ 2147483647) → KV [37] v38 v → KF [7, 8, 24, 26, 27, 28] f38 f → (2147483647 - l6_38.toInt).toNat < n38 → ∀ (H : Heap) (locs : List Loc) (ls : Array Slot), va_P (dC, dI) vwCl (YW cy y0 r v38 f38 w38 g38) H → va_D A (YW cy y0 r v38 f38 w38 g38) → va_S A s.heap H locs → lv_has ls 7 [(6, .int l6_38), (3, .int r37), (2, .int r21), (5, .int r21), (4, .int l4_10), (0, .ref y0), (1, .int p1)] → W p l e { frames := 5, cells := 0, slots := 0, locals := 148 } s m ([.ref y0, .int p1] : List Value).toArray below meth c H locs 0 0 Q (F0 m 87 ls []) := by
                  intro n38
                  induction n38 with
                  | zero => intro l6_38 v38 f38 w38 g38 hIv38 hCf38 hRf38 hq0_v38 hq1_v38 hq2_v38 hq3_v38 hq4_v38 hq5_v38 hq8_v38 hq9_v38 hq10_v38 hq13_v38 hq14_v38 hq15_v38 hq17_v38 hq18_v38 hq24_v38 hq25_v38 hq35_v38 hq36_v38 hq38_v38 hq39_v38 hr6_38 hM_v38 hA_f38 hm; exact absurd hm (Nat.not_lt_zero _)
                  | succ n38 ih38 =>
                    intro l6_38 v38 f38 w38 g38 hIv38 hCf38 hRf38 hq0_v38 hq1_v38 hq2_v38 hq3_v38 hq4_v38 hq5_v38 hq8_v38 hq9_v38 hq10_v38 hq13_v38 hq14_v38 hq15_v38 hq17_v38 hq18_v38 hq24_v38 hq25_v38 hq35_v38 hq36_v38 hq38_v38 hq39_v38 hr6_38 hM_v38 hA_f38 hm38 H locs ls hP hD hS hl
                    have hUv38 : (v38 35).toInt + (v38 36).toInt ≤ 40 := hIv38.2
                    have zq9_v38 := congrArg Int32.toInt hq9_v38
                    refine lv_iload hx hb dX11_dress_87 (lv_at hl 0 rfl) ?_
                    refine lv_aload_n hx hb dX11_dress_89 rfl (lv_at hl 5 rfl) ?_
                    refine va_get (D := (dC, dI)) (ci := 11) (v := .int (v38 24)) (C := RX11) (T := TX11) (N := 79) hx hb hts inB_11 hown hE.1 hP 0 rfl rfl 48 (by decide) (hts _ k_1368) (fun _ h9 => h9) rfl dX11_dress_90 ?_
                    refine tI (y := (v 24)) hq24_v38 ?_
                    have b24_v : 0 ≤ (v 24).toInt ∧ (v 24).toInt ≤ 6 := YIb.b hIv.1 24 (by decide)
                    refine lv_icmp_ge (tgt := 116) hx hb dX11_dress_93 (by decide) (fun c39 => ?_) (fun c39 => ?_)
                    · skip
                      have zc39 : (v 24).toInt ≤ l6_38.toInt := by rw [fa_le] at c39; exact c39
                      have rg40 := fb_rng l6_38
                      have rg41 := fb_rng (v 24)
                      obtain ⟨t42, et42⟩ : ∃ y : Int32, y = l4_10 + 1 := ⟨_, rfl⟩
                      have zt42 : t42.toInt = l4_10.toInt + 1 := by rw [et42]; exact add_i rfl (by decide) (by omega) (by omega)
                      refine lv_iinc (v := t42) (lv' := [(4, .int t42), (6, .int l6_38), (3, .int r37), (2, .int r21), (5, .int r21), (0, .ref y0), (1, .int p1)]) hx hb dX11_dress_116 hl (k := 4) rfl (by rw [et42]; rfl) (by decide) rfl (fun ls hl => ?_)
                      refine lv_goto (tgt := 22) hx hb dX11_dress_119 (by decide) ?_
                      have rg43 := fb_rng t42
                      exact ih10 r21 r37 t42 v38 f38 w38 g38 hIv38 hCf38 hRf38 hq0_v38 hq1_v38 hq2_v38 hq3_v38 hq4_v38 hq5_v38 hq8_v38 hq9_v38 hq10_v38 hq13_v38 hq14_v38 hq15_v38 hq17_v38 hq18_v38 hq24_v38 hq25_v38 hq35_v38 hq36_v38 hq38_v38 hq39_v38 ⟨show (0 : Int) ≤ t42.toInt by omega, show t42.toInt ≤ (2147483647 : Int) by omega⟩ hM_v38 hA_f38 (by show (2147483647 - t42.toInt).toNat < n10; omega) _ _ _ hP hD hS (lv_sub hl [0, 2, 3, 5, 6] rfl)
                    · skip
                      have zc39 : ¬ ((v 24).toInt ≤ l6_38.toInt) := by rw [fa_le] at c39; exact c39
                      have rg44 := fb_rng l6_38
                      have rg45 := fb_rng (v 24)
                      refine lv_aload_n hx hb dX11_dress_96 rfl (lv_at hl 5 rfl) ?_
                      refine va_get (D := (dC, dI)) (ci := 11) (v := .ref (r 64)) (C := RX11) (T := TX11) (N := 79) hx hb hts inB_11 hown hE.1 hP 0 rfl rfl 64 (by decide) (hts _ k_1384) (fun _ h9 => h9) rfl dX11_dress_97 ?_
                      refine lv_iload hx hb dX11_dress_100 (lv_at hl 0 rfl) ?_
                      refine lv_aload_n hx hb dX11_dress_102 rfl (lv_at hl 5 rfl) ?_
                      refine va_get (D := (dC, dI)) (ci := 11) (v := .ref (r 65)) (C := RX11) (T := TX11) (N := 79) hx hb hts inB_11 hown hE.1 hP 0 rfl rfl 65 (by decide) (hts _ k_1385) (fun _ h9 => h9) rfl dX11_dress_103 ?_
                      refine lv_iload hx hb dX11_dress_106 (lv_at hl 0 rfl) ?_
                      refine ldI hx hb hE hP 28 rfl (vp_in_iff.mpr ⟨by omega, by omega⟩) rfl rfl dX11_dress_108 ?_
                      refine lv_topi (fun t46 et46 => ?_)
                      have zt46 : -1 ≤ t46.toInt ∧ t46.toInt ≤ 5 := by rw [et46]; exact hCf38.2.2.2.1 l6_38.toInt.toNat (show l6_38.toInt.toNat < 6 by omega)
                      refine stI hx hb hE hP hD hS 27 rfl (vp_in_iff.mpr ⟨by omega, by omega⟩) rfl dX11_dress_109 (fun H locs hP hD hS => ?_)
                      obtain ⟨f47, ef47, hP, hD⟩ : ∃ fz9, fz9 = upd2 f38 26 (upd (f38 26) l6_38.toNatClampNeg t46) ∧ va_P (dC, dI) vwCl (YW cy y0 r v38 fz9 w38 g38) H ∧ va_D A (YW cy y0 r v38 fz9 w38 g38) := ⟨_, rfl, hP, hD⟩
                      have hCf47 : YC f47 := by rw [ef47]; exact hCf38
                      have hRf47 : progOK (f47 4) (f47 5) (v38 9).toInt.toNat := by rw [ef47]; exact hRf38
                      have hA_f47 : KF [7, 8, 24, 26, 27, 28] f47 f := by rw [ef47]; exact KF.up hA_f38 rfl
                      obtain ⟨t48, et48⟩ : ∃ y : Int32, y = l6_38 + 1 := ⟨_, rfl⟩
                      have zt48 : t48.toInt = l6_38.toInt + 1 := by rw [et48]; exact add_i rfl (by decide) (by omega) (by omega)
                      refine lv_iinc (v := t48) (lv' := [(6, .int t48), (3, .int r37), (2, .int r21), (5, .int r21), (4, .int l4_10), (0, .ref y0), (1, .int p1)]) hx hb dX11_dress_110 hl (k := 0) rfl (by rw [et48]; rfl) (by decide) rfl (fun ls hl => ?_)
                      refine lv_goto (tgt := 87) hx hb dX11_dress_113 (by decide) ?_
                      have rg49 := fb_rng t48
                      exact ih38 t48 v38 f47 w38 g38 hIv38 hCf47 hRf47 hq0_v38 hq1_v38 hq2_v38 hq3_v38 hq4_v38 hq5_v38 hq8_v38 hq9_v38 hq10_v38 hq13_v38 hq14_v38 hq15_v38 hq17_v38 hq18_v38 hq24_v38 hq25_v38 hq35_v38 hq36_v38 hq38_v38 hq39_v38 ⟨show (0 : Int) ≤ t48.toInt by omega, show t48.toInt ≤ (2147483647 : Int) by omega⟩ hM_v38 hA_f47 (by show (2147483647 - t48.toInt).toNat < n38; omega) _ _ _ hP hD hS (lv_sub hl [0, 1, 2, 3, 4, 5, 6] rfl)
                exact lp38 _ 0 v22 f23 w24 g25 hIv22 hCf23 hRf23 hq0_v22 hq1_v22 hq2_v22 hq3_v22 hq4_v22 hq5_v22 hq8_v22 hq9_v22 hq10_v22 hq13_v22 hq14_v22 hq15_v22 hq17_v22 hq18_v22 hq24_v22 hq25_v22 hq35_v22 hq36_v22 hq38_v22 hq39_v22 ⟨by decide, by decide⟩ hM_v22 hA_f23 (Nat.lt_succ_self _) _ _ _ hP hD hS (lv_sub hl [0, 1, 2, 3, 4, 5, 6] rfl)
              · skip
                have zc36 : r21.toInt = l2_10.toInt := by rw [fa_eq] at c36; exact c36
                refine lv_aload_n hx hb dX11_dress_65 rfl (lv_at hl 4 rfl) ?_
                refine cbVi (n := 0) (rest := []) hx hb hml hown hts hE hP hD hS hA (sY_X11_illOfRow_1 l dC dI cy y0 r  v22 f23 w24 g25 hIv22 hCf23 hRf23 ) k_1884 k_1886 k_86 k_114 k_1887 (by decide +kernel) ⟨Nat.le_of_ble_eq_true rfl, Nat.le_of_ble_eq_true rfl⟩ 0 11 rfl rfl (rfl) hl.1 rfl (Nat.le_of_ble_eq_true rfl) dX11_dress_66 (fun r50 u H locs hw hP hD hS => ?_)
                refine lv_iload_n hx hb dX11_dress_69 rfl (lv_at hl 2 rfl) ?_
                refine lv_icmp_lt (tgt := 76) hx hb dX11_dress_70 (by decide) (fun c51 => ?_) (fun c51 => ?_)
                · skip
                  have zc51 : r50.toInt < l3_10.toInt := by rw [fa_lt] at c51; exact c51
                  have rg52 := fb_rng r50
                  have rg53 := fb_rng l3_10
                  refine lv_iload hx hb dX11_dress_76 (lv_at hl 0 rfl) ?_
                  refine lv_istore_n (lv' := [(2, .int r21), (5, .int r21), (4, .int l4_10), (3, .int l3_10), (0, .ref y0), (1, .int p1)]) hx hb dX11_dress_78 rfl hl (by decide) rfl (fun ls hl => ?_)
                  refine lv_aload_n hx hb dX11_dress_79 rfl (lv_at hl 4 rfl) ?_
                  refine cbVi (n := 0) (rest := []) hx hb hml hown hts hE hP hD hS hA (sY_X11_illOfRow_1 l dC dI cy y0 r  v22 f23 w24 g25 hIv22 hCf23 hRf23 ) k_1884 k_1886 k_86 k_114 k_1887 (by decide +kernel) ⟨Nat.le_of_ble_eq_true rfl, Nat.le_of_ble_eq_true rfl⟩ 0 11 rfl rfl (rfl) hl.1 rfl (Nat.le_of_ble_eq_true rfl) dX11_dress_80 (fun r54 u H locs hw hP hD hS => ?_)
                  refine lv_istore_n (lv' := [(3, .int r54), (2, .int r21), (5, .int r21), (4, .int l4_10), (0, .ref y0), (1, .int p1)]) hx hb dX11_dress_83 rfl hl (by decide) rfl (fun ls hl => ?_)
                  refine lv_iconst (v := 0) hx hb dX11_dress_84 (by decide) ?_
                  refine lv_istore (lv' := [(6, .int 0), (3, .int r54), (2, .int r21), (5, .int r21), (4, .int l4_10), (0, .ref y0), (1, .int p1)]) hx hb dX11_dress_85 hl (by decide) rfl (fun ls hl => ?_)
                  have lp55 : ∀ (n55 : Nat) (l6_55 : Int32) (v55 : Nat → Int32) (f55 : Nat → Nat → Int32) (w55 : Int64) (g55 : Nat → Int64), YI v55 → YC f55 → progOK (f55 4) (f55 5) (v55 9).toInt.toNat → v55 0 = (v 0) → v55 1 = (v 1) → v55 2 = (v 2) → v55 3 = (v 3) → v55 4 = (v 4) → v55 5 = (v 5) → v55 8 = (v 8) → v55 9 = (v 9) → v55 10 = (v 10) → v55 13 = (v 13) → v55 14 = (v 14) → v55 15 = (v 15) → v55 17 = (v 17) → v55 18 = (v 18) → v55 24 = (v 24) → v55 25 = (v 25) → v55 35 = (v 35) → v55 36 = (v 36) → v55 38 = (v 38) → v55 39 = (v 39) → ((0 : Int) ≤ l6_55.toInt ∧ l6_55.toInt ≤ 2147483647) → KV [37] v55 v → KF [7, 8, 24, 26, 27, 28] f55 f → (2147483647 - l6_55.toInt).toNat < n55 → ∀ (H : Heap) (locs : List Loc) (ls : Array Slot), va_P (dC, dI) vwCl (YW cy y0 r v55 f55 w55 g55) H → va_D A (YW cy y0 r v55 f55 w55 g55) → va_S A s.heap H locs → lv_has ls 7 [(6, .int l6_55), (3, .int r54), (2, .int r21), (5, .int r21), (4, .int l4_10), (0, .ref y0), (1, .int p1)] → W p l e { frames := 5, cells := 0, slots := 0, locals := 148 } s m ([.ref y0, .int p1] : List Value).toArray below meth c H locs 0 0 Q (F0 m 87 ls []) := by
                    intro n55
                    induction n55 with
                    | zero => intro l6_55 v55 f55 w55 g55 hIv55 hCf55 hRf55 hq0_v55 hq1_v55 hq2_v55 hq3_v55 hq4_v55 hq5_v55 hq8_v55 hq9_v55 hq10_v55 hq13_v55 hq14_v55 hq15_v55 hq17_v55 hq18_v55 hq24_v55 hq25_v55 hq35_v55 hq36_v55 hq38_v55 hq39_v55 hr6_55 hM_v55 hA_f55 hm; exact absurd hm (Nat.not_lt_zero _)
                    | succ n55 ih55 =>
                      intro l6_55 v55 f55 w55 g55 hIv55 hCf55 hRf55 hq0_v55 hq1_v55 hq2_v55 hq3_v55 hq4_v55 hq5_v55 hq8_v55 hq9_v55 hq10_v55 hq13_v55 hq14_v55 hq15_v55 hq17_v55 hq18_v55 hq24_v55 hq25_v55 hq35_v55 hq36_v55 hq38_v55 hq39_v55 hr6_55 hM_v55 hA_f55 hm55 H locs ls hP hD hS hl
                      have hUv55 : (v55 35).toInt + (v55 36).toInt ≤ 40 := hIv55.2
                      have zq9_v55 := congrArg Int32.toInt hq9_v55
                      refine lv_iload hx hb dX11_dress_87 (lv_at hl 0 rfl) ?_
                      refine lv_aload_n hx hb dX11_dress_89 rfl (lv_at hl 5 rfl) ?_
                      refine va_get (D := (dC, dI)) (ci := 11) (v := .int (v55 24)) (C := RX11) (T := TX11) (N := 79) hx hb hts inB_11 hown hE.1 hP 0 rfl rfl 48 (by decide) (hts _ k_1368) (fun _ h9 => h9) rfl dX11_dress_90 ?_
                      refine tI (y := (v 24)) hq24_v55 ?_
                      have b24_v : 0 ≤ (v 24).toInt ∧ (v 24).toInt ≤ 6 := YIb.b hIv.1 24 (by decide)
                      refine lv_icmp_ge (tgt := 116) hx hb dX11_dress_93 (by decide) (fun c56 => ?_) (fun c56 => ?_)
                      · skip
                        have zc56 : (v 24).toInt ≤ l6_55.toInt := by rw [fa_le] at c56; exact c56
                        have rg57 := fb_rng l6_55
                        have rg58 := fb_rng (v 24)
                        obtain ⟨t59, et59⟩ : ∃ y : Int32, y = l4_10 + 1 := ⟨_, rfl⟩
                        have zt59 : t59.toInt = l4_10.toInt + 1 := by rw [et59]; exact add_i rfl (by decide) (by omega) (by omega)
                        refine lv_iinc (v := t59) (lv' := [(4, .int t59), (6, .int l6_55), (3, .int r54), (2, .int r21), (5, .int r21), (0, .ref y0), (1, .int p1)]) hx hb dX11_dress_116 hl (k := 4) rfl (by rw [et59]; rfl) (by decide) rfl (fun ls hl => ?_)
                        refine lv_goto (tgt := 22) hx hb dX11_dress_119 (by decide) ?_
                        have rg60 := fb_rng t59
                        exact ih10 r21 r54 t59 v55 f55 w55 g55 hIv55 hCf55 hRf55 hq0_v55 hq1_v55 hq2_v55 hq3_v55 hq4_v55 hq5_v55 hq8_v55 hq9_v55 hq10_v55 hq13_v55 hq14_v55 hq15_v55 hq17_v55 hq18_v55 hq24_v55 hq25_v55 hq35_v55 hq36_v55 hq38_v55 hq39_v55 ⟨show (0 : Int) ≤ t59.toInt by omega, show t59.toInt ≤ (2147483647 : Int) by omega⟩ hM_v55 hA_f55 (by show (2147483647 - t59.toInt).toNat < n10; omega) _ _ _ hP hD hS (lv_sub hl [0, 2, 3, 5, 6] rfl)
                      · skip
                        have zc56 : ¬ ((v 24).toInt ≤ l6_55.toInt) := by rw [fa_le] at c56; exact c56
                        have rg61 := fb_rng l6_55
                        have rg62 := fb_rng (v 24)
                        refine lv_aload_n hx hb dX11_dress_96 rfl (lv_at hl 5 rfl) ?_
                        refine va_get (D := (dC, dI)) (ci := 11) (v := .ref (r 64)) (C := RX11) (T := TX11) (N := 79) hx hb hts inB_11 hown hE.1 hP 0 rfl rfl 64 (by decide) (hts _ k_1384) (fun _ h9 => h9) rfl dX11_dress_97 ?_
                        refine lv_iload hx hb dX11_dress_100 (lv_at hl 0 rfl) ?_
                        refine lv_aload_n hx hb dX11_dress_102 rfl (lv_at hl 5 rfl) ?_
                        refine va_get (D := (dC, dI)) (ci := 11) (v := .ref (r 65)) (C := RX11) (T := TX11) (N := 79) hx hb hts inB_11 hown hE.1 hP 0 rfl rfl 65 (by decide) (hts _ k_1385) (fun _ h9 => h9) rfl dX11_dress_103 ?_
                        refine lv_iload hx hb dX11_dress_106 (lv_at hl 0 rfl) ?_
                        refine ldI hx hb hE hP 28 rfl (vp_in_iff.mpr ⟨by omega, by omega⟩) rfl rfl dX11_dress_108 ?_
                        refine lv_topi (fun t63 et63 => ?_)
                        have zt63 : -1 ≤ t63.toInt ∧ t63.toInt ≤ 5 := by rw [et63]; exact hCf55.2.2.2.1 l6_55.toInt.toNat (show l6_55.toInt.toNat < 6 by omega)
                        refine stI hx hb hE hP hD hS 27 rfl (vp_in_iff.mpr ⟨by omega, by omega⟩) rfl dX11_dress_109 (fun H locs hP hD hS => ?_)
                        obtain ⟨f64, ef64, hP, hD⟩ : ∃ fz9, fz9 = upd2 f55 26 (upd (f55 26) l6_55.toNatClampNeg t63) ∧ va_P (dC, dI) vwCl (YW cy y0 r v55 fz9 w55 g55) H ∧ va_D A (YW cy y0 r v55 fz9 w55 g55) := ⟨_, rfl, hP, hD⟩
                        have hCf64 : YC f64 := by rw [ef64]; exact hCf55
                        have hRf64 : progOK (f64 4) (f64 5) (v55 9).toInt.toNat := by rw [ef64]; exact hRf55
                        have hA_f64 : KF [7, 8, 24, 26, 27, 28] f64 f := by rw [ef64]; exact KF.up hA_f55 rfl
                        obtain ⟨t65, et65⟩ : ∃ y : Int32, y = l6_55 + 1 := ⟨_, rfl⟩
                        have zt65 : t65.toInt = l6_55.toInt + 1 := by rw [et65]; exact add_i rfl (by decide) (by omega) (by omega)
                        refine lv_iinc (v := t65) (lv' := [(6, .int t65), (3, .int r54), (2, .int r21), (5, .int r21), (4, .int l4_10), (0, .ref y0), (1, .int p1)]) hx hb dX11_dress_110 hl (k := 0) rfl (by rw [et65]; rfl) (by decide) rfl (fun ls hl => ?_)
                        refine lv_goto (tgt := 87) hx hb dX11_dress_113 (by decide) ?_
                        have rg66 := fb_rng t65
                        exact ih55 t65 v55 f64 w55 g55 hIv55 hCf64 hRf64 hq0_v55 hq1_v55 hq2_v55 hq3_v55 hq4_v55 hq5_v55 hq8_v55 hq9_v55 hq10_v55 hq13_v55 hq14_v55 hq15_v55 hq17_v55 hq18_v55 hq24_v55 hq25_v55 hq35_v55 hq36_v55 hq38_v55 hq39_v55 ⟨show (0 : Int) ≤ t65.toInt by omega, show t65.toInt ≤ (2147483647 : Int) by omega⟩ hM_v55 hA_f64 (by show (2147483647 - t65.toInt).toNat < n55; omega) _ _ _ hP hD hS (lv_sub hl [0, 1, 2, 3, 4, 5, 6] rfl)
                  exact lp55 _ 0 v22 f23 w24 g25 hIv22 hCf23 hRf23 hq0_v22 hq1_v22 hq2_v22 hq3_v22 hq4_v22 hq5_v22 hq8_v22 hq9_v22 hq10_v22 hq13_v22 hq14_v22 hq15_v22 hq17_v22 hq18_v22 hq24_v22 hq25_v22 hq35_v22 hq36_v22 hq38_v22 hq39_v22 ⟨by decide, by decide⟩ hM_v22 hA_f23 (Nat.lt_succ_self _) _ _ _ hP hD hS (lv_sub hl [0, 1, 2, 3, 4, 5, 6] rfl)
                · skip
                  have zc51 : ¬ (r50.toInt < l3_10.toInt) := by rw [fa_lt] at c51; exact c51
                  have rg67 := fb_rng r50
                  have rg68 := fb_rng l3_10
                  refine lv_goto (tgt := 116) hx hb dX11_dress_73 (by decide) ?_
                  obtain ⟨t69, et69⟩ : ∃ y : Int32, y = l4_10 + 1 := ⟨_, rfl⟩
                  have zt69 : t69.toInt = l4_10.toInt + 1 := by rw [et69]; exact add_i rfl (by decide) (by omega) (by omega)
                  refine lv_iinc (v := t69) (lv' := [(4, .int t69), (5, .int r21), (3, .int l3_10), (2, .int l2_10), (0, .ref y0), (1, .int p1)]) hx hb dX11_dress_116 hl (k := 1) rfl (by rw [et69]; rfl) (by decide) rfl (fun ls hl => ?_)
                  refine lv_goto (tgt := 22) hx hb dX11_dress_119 (by decide) ?_
                  have rg70 := fb_rng t69
                  exact ih10 l2_10 l3_10 t69 v22 f23 w24 g25 hIv22 hCf23 hRf23 hq0_v22 hq1_v22 hq2_v22 hq3_v22 hq4_v22 hq5_v22 hq8_v22 hq9_v22 hq10_v22 hq13_v22 hq14_v22 hq15_v22 hq17_v22 hq18_v22 hq24_v22 hq25_v22 hq35_v22 hq36_v22 hq38_v22 hq39_v22 ⟨show (0 : Int) ≤ t69.toInt by omega, show t69.toInt ≤ (2147483647 : Int) by omega⟩ hM_v22 hA_f23 (by show (2147483647 - t69.toInt).toNat < n10; omega) _ _ _ hP hD hS (lv_sub hl [0, 2, 3, 4, 5] rfl)
    exact lp10 _ (-1) 0 0 v6 f7 w8 g9 hIv6 hCf7 hRf7 hq0_v6 hq1_v6 hq2_v6 hq3_v6 hq4_v6 hq5_v6 hq8_v6 hq9_v6 hq10_v6 hq13_v6 hq14_v6 hq15_v6 hq17_v6 hq18_v6 hq24_v6 hq25_v6 hq35_v6 hq36_v6 hq38_v6 hq39_v6 ⟨by decide, by decide⟩ hM_v6 hA_f7 (Nat.lt_succ_self _) _ _ _ hP hD hS (lv_sub hl [0, 1, 2, 3, 4] rfl)
  · skip
    subst g5
    refine lv_if_ne (tgt := 11) hx hb dX11_dress_6 (by decide) (fun c0 => absurd (by decide) c0) (fun _ => ?_)
    refine lv_iconst (v := (-1)) hx hb dX11_dress_9 (by decide) ?_
    exact ret (-1) (v, f, w, g) _ _ _ _ _ _ rfl ⟨hM_v, hA_f, hIv, hCf, hRf, rfl, rfl, rfl, rfl, rfl, rfl, rfl, rfl, rfl, rfl, rfl, rfl, rfl, rfl, rfl, rfl, rfl, rfl, rfl, rfl⟩ hP hD hS dX11_dress_10 (Nat.le_refl _) (Nat.le_refl _)
set_option maxHeartbeats 4000000 in
set_option maxRecDepth 100000 in
theorem sY_X11_isSewn_1 (l : Launch) (dC : Nat → ClassId) (dI : Nat → Nat → Nat) (cy : Nat → ClassId) (y0 : Nat) (r : Nat → Nat) (p1 : Int32) (p2 : Int32) (p3 : Int32) (p4 : Int32) (v : Nat → Int32) (f : Nat → Nat → Int32) (w : Int64) (g : Nat → Int64) (hIv : YI v) (hCf : YC f) (hRf : progOK (f 4) (f 5) (v 9).toInt.toNat) (hp1 : (0 : Int) ≤ p1.toInt ∧ p1.toInt ≤ 5) (hp2 : (0 : Int) ≤ p2.toInt ∧ p2.toInt ≤ 5) : ctI l (dC, dI) cy yX11_isSewn cX11_isSewn 5 .boolean 4 126 0 0 ((Nat → Int32) × (Nat → Nat → Int32) × (Int64) × (Nat → Int64)) [.ref y0, .int p1, .int p2, .int p3, .int p4] (YW cy y0 r v f w g) (fun r u => KV [] u.1 v ∧ KF [7, 8, 24] u.2.1 f ∧ YI u.1 ∧ YC u.2.1 ∧ progOK (u.2.1 4) (u.2.1 5) (u.1 9).toInt.toNat ∧ u.1 0 = v 0 ∧ u.1 1 = v 1 ∧ u.1 2 = v 2 ∧ u.1 3 = v 3 ∧ u.1 4 = v 4 ∧ u.1 5 = v 5 ∧ u.1 8 = v 8 ∧ u.1 9 = v 9 ∧ u.1 10 = v 10 ∧ u.1 13 = v 13 ∧ u.1 14 = v 14 ∧ u.1 15 = v 15 ∧ u.1 17 = v 17 ∧ u.1 18 = v 18 ∧ u.1 24 = v 24 ∧ u.1 25 = v 25 ∧ u.1 35 = v 35 ∧ u.1 36 = v 36 ∧ u.1 38 = v 38 ∧ u.1 39 = v 39 ∧ ((r = 1) ∨ (r = 0))) (fun u => YW cy y0 r u.1 u.2.1 u.2.2.1 u.2.2.2) := by
  refine ctI_of (by decide) (Nat.le_of_ble_eq_true rfl) (fun p e s m below meth c A ls Q hx hb hml hts hown hE hP hD hA hl ret => ?_)
  have hUv : (v 35).toInt + (v 36).toInt ≤ 40 := hIv.2
  have hM_v : KV [] v v := fun _ _ => rfl
  have hA_f : KF [7, 8, 24] f f := fun _ _ => rfl
  have hown : s.vm.findClass RX11 = some m.cls := hown
  have hS : va_S A s.heap s.heap [] := va_S.rf
  have hl : lv_has ls 5 [(0, .ref y0), (1, .int p1), (2, .int p2), (3, .int p3), (4, .int p4)] := hl
  refine lv_aload_n hx hb dX11_isSewn_0 rfl (lv_at hl 0 rfl) ?_
  refine cbVv (n := 0) (rest := []) hx hb hml hown hts hE hP hD hS hA (sY_X11_fill_1 0 l dC dI cy y0 r  v f w g hIv hCf hRf ) k_1739 k_1741 k_71 k_114 k_1742 (by decide +kernel) ⟨Nat.le_of_ble_eq_true rfl, Nat.le_of_ble_eq_true rfl⟩ 0 11 rfl rfl (rfl) hl.1 rfl (Nat.le_of_ble_eq_true rfl) dX11_isSewn_1 (fun u H locs hw hP hD hS => ?_)
  obtain ⟨hG1, hw⟩ := hw
  obtain ⟨v2, f3, w4, g5⟩ := u
  obtain ⟨kV_v2, kF_f3, hIv2, hCf3, hRf3, hk0_v2, hk1_v2, hk2_v2, hk3_v2, hk4_v2, hk5_v2, hk8_v2, hk9_v2, hk10_v2, hk13_v2, hk14_v2, hk15_v2, hk17_v2, hk18_v2, hk24_v2, hk25_v2, hk35_v2, hk36_v2, hk38_v2, hk39_v2⟩ := hw
  have hM_v2 : KV [] v2 v := KV.tr kV_v2 hM_v rfl
  have hA_f3 : KF [7, 8, 24] f3 f := KF.tr kF_f3 hA_f rfl
  have hP : va_P (dC, dI) vwCl (YW cy y0 r v2 f3 w4 g5) H := hP
  have hD : va_D A (YW cy y0 r v2 f3 w4 g5) := hD
  have hUv2 : (v2 35).toInt + (v2 36).toInt ≤ 40 := hIv2.2
  have hq9_v2 : v2 9 = (v 9) := hk9_v2
  have zq9_v2 := congrArg Int32.toInt hq9_v2
  refine lv_aload_n hx hb dX11_isSewn_4 rfl (lv_at hl 0 rfl) ?_
  refine va_get (D := (dC, dI)) (ci := 11) (v := .ref (r 60)) (C := RX11) (T := TX11) (N := 79) hx hb hts inB_11 hown hE.1 hP 0 rfl rfl 60 (by decide) (hts _ k_1380) (fun _ h9 => h9) rfl dX11_isSewn_5 ?_
  refine lv_bipush (v := 12) hx hb dX11_isSewn_8 (by decide) ?_
  refine lv_iload_n hx hb dX11_isSewn_10 rfl (lv_at hl 1 rfl) ?_
  refine lv_iadd hx hb dX11_isSewn_11 ?_
  refine lv_topi (fun t6 et6 => ?_)
  have rg7 := fb_rng p1
  have zt6 : t6.toInt = 12 + p1.toInt := by rw [et6]; exact add_i (by decide) rfl (by omega) (by omega)
  refine lv_dup2_11 hx hb dX11_isSewn_12 rfl rfl ?_
  refine ldI hx hb hE hP 25 rfl (vp_in_iff.mpr ⟨by omega, by omega⟩) rfl rfl dX11_isSewn_13 ?_
  refine lv_topi (fun t8 et8 => ?_)
  have zt8 : t6.toInt.toNat % 39 < 6 ∨ 12 ≤ t6.toInt.toNat % 39 ∨ (-1 ≤ t8.toInt ∧ t8.toInt ≤ 5) := by rw [et8]; exact wear_ld hCf3.2.1 (show t6.toInt.toNat < 39 by omega)
  refine lv_iload_n hx hb dX11_isSewn_14 rfl (lv_at hl 3 rfl) ?_
  refine lv_isub hx hb dX11_isSewn_15 ?_
  refine lv_topi (fun t9 et9 => ?_)
  refine stI hx hb hE hP hD hS 25 rfl (vp_in_iff.mpr ⟨by omega, by omega⟩) rfl dX11_isSewn_16 (fun H locs hP hD hS => ?_)
  obtain ⟨f10, ef10, hP, hD⟩ : ∃ fz9, fz9 = upd2 f3 24 (upd (f3 24) t6.toNatClampNeg t9) ∧ va_P (dC, dI) vwCl (YW cy y0 r v2 fz9 w4 g5) H ∧ va_D A (YW cy y0 r v2 fz9 w4 g5) := ⟨_, rfl, hP, hD⟩
  have hCf10 : YC f10 := by rw [ef10]; exact ⟨hCf3.1, (wear_st hCf3.2.1 (by show t6.toInt.toNat % 39 < 6 ∨ 12 ≤ t6.toInt.toNat % 39 ∨ (-1 ≤ t9.toInt ∧ t9.toInt ≤ 5); omega)), hCf3.2.2.1, hCf3.2.2.2.1, hCf3.2.2.2.2.1, hCf3.2.2.2.2.2⟩
  have hRf10 : progOK (f10 4) (f10 5) (v2 9).toInt.toNat := by rw [ef10]; exact hRf3
  have hA_f10 : KF [7, 8, 24] f10 f := by rw [ef10]; exact KF.up hA_f3 rfl
  refine lv_aload_n hx hb dX11_isSewn_17 rfl (lv_at hl 0 rfl) ?_
  refine va_get (D := (dC, dI)) (ci := 11) (v := .ref (r 60)) (C := RX11) (T := TX11) (N := 79) hx hb hts inB_11 hown hE.1 hP 0 rfl rfl 60 (by decide) (hts _ k_1380) (fun _ h9 => h9) rfl dX11_isSewn_18 ?_
  refine lv_bipush (v := 18) hx hb dX11_isSewn_21 (by decide) ?_
  refine lv_iload_n hx hb dX11_isSewn_23 rfl (lv_at hl 1 rfl) ?_
  refine lv_iadd hx hb dX11_isSewn_24 ?_
  refine lv_topi (fun t11 et11 => ?_)
  have zt11 : t11.toInt = 18 + p1.toInt := by rw [et11]; exact add_i (by decide) rfl (by omega) (by omega)
  refine lv_dup2_11 hx hb dX11_isSewn_25 rfl rfl ?_
  refine ldI hx hb hE hP 25 rfl (vp_in_iff.mpr ⟨by omega, by omega⟩) rfl rfl dX11_isSewn_26 ?_
  refine lv_topi (fun t12 et12 => ?_)
  have zt12 : t11.toInt.toNat % 39 < 6 ∨ 12 ≤ t11.toInt.toNat % 39 ∨ (-1 ≤ t12.toInt ∧ t12.toInt ≤ 5) := by rw [et12]; exact wear_ld hCf10.2.1 (show t11.toInt.toNat < 39 by omega)
  refine lv_iload hx hb dX11_isSewn_27 (lv_at hl 4 rfl) ?_
  refine lv_isub hx hb dX11_isSewn_29 ?_
  refine lv_topi (fun t13 et13 => ?_)
  refine stI hx hb hE hP hD hS 25 rfl (vp_in_iff.mpr ⟨by omega, by omega⟩) rfl dX11_isSewn_30 (fun H locs hP hD hS => ?_)
  obtain ⟨f14, ef14, hP, hD⟩ : ∃ fz9, fz9 = upd2 f10 24 (upd (f10 24) t11.toNatClampNeg t13) ∧ va_P (dC, dI) vwCl (YW cy y0 r v2 fz9 w4 g5) H ∧ va_D A (YW cy y0 r v2 fz9 w4 g5) := ⟨_, rfl, hP, hD⟩
  have hCf14 : YC f14 := by rw [ef14]; exact ⟨hCf10.1, (wear_st hCf10.2.1 (by show t11.toInt.toNat % 39 < 6 ∨ 12 ≤ t11.toInt.toNat % 39 ∨ (-1 ≤ t13.toInt ∧ t13.toInt ≤ 5); omega)), hCf10.2.2.1, hCf10.2.2.2.1, hCf10.2.2.2.2.1, hCf10.2.2.2.2.2⟩
  have hRf14 : progOK (f14 4) (f14 5) (v2 9).toInt.toNat := by rw [ef14]; exact hRf10
  have hA_f14 : KF [7, 8, 24] f14 f := by rw [ef14]; exact KF.up hA_f10 rfl
  refine lv_aload_n hx hb dX11_isSewn_31 rfl (lv_at hl 0 rfl) ?_
  refine lv_iload_n hx hb dX11_isSewn_32 rfl (lv_at hl 2 rfl) ?_
  refine lv_iload_n hx hb dX11_isSewn_33 rfl (lv_at hl 1 rfl) ?_
  refine cbVi (n := 2) (rest := []) hx hb hml hown hts hE hP hD hS hA (sY_X11_misfitOf_1 0 l dC dI cy y0 r p2 p1 v2 f14 w4 g5 hIv2 hCf14 hRf14 ⟨show (0 : Int) ≤ p2.toInt by omega, show p2.toInt ≤ (5 : Int) by omega⟩ ⟨show (0 : Int) ≤ p1.toInt by omega, show p1.toInt ≤ (5 : Int) by omega⟩) k_1751 k_1753 k_74 k_114 k_1754 (by decide +kernel) ⟨Nat.le_of_ble_eq_true rfl, Nat.le_of_ble_eq_true rfl⟩ 0 11 rfl rfl (rfl) hl.1 rfl (Nat.le_of_ble_eq_true rfl) dX11_isSewn_34 (fun r15 u H locs hw hP hD hS => ?_)
  obtain ⟨hG16, hw⟩ := hw
  obtain ⟨v17, f18, w19, g20⟩ := u
  obtain ⟨kV_v17, kF_f18, hIv17, hCf18, hRf18, hk0_v17, hk1_v17, hk2_v17, hk3_v17, hk4_v17, hk5_v17, hk8_v17, hk9_v17, hk10_v17, hk13_v17, hk14_v17, hk15_v17, hk17_v17, hk18_v17, hk24_v17, hk25_v17, hk35_v17, hk36_v17, hk38_v17, hk39_v17⟩ := hw
  have hM_v17 : KV [] v17 v := KV.tr kV_v17 hM_v2 rfl
  have hA_f18 : KF [7, 8, 24] f18 f := KF.tr kF_f18 hA_f14 rfl
  have hP : va_P (dC, dI) vwCl (YW cy y0 r v17 f18 w19 g20) H := hP
  have hD : va_D A (YW cy y0 r v17 f18 w19 g20) := hD
  have hUv17 : (v17 35).toInt + (v17 36).toInt ≤ 40 := hIv17.2
  have hq9_v17 : v17 9 = (v 9) := hk9_v17.trans hq9_v2
  have zq9_v17 := congrArg Int32.toInt hq9_v17
  refine lv_aload_n hx hb dX11_isSewn_37 rfl (lv_at hl 0 rfl) ?_
  refine va_get (D := (dC, dI)) (ci := 11) (v := .int (v17 26)) (C := RX11) (T := TX11) (N := 79) hx hb hts inB_11 hown hE.1 hP 0 rfl rfl 50 (by decide) (hts _ k_1370) (fun _ h9 => h9) rfl dX11_isSewn_38 ?_
  refine lv_icmp_gt (tgt := 48) hx hb dX11_isSewn_41 (by decide) (fun c21 => ?_) (fun c21 => ?_)
  · skip
    have zc21 : (v17 26).toInt < r15.toInt := by rw [fa_lt] at c21; exact c21
    have rg22 := fb_rng r15
    have rg23 := fb_rng (v17 26)
    refine lv_iconst (v := 0) hx hb dX11_isSewn_48 (by decide) ?_
    exact ret 0 (v17, f18, w19, g20) _ _ _ _ _ _ rfl ⟨hM_v17, hA_f18, hIv17, hCf18, hRf18, (hk0_v17.trans hk0_v2), (hk1_v17.trans hk1_v2), (hk2_v17.trans hk2_v2), (hk3_v17.trans hk3_v2), (hk4_v17.trans hk4_v2), (hk5_v17.trans hk5_v2), (hk8_v17.trans hk8_v2), (hk9_v17.trans hk9_v2), (hk10_v17.trans hk10_v2), (hk13_v17.trans hk13_v2), (hk14_v17.trans hk14_v2), (hk15_v17.trans hk15_v2), (hk17_v17.trans hk17_v2), (hk18_v17.trans hk18_v2), (hk24_v17.trans hk24_v2), (hk25_v17.trans hk25_v2), (hk35_v17.trans hk35_v2), (hk36_v17.trans hk36_v2), (hk38_v17.trans hk38_v2), (hk39_v17.trans hk39_v2), (Or.inr rfl)⟩ hP hD hS dX11_isSewn_49 (Nat.le_refl _) (Nat.le_refl _)
  · skip
    have zc21 : ¬ ((v17 26).toInt < r15.toInt) := by rw [fa_lt] at c21; exact c21
    have rg24 := fb_rng r15
    have rg25 := fb_rng (v17 26)
    refine lv_iconst (v := 1) hx hb dX11_isSewn_44 (by decide) ?_
    refine lv_goto (tgt := 49) hx hb dX11_isSewn_45 (by decide) ?_
    exact ret 1 (v17, f18, w19, g20) _ _ _ _ _ _ rfl ⟨hM_v17, hA_f18, hIv17, hCf18, hRf18, (hk0_v17.trans hk0_v2), (hk1_v17.trans hk1_v2), (hk2_v17.trans hk2_v2), (hk3_v17.trans hk3_v2), (hk4_v17.trans hk4_v2), (hk5_v17.trans hk5_v2), (hk8_v17.trans hk8_v2), (hk9_v17.trans hk9_v2), (hk10_v17.trans hk10_v2), (hk13_v17.trans hk13_v2), (hk14_v17.trans hk14_v2), (hk15_v17.trans hk15_v2), (hk17_v17.trans hk17_v2), (hk18_v17.trans hk18_v2), (hk24_v17.trans hk24_v2), (hk25_v17.trans hk25_v2), (hk35_v17.trans hk35_v2), (hk36_v17.trans hk36_v2), (hk38_v17.trans hk38_v2), (hk39_v17.trans hk39_v2), (Or.inl rfl)⟩ hP hD hS dX11_isSewn_49 (Nat.le_refl _) (Nat.le_refl _)
set_option maxHeartbeats 4000000 in
set_option maxRecDepth 100000 in
theorem sY_X11_sewing_1 (l : Launch) (dC : Nat → ClassId) (dI : Nat → Nat → Nat) (cy : Nat → ClassId) (y0 : Nat) (r : Nat → Nat) (p1 : Int32) (p2 : Int32) (p3 : Int32) (v : Nat → Int32) (f : Nat → Nat → Int32) (w : Int64) (g : Nat → Int64) (hIv : YI v) (hCf : YC f) (hRf : progOK (f 4) (f 5) (v 9).toInt.toNat)  : ctI l (dC, dI) cy yX11_sewing cX11_sewing 10 .int 5 150 0 0 ((Nat → Int32) × (Nat → Nat → Int32) × (Int64) × (Nat → Int64)) [.ref y0, .int p1, .int p2, .int p3] (YW cy y0 r v f w g) (fun r u => KV [] u.1 v ∧ KF [7, 8, 24] u.2.1 f ∧ YI u.1 ∧ YC u.2.1 ∧ progOK (u.2.1 4) (u.2.1 5) (u.1 9).toInt.toNat ∧ u.1 0 = v 0 ∧ u.1 1 = v 1 ∧ u.1 2 = v 2 ∧ u.1 3 = v 3 ∧ u.1 4 = v 4 ∧ u.1 5 = v 5 ∧ u.1 8 = v 8 ∧ u.1 9 = v 9 ∧ u.1 10 = v 10 ∧ u.1 13 = v 13 ∧ u.1 14 = v 14 ∧ u.1 15 = v 15 ∧ u.1 17 = v 17 ∧ u.1 18 = v 18 ∧ u.1 24 = v 24 ∧ u.1 25 = v 25 ∧ u.1 35 = v 35 ∧ u.1 36 = v 36 ∧ u.1 38 = v 38 ∧ u.1 39 = v 39) (fun u => YW cy y0 r u.1 u.2.1 u.2.2.1 u.2.2.2) := by
  refine ctI_of (by decide) (Nat.le_of_ble_eq_true rfl) (fun p e s m below meth c A ls Q hx hb hml hts hown hE hP hD hA hl ret => ?_)
  have hUv : (v 35).toInt + (v 36).toInt ≤ 40 := hIv.2
  have hM_v : KV [] v v := fun _ _ => rfl
  have hA_f : KF [7, 8, 24] f f := fun _ _ => rfl
  have hown : s.vm.findClass RX11 = some m.cls := hown
  have hS : va_S A s.heap s.heap [] := va_S.rf
  have hl : lv_has ls 10 [(0, .ref y0), (1, .int p1), (2, .int p2), (3, .int p3)] := hl
  refine lv_aload_n hx hb dX11_sewing_0 rfl (lv_at hl 0 rfl) ?_
  refine lv_iload_n hx hb dX11_sewing_1 rfl (lv_at hl 1 rfl) ?_
  refine cbVi (n := 1) (rest := []) hx hb hml hown hts hE hP hD hS hA (sY_X11_isCoat_1 0 l dC dI cy y0 r p1 v f w g hIv hCf hRf ) k_1771 k_1773 k_75 k_114 k_1774 (by decide +kernel) ⟨Nat.le_of_ble_eq_true rfl, Nat.le_of_ble_eq_true rfl⟩ 0 11 rfl rfl (rfl) hl.1 rfl (Nat.le_of_ble_eq_true rfl) dX11_sewing_2 (fun r1 u H locs hw hP hD hS => ?_)
  obtain ⟨hG2, hw⟩ := hw
  rcases hw with ⟨g3, g3_0, g3_1, g3_2⟩ | ⟨g3⟩
  · skip
    subst g3
    refine lv_if_eq (tgt := 25) hx hb dX11_sewing_5 (by decide) (fun c0 => absurd c0 (by decide)) (fun _ => ?_)
    refine lv_aload_n hx hb dX11_sewing_8 rfl (lv_at hl 0 rfl) ?_
    refine lv_iload_n hx hb dX11_sewing_9 rfl (lv_at hl 2 rfl) ?_
    refine cbVi (n := 1) (rest := []) hx hb hml hown hts hE hP hD hS hA (sY_X11_isMan_1 0 l dC dI cy y0 r p2 v f w g hIv hCf hRf ) k_1732 k_1734 k_70 k_114 k_1735 (by decide +kernel) ⟨Nat.le_of_ble_eq_true rfl, Nat.le_of_ble_eq_true rfl⟩ 0 11 rfl rfl (rfl) hl.1 rfl (Nat.le_of_ble_eq_true rfl) dX11_sewing_10 (fun r4 u H locs hw hP hD hS => ?_)
    obtain ⟨hG5, hw⟩ := hw
    rcases hw with ⟨g6, g6_0, g6_1, g6_2⟩ | ⟨g6⟩
    · skip
      subst g6
      refine lv_if_eq (tgt := 25) hx hb dX11_sewing_13 (by decide) (fun c0 => absurd c0 (by decide)) (fun _ => ?_)
      refine lv_iload_n hx hb dX11_sewing_16 rfl (lv_at hl 3 rfl) ?_
      refine lv_iconst (v := 0) hx hb dX11_sewing_17 (by decide) ?_
      refine lv_iconst (v := 2) hx hb dX11_sewing_18 (by decide) ?_
      have lt7 : (0 : Int32).toInt = 0 := by decide
      have lt8 : (2 : Int32).toInt = 2 := by decide
      refine cbSi (n := 3) (rest := []) hx hb hml hown hts hE hP hD hS hA (sY_X11_isIn_1 0 l dC dI cy y0 r p3 0 2 v f w g hIv hCf hRf ) k_1736 k_1737 k_114 k_1738 (by decide +kernel) ⟨Nat.le_of_ble_eq_true rfl, Nat.le_of_ble_eq_true rfl⟩ (rfl) hl.1 rfl (Nat.le_of_ble_eq_true rfl) dX11_sewing_19 (fun r9 u H locs hw hP hD hS => ?_)
      obtain ⟨hG10, hw⟩ := hw
      rcases hw with ⟨g11, g11_0, g11_1⟩ | ⟨g11⟩
      · skip
        subst g11
        refine lv_if_ne (tgt := 28) hx hb dX11_sewing_22 (by decide) (fun _ => ?_) (fun c0 => absurd c0 (by decide))
        refine lv_bipush (v := 20) hx hb dX11_sewing_28 (by decide) ?_
        refine lv_aload_n hx hb dX11_sewing_30 rfl (lv_at hl 0 rfl) ?_
        refine va_get (D := (dC, dI)) (ci := 11) (v := .ref (r 59)) (C := RX11) (T := TX11) (N := 79) hx hb hts inB_11 hown hE.1 hP 0 rfl rfl 59 (by decide) (hts _ k_1379) (fun _ h9 => h9) rfl dX11_sewing_31 ?_
        refine lv_bipush (v := 12) hx hb dX11_sewing_34 (by decide) ?_
        refine lv_iload_n hx hb dX11_sewing_36 rfl (lv_at hl 1 rfl) ?_
        refine lv_iadd hx hb dX11_sewing_37 ?_
        refine lv_topi (fun t12 et12 => ?_)
        have rg13 := fb_rng p1
        have zt12 : t12.toInt = 12 + p1.toInt := by rw [et12]; exact add_i (by decide) rfl (by omega) (by omega)
        refine ldI hx hb hE hP 24 rfl (vp_in_iff.mpr ⟨by omega, by omega⟩) rfl rfl dX11_sewing_38 ?_
        refine lv_topi (fun t14 et14 => ?_)
        have zt14 : t12.toInt.toNat % 39 < 6 ∨ 12 ≤ t12.toInt.toNat % 39 ∨ (-1 ≤ t14.toInt ∧ t14.toInt ≤ 5) := by rw [et14]; exact wear_ld hCf.1 (show t12.toInt.toNat < 39 by omega)
        have lt15 : (20 : Int32).toInt = 20 := by decide
        refine cbSi (n := 2) (rest := []) hx hb hml hown hts hE hP hD hS hA (sY_X11_lesser_1 0 l dC dI cy y0 r 20 t14 v f w g hIv hCf hRf ) k_1799 k_1800 k_114 k_1801 (by decide +kernel) ⟨Nat.le_of_ble_eq_true rfl, Nat.le_of_ble_eq_true rfl⟩ (rfl) hl.1 rfl (Nat.le_of_ble_eq_true rfl) dX11_sewing_39 (fun r16 u H locs hw hP hD hS => ?_)
        obtain ⟨hG17, hw⟩ := hw
        obtain ⟨pp18, pp19⟩ := hw
        have pp18 : r16.toInt ≤ (20 : Int32).toInt := pp18
        have pp19 : r16.toInt ≤ t14.toInt := pp19
        refine lv_istore (lv' := [(4, .int r16), (0, .ref y0), (1, .int p1), (2, .int p2), (3, .int p3)]) hx hb dX11_sewing_42 hl (by decide) rfl (fun ls hl => ?_)
        refine lv_bipush (v := 20) hx hb dX11_sewing_44 (by decide) ?_
        refine lv_aload_n hx hb dX11_sewing_46 rfl (lv_at hl 1 rfl) ?_
        refine va_get (D := (dC, dI)) (ci := 11) (v := .ref (r 59)) (C := RX11) (T := TX11) (N := 79) hx hb hts inB_11 hown hE.1 hP 0 rfl rfl 59 (by decide) (hts _ k_1379) (fun _ h9 => h9) rfl dX11_sewing_47 ?_
        refine lv_bipush (v := 18) hx hb dX11_sewing_50 (by decide) ?_
        refine lv_iload_n hx hb dX11_sewing_52 rfl (lv_at hl 2 rfl) ?_
        refine lv_iadd hx hb dX11_sewing_53 ?_
        refine lv_topi (fun t20 et20 => ?_)
        have zt20 : t20.toInt = 18 + p1.toInt := by rw [et20]; exact add_i (by decide) rfl (by omega) (by omega)
        refine ldI hx hb hE hP 24 rfl (vp_in_iff.mpr ⟨by omega, by omega⟩) rfl rfl dX11_sewing_54 ?_
        refine lv_topi (fun t21 et21 => ?_)
        have zt21 : t20.toInt.toNat % 39 < 6 ∨ 12 ≤ t20.toInt.toNat % 39 ∨ (-1 ≤ t21.toInt ∧ t21.toInt ≤ 5) := by rw [et21]; exact wear_ld hCf.1 (show t20.toInt.toNat < 39 by omega)
        refine cbSi (n := 2) (rest := []) hx hb hml hown hts hE hP hD hS hA (sY_X11_lesser_1 0 l dC dI cy y0 r 20 t21 v f w g hIv hCf hRf ) k_1799 k_1800 k_114 k_1801 (by decide +kernel) ⟨Nat.le_of_ble_eq_true rfl, Nat.le_of_ble_eq_true rfl⟩ (rfl) hl.1 rfl (Nat.le_of_ble_eq_true rfl) dX11_sewing_55 (fun r22 u H locs hw hP hD hS => ?_)
        obtain ⟨hG23, hw⟩ := hw
        obtain ⟨pp24, pp25⟩ := hw
        have pp24 : r22.toInt ≤ (20 : Int32).toInt := pp24
        have pp25 : r22.toInt ≤ t21.toInt := pp25
        refine lv_istore (lv' := [(5, .int r22), (4, .int r16), (0, .ref y0), (1, .int p1), (2, .int p2), (3, .int p3)]) hx hb dX11_sewing_58 hl (by decide) rfl (fun ls hl => ?_)
        refine lv_bipush (v := 20) hx hb dX11_sewing_60 (by decide) ?_
        refine lv_aload_n hx hb dX11_sewing_62 rfl (lv_at hl 2 rfl) ?_
        refine va_get (D := (dC, dI)) (ci := 11) (v := .ref (r 59)) (C := RX11) (T := TX11) (N := 79) hx hb hts inB_11 hown hE.1 hP 0 rfl rfl 59 (by decide) (hts _ k_1379) (fun _ h9 => h9) rfl dX11_sewing_63 ?_
        refine lv_bipush (v := 24) hx hb dX11_sewing_66 (by decide) ?_
        refine lv_iload_n hx hb dX11_sewing_68 rfl (lv_at hl 3 rfl) ?_
        refine lv_iadd hx hb dX11_sewing_69 ?_
        refine lv_topi (fun t26 et26 => ?_)
        have zt26 : t26.toInt = 24 + p1.toInt := by rw [et26]; exact add_i (by decide) rfl (by omega) (by omega)
        refine ldI hx hb hE hP 24 rfl (vp_in_iff.mpr ⟨by omega, by omega⟩) rfl rfl dX11_sewing_70 ?_
        refine lv_topi (fun t27 et27 => ?_)
        have zt27 : t26.toInt.toNat % 39 < 6 ∨ 12 ≤ t26.toInt.toNat % 39 ∨ (-1 ≤ t27.toInt ∧ t27.toInt ≤ 5) := by rw [et27]; exact wear_ld hCf.1 (show t26.toInt.toNat < 39 by omega)
        refine cbSi (n := 2) (rest := []) hx hb hml hown hts hE hP hD hS hA (sY_X11_lesser_1 0 l dC dI cy y0 r 20 t27 v f w g hIv hCf hRf ) k_1799 k_1800 k_114 k_1801 (by decide +kernel) ⟨Nat.le_of_ble_eq_true rfl, Nat.le_of_ble_eq_true rfl⟩ (rfl) hl.1 rfl (Nat.le_of_ble_eq_true rfl) dX11_sewing_71 (fun r28 u H locs hw hP hD hS => ?_)
        obtain ⟨hG29, hw⟩ := hw
        obtain ⟨pp30, pp31⟩ := hw
        have pp30 : r28.toInt ≤ (20 : Int32).toInt := pp30
        have pp31 : r28.toInt ≤ t27.toInt := pp31
        refine lv_bipush (v := 99) hx hb dX11_sewing_74 (by decide) ?_
        refine lv_aload_n hx hb dX11_sewing_76 rfl (lv_at hl 2 rfl) ?_
        refine va_get (D := (dC, dI)) (ci := 11) (v := .ref (r 59)) (C := RX11) (T := TX11) (N := 79) hx hb hts inB_11 hown hE.1 hP 0 rfl rfl 59 (by decide) (hts _ k_1379) (fun _ h9 => h9) rfl dX11_sewing_77 ?_
        refine lv_bipush (v := 18) hx hb dX11_sewing_80 (by decide) ?_
        refine lv_iload_n hx hb dX11_sewing_82 rfl (lv_at hl 3 rfl) ?_
        refine lv_iadd hx hb dX11_sewing_83 ?_
        refine tI (y := t20) et20.symm ?_
        refine ldI hx hb hE hP 24 rfl (vp_in_iff.mpr ⟨by omega, by omega⟩) rfl rfl dX11_sewing_84 ?_
        refine tI (y := t21) et21.symm ?_
        refine lv_isub hx hb dX11_sewing_85 ?_
        refine lv_topi (fun t32 et32 => ?_)
        refine cbSi (n := 2) (rest := []) hx hb hml hown hts hE hP hD hS hA (sY_X11_lesser_1 0 l dC dI cy y0 r r28 t32 v f w g hIv hCf hRf ) k_1799 k_1800 k_114 k_1801 (by decide +kernel) ⟨Nat.le_of_ble_eq_true rfl, Nat.le_of_ble_eq_true rfl⟩ (rfl) hl.1 rfl (Nat.le_of_ble_eq_true rfl) dX11_sewing_86 (fun r33 u H locs hw hP hD hS => ?_)
        obtain ⟨hG34, hw⟩ := hw
        obtain ⟨pp35, pp36⟩ := hw
        have pp35 : r33.toInt ≤ r28.toInt := pp35
        have pp36 : r33.toInt ≤ t32.toInt := pp36
        refine lv_istore (lv' := [(6, .int r33), (5, .int r22), (4, .int r16), (0, .ref y0), (1, .int p1), (2, .int p2), (3, .int p3)]) hx hb dX11_sewing_89 hl (by decide) rfl (fun ls hl => ?_)
        refine lv_iconst (v := 0) hx hb dX11_sewing_91 (by decide) ?_
        refine lv_istore (lv' := [(7, .int 0), (6, .int r33), (5, .int r22), (4, .int r16), (0, .ref y0), (1, .int p1), (2, .int p2), (3, .int p3)]) hx hb dX11_sewing_92 hl (by decide) rfl (fun ls hl => ?_)
        have lp37 : ∀ (n37 : Nat) (l7_37 : Int32) (v37 : Nat → Int32) (f37 : Nat → Nat → Int32) (w37 : Int64) (g37 : Nat → Int64), YI v37 → YC f37 → progOK (f37 4) (f37 5) (v37 9).toInt.toNat → v37 0 = (v 0) → v37 1 = (v 1) → v37 2 = (v 2) → v37 3 = (v 3) → v37 4 = (v 4) → v37 5 = (v 5) → v37 8 = (v 8) → v37 9 = (v 9) → v37 10 = (v 10) → v37 13 = (v 13) → v37 14 = (v 14) → v37 15 = (v 15) → v37 17 = (v 17) → v37 18 = (v 18) → v37 24 = (v 24) → v37 25 = (v 25) → v37 35 = (v 35) → v37 36 = (v 36) → v37 38 = (v 38) → v37 39 = (v 39) → ((0 : Int) ≤ l7_37.toInt ∧ l7_37.toInt ≤ 2147483647) → KV [] v37 v → KF [7, 8, 24] f37 f → (2147483647 - l7_37.toInt).toNat < n37 → ∀ (H : Heap) (locs : List Loc) (ls : Array Slot), va_P (dC, dI) vwCl (YW cy y0 r v37 f37 w37 g37) H → va_D A (YW cy y0 r v37 f37 w37 g37) → va_S A s.heap H locs → lv_has ls 10 [(7, .int l7_37), (6, .int r33), (5, .int r22), (4, .int r16), (0, .ref y0), (1, .int p1), (2, .int p2), (3, .int p3)] → W p l e { frames := 5, cells := 0, slots := 0, locals := 150 } s m ([.ref y0, .int p1, .int p2, .int p3] : List Value).toArray below meth c H locs 0 0 Q (F0 m 94 ls []) := by
          intro n37
          induction n37 with
          | zero => intro l7_37 v37 f37 w37 g37 hIv37 hCf37 hRf37 hq0_v37 hq1_v37 hq2_v37 hq3_v37 hq4_v37 hq5_v37 hq8_v37 hq9_v37 hq10_v37 hq13_v37 hq14_v37 hq15_v37 hq17_v37 hq18_v37 hq24_v37 hq25_v37 hq35_v37 hq36_v37 hq38_v37 hq39_v37 hr7_37 hM_v37 hA_f37 hm; exact absurd hm (Nat.not_lt_zero _)
          | succ n37 ih37 =>
            intro l7_37 v37 f37 w37 g37 hIv37 hCf37 hRf37 hq0_v37 hq1_v37 hq2_v37 hq3_v37 hq4_v37 hq5_v37 hq8_v37 hq9_v37 hq10_v37 hq13_v37 hq14_v37 hq15_v37 hq17_v37 hq18_v37 hq24_v37 hq25_v37 hq35_v37 hq36_v37 hq38_v37 hq39_v37 hr7_37 hM_v37 hA_f37 hm37 H locs ls hP hD hS hl
            have hUv37 : (v37 35).toInt + (v37 36).toInt ≤ 40 := hIv37.2
            have zq9_v37 := congrArg Int32.toInt hq9_v37
            refine lv_iload hx hb dX11_sewing_94 (lv_at hl 0 rfl) ?_
            refine lv_bipush (v := 40) hx hb dX11_sewing_96 (by decide) ?_
            refine lv_icmp_gt (tgt := 226) hx hb dX11_sewing_98 (by decide) (fun c38 => ?_) (fun c38 => ?_)
            · skip
              have zc38 : 40 < l7_37.toInt := by rw [fa_lt, show (40 : Int32).toInt = 40 from by decide] at c38; exact c38
              refine lv_bipush (v := (-100)) hx hb dX11_sewing_226 (by decide) ?_
              exact ret (-100) (v37, f37, w37, g37) _ _ _ _ _ _ rfl ⟨hM_v37, hA_f37, hIv37, hCf37, hRf37, (show v37 0 = v 0 from hq0_v37), (show v37 1 = v 1 from hq1_v37), (show v37 2 = v 2 from hq2_v37), (show v37 3 = v 3 from hq3_v37), (show v37 4 = v 4 from hq4_v37), (show v37 5 = v 5 from hq5_v37), (show v37 8 = v 8 from hq8_v37), (show v37 9 = v 9 from hq9_v37), (show v37 10 = v 10 from hq10_v37), (show v37 13 = v 13 from hq13_v37), (show v37 14 = v 14 from hq14_v37), (show v37 15 = v 15 from hq15_v37), (show v37 17 = v 17 from hq17_v37), (show v37 18 = v 18 from hq18_v37), (show v37 24 = v 24 from hq24_v37), (show v37 25 = v 25 from hq25_v37), (show v37 35 = v 35 from hq35_v37), (show v37 36 = v 36 from hq36_v37), (show v37 38 = v 38 from hq38_v37), (show v37 39 = v 39 from hq39_v37)⟩ hP hD hS dX11_sewing_228 (Nat.le_refl _) (Nat.le_refl _)
            · skip
              have zc38 : ¬ (40 < l7_37.toInt) := by rw [fa_lt, show (40 : Int32).toInt = 40 from by decide] at c38; exact c38
              refine lv_iconst (v := 0) hx hb dX11_sewing_101 (by decide) ?_
              refine lv_istore (lv' := [(8, .int 0), (7, .int l7_37), (6, .int r33), (5, .int r22), (4, .int r16), (0, .ref y0), (1, .int p1), (2, .int p2), (3, .int p3)]) hx hb dX11_sewing_102 hl (by decide) rfl (fun ls hl => ?_)
              have lp39 : ∀ (n39 : Nat) (l8_39 : Int32) (v39 : Nat → Int32) (f39 : Nat → Nat → Int32) (w39 : Int64) (g39 : Nat → Int64), YI v39 → YC f39 → progOK (f39 4) (f39 5) (v39 9).toInt.toNat → v39 0 = (v 0) → v39 1 = (v 1) → v39 2 = (v 2) → v39 3 = (v 3) → v39 4 = (v 4) → v39 5 = (v 5) → v39 8 = (v 8) → v39 9 = (v 9) → v39 10 = (v 10) → v39 13 = (v 13) → v39 14 = (v 14) → v39 15 = (v 15) → v39 17 = (v 17) → v39 18 = (v 18) → v39 24 = (v 24) → v39 25 = (v 25) → v39 35 = (v 35) → v39 36 = (v 36) → v39 38 = (v 38) → v39 39 = (v 39) → ((0 : Int) ≤ l8_39.toInt ∧ l8_39.toInt ≤ 2147483647) → KV [] v39 v → KF [7, 8, 24] f39 f → (2147483647 - l8_39.toInt).toNat < n39 → ∀ (H : Heap) (locs : List Loc) (ls : Array Slot), va_P (dC, dI) vwCl (YW cy y0 r v39 f39 w39 g39) H → va_D A (YW cy y0 r v39 f39 w39 g39) → va_S A s.heap H locs → lv_has ls 10 [(8, .int l8_39), (7, .int l7_37), (6, .int r33), (5, .int r22), (4, .int r16), (0, .ref y0), (1, .int p1), (2, .int p2), (3, .int p3)] → W p l e { frames := 5, cells := 0, slots := 0, locals := 150 } s m ([.ref y0, .int p1, .int p2, .int p3] : List Value).toArray below meth c H locs 0 0 Q (F0 m 104 ls []) := by
                intro n39
                induction n39 with
                | zero => intro l8_39 v39 f39 w39 g39 hIv39 hCf39 hRf39 hq0_v39 hq1_v39 hq2_v39 hq3_v39 hq4_v39 hq5_v39 hq8_v39 hq9_v39 hq10_v39 hq13_v39 hq14_v39 hq15_v39 hq17_v39 hq18_v39 hq24_v39 hq25_v39 hq35_v39 hq36_v39 hq38_v39 hq39_v39 hr8_39 hM_v39 hA_f39 hm; exact absurd hm (Nat.not_lt_zero _)
                | succ n39 ih39 =>
                  intro l8_39 v39 f39 w39 g39 hIv39 hCf39 hRf39 hq0_v39 hq1_v39 hq2_v39 hq3_v39 hq4_v39 hq5_v39 hq8_v39 hq9_v39 hq10_v39 hq13_v39 hq14_v39 hq15_v39 hq17_v39 hq18_v39 hq24_v39 hq25_v39 hq35_v39 hq36_v39 hq38_v39 hq39_v39 hr8_39 hM_v39 hA_f39 hm39 H locs ls hP hD hS hl
                  have hUv39 : (v39 35).toInt + (v39 36).toInt ≤ 40 := hIv39.2
                  have zq9_v39 := congrArg Int32.toInt hq9_v39
                  refine lv_iload hx hb dX11_sewing_104 (lv_at hl 0 rfl) ?_
                  refine lv_iload hx hb dX11_sewing_106 (lv_at hl 1 rfl) ?_
                  refine lv_iload hx hb dX11_sewing_108 (lv_at hl 4 rfl) ?_
                  refine cbSi (n := 2) (rest := [.int l8_39]) hx hb hml hown hts hE hP hD hS hA (sY_X11_lesser_1 0 l dC dI cy y0 r l7_37 r16 v39 f39 w39 g39 hIv39 hCf39 hRf39 ) k_1799 k_1800 k_114 k_1801 (by decide +kernel) ⟨Nat.le_of_ble_eq_true rfl, Nat.le_of_ble_eq_true rfl⟩ (rfl) hl.1 rfl (Nat.le_of_ble_eq_true rfl) dX11_sewing_110 (fun r40 u H locs hw hP hD hS => ?_)
                  obtain ⟨hG41, hw⟩ := hw
                  obtain ⟨pp42, pp43⟩ := hw
                  have pp42 : r40.toInt ≤ l7_37.toInt := pp42
                  have pp43 : r40.toInt ≤ r16.toInt := pp43
                  refine lv_icmp_gt (tgt := 220) hx hb dX11_sewing_113 (by decide) (fun c44 => ?_) (fun c44 => ?_)
                  · skip
                    have zc44 : r40.toInt < l8_39.toInt := by rw [fa_lt] at c44; exact c44
                    have rg45 := fb_rng l8_39
                    have rg46 := fb_rng r40
                    obtain ⟨t47, et47⟩ : ∃ y : Int32, y = l7_37 + 1 := ⟨_, rfl⟩
                    have rg48 := fb_rng l7_37
                    have zt47 : t47.toInt = l7_37.toInt + 1 := by rw [et47]; exact add_i rfl (by decide) (by omega) (by omega)
                    refine lv_iinc (v := t47) (lv' := [(7, .int t47), (8, .int l8_39), (6, .int r33), (5, .int r22), (4, .int r16), (0, .ref y0), (1, .int p1), (2, .int p2), (3, .int p3)]) hx hb dX11_sewing_220 hl (k := 1) rfl (by rw [et47]; rfl) (by decide) rfl (fun ls hl => ?_)
                    refine lv_goto (tgt := 94) hx hb dX11_sewing_223 (by decide) ?_
                    have rg49 := fb_rng t47
                    exact ih37 t47 v39 f39 w39 g39 hIv39 hCf39 hRf39 hq0_v39 hq1_v39 hq2_v39 hq3_v39 hq4_v39 hq5_v39 hq8_v39 hq9_v39 hq10_v39 hq13_v39 hq14_v39 hq15_v39 hq17_v39 hq18_v39 hq24_v39 hq25_v39 hq35_v39 hq36_v39 hq38_v39 hq39_v39 ⟨show (0 : Int) ≤ t47.toInt by omega, show t47.toInt ≤ (2147483647 : Int) by omega⟩ hM_v39 hA_f39 (by show (2147483647 - t47.toInt).toNat < n37; omega) _ _ _ hP hD hS (lv_sub hl [0, 2, 3, 4, 5, 6, 7, 8] rfl)
                  · skip
                    have zc44 : ¬ (r40.toInt < l8_39.toInt) := by rw [fa_lt] at c44; exact c44
                    have rg50 := fb_rng l8_39
                    have rg51 := fb_rng r40
                    refine lv_iload hx hb dX11_sewing_116 (lv_at hl 1 rfl) ?_
                    refine lv_iload hx hb dX11_sewing_118 (lv_at hl 0 rfl) ?_
                    refine lv_isub hx hb dX11_sewing_120 ?_
                    refine lv_topi (fun t52 et52 => ?_)
                    have rg53 := fb_rng l7_37
                    have zt52 : t52.toInt = l7_37.toInt - l8_39.toInt := by rw [et52]; exact sub_i rfl rfl (by omega) (by omega)
                    refine lv_istore (lv' := [(9, .int t52), (8, .int l8_39), (7, .int l7_37), (6, .int r33), (5, .int r22), (4, .int r16), (0, .ref y0), (1, .int p1), (2, .int p2), (3, .int p3)]) hx hb dX11_sewing_121 hl (by decide) rfl (fun ls hl => ?_)
                    refine lv_iload hx hb dX11_sewing_123 (lv_at hl 0 rfl) ?_
                    refine lv_iload hx hb dX11_sewing_125 (lv_at hl 4 rfl) ?_
                    refine lv_icmp_gt (tgt := 165) hx hb dX11_sewing_127 (by decide) (fun c54 => ?_) (fun c54 => ?_)
                    · skip
                      have zc54 : r22.toInt < t52.toInt := by rw [fa_lt] at c54; exact c54
                      have rg55 := fb_rng t52
                      have rg56 := fb_rng r22
                      refine lv_iload hx hb dX11_sewing_165 (lv_at hl 0 rfl) ?_
                      refine lv_if_le (tgt := 214) hx hb dX11_sewing_167 (by decide) (fun c57 => ?_) (fun c57 => ?_)
                      · skip
                        have zc57 : t52.toInt ≤ 0 := by rw [fa_le, show (0 : Int32).toInt = 0 from by decide] at c57; exact c57
                        obtain ⟨t58, et58⟩ : ∃ y : Int32, y = l8_39 + 1 := ⟨_, rfl⟩
                        have zt58 : t58.toInt = l8_39.toInt + 1 := by rw [et58]; exact add_i rfl (by decide) (by omega) (by omega)
                        refine lv_iinc (v := t58) (lv' := [(8, .int t58), (9, .int t52), (7, .int l7_37), (6, .int r33), (5, .int r22), (4, .int r16), (0, .ref y0), (1, .int p1), (2, .int p2), (3, .int p3)]) hx hb dX11_sewing_214 hl (k := 1) rfl (by rw [et58]; rfl) (by decide) rfl (fun ls hl => ?_)
                        refine lv_goto (tgt := 104) hx hb dX11_sewing_217 (by decide) ?_
                        have rg59 := fb_rng t58
                        exact ih39 t58 v39 f39 w39 g39 hIv39 hCf39 hRf39 hq0_v39 hq1_v39 hq2_v39 hq3_v39 hq4_v39 hq5_v39 hq8_v39 hq9_v39 hq10_v39 hq13_v39 hq14_v39 hq15_v39 hq17_v39 hq18_v39 hq24_v39 hq25_v39 hq35_v39 hq36_v39 hq38_v39 hq39_v39 ⟨show (0 : Int) ≤ t58.toInt by omega, show t58.toInt ≤ (2147483647 : Int) by omega⟩ hM_v39 hA_f39 (by show (2147483647 - t58.toInt).toNat < n39; omega) _ _ _ hP hD hS (lv_sub hl [0, 2, 3, 4, 5, 6, 7, 8, 9] rfl)
                      · skip
                        have zc57 : ¬ (t52.toInt ≤ 0) := by rw [fa_le, show (0 : Int32).toInt = 0 from by decide] at c57; exact c57
                        refine lv_iload hx hb dX11_sewing_170 (lv_at hl 0 rfl) ?_
                        refine lv_iload hx hb dX11_sewing_172 (lv_at hl 3 rfl) ?_
                        refine lv_icmp_gt (tgt := 214) hx hb dX11_sewing_174 (by decide) (fun c60 => ?_) (fun c60 => ?_)
                        · skip
                          have zc60 : r33.toInt < t52.toInt := by rw [fa_lt] at c60; exact c60
                          have rg61 := fb_rng r33
                          obtain ⟨t62, et62⟩ : ∃ y : Int32, y = l8_39 + 1 := ⟨_, rfl⟩
                          have zt62 : t62.toInt = l8_39.toInt + 1 := by rw [et62]; exact add_i rfl (by decide) (by omega) (by omega)
                          refine lv_iinc (v := t62) (lv' := [(8, .int t62), (9, .int t52), (7, .int l7_37), (6, .int r33), (5, .int r22), (4, .int r16), (0, .ref y0), (1, .int p1), (2, .int p2), (3, .int p3)]) hx hb dX11_sewing_214 hl (k := 1) rfl (by rw [et62]; rfl) (by decide) rfl (fun ls hl => ?_)
                          refine lv_goto (tgt := 104) hx hb dX11_sewing_217 (by decide) ?_
                          have rg63 := fb_rng t62
                          exact ih39 t62 v39 f39 w39 g39 hIv39 hCf39 hRf39 hq0_v39 hq1_v39 hq2_v39 hq3_v39 hq4_v39 hq5_v39 hq8_v39 hq9_v39 hq10_v39 hq13_v39 hq14_v39 hq15_v39 hq17_v39 hq18_v39 hq24_v39 hq25_v39 hq35_v39 hq36_v39 hq38_v39 hq39_v39 ⟨show (0 : Int) ≤ t62.toInt by omega, show t62.toInt ≤ (2147483647 : Int) by omega⟩ hM_v39 hA_f39 (by show (2147483647 - t62.toInt).toNat < n39; omega) _ _ _ hP hD hS (lv_sub hl [0, 2, 3, 4, 5, 6, 7, 8, 9] rfl)
                        · skip
                          have zc60 : ¬ (r33.toInt < t52.toInt) := by rw [fa_lt] at c60; exact c60
                          have rg64 := fb_rng r33
                          refine lv_aload_n hx hb dX11_sewing_177 rfl (lv_at hl 6 rfl) ?_
                          refine lv_iload_n hx hb dX11_sewing_178 rfl (lv_at hl 7 rfl) ?_
                          refine lv_iload_n hx hb dX11_sewing_179 rfl (lv_at hl 8 rfl) ?_
                          refine lv_iload hx hb dX11_sewing_180 (lv_at hl 1 rfl) ?_
                          refine lv_iload hx hb dX11_sewing_182 (lv_at hl 0 rfl) ?_
                          refine lv_ineg hx hb dX11_sewing_184 ?_
                          refine lv_topi (fun t65 et65 => ?_)
                          refine cbVi (n := 4) (rest := []) hx hb hml hown hts hE hP hD hS hA (sY_X11_isSewn_1 l dC dI cy y0 r p1 p2 l8_39 t65 v39 f39 w39 g39 hIv39 hCf39 hRf39 ⟨show (0 : Int) ≤ p1.toInt by omega, show p1.toInt ≤ (5 : Int) by omega⟩ ⟨show (0 : Int) ≤ p2.toInt by omega, show p2.toInt ≤ (5 : Int) by omega⟩) k_1892 k_1894 k_87 k_114 k_1895 (by decide +kernel) ⟨Nat.le_of_ble_eq_true rfl, Nat.le_of_ble_eq_true rfl⟩ 0 11 rfl rfl (rfl) hl.1 rfl (Nat.le_of_ble_eq_true rfl) dX11_sewing_185 (fun r66 u H locs hw hP hD hS => ?_)
                          obtain ⟨v67, f68, w69, g70⟩ := u
                          obtain ⟨kV_v67, kF_f68, hIv67, hCf68, hRf68, hk0_v67, hk1_v67, hk2_v67, hk3_v67, hk4_v67, hk5_v67, hk8_v67, hk9_v67, hk10_v67, hk13_v67, hk14_v67, hk15_v67, hk17_v67, hk18_v67, hk24_v67, hk25_v67, hk35_v67, hk36_v67, hk38_v67, hk39_v67, hw⟩ := hw
                          have hM_v67 : KV [] v67 v := KV.tr kV_v67 hM_v39 rfl
                          have hA_f68 : KF [7, 8, 24] f68 f := KF.tr kF_f68 hA_f39 rfl
                          have hP : va_P (dC, dI) vwCl (YW cy y0 r v67 f68 w69 g70) H := hP
                          have hD : va_D A (YW cy y0 r v67 f68 w69 g70) := hD
                          have hUv67 : (v67 35).toInt + (v67 36).toInt ≤ 40 := hIv67.2
                          have hq0_v67 : v67 0 = (v 0) := hk0_v67.trans hq0_v39
                          have hq1_v67 : v67 1 = (v 1) := hk1_v67.trans hq1_v39
                          have hq2_v67 : v67 2 = (v 2) := hk2_v67.trans hq2_v39
                          have hq3_v67 : v67 3 = (v 3) := hk3_v67.trans hq3_v39
                          have hq4_v67 : v67 4 = (v 4) := hk4_v67.trans hq4_v39
                          have hq5_v67 : v67 5 = (v 5) := hk5_v67.trans hq5_v39
                          have hq8_v67 : v67 8 = (v 8) := hk8_v67.trans hq8_v39
                          have hq9_v67 : v67 9 = (v 9) := hk9_v67.trans hq9_v39
                          have zq9_v67 := congrArg Int32.toInt hq9_v67
                          have hq10_v67 : v67 10 = (v 10) := hk10_v67.trans hq10_v39
                          have hq13_v67 : v67 13 = (v 13) := hk13_v67.trans hq13_v39
                          have hq14_v67 : v67 14 = (v 14) := hk14_v67.trans hq14_v39
                          have hq15_v67 : v67 15 = (v 15) := hk15_v67.trans hq15_v39
                          have hq17_v67 : v67 17 = (v 17) := hk17_v67.trans hq17_v39
                          have hq18_v67 : v67 18 = (v 18) := hk18_v67.trans hq18_v39
                          have hq24_v67 : v67 24 = (v 24) := hk24_v67.trans hq24_v39
                          have hq25_v67 : v67 25 = (v 25) := hk25_v67.trans hq25_v39
                          have hq35_v67 : v67 35 = (v 35) := hk35_v67.trans hq35_v39
                          have hq36_v67 : v67 36 = (v 36) := hk36_v67.trans hq36_v39
                          have hq38_v67 : v67 38 = (v 38) := hk38_v67.trans hq38_v39
                          have hq39_v67 : v67 39 = (v 39) := hk39_v67.trans hq39_v39
                          rcases hw with ⟨g71⟩ | ⟨g71⟩
                          · skip
                            subst g71
                            refine lv_if_eq (tgt := 214) hx hb dX11_sewing_188 (by decide) (fun c0 => absurd c0 (by decide)) (fun _ => ?_)
                            refine lv_iload_n hx hb dX11_sewing_191 rfl (lv_at hl 9 rfl) ?_
                            refine lv_if_ne (tgt := 200) hx hb dX11_sewing_192 (by decide) (fun c72 => ?_) (fun c72 => ?_)
                            · skip
                              have zc72 : ¬ (p3.toInt = 0) := by rw [fa_eq, show (0 : Int32).toInt = 0 from by decide] at c72; exact c72
                              refine lv_iload_n hx hb dX11_sewing_200 rfl (lv_at hl 9 rfl) ?_
                              refine lv_iconst (v := 1) hx hb dX11_sewing_201 (by decide) ?_
                              refine lv_icmp_ne (tgt := 210) hx hb dX11_sewing_202 (by decide) (fun c73 => ?_) (fun c73 => ?_)
                              · skip
                                have zc73 : ¬ (p3.toInt = 1) := by rw [fa_eq, show (1 : Int32).toInt = 1 from by decide] at c73; exact c73
                                refine lv_iload hx hb dX11_sewing_210 (lv_at hl 0 rfl) ?_
                                refine lv_ineg hx hb dX11_sewing_212 ?_
                                refine lv_topi (fun t74 et74 => ?_)
                                exact ret t74 (v67, f68, w69, g70) _ _ _ _ _ _ rfl ⟨hM_v67, hA_f68, hIv67, hCf68, hRf68, (hk0_v67.trans hq0_v39), (hk1_v67.trans hq1_v39), (hk2_v67.trans hq2_v39), (hk3_v67.trans hq3_v39), (hk4_v67.trans hq4_v39), (hk5_v67.trans hq5_v39), (hk8_v67.trans hq8_v39), (hk9_v67.trans hq9_v39), (hk10_v67.trans hq10_v39), (hk13_v67.trans hq13_v39), (hk14_v67.trans hq14_v39), (hk15_v67.trans hq15_v39), (hk17_v67.trans hq17_v39), (hk18_v67.trans hq18_v39), (hk24_v67.trans hq24_v39), (hk25_v67.trans hq25_v39), (hk35_v67.trans hq35_v39), (hk36_v67.trans hq36_v39), (hk38_v67.trans hq38_v39), (hk39_v67.trans hq39_v39)⟩ hP hD hS dX11_sewing_213 (Nat.le_refl _) (Nat.le_refl _)
                              · skip
                                have zc73 : p3.toInt = 1 := by rw [fa_eq, show (1 : Int32).toInt = 1 from by decide] at c73; exact c73
                                refine lv_iload hx hb dX11_sewing_205 (lv_at hl 1 rfl) ?_
                                refine lv_goto (tgt := 213) hx hb dX11_sewing_207 (by decide) ?_
                                exact ret l8_39 (v67, f68, w69, g70) _ _ _ _ _ _ rfl ⟨hM_v67, hA_f68, hIv67, hCf68, hRf68, (hk0_v67.trans hq0_v39), (hk1_v67.trans hq1_v39), (hk2_v67.trans hq2_v39), (hk3_v67.trans hq3_v39), (hk4_v67.trans hq4_v39), (hk5_v67.trans hq5_v39), (hk8_v67.trans hq8_v39), (hk9_v67.trans hq9_v39), (hk10_v67.trans hq10_v39), (hk13_v67.trans hq13_v39), (hk14_v67.trans hq14_v39), (hk15_v67.trans hq15_v39), (hk17_v67.trans hq17_v39), (hk18_v67.trans hq18_v39), (hk24_v67.trans hq24_v39), (hk25_v67.trans hq25_v39), (hk35_v67.trans hq35_v39), (hk36_v67.trans hq36_v39), (hk38_v67.trans hq38_v39), (hk39_v67.trans hq39_v39)⟩ hP hD hS dX11_sewing_213 (Nat.le_refl _) (Nat.le_refl _)
                            · skip
                              have zc72 : p3.toInt = 0 := by rw [fa_eq, show (0 : Int32).toInt = 0 from by decide] at c72; exact c72
                              refine lv_iload hx hb dX11_sewing_195 (lv_at hl 2 rfl) ?_
                              refine lv_goto (tgt := 213) hx hb dX11_sewing_197 (by decide) ?_
                              exact ret l7_37 (v67, f68, w69, g70) _ _ _ _ _ _ rfl ⟨hM_v67, hA_f68, hIv67, hCf68, hRf68, (hk0_v67.trans hq0_v39), (hk1_v67.trans hq1_v39), (hk2_v67.trans hq2_v39), (hk3_v67.trans hq3_v39), (hk4_v67.trans hq4_v39), (hk5_v67.trans hq5_v39), (hk8_v67.trans hq8_v39), (hk9_v67.trans hq9_v39), (hk10_v67.trans hq10_v39), (hk13_v67.trans hq13_v39), (hk14_v67.trans hq14_v39), (hk15_v67.trans hq15_v39), (hk17_v67.trans hq17_v39), (hk18_v67.trans hq18_v39), (hk24_v67.trans hq24_v39), (hk25_v67.trans hq25_v39), (hk35_v67.trans hq35_v39), (hk36_v67.trans hq36_v39), (hk38_v67.trans hq38_v39), (hk39_v67.trans hq39_v39)⟩ hP hD hS dX11_sewing_213 (Nat.le_refl _) (Nat.le_refl _)
                          · skip
                            subst g71
                            refine lv_if_eq (tgt := 214) hx hb dX11_sewing_188 (by decide) (fun _ => ?_) (fun c0 => absurd (by decide) c0)
                            obtain ⟨t75, et75⟩ : ∃ y : Int32, y = l8_39 + 1 := ⟨_, rfl⟩
                            have zt75 : t75.toInt = l8_39.toInt + 1 := by rw [et75]; exact add_i rfl (by decide) (by omega) (by omega)
                            refine lv_iinc (v := t75) (lv' := [(8, .int t75), (9, .int t52), (7, .int l7_37), (6, .int r33), (5, .int r22), (4, .int r16), (0, .ref y0), (1, .int p1), (2, .int p2), (3, .int p3)]) hx hb dX11_sewing_214 hl (k := 1) rfl (by rw [et75]; rfl) (by decide) rfl (fun ls hl => ?_)
                            refine lv_goto (tgt := 104) hx hb dX11_sewing_217 (by decide) ?_
                            have rg76 := fb_rng t75
                            exact ih39 t75 v67 f68 w69 g70 hIv67 hCf68 hRf68 hq0_v67 hq1_v67 hq2_v67 hq3_v67 hq4_v67 hq5_v67 hq8_v67 hq9_v67 hq10_v67 hq13_v67 hq14_v67 hq15_v67 hq17_v67 hq18_v67 hq24_v67 hq25_v67 hq35_v67 hq36_v67 hq38_v67 hq39_v67 ⟨show (0 : Int) ≤ t75.toInt by omega, show t75.toInt ≤ (2147483647 : Int) by omega⟩ hM_v67 hA_f68 (by show (2147483647 - t75.toInt).toNat < n39; omega) _ _ _ hP hD hS (lv_sub hl [0, 2, 3, 4, 5, 6, 7, 8, 9] rfl)
                    · skip
                      have zc54 : ¬ (r22.toInt < t52.toInt) := by rw [fa_lt] at c54; exact c54
                      have rg77 := fb_rng t52
                      have rg78 := fb_rng r22
                      refine lv_aload_n hx hb dX11_sewing_130 rfl (lv_at hl 6 rfl) ?_
                      refine lv_iload_n hx hb dX11_sewing_131 rfl (lv_at hl 7 rfl) ?_
                      refine lv_iload_n hx hb dX11_sewing_132 rfl (lv_at hl 8 rfl) ?_
                      refine lv_iload hx hb dX11_sewing_133 (lv_at hl 1 rfl) ?_
                      refine lv_iload hx hb dX11_sewing_135 (lv_at hl 0 rfl) ?_
                      refine cbVi (n := 4) (rest := []) hx hb hml hown hts hE hP hD hS hA (sY_X11_isSewn_1 l dC dI cy y0 r p1 p2 l8_39 t52 v39 f39 w39 g39 hIv39 hCf39 hRf39 ⟨show (0 : Int) ≤ p1.toInt by omega, show p1.toInt ≤ (5 : Int) by omega⟩ ⟨show (0 : Int) ≤ p2.toInt by omega, show p2.toInt ≤ (5 : Int) by omega⟩) k_1892 k_1894 k_87 k_114 k_1895 (by decide +kernel) ⟨Nat.le_of_ble_eq_true rfl, Nat.le_of_ble_eq_true rfl⟩ 0 11 rfl rfl (rfl) hl.1 rfl (Nat.le_of_ble_eq_true rfl) dX11_sewing_137 (fun r79 u H locs hw hP hD hS => ?_)
                      obtain ⟨v80, f81, w82, g83⟩ := u
                      obtain ⟨kV_v80, kF_f81, hIv80, hCf81, hRf81, hk0_v80, hk1_v80, hk2_v80, hk3_v80, hk4_v80, hk5_v80, hk8_v80, hk9_v80, hk10_v80, hk13_v80, hk14_v80, hk15_v80, hk17_v80, hk18_v80, hk24_v80, hk25_v80, hk35_v80, hk36_v80, hk38_v80, hk39_v80, hw⟩ := hw
                      have hM_v80 : KV [] v80 v := KV.tr kV_v80 hM_v39 rfl
                      have hA_f81 : KF [7, 8, 24] f81 f := KF.tr kF_f81 hA_f39 rfl
                      have hP : va_P (dC, dI) vwCl (YW cy y0 r v80 f81 w82 g83) H := hP
                      have hD : va_D A (YW cy y0 r v80 f81 w82 g83) := hD
                      have hUv80 : (v80 35).toInt + (v80 36).toInt ≤ 40 := hIv80.2
                      have hq0_v80 : v80 0 = (v 0) := hk0_v80.trans hq0_v39
                      have hq1_v80 : v80 1 = (v 1) := hk1_v80.trans hq1_v39
                      have hq2_v80 : v80 2 = (v 2) := hk2_v80.trans hq2_v39
                      have hq3_v80 : v80 3 = (v 3) := hk3_v80.trans hq3_v39
                      have hq4_v80 : v80 4 = (v 4) := hk4_v80.trans hq4_v39
                      have hq5_v80 : v80 5 = (v 5) := hk5_v80.trans hq5_v39
                      have hq8_v80 : v80 8 = (v 8) := hk8_v80.trans hq8_v39
                      have hq9_v80 : v80 9 = (v 9) := hk9_v80.trans hq9_v39
                      have zq9_v80 := congrArg Int32.toInt hq9_v80
                      have hq10_v80 : v80 10 = (v 10) := hk10_v80.trans hq10_v39
                      have hq13_v80 : v80 13 = (v 13) := hk13_v80.trans hq13_v39
                      have hq14_v80 : v80 14 = (v 14) := hk14_v80.trans hq14_v39
                      have hq15_v80 : v80 15 = (v 15) := hk15_v80.trans hq15_v39
                      have hq17_v80 : v80 17 = (v 17) := hk17_v80.trans hq17_v39
                      have hq18_v80 : v80 18 = (v 18) := hk18_v80.trans hq18_v39
                      have hq24_v80 : v80 24 = (v 24) := hk24_v80.trans hq24_v39
                      have hq25_v80 : v80 25 = (v 25) := hk25_v80.trans hq25_v39
                      have hq35_v80 : v80 35 = (v 35) := hk35_v80.trans hq35_v39
                      have hq36_v80 : v80 36 = (v 36) := hk36_v80.trans hq36_v39
                      have hq38_v80 : v80 38 = (v 38) := hk38_v80.trans hq38_v39
                      have hq39_v80 : v80 39 = (v 39) := hk39_v80.trans hq39_v39
                      rcases hw with ⟨g84⟩ | ⟨g84⟩
                      · skip
                        subst g84
                        refine lv_if_eq (tgt := 165) hx hb dX11_sewing_140 (by decide) (fun c0 => absurd c0 (by decide)) (fun _ => ?_)
                        refine lv_iload_n hx hb dX11_sewing_143 rfl (lv_at hl 9 rfl) ?_
                        refine lv_if_ne (tgt := 152) hx hb dX11_sewing_144 (by decide) (fun c85 => ?_) (fun c85 => ?_)
                        · skip
                          have zc85 : ¬ (p3.toInt = 0) := by rw [fa_eq, show (0 : Int32).toInt = 0 from by decide] at c85; exact c85
                          refine lv_iload_n hx hb dX11_sewing_152 rfl (lv_at hl 9 rfl) ?_
                          refine lv_iconst (v := 1) hx hb dX11_sewing_153 (by decide) ?_
                          refine lv_icmp_ne (tgt := 162) hx hb dX11_sewing_154 (by decide) (fun c86 => ?_) (fun c86 => ?_)
                          · skip
                            have zc86 : ¬ (p3.toInt = 1) := by rw [fa_eq, show (1 : Int32).toInt = 1 from by decide] at c86; exact c86
                            refine lv_iload hx hb dX11_sewing_162 (lv_at hl 0 rfl) ?_
                            exact ret t52 (v80, f81, w82, g83) _ _ _ _ _ _ rfl ⟨hM_v80, hA_f81, hIv80, hCf81, hRf81, (hk0_v80.trans hq0_v39), (hk1_v80.trans hq1_v39), (hk2_v80.trans hq2_v39), (hk3_v80.trans hq3_v39), (hk4_v80.trans hq4_v39), (hk5_v80.trans hq5_v39), (hk8_v80.trans hq8_v39), (hk9_v80.trans hq9_v39), (hk10_v80.trans hq10_v39), (hk13_v80.trans hq13_v39), (hk14_v80.trans hq14_v39), (hk15_v80.trans hq15_v39), (hk17_v80.trans hq17_v39), (hk18_v80.trans hq18_v39), (hk24_v80.trans hq24_v39), (hk25_v80.trans hq25_v39), (hk35_v80.trans hq35_v39), (hk36_v80.trans hq36_v39), (hk38_v80.trans hq38_v39), (hk39_v80.trans hq39_v39)⟩ hP hD hS dX11_sewing_164 (Nat.le_refl _) (Nat.le_refl _)
                          · skip
                            have zc86 : p3.toInt = 1 := by rw [fa_eq, show (1 : Int32).toInt = 1 from by decide] at c86; exact c86
                            refine lv_iload hx hb dX11_sewing_157 (lv_at hl 1 rfl) ?_
                            refine lv_goto (tgt := 164) hx hb dX11_sewing_159 (by decide) ?_
                            exact ret l8_39 (v80, f81, w82, g83) _ _ _ _ _ _ rfl ⟨hM_v80, hA_f81, hIv80, hCf81, hRf81, (hk0_v80.trans hq0_v39), (hk1_v80.trans hq1_v39), (hk2_v80.trans hq2_v39), (hk3_v80.trans hq3_v39), (hk4_v80.trans hq4_v39), (hk5_v80.trans hq5_v39), (hk8_v80.trans hq8_v39), (hk9_v80.trans hq9_v39), (hk10_v80.trans hq10_v39), (hk13_v80.trans hq13_v39), (hk14_v80.trans hq14_v39), (hk15_v80.trans hq15_v39), (hk17_v80.trans hq17_v39), (hk18_v80.trans hq18_v39), (hk24_v80.trans hq24_v39), (hk25_v80.trans hq25_v39), (hk35_v80.trans hq35_v39), (hk36_v80.trans hq36_v39), (hk38_v80.trans hq38_v39), (hk39_v80.trans hq39_v39)⟩ hP hD hS dX11_sewing_164 (Nat.le_refl _) (Nat.le_refl _)
                        · skip
                          have zc85 : p3.toInt = 0 := by rw [fa_eq, show (0 : Int32).toInt = 0 from by decide] at c85; exact c85
                          refine lv_iload hx hb dX11_sewing_147 (lv_at hl 2 rfl) ?_
                          refine lv_goto (tgt := 164) hx hb dX11_sewing_149 (by decide) ?_
                          exact ret l7_37 (v80, f81, w82, g83) _ _ _ _ _ _ rfl ⟨hM_v80, hA_f81, hIv80, hCf81, hRf81, (hk0_v80.trans hq0_v39), (hk1_v80.trans hq1_v39), (hk2_v80.trans hq2_v39), (hk3_v80.trans hq3_v39), (hk4_v80.trans hq4_v39), (hk5_v80.trans hq5_v39), (hk8_v80.trans hq8_v39), (hk9_v80.trans hq9_v39), (hk10_v80.trans hq10_v39), (hk13_v80.trans hq13_v39), (hk14_v80.trans hq14_v39), (hk15_v80.trans hq15_v39), (hk17_v80.trans hq17_v39), (hk18_v80.trans hq18_v39), (hk24_v80.trans hq24_v39), (hk25_v80.trans hq25_v39), (hk35_v80.trans hq35_v39), (hk36_v80.trans hq36_v39), (hk38_v80.trans hq38_v39), (hk39_v80.trans hq39_v39)⟩ hP hD hS dX11_sewing_164 (Nat.le_refl _) (Nat.le_refl _)
                      · skip
                        subst g84
                        refine lv_if_eq (tgt := 165) hx hb dX11_sewing_140 (by decide) (fun _ => ?_) (fun c0 => absurd (by decide) c0)
                        refine lv_iload hx hb dX11_sewing_165 (lv_at hl 0 rfl) ?_
                        refine lv_if_le (tgt := 214) hx hb dX11_sewing_167 (by decide) (fun c87 => ?_) (fun c87 => ?_)
                        · skip
                          have zc87 : t52.toInt ≤ 0 := by rw [fa_le, show (0 : Int32).toInt = 0 from by decide] at c87; exact c87
                          obtain ⟨t88, et88⟩ : ∃ y : Int32, y = l8_39 + 1 := ⟨_, rfl⟩
                          have zt88 : t88.toInt = l8_39.toInt + 1 := by rw [et88]; exact add_i rfl (by decide) (by omega) (by omega)
                          refine lv_iinc (v := t88) (lv' := [(8, .int t88), (9, .int t52), (7, .int l7_37), (6, .int r33), (5, .int r22), (4, .int r16), (0, .ref y0), (1, .int p1), (2, .int p2), (3, .int p3)]) hx hb dX11_sewing_214 hl (k := 1) rfl (by rw [et88]; rfl) (by decide) rfl (fun ls hl => ?_)
                          refine lv_goto (tgt := 104) hx hb dX11_sewing_217 (by decide) ?_
                          have rg89 := fb_rng t88
                          exact ih39 t88 v80 f81 w82 g83 hIv80 hCf81 hRf81 hq0_v80 hq1_v80 hq2_v80 hq3_v80 hq4_v80 hq5_v80 hq8_v80 hq9_v80 hq10_v80 hq13_v80 hq14_v80 hq15_v80 hq17_v80 hq18_v80 hq24_v80 hq25_v80 hq35_v80 hq36_v80 hq38_v80 hq39_v80 ⟨show (0 : Int) ≤ t88.toInt by omega, show t88.toInt ≤ (2147483647 : Int) by omega⟩ hM_v80 hA_f81 (by show (2147483647 - t88.toInt).toNat < n39; omega) _ _ _ hP hD hS (lv_sub hl [0, 2, 3, 4, 5, 6, 7, 8, 9] rfl)
                        · skip
                          have zc87 : ¬ (t52.toInt ≤ 0) := by rw [fa_le, show (0 : Int32).toInt = 0 from by decide] at c87; exact c87
                          refine lv_iload hx hb dX11_sewing_170 (lv_at hl 0 rfl) ?_
                          refine lv_iload hx hb dX11_sewing_172 (lv_at hl 3 rfl) ?_
                          refine lv_icmp_gt (tgt := 214) hx hb dX11_sewing_174 (by decide) (fun c90 => ?_) (fun c90 => ?_)
                          · skip
                            have zc90 : r33.toInt < t52.toInt := by rw [fa_lt] at c90; exact c90
                            have rg91 := fb_rng r33
                            obtain ⟨t92, et92⟩ : ∃ y : Int32, y = l8_39 + 1 := ⟨_, rfl⟩
                            have zt92 : t92.toInt = l8_39.toInt + 1 := by rw [et92]; exact add_i rfl (by decide) (by omega) (by omega)
                            refine lv_iinc (v := t92) (lv' := [(8, .int t92), (9, .int t52), (7, .int l7_37), (6, .int r33), (5, .int r22), (4, .int r16), (0, .ref y0), (1, .int p1), (2, .int p2), (3, .int p3)]) hx hb dX11_sewing_214 hl (k := 1) rfl (by rw [et92]; rfl) (by decide) rfl (fun ls hl => ?_)
                            refine lv_goto (tgt := 104) hx hb dX11_sewing_217 (by decide) ?_
                            have rg93 := fb_rng t92
                            exact ih39 t92 v80 f81 w82 g83 hIv80 hCf81 hRf81 hq0_v80 hq1_v80 hq2_v80 hq3_v80 hq4_v80 hq5_v80 hq8_v80 hq9_v80 hq10_v80 hq13_v80 hq14_v80 hq15_v80 hq17_v80 hq18_v80 hq24_v80 hq25_v80 hq35_v80 hq36_v80 hq38_v80 hq39_v80 ⟨show (0 : Int) ≤ t92.toInt by omega, show t92.toInt ≤ (2147483647 : Int) by omega⟩ hM_v80 hA_f81 (by show (2147483647 - t92.toInt).toNat < n39; omega) _ _ _ hP hD hS (lv_sub hl [0, 2, 3, 4, 5, 6, 7, 8, 9] rfl)
                          · skip
                            have zc90 : ¬ (r33.toInt < t52.toInt) := by rw [fa_lt] at c90; exact c90
                            have rg94 := fb_rng r33
                            refine lv_aload_n hx hb dX11_sewing_177 rfl (lv_at hl 6 rfl) ?_
                            refine lv_iload_n hx hb dX11_sewing_178 rfl (lv_at hl 7 rfl) ?_
                            refine lv_iload_n hx hb dX11_sewing_179 rfl (lv_at hl 8 rfl) ?_
                            refine lv_iload hx hb dX11_sewing_180 (lv_at hl 1 rfl) ?_
                            refine lv_iload hx hb dX11_sewing_182 (lv_at hl 0 rfl) ?_
                            refine lv_ineg hx hb dX11_sewing_184 ?_
                            refine lv_topi (fun t95 et95 => ?_)
                            refine cbVi (n := 4) (rest := []) hx hb hml hown hts hE hP hD hS hA (sY_X11_isSewn_1 l dC dI cy y0 r p1 p2 l8_39 t95 v80 f81 w82 g83 hIv80 hCf81 hRf81 ⟨show (0 : Int) ≤ p1.toInt by omega, show p1.toInt ≤ (5 : Int) by omega⟩ ⟨show (0 : Int) ≤ p2.toInt by omega, show p2.toInt ≤ (5 : Int) by omega⟩) k_1892 k_1894 k_87 k_114 k_1895 (by decide +kernel) ⟨Nat.le_of_ble_eq_true rfl, Nat.le_of_ble_eq_true rfl⟩ 0 11 rfl rfl (rfl) hl.1 rfl (Nat.le_of_ble_eq_true rfl) dX11_sewing_185 (fun r96 u H locs hw hP hD hS => ?_)
                            obtain ⟨v97, f98, w99, g100⟩ := u
                            obtain ⟨kV_v97, kF_f98, hIv97, hCf98, hRf98, hk0_v97, hk1_v97, hk2_v97, hk3_v97, hk4_v97, hk5_v97, hk8_v97, hk9_v97, hk10_v97, hk13_v97, hk14_v97, hk15_v97, hk17_v97, hk18_v97, hk24_v97, hk25_v97, hk35_v97, hk36_v97, hk38_v97, hk39_v97, hw⟩ := hw
                            have hM_v97 : KV [] v97 v := KV.tr kV_v97 hM_v80 rfl
                            have hA_f98 : KF [7, 8, 24] f98 f := KF.tr kF_f98 hA_f81 rfl
                            have hP : va_P (dC, dI) vwCl (YW cy y0 r v97 f98 w99 g100) H := hP
                            have hD : va_D A (YW cy y0 r v97 f98 w99 g100) := hD
                            have hUv97 : (v97 35).toInt + (v97 36).toInt ≤ 40 := hIv97.2
                            have hq0_v97 : v97 0 = (v 0) := hk0_v97.trans hq0_v80
                            have hq1_v97 : v97 1 = (v 1) := hk1_v97.trans hq1_v80
                            have hq2_v97 : v97 2 = (v 2) := hk2_v97.trans hq2_v80
                            have hq3_v97 : v97 3 = (v 3) := hk3_v97.trans hq3_v80
                            have hq4_v97 : v97 4 = (v 4) := hk4_v97.trans hq4_v80
                            have hq5_v97 : v97 5 = (v 5) := hk5_v97.trans hq5_v80
                            have hq8_v97 : v97 8 = (v 8) := hk8_v97.trans hq8_v80
                            have hq9_v97 : v97 9 = (v 9) := hk9_v97.trans hq9_v80
                            have zq9_v97 := congrArg Int32.toInt hq9_v97
                            have hq10_v97 : v97 10 = (v 10) := hk10_v97.trans hq10_v80
                            have hq13_v97 : v97 13 = (v 13) := hk13_v97.trans hq13_v80
                            have hq14_v97 : v97 14 = (v 14) := hk14_v97.trans hq14_v80
                            have hq15_v97 : v97 15 = (v 15) := hk15_v97.trans hq15_v80
                            have hq17_v97 : v97 17 = (v 17) := hk17_v97.trans hq17_v80
                            have hq18_v97 : v97 18 = (v 18) := hk18_v97.trans hq18_v80
                            have hq24_v97 : v97 24 = (v 24) := hk24_v97.trans hq24_v80
                            have hq25_v97 : v97 25 = (v 25) := hk25_v97.trans hq25_v80
                            have hq35_v97 : v97 35 = (v 35) := hk35_v97.trans hq35_v80
                            have hq36_v97 : v97 36 = (v 36) := hk36_v97.trans hq36_v80
                            have hq38_v97 : v97 38 = (v 38) := hk38_v97.trans hq38_v80
                            have hq39_v97 : v97 39 = (v 39) := hk39_v97.trans hq39_v80
                            rcases hw with ⟨g101⟩ | ⟨g101⟩
                            · skip
                              subst g101
                              refine lv_if_eq (tgt := 214) hx hb dX11_sewing_188 (by decide) (fun c0 => absurd c0 (by decide)) (fun _ => ?_)
                              refine lv_iload_n hx hb dX11_sewing_191 rfl (lv_at hl 9 rfl) ?_
                              refine lv_if_ne (tgt := 200) hx hb dX11_sewing_192 (by decide) (fun c102 => ?_) (fun c102 => ?_)
                              · skip
                                have zc102 : ¬ (p3.toInt = 0) := by rw [fa_eq, show (0 : Int32).toInt = 0 from by decide] at c102; exact c102
                                refine lv_iload_n hx hb dX11_sewing_200 rfl (lv_at hl 9 rfl) ?_
                                refine lv_iconst (v := 1) hx hb dX11_sewing_201 (by decide) ?_
                                refine lv_icmp_ne (tgt := 210) hx hb dX11_sewing_202 (by decide) (fun c103 => ?_) (fun c103 => ?_)
                                · skip
                                  have zc103 : ¬ (p3.toInt = 1) := by rw [fa_eq, show (1 : Int32).toInt = 1 from by decide] at c103; exact c103
                                  refine lv_iload hx hb dX11_sewing_210 (lv_at hl 0 rfl) ?_
                                  refine lv_ineg hx hb dX11_sewing_212 ?_
                                  refine lv_topi (fun t104 et104 => ?_)
                                  exact ret t104 (v97, f98, w99, g100) _ _ _ _ _ _ rfl ⟨hM_v97, hA_f98, hIv97, hCf98, hRf98, (hk0_v97.trans (hk0_v80.trans hq0_v39)), (hk1_v97.trans (hk1_v80.trans hq1_v39)), (hk2_v97.trans (hk2_v80.trans hq2_v39)), (hk3_v97.trans (hk3_v80.trans hq3_v39)), (hk4_v97.trans (hk4_v80.trans hq4_v39)), (hk5_v97.trans (hk5_v80.trans hq5_v39)), (hk8_v97.trans (hk8_v80.trans hq8_v39)), (hk9_v97.trans (hk9_v80.trans hq9_v39)), (hk10_v97.trans (hk10_v80.trans hq10_v39)), (hk13_v97.trans (hk13_v80.trans hq13_v39)), (hk14_v97.trans (hk14_v80.trans hq14_v39)), (hk15_v97.trans (hk15_v80.trans hq15_v39)), (hk17_v97.trans (hk17_v80.trans hq17_v39)), (hk18_v97.trans (hk18_v80.trans hq18_v39)), (hk24_v97.trans (hk24_v80.trans hq24_v39)), (hk25_v97.trans (hk25_v80.trans hq25_v39)), (hk35_v97.trans (hk35_v80.trans hq35_v39)), (hk36_v97.trans (hk36_v80.trans hq36_v39)), (hk38_v97.trans (hk38_v80.trans hq38_v39)), (hk39_v97.trans (hk39_v80.trans hq39_v39))⟩ hP hD hS dX11_sewing_213 (Nat.le_refl _) (Nat.le_refl _)
                                · skip
                                  have zc103 : p3.toInt = 1 := by rw [fa_eq, show (1 : Int32).toInt = 1 from by decide] at c103; exact c103
                                  refine lv_iload hx hb dX11_sewing_205 (lv_at hl 1 rfl) ?_
                                  refine lv_goto (tgt := 213) hx hb dX11_sewing_207 (by decide) ?_
                                  exact ret l8_39 (v97, f98, w99, g100) _ _ _ _ _ _ rfl ⟨hM_v97, hA_f98, hIv97, hCf98, hRf98, (hk0_v97.trans (hk0_v80.trans hq0_v39)), (hk1_v97.trans (hk1_v80.trans hq1_v39)), (hk2_v97.trans (hk2_v80.trans hq2_v39)), (hk3_v97.trans (hk3_v80.trans hq3_v39)), (hk4_v97.trans (hk4_v80.trans hq4_v39)), (hk5_v97.trans (hk5_v80.trans hq5_v39)), (hk8_v97.trans (hk8_v80.trans hq8_v39)), (hk9_v97.trans (hk9_v80.trans hq9_v39)), (hk10_v97.trans (hk10_v80.trans hq10_v39)), (hk13_v97.trans (hk13_v80.trans hq13_v39)), (hk14_v97.trans (hk14_v80.trans hq14_v39)), (hk15_v97.trans (hk15_v80.trans hq15_v39)), (hk17_v97.trans (hk17_v80.trans hq17_v39)), (hk18_v97.trans (hk18_v80.trans hq18_v39)), (hk24_v97.trans (hk24_v80.trans hq24_v39)), (hk25_v97.trans (hk25_v80.trans hq25_v39)), (hk35_v97.trans (hk35_v80.trans hq35_v39)), (hk36_v97.trans (hk36_v80.trans hq36_v39)), (hk38_v97.trans (hk38_v80.trans hq38_v39)), (hk39_v97.trans (hk39_v80.trans hq39_v39))⟩ hP hD hS dX11_sewing_213 (Nat.le_refl _) (Nat.le_refl _)
                              · skip
                                have zc102 : p3.toInt = 0 := by rw [fa_eq, show (0 : Int32).toInt = 0 from by decide] at c102; exact c102
                                refine lv_iload hx hb dX11_sewing_195 (lv_at hl 2 rfl) ?_
                                refine lv_goto (tgt := 213) hx hb dX11_sewing_197 (by decide) ?_
                                exact ret l7_37 (v97, f98, w99, g100) _ _ _ _ _ _ rfl ⟨hM_v97, hA_f98, hIv97, hCf98, hRf98, (hk0_v97.trans (hk0_v80.trans hq0_v39)), (hk1_v97.trans (hk1_v80.trans hq1_v39)), (hk2_v97.trans (hk2_v80.trans hq2_v39)), (hk3_v97.trans (hk3_v80.trans hq3_v39)), (hk4_v97.trans (hk4_v80.trans hq4_v39)), (hk5_v97.trans (hk5_v80.trans hq5_v39)), (hk8_v97.trans (hk8_v80.trans hq8_v39)), (hk9_v97.trans (hk9_v80.trans hq9_v39)), (hk10_v97.trans (hk10_v80.trans hq10_v39)), (hk13_v97.trans (hk13_v80.trans hq13_v39)), (hk14_v97.trans (hk14_v80.trans hq14_v39)), (hk15_v97.trans (hk15_v80.trans hq15_v39)), (hk17_v97.trans (hk17_v80.trans hq17_v39)), (hk18_v97.trans (hk18_v80.trans hq18_v39)), (hk24_v97.trans (hk24_v80.trans hq24_v39)), (hk25_v97.trans (hk25_v80.trans hq25_v39)), (hk35_v97.trans (hk35_v80.trans hq35_v39)), (hk36_v97.trans (hk36_v80.trans hq36_v39)), (hk38_v97.trans (hk38_v80.trans hq38_v39)), (hk39_v97.trans (hk39_v80.trans hq39_v39))⟩ hP hD hS dX11_sewing_213 (Nat.le_refl _) (Nat.le_refl _)
                            · skip
                              subst g101
                              refine lv_if_eq (tgt := 214) hx hb dX11_sewing_188 (by decide) (fun _ => ?_) (fun c0 => absurd (by decide) c0)
                              obtain ⟨t105, et105⟩ : ∃ y : Int32, y = l8_39 + 1 := ⟨_, rfl⟩
                              have zt105 : t105.toInt = l8_39.toInt + 1 := by rw [et105]; exact add_i rfl (by decide) (by omega) (by omega)
                              refine lv_iinc (v := t105) (lv' := [(8, .int t105), (9, .int t52), (7, .int l7_37), (6, .int r33), (5, .int r22), (4, .int r16), (0, .ref y0), (1, .int p1), (2, .int p2), (3, .int p3)]) hx hb dX11_sewing_214 hl (k := 1) rfl (by rw [et105]; rfl) (by decide) rfl (fun ls hl => ?_)
                              refine lv_goto (tgt := 104) hx hb dX11_sewing_217 (by decide) ?_
                              have rg106 := fb_rng t105
                              exact ih39 t105 v97 f98 w99 g100 hIv97 hCf98 hRf98 hq0_v97 hq1_v97 hq2_v97 hq3_v97 hq4_v97 hq5_v97 hq8_v97 hq9_v97 hq10_v97 hq13_v97 hq14_v97 hq15_v97 hq17_v97 hq18_v97 hq24_v97 hq25_v97 hq35_v97 hq36_v97 hq38_v97 hq39_v97 ⟨show (0 : Int) ≤ t105.toInt by omega, show t105.toInt ≤ (2147483647 : Int) by omega⟩ hM_v97 hA_f98 (by show (2147483647 - t105.toInt).toNat < n39; omega) _ _ _ hP hD hS (lv_sub hl [0, 2, 3, 4, 5, 6, 7, 8, 9] rfl)
              exact lp39 _ 0 v37 f37 w37 g37 hIv37 hCf37 hRf37 hq0_v37 hq1_v37 hq2_v37 hq3_v37 hq4_v37 hq5_v37 hq8_v37 hq9_v37 hq10_v37 hq13_v37 hq14_v37 hq15_v37 hq17_v37 hq18_v37 hq24_v37 hq25_v37 hq35_v37 hq36_v37 hq38_v37 hq39_v37 ⟨by decide, by decide⟩ hM_v37 hA_f37 (Nat.lt_succ_self _) _ _ _ hP hD hS (lv_sub hl [0, 1, 2, 3, 4, 5, 6, 7, 8] rfl)
        exact lp37 _ 0 v f w g hIv hCf hRf rfl rfl rfl rfl rfl rfl rfl rfl rfl rfl rfl rfl rfl rfl rfl rfl rfl rfl rfl rfl ⟨by decide, by decide⟩ hM_v hA_f (Nat.lt_succ_self _) _ _ _ hP hD hS (lv_sub hl [0, 1, 2, 3, 4, 5, 6, 7] rfl)
      · skip
        subst g11
        refine lv_if_ne (tgt := 28) hx hb dX11_sewing_22 (by decide) (fun c0 => absurd (by decide) c0) (fun _ => ?_)
        refine lv_bipush (v := (-100)) hx hb dX11_sewing_25 (by decide) ?_
        exact ret (-100) (v, f, w, g) _ _ _ _ _ _ rfl ⟨hM_v, hA_f, hIv, hCf, hRf, rfl, rfl, rfl, rfl, rfl, rfl, rfl, rfl, rfl, rfl, rfl, rfl, rfl, rfl, rfl, rfl, rfl, rfl, rfl, rfl⟩ hP hD hS dX11_sewing_27 (Nat.le_refl _) (Nat.le_refl _)
    · skip
      subst g6
      refine lv_if_eq (tgt := 25) hx hb dX11_sewing_13 (by decide) (fun _ => ?_) (fun c0 => absurd (by decide) c0)
      refine lv_bipush (v := (-100)) hx hb dX11_sewing_25 (by decide) ?_
      exact ret (-100) (v, f, w, g) _ _ _ _ _ _ rfl ⟨hM_v, hA_f, hIv, hCf, hRf, rfl, rfl, rfl, rfl, rfl, rfl, rfl, rfl, rfl, rfl, rfl, rfl, rfl, rfl, rfl, rfl, rfl, rfl, rfl, rfl⟩ hP hD hS dX11_sewing_27 (Nat.le_refl _) (Nat.le_refl _)
  · skip
    subst g3
    refine lv_if_eq (tgt := 25) hx hb dX11_sewing_5 (by decide) (fun _ => ?_) (fun c0 => absurd (by decide) c0)
    refine lv_bipush (v := (-100)) hx hb dX11_sewing_25 (by decide) ?_
    exact ret (-100) (v, f, w, g) _ _ _ _ _ _ rfl ⟨hM_v, hA_f, hIv, hCf, hRf, rfl, rfl, rfl, rfl, rfl, rfl, rfl, rfl, rfl, rfl, rfl, rfl, rfl, rfl, rfl, rfl, rfl, rfl, rfl, rfl⟩ hP hD hS dX11_sewing_27 (Nat.le_refl _) (Nat.le_refl _)
set_option maxHeartbeats 4000000 in
set_option maxRecDepth 100000 in
theorem sY_X11_members_1 (l : Launch) (dC : Nat → ClassId) (dI : Nat → Nat → Nat) (cy : Nat → ClassId) (y0 : Nat) (r : Nat → Nat) (p0 : Int32) (v : Nat → Int32) (f : Nat → Nat → Int32) (w : Int64) (g : Nat → Int64) (hIv : YI v) (hCf : YC f) (hRf : progOK (f 4) (f 5) (v 9).toInt.toNat)  : ctI l (dC, dI) cy yX11_members cX11_members 3 .int 1 60 0 0 Unit [.int p0] (YW cy y0 r v f w g) (fun r u => True) (fun u => YW cy y0 r v f w g) := by
  refine ctI_of (by decide) (Nat.le_of_ble_eq_true rfl) (fun p e s m below meth c A ls Q hx hb hml hts hown hE hP hD hA hl ret => ?_)
  have hUv : (v 35).toInt + (v 36).toInt ≤ 40 := hIv.2
  have hown : s.vm.findClass RX11 = some m.cls := hown
  have hS : va_S A s.heap s.heap [] := va_S.rf
  have hl : lv_has ls 3 [(0, .int p0)] := hl
  refine lv_iconst (v := 0) hx hb dX11_members_0 (by decide) ?_
  refine lv_istore_n (lv' := [(1, .int 0), (0, .int p0)]) hx hb dX11_members_1 rfl hl (by decide) rfl (fun ls hl => ?_)
  refine lv_iconst (v := 0) hx hb dX11_members_2 (by decide) ?_
  refine lv_istore_n (lv' := [(2, .int 0), (1, .int 0), (0, .int p0)]) hx hb dX11_members_3 rfl hl (by decide) rfl (fun ls hl => ?_)
  have lp1 : ∀ (n1 : Nat) (l1_1 : Int32) (l2_1 : Int32), ((0 : Int) ≤ l2_1.toInt ∧ l2_1.toInt ≤ 2147483647) → (2147483647 - l2_1.toInt).toNat < n1 → ∀ (H : Heap) (locs : List Loc) (ls : Array Slot), va_P (dC, dI) vwCl (YW cy y0 r v f w g) H → va_D A (YW cy y0 r v f w g) → va_S A s.heap H locs → lv_has ls 3 [(2, .int l2_1), (1, .int l1_1), (0, .int p0)] → W p l e { frames := 1, cells := 0, slots := 0, locals := 60 } s m ([.int p0] : List Value).toArray below meth c H locs 0 0 Q (F0 m 4 ls []) := by
    intro n1
    induction n1 with
    | zero => intro l1_1 l2_1 hr2_1 hm; exact absurd hm (Nat.not_lt_zero _)
    | succ n1 ih1 =>
      intro l1_1 l2_1 hr2_1 hm1 H locs ls hP hD hS hl
      refine lv_iload_n hx hb dX11_members_4 rfl (lv_at hl 0 rfl) ?_
      refine lv_bipush (v := 6) hx hb dX11_members_5 (by decide) ?_
      refine lv_icmp_ge (tgt := 24) hx hb dX11_members_7 (by decide) (fun c2 => ?_) (fun c2 => ?_)
      · skip
        have zc2 : 6 ≤ l2_1.toInt := by rw [fa_le, show (6 : Int32).toInt = 6 from by decide] at c2; exact c2
        refine lv_iload_n hx hb dX11_members_24 rfl (lv_at hl 1 rfl) ?_
        exact ret l1_1 () _ _ _ _ _ _ rfl trivial hP hD hS dX11_members_25 (Nat.le_refl _) (Nat.le_refl _)
      · skip
        have zc2 : ¬ (6 ≤ l2_1.toInt) := by rw [fa_le, show (6 : Int32).toInt = 6 from by decide] at c2; exact c2
        refine lv_iload_n hx hb dX11_members_10 rfl (lv_at hl 1 rfl) ?_
        refine lv_iload_n hx hb dX11_members_11 rfl (lv_at hl 2 rfl) ?_
        refine lv_iload_n hx hb dX11_members_12 rfl (lv_at hl 0 rfl) ?_
        refine lv_ishr hx hb dX11_members_13 ?_
        refine lv_topi (fun t3 et3 => ?_)
        refine lv_iconst (v := 1) hx hb dX11_members_14 (by decide) ?_
        refine lv_iand hx hb dX11_members_15 ?_
        refine lv_topi (fun t4 et4 => ?_)
        have zt4 : 0 ≤ t4.toInt ∧ t4.toInt < 2 := by rw [et4]; exact and_rng _ (k := 1) (by decide) (by decide)
        refine lv_iadd hx hb dX11_members_16 ?_
        refine lv_topi (fun t5 et5 => ?_)
        refine lv_istore_n (lv' := [(1, .int t5), (2, .int l2_1), (0, .int p0)]) hx hb dX11_members_17 rfl hl (by decide) rfl (fun ls hl => ?_)
        obtain ⟨t6, et6⟩ : ∃ y : Int32, y = l2_1 + 1 := ⟨_, rfl⟩
        have rg7 := fb_rng l2_1
        have zt6 : t6.toInt = l2_1.toInt + 1 := by rw [et6]; exact add_i rfl (by decide) (by omega) (by omega)
        refine lv_iinc (v := t6) (lv' := [(2, .int t6), (1, .int t5), (0, .int p0)]) hx hb dX11_members_18 hl (k := 1) rfl (by rw [et6]; rfl) (by decide) rfl (fun ls hl => ?_)
        refine lv_goto (tgt := 4) hx hb dX11_members_21 (by decide) ?_
        have rg8 := fb_rng t6
        exact ih1 t5 t6 ⟨show (0 : Int) ≤ t6.toInt by omega, show t6.toInt ≤ (2147483647 : Int) by omega⟩ (by show (2147483647 - t6.toInt).toNat < n1; omega) _ _ _ hP hD hS (lv_sub hl [0, 1, 2] rfl)
  exact lp1 _ 0 0 ⟨by decide, by decide⟩ (Nat.lt_succ_self _) _ _ _ hP hD hS (lv_sub hl [0, 1, 2] rfl)
set_option maxHeartbeats 4000000 in
set_option maxRecDepth 100000 in
theorem sY_X11_rota_1 (l : Launch) (dC : Nat → ClassId) (dI : Nat → Nat → Nat) (cy : Nat → ClassId) (y0 : Nat) (r : Nat → Nat) (p1 : Int32) (v : Nat → Int32) (f : Nat → Nat → Int32) (w : Int64) (g : Nat → Int64) (hIv : YI v) (hCf : YC f) (hRf : progOK (f 4) (f 5) (v 9).toInt.toNat)  : ctI l (dC, dI) cy yX11_rota cX11_rota 6 .int 7 191 0 0 ((Nat → Int32) × (Nat → Nat → Int32) × (Int64) × (Nat → Int64)) [.ref y0, .int p1] (YW cy y0 r v f w g) (fun r u => KV [] u.1 v ∧ KF [7, 8, 24] u.2.1 f ∧ YI u.1 ∧ YC u.2.1 ∧ progOK (u.2.1 4) (u.2.1 5) (u.1 9).toInt.toNat ∧ u.1 0 = v 0 ∧ u.1 1 = v 1 ∧ u.1 2 = v 2 ∧ u.1 3 = v 3 ∧ u.1 4 = v 4 ∧ u.1 5 = v 5 ∧ u.1 8 = v 8 ∧ u.1 9 = v 9 ∧ u.1 10 = v 10 ∧ u.1 13 = v 13 ∧ u.1 14 = v 14 ∧ u.1 15 = v 15 ∧ u.1 17 = v 17 ∧ u.1 18 = v 18 ∧ u.1 24 = v 24 ∧ u.1 25 = v 25 ∧ u.1 35 = v 35 ∧ u.1 36 = v 36 ∧ u.1 38 = v 38 ∧ u.1 39 = v 39) (fun u => YW cy y0 r u.1 u.2.1 u.2.2.1 u.2.2.2) := by
  refine ctI_of (by decide) (Nat.le_of_ble_eq_true rfl) (fun p e s m below meth c A ls Q hx hb hml hts hown hE hP hD hA hl ret => ?_)
  have hUv : (v 35).toInt + (v 36).toInt ≤ 40 := hIv.2
  have hM_v : KV [] v v := fun _ _ => rfl
  have hA_f : KF [7, 8, 24] f f := fun _ _ => rfl
  have hown : s.vm.findClass RX11 = some m.cls := hown
  have hS : va_S A s.heap s.heap [] := va_S.rf
  have hl : lv_has ls 6 [(0, .ref y0), (1, .int p1)] := hl
  refine lv_iload_n hx hb dX11_rota_0 rfl (lv_at hl 1 rfl) ?_
  refine lv_iconst (v := 0) hx hb dX11_rota_1 (by decide) ?_
  refine lv_iconst (v := 1) hx hb dX11_rota_2 (by decide) ?_
  have lt1 : (0 : Int32).toInt = 0 := by decide
  have lt2 : (1 : Int32).toInt = 1 := by decide
  refine cbSi (n := 3) (rest := []) hx hb hml hown hts hE hP hD hS hA (sY_X11_isIn_1 0 l dC dI cy y0 r p1 0 1 v f w g hIv hCf hRf ) k_1736 k_1737 k_114 k_1738 (by decide +kernel) ⟨Nat.le_of_ble_eq_true rfl, Nat.le_of_ble_eq_true rfl⟩ (rfl) hl.1 rfl (Nat.le_of_ble_eq_true rfl) dX11_rota_3 (fun r3 u H locs hw hP hD hS => ?_)
  obtain ⟨hG4, hw⟩ := hw
  rcases hw with ⟨g5, g5_0, g5_1⟩ | ⟨g5⟩
  · skip
    subst g5
    refine lv_if_eq (tgt := 16) hx hb dX11_rota_6 (by decide) (fun c0 => absurd c0 (by decide)) (fun _ => ?_)
    refine lv_aload_n hx hb dX11_rota_9 rfl (lv_at hl 0 rfl) ?_
    refine va_get (D := (dC, dI)) (ci := 11) (v := .int (v 24)) (C := RX11) (T := TX11) (N := 79) hx hb hts inB_11 hown hE.1 hP 0 rfl rfl 48 (by decide) (hts _ k_1368) (fun _ h9 => h9) rfl dX11_rota_10 ?_
    have b24_v : 0 ≤ (v 24).toInt ∧ (v 24).toInt ≤ 6 := YIb.b hIv.1 24 (by decide)
    refine lv_if_ne (tgt := 18) hx hb dX11_rota_13 (by decide) (fun c6 => ?_) (fun c6 => ?_)
    · skip
      have zc6 : ¬ ((v 24).toInt = 0) := by rw [fa_eq, show (0 : Int32).toInt = 0 from by decide] at c6; exact c6
      refine lv_iconst (v := 0) hx hb dX11_rota_18 (by decide) ?_
      refine lv_istore_n (lv' := [(2, .int 0), (0, .ref y0), (1, .int p1)]) hx hb dX11_rota_19 rfl hl (by decide) rfl (fun ls hl => ?_)
      refine lv_iconst (v := (-1)) hx hb dX11_rota_20 (by decide) ?_
      refine lv_istore_n (lv' := [(3, .int (-1)), (2, .int 0), (0, .ref y0), (1, .int p1)]) hx hb dX11_rota_21 rfl hl (by decide) rfl (fun ls hl => ?_)
      refine lv_iconst (v := 0) hx hb dX11_rota_22 (by decide) ?_
      refine lv_istore (lv' := [(4, .int 0), (3, .int (-1)), (2, .int 0), (0, .ref y0), (1, .int p1)]) hx hb dX11_rota_23 hl (by decide) rfl (fun ls hl => ?_)
      have lp7 : ∀ (n7 : Nat) (l2_7 : Int32) (l3_7 : Int32) (l4_7 : Int32) (v7 : Nat → Int32) (f7 : Nat → Nat → Int32) (w7 : Int64) (g7 : Nat → Int64), YI v7 → YC f7 → progOK (f7 4) (f7 5) (v7 9).toInt.toNat → v7 0 = (v 0) → v7 1 = (v 1) → v7 2 = (v 2) → v7 3 = (v 3) → v7 4 = (v 4) → v7 5 = (v 5) → v7 8 = (v 8) → v7 9 = (v 9) → v7 10 = (v 10) → v7 13 = (v 13) → v7 14 = (v 14) → v7 15 = (v 15) → v7 17 = (v 17) → v7 18 = (v 18) → v7 24 = (v 24) → v7 25 = (v 25) → v7 35 = (v 35) → v7 36 = (v 36) → v7 38 = (v 38) → v7 39 = (v 39) → ((0 : Int) ≤ l4_7.toInt ∧ l4_7.toInt ≤ 2147483647) → KV [] v7 v → KF [7, 8, 24] f7 f → (2147483647 - l4_7.toInt).toNat < n7 → ∀ (H : Heap) (locs : List Loc) (ls : Array Slot), va_P (dC, dI) vwCl (YW cy y0 r v7 f7 w7 g7) H → va_D A (YW cy y0 r v7 f7 w7 g7) → va_S A s.heap H locs → lv_has ls 6 [(4, .int l4_7), (3, .int l3_7), (2, .int l2_7), (0, .ref y0), (1, .int p1)] → W p l e { frames := 7, cells := 0, slots := 0, locals := 191 } s m ([.ref y0, .int p1] : List Value).toArray below meth c H locs 0 0 Q (F0 m 25 ls []) := by
        intro n7
        induction n7 with
        | zero => intro l2_7 l3_7 l4_7 v7 f7 w7 g7 hIv7 hCf7 hRf7 hq0_v7 hq1_v7 hq2_v7 hq3_v7 hq4_v7 hq5_v7 hq8_v7 hq9_v7 hq10_v7 hq13_v7 hq14_v7 hq15_v7 hq17_v7 hq18_v7 hq24_v7 hq25_v7 hq35_v7 hq36_v7 hq38_v7 hq39_v7 hr4_7 hM_v7 hA_f7 hm; exact absurd hm (Nat.not_lt_zero _)
        | succ n7 ih7 =>
          intro l2_7 l3_7 l4_7 v7 f7 w7 g7 hIv7 hCf7 hRf7 hq0_v7 hq1_v7 hq2_v7 hq3_v7 hq4_v7 hq5_v7 hq8_v7 hq9_v7 hq10_v7 hq13_v7 hq14_v7 hq15_v7 hq17_v7 hq18_v7 hq24_v7 hq25_v7 hq35_v7 hq36_v7 hq38_v7 hq39_v7 hr4_7 hM_v7 hA_f7 hm7 H locs ls hP hD hS hl
          have hUv7 : (v7 35).toInt + (v7 36).toInt ≤ 40 := hIv7.2
          have zq9_v7 := congrArg Int32.toInt hq9_v7
          refine lv_iload hx hb dX11_rota_25 (lv_at hl 0 rfl) ?_
          refine lv_aload_n hx hb dX11_rota_27 rfl (lv_at hl 3 rfl) ?_
          refine va_get (D := (dC, dI)) (ci := 11) (v := .int (v7 24)) (C := RX11) (T := TX11) (N := 79) hx hb hts inB_11 hown hE.1 hP 0 rfl rfl 48 (by decide) (hts _ k_1368) (fun _ h9 => h9) rfl dX11_rota_28 ?_
          refine tI (y := (v 24)) hq24_v7 ?_
          have b24_v : 0 ≤ (v 24).toInt ∧ (v 24).toInt ≤ 6 := YIb.b hIv.1 24 (by decide)
          refine lv_icmp_ge (tgt := 114) hx hb dX11_rota_31 (by decide) (fun c8 => ?_) (fun c8 => ?_)
          · skip
            have zc8 : (v 24).toInt ≤ l4_7.toInt := by rw [fa_le] at c8; exact c8
            have rg9 := fb_rng l4_7
            have rg10 := fb_rng (v 24)
            refine lv_iload_n hx hb dX11_rota_114 rfl (lv_at hl 4 rfl) ?_
            refine lv_if_ne (tgt := 122) hx hb dX11_rota_115 (by decide) (fun c11 => ?_) (fun c11 => ?_)
            · skip
              have zc11 : ¬ (p1.toInt = 0) := by rw [fa_eq, show (0 : Int32).toInt = 0 from by decide] at c11; exact c11
              refine lv_iload_n hx hb dX11_rota_122 rfl (lv_at hl 1 rfl) ?_
              exact ret l3_7 (v7, f7, w7, g7) _ _ _ _ _ _ rfl ⟨hM_v7, hA_f7, hIv7, hCf7, hRf7, (show v7 0 = v 0 from hq0_v7), (show v7 1 = v 1 from hq1_v7), (show v7 2 = v 2 from hq2_v7), (show v7 3 = v 3 from hq3_v7), (show v7 4 = v 4 from hq4_v7), (show v7 5 = v 5 from hq5_v7), (show v7 8 = v 8 from hq8_v7), (show v7 9 = v 9 from hq9_v7), (show v7 10 = v 10 from hq10_v7), (show v7 13 = v 13 from hq13_v7), (show v7 14 = v 14 from hq14_v7), (show v7 15 = v 15 from hq15_v7), (show v7 17 = v 17 from hq17_v7), (show v7 18 = v 18 from hq18_v7), (show v7 24 = v 24 from hq24_v7), (show v7 25 = v 25 from hq25_v7), (show v7 35 = v 35 from hq35_v7), (show v7 36 = v 36 from hq36_v7), (show v7 38 = v 38 from hq38_v7), (show v7 39 = v 39 from hq39_v7)⟩ hP hD hS dX11_rota_123 (Nat.le_refl _) (Nat.le_refl _)
            · skip
              have zc11 : p1.toInt = 0 := by rw [fa_eq, show (0 : Int32).toInt = 0 from by decide] at c11; exact c11
              refine lv_iload_n hx hb dX11_rota_118 rfl (lv_at hl 2 rfl) ?_
              refine lv_goto (tgt := 123) hx hb dX11_rota_119 (by decide) ?_
              exact ret l2_7 (v7, f7, w7, g7) _ _ _ _ _ _ rfl ⟨hM_v7, hA_f7, hIv7, hCf7, hRf7, (show v7 0 = v 0 from hq0_v7), (show v7 1 = v 1 from hq1_v7), (show v7 2 = v 2 from hq2_v7), (show v7 3 = v 3 from hq3_v7), (show v7 4 = v 4 from hq4_v7), (show v7 5 = v 5 from hq5_v7), (show v7 8 = v 8 from hq8_v7), (show v7 9 = v 9 from hq9_v7), (show v7 10 = v 10 from hq10_v7), (show v7 13 = v 13 from hq13_v7), (show v7 14 = v 14 from hq14_v7), (show v7 15 = v 15 from hq15_v7), (show v7 17 = v 17 from hq17_v7), (show v7 18 = v 18 from hq18_v7), (show v7 24 = v 24 from hq24_v7), (show v7 25 = v 25 from hq25_v7), (show v7 35 = v 35 from hq35_v7), (show v7 36 = v 36 from hq36_v7), (show v7 38 = v 38 from hq38_v7), (show v7 39 = v 39 from hq39_v7)⟩ hP hD hS dX11_rota_123 (Nat.le_refl _) (Nat.le_refl _)
          · skip
            have zc8 : ¬ ((v 24).toInt ≤ l4_7.toInt) := by rw [fa_le] at c8; exact c8
            have rg12 := fb_rng l4_7
            have rg13 := fb_rng (v 24)
            refine lv_aload_n hx hb dX11_rota_34 rfl (lv_at hl 3 rfl) ?_
            refine cbVv (n := 0) (rest := []) hx hb hml hown hts hE hP hD hS hA (sY_X11_fill_1 0 l dC dI cy y0 r  v7 f7 w7 g7 hIv7 hCf7 hRf7 ) k_1739 k_1741 k_71 k_114 k_1742 (by decide +kernel) ⟨Nat.le_of_ble_eq_true rfl, Nat.le_of_ble_eq_true rfl⟩ 0 11 rfl rfl (rfl) hl.1 rfl (Nat.le_of_ble_eq_true rfl) dX11_rota_35 (fun u H locs hw hP hD hS => ?_)
            obtain ⟨hG14, hw⟩ := hw
            obtain ⟨v15, f16, w17, g18⟩ := u
            obtain ⟨kV_v15, kF_f16, hIv15, hCf16, hRf16, hk0_v15, hk1_v15, hk2_v15, hk3_v15, hk4_v15, hk5_v15, hk8_v15, hk9_v15, hk10_v15, hk13_v15, hk14_v15, hk15_v15, hk17_v15, hk18_v15, hk24_v15, hk25_v15, hk35_v15, hk36_v15, hk38_v15, hk39_v15⟩ := hw
            have hM_v15 : KV [] v15 v := KV.tr kV_v15 hM_v7 rfl
            have hA_f16 : KF [7, 8, 24] f16 f := KF.tr kF_f16 hA_f7 rfl
            have hP : va_P (dC, dI) vwCl (YW cy y0 r v15 f16 w17 g18) H := hP
            have hD : va_D A (YW cy y0 r v15 f16 w17 g18) := hD
            have hUv15 : (v15 35).toInt + (v15 36).toInt ≤ 40 := hIv15.2
            have hq0_v15 : v15 0 = (v 0) := hk0_v15.trans hq0_v7
            have hq1_v15 : v15 1 = (v 1) := hk1_v15.trans hq1_v7
            have hq2_v15 : v15 2 = (v 2) := hk2_v15.trans hq2_v7
            have hq3_v15 : v15 3 = (v 3) := hk3_v15.trans hq3_v7
            have hq4_v15 : v15 4 = (v 4) := hk4_v15.trans hq4_v7
            have hq5_v15 : v15 5 = (v 5) := hk5_v15.trans hq5_v7
            have hq8_v15 : v15 8 = (v 8) := hk8_v15.trans hq8_v7
            have hq9_v15 : v15 9 = (v 9) := hk9_v15.trans hq9_v7
            have zq9_v15 := congrArg Int32.toInt hq9_v15
            have hq10_v15 : v15 10 = (v 10) := hk10_v15.trans hq10_v7
            have hq13_v15 : v15 13 = (v 13) := hk13_v15.trans hq13_v7
            have hq14_v15 : v15 14 = (v 14) := hk14_v15.trans hq14_v7
            have hq15_v15 : v15 15 = (v 15) := hk15_v15.trans hq15_v7
            have hq17_v15 : v15 17 = (v 17) := hk17_v15.trans hq17_v7
            have hq18_v15 : v15 18 = (v 18) := hk18_v15.trans hq18_v7
            have hq24_v15 : v15 24 = (v 24) := hk24_v15.trans hq24_v7
            have hq25_v15 : v15 25 = (v 25) := hk25_v15.trans hq25_v7
            have hq35_v15 : v15 35 = (v 35) := hk35_v15.trans hq35_v7
            have hq36_v15 : v15 36 = (v 36) := hk36_v15.trans hq36_v7
            have hq38_v15 : v15 38 = (v 38) := hk38_v15.trans hq38_v7
            have hq39_v15 : v15 39 = (v 39) := hk39_v15.trans hq39_v7
            refine lv_iconst (v := 0) hx hb dX11_rota_38 (by decide) ?_
            refine lv_istore (lv' := [(5, .int 0), (4, .int l4_7), (3, .int l3_7), (2, .int l2_7), (0, .ref y0), (1, .int p1)]) hx hb dX11_rota_39 hl (by decide) rfl (fun ls hl => ?_)
            have lp19 : ∀ (n19 : Nat) (l5_19 : Int32) (v19 : Nat → Int32) (f19 : Nat → Nat → Int32) (w19 : Int64) (g19 : Nat → Int64), YI v19 → YC f19 → progOK (f19 4) (f19 5) (v19 9).toInt.toNat → v19 0 = (v 0) → v19 1 = (v 1) → v19 2 = (v 2) → v19 3 = (v 3) → v19 4 = (v 4) → v19 5 = (v 5) → v19 8 = (v 8) → v19 9 = (v 9) → v19 10 = (v 10) → v19 13 = (v 13) → v19 14 = (v 14) → v19 15 = (v 15) → v19 17 = (v 17) → v19 18 = (v 18) → v19 24 = (v 24) → v19 25 = (v 25) → v19 35 = (v 35) → v19 36 = (v 36) → v19 38 = (v 38) → v19 39 = (v 39) → ((0 : Int) ≤ l5_19.toInt ∧ l5_19.toInt ≤ 2147483647) → KV [] v19 v → KF [7, 8, 24] f19 f → (2147483647 - l5_19.toInt).toNat < n19 → ∀ (H : Heap) (locs : List Loc) (ls : Array Slot), va_P (dC, dI) vwCl (YW cy y0 r v19 f19 w19 g19) H → va_D A (YW cy y0 r v19 f19 w19 g19) → va_S A s.heap H locs → lv_has ls 6 [(5, .int l5_19), (4, .int l4_7), (3, .int l3_7), (2, .int l2_7), (0, .ref y0), (1, .int p1)] → W p l e { frames := 7, cells := 0, slots := 0, locals := 191 } s m ([.ref y0, .int p1] : List Value).toArray below meth c H locs 0 0 Q (F0 m 41 ls []) := by
              intro n19
              induction n19 with
              | zero => intro l5_19 v19 f19 w19 g19 hIv19 hCf19 hRf19 hq0_v19 hq1_v19 hq2_v19 hq3_v19 hq4_v19 hq5_v19 hq8_v19 hq9_v19 hq10_v19 hq13_v19 hq14_v19 hq15_v19 hq17_v19 hq18_v19 hq24_v19 hq25_v19 hq35_v19 hq36_v19 hq38_v19 hq39_v19 hr5_19 hM_v19 hA_f19 hm; exact absurd hm (Nat.not_lt_zero _)
              | succ n19 ih19 =>
                intro l5_19 v19 f19 w19 g19 hIv19 hCf19 hRf19 hq0_v19 hq1_v19 hq2_v19 hq3_v19 hq4_v19 hq5_v19 hq8_v19 hq9_v19 hq10_v19 hq13_v19 hq14_v19 hq15_v19 hq17_v19 hq18_v19 hq24_v19 hq25_v19 hq35_v19 hq36_v19 hq38_v19 hq39_v19 hr5_19 hM_v19 hA_f19 hm19 H locs ls hP hD hS hl
                have hUv19 : (v19 35).toInt + (v19 36).toInt ≤ 40 := hIv19.2
                have zq9_v19 := congrArg Int32.toInt hq9_v19
                refine lv_iload hx hb dX11_rota_41 (lv_at hl 0 rfl) ?_
                refine lv_aload_n hx hb dX11_rota_43 rfl (lv_at hl 4 rfl) ?_
                refine va_get (D := (dC, dI)) (ci := 11) (v := .int (v19 24)) (C := RX11) (T := TX11) (N := 79) hx hb hts inB_11 hown hE.1 hP 0 rfl rfl 48 (by decide) (hts _ k_1368) (fun _ h9 => h9) rfl dX11_rota_44 ?_
                refine tI (y := (v 24)) hq24_v19 ?_
                have b24_v : 0 ≤ (v 24).toInt ∧ (v 24).toInt ≤ 6 := YIb.b hIv.1 24 (by decide)
                refine lv_icmp_ge (tgt := 84) hx hb dX11_rota_47 (by decide) (fun c20 => ?_) (fun c20 => ?_)
                · skip
                  have zc20 : (v 24).toInt ≤ l5_19.toInt := by rw [fa_le] at c20; exact c20
                  have rg21 := fb_rng l5_19
                  refine lv_aload_n hx hb dX11_rota_84 rfl (lv_at hl 4 rfl) ?_
                  refine cbVi (n := 0) (rest := []) hx hb hml hown hts hE hP hD hS hA (sY_X11_fittedOnes_1 0 l dC dI cy y0 r  v19 f19 w19 g19 hIv19 hCf19 hRf19 ) k_1809 k_1811 k_81 k_114 k_1812 (by decide +kernel) ⟨Nat.le_of_ble_eq_true rfl, Nat.le_of_ble_eq_true rfl⟩ 0 11 rfl rfl (rfl) hl.1 rfl (Nat.le_of_ble_eq_true rfl) dX11_rota_85 (fun r22 u H locs hw hP hD hS => ?_)
                  obtain ⟨hG23, hw⟩ := hw
                  obtain ⟨v24, f25, w26, g27⟩ := u
                  obtain ⟨kV_v24, kF_f25, hIv24, hCf25, hRf25, hk0_v24, hk1_v24, hk2_v24, hk3_v24, hk4_v24, hk5_v24, hk8_v24, hk9_v24, hk10_v24, hk13_v24, hk14_v24, hk15_v24, hk17_v24, hk18_v24, hk24_v24, hk25_v24, hk35_v24, hk36_v24, hk38_v24, hk39_v24⟩ := hw
                  have hM_v24 : KV [] v24 v := KV.tr kV_v24 hM_v19 rfl
                  have hA_f25 : KF [7, 8, 24] f25 f := KF.tr kF_f25 hA_f19 rfl
                  have hP : va_P (dC, dI) vwCl (YW cy y0 r v24 f25 w26 g27) H := hP
                  have hD : va_D A (YW cy y0 r v24 f25 w26 g27) := hD
                  have hUv24 : (v24 35).toInt + (v24 36).toInt ≤ 40 := hIv24.2
                  have hq0_v24 : v24 0 = (v 0) := hk0_v24.trans hq0_v19
                  have hq1_v24 : v24 1 = (v 1) := hk1_v24.trans hq1_v19
                  have hq2_v24 : v24 2 = (v 2) := hk2_v24.trans hq2_v19
                  have hq3_v24 : v24 3 = (v 3) := hk3_v24.trans hq3_v19
                  have hq4_v24 : v24 4 = (v 4) := hk4_v24.trans hq4_v19
                  have hq5_v24 : v24 5 = (v 5) := hk5_v24.trans hq5_v19
                  have hq8_v24 : v24 8 = (v 8) := hk8_v24.trans hq8_v19
                  have hq9_v24 : v24 9 = (v 9) := hk9_v24.trans hq9_v19
                  have zq9_v24 := congrArg Int32.toInt hq9_v24
                  have hq10_v24 : v24 10 = (v 10) := hk10_v24.trans hq10_v19
                  have hq13_v24 : v24 13 = (v 13) := hk13_v24.trans hq13_v19
                  have hq14_v24 : v24 14 = (v 14) := hk14_v24.trans hq14_v19
                  have hq15_v24 : v24 15 = (v 15) := hk15_v24.trans hq15_v19
                  have hq17_v24 : v24 17 = (v 17) := hk17_v24.trans hq17_v19
                  have hq18_v24 : v24 18 = (v 18) := hk18_v24.trans hq18_v19
                  have hq24_v24 : v24 24 = (v 24) := hk24_v24.trans hq24_v19
                  have hq25_v24 : v24 25 = (v 25) := hk25_v24.trans hq25_v19
                  have hq35_v24 : v24 35 = (v 35) := hk35_v24.trans hq35_v19
                  have hq36_v24 : v24 36 = (v 36) := hk36_v24.trans hq36_v19
                  have hq38_v24 : v24 38 = (v 38) := hk38_v24.trans hq38_v19
                  have hq39_v24 : v24 39 = (v 39) := hk39_v24.trans hq39_v19
                  refine cbSi (n := 1) (rest := []) hx hb hml hown hts hE hP hD hS hA (sY_X11_members_1 l dC dI cy y0 r r22 v24 f25 w26 g27 hIv24 hCf25 hRf25 ) k_1900 k_1901 k_114 k_1902 (by decide +kernel) ⟨Nat.le_of_ble_eq_true rfl, Nat.le_of_ble_eq_true rfl⟩ (rfl) hl.1 rfl (Nat.le_of_ble_eq_true rfl) dX11_rota_88 (fun r28 u H locs hw hP hD hS => ?_)
                  refine lv_istore (lv' := [(5, .int r28), (4, .int l4_7), (3, .int l3_7), (2, .int l2_7), (0, .ref y0), (1, .int p1)]) hx hb dX11_rota_91 hl (by decide) rfl (fun ls hl => ?_)
                  refine lv_iload hx hb dX11_rota_93 (lv_at hl 0 rfl) ?_
                  refine lv_iload_n hx hb dX11_rota_95 rfl (lv_at hl 2 rfl) ?_
                  refine lv_icmp_gt (tgt := 102) hx hb dX11_rota_96 (by decide) (fun c29 => ?_) (fun c29 => ?_)
                  · skip
                    have zc29 : l3_7.toInt < r28.toInt := by rw [fa_lt] at c29; exact c29
                    have rg30 := fb_rng r28
                    have rg31 := fb_rng l3_7
                    refine lv_iload hx hb dX11_rota_102 (lv_at hl 1 rfl) ?_
                    refine lv_istore_n (lv' := [(2, .int l4_7), (5, .int r28), (4, .int l4_7), (3, .int l3_7), (0, .ref y0), (1, .int p1)]) hx hb dX11_rota_104 rfl hl (by decide) rfl (fun ls hl => ?_)
                    refine lv_iload hx hb dX11_rota_105 (lv_at hl 1 rfl) ?_
                    refine lv_istore_n (lv' := [(3, .int r28), (2, .int l4_7), (5, .int r28), (4, .int l4_7), (0, .ref y0), (1, .int p1)]) hx hb dX11_rota_107 rfl hl (by decide) rfl (fun ls hl => ?_)
                    obtain ⟨t32, et32⟩ : ∃ y : Int32, y = l4_7 + 1 := ⟨_, rfl⟩
                    have zt32 : t32.toInt = l4_7.toInt + 1 := by rw [et32]; exact add_i rfl (by decide) (by omega) (by omega)
                    refine lv_iinc (v := t32) (lv' := [(4, .int t32), (3, .int r28), (2, .int l4_7), (5, .int r28), (0, .ref y0), (1, .int p1)]) hx hb dX11_rota_108 hl (k := 3) rfl (by rw [et32]; rfl) (by decide) rfl (fun ls hl => ?_)
                    refine lv_goto (tgt := 25) hx hb dX11_rota_111 (by decide) ?_
                    have rg33 := fb_rng t32
                    exact ih7 l4_7 r28 t32 v24 f25 w26 g27 hIv24 hCf25 hRf25 hq0_v24 hq1_v24 hq2_v24 hq3_v24 hq4_v24 hq5_v24 hq8_v24 hq9_v24 hq10_v24 hq13_v24 hq14_v24 hq15_v24 hq17_v24 hq18_v24 hq24_v24 hq25_v24 hq35_v24 hq36_v24 hq38_v24 hq39_v24 ⟨show (0 : Int) ≤ t32.toInt by omega, show t32.toInt ≤ (2147483647 : Int) by omega⟩ hM_v24 hA_f25 (by show (2147483647 - t32.toInt).toNat < n7; omega) _ _ _ hP hD hS (lv_sub hl [0, 1, 2, 4, 5] rfl)
                  · skip
                    have zc29 : ¬ (l3_7.toInt < r28.toInt) := by rw [fa_lt] at c29; exact c29
                    have rg34 := fb_rng r28
                    have rg35 := fb_rng l3_7
                    refine lv_goto (tgt := 108) hx hb dX11_rota_99 (by decide) ?_
                    obtain ⟨t36, et36⟩ : ∃ y : Int32, y = l4_7 + 1 := ⟨_, rfl⟩
                    have zt36 : t36.toInt = l4_7.toInt + 1 := by rw [et36]; exact add_i rfl (by decide) (by omega) (by omega)
                    refine lv_iinc (v := t36) (lv' := [(4, .int t36), (5, .int r28), (3, .int l3_7), (2, .int l2_7), (0, .ref y0), (1, .int p1)]) hx hb dX11_rota_108 hl (k := 1) rfl (by rw [et36]; rfl) (by decide) rfl (fun ls hl => ?_)
                    refine lv_goto (tgt := 25) hx hb dX11_rota_111 (by decide) ?_
                    have rg37 := fb_rng t36
                    exact ih7 l2_7 l3_7 t36 v24 f25 w26 g27 hIv24 hCf25 hRf25 hq0_v24 hq1_v24 hq2_v24 hq3_v24 hq4_v24 hq5_v24 hq8_v24 hq9_v24 hq10_v24 hq13_v24 hq14_v24 hq15_v24 hq17_v24 hq18_v24 hq24_v24 hq25_v24 hq35_v24 hq36_v24 hq38_v24 hq39_v24 ⟨show (0 : Int) ≤ t36.toInt by omega, show t36.toInt ≤ (2147483647 : Int) by omega⟩ hM_v24 hA_f25 (by show (2147483647 - t36.toInt).toNat < n7; omega) _ _ _ hP hD hS (lv_sub hl [0, 2, 3, 4, 5] rfl)
                · skip
                  have zc20 : ¬ ((v 24).toInt ≤ l5_19.toInt) := by rw [fa_le] at c20; exact c20
                  have rg38 := fb_rng l5_19
                  refine lv_aload_n hx hb dX11_rota_50 rfl (lv_at hl 4 rfl) ?_
                  refine va_get (D := (dC, dI)) (ci := 11) (v := .ref (r 60)) (C := RX11) (T := TX11) (N := 79) hx hb hts inB_11 hown hE.1 hP 0 rfl rfl 60 (by decide) (hts _ k_1380) (fun _ h9 => h9) rfl dX11_rota_51 ?_
                  refine lv_bipush (v := 6) hx hb dX11_rota_54 (by decide) ?_
                  refine lv_iload hx hb dX11_rota_56 (lv_at hl 0 rfl) ?_
                  refine lv_iadd hx hb dX11_rota_58 ?_
                  refine lv_topi (fun t39 et39 => ?_)
                  have zt39 : t39.toInt = 6 + l5_19.toInt := by rw [et39]; exact add_i (by decide) rfl (by omega) (by omega)
                  refine lv_aload_n hx hb dX11_rota_59 rfl (lv_at hl 4 rfl) ?_
                  refine va_get (D := (dC, dI)) (ci := 11) (v := .ref (r 59)) (C := RX11) (T := TX11) (N := 79) hx hb hts inB_11 hown hE.1 hP 0 rfl rfl 59 (by decide) (hts _ k_1379) (fun _ h9 => h9) rfl dX11_rota_60 ?_
                  refine lv_bipush (v := 6) hx hb dX11_rota_63 (by decide) ?_
                  refine lv_iload hx hb dX11_rota_65 (lv_at hl 0 rfl) ?_
                  refine lv_iload hx hb dX11_rota_67 (lv_at hl 1 rfl) ?_
                  refine lv_iadd hx hb dX11_rota_69 ?_
                  refine lv_topi (fun t40 et40 => ?_)
                  have zt40 : t40.toInt = l5_19.toInt + l4_7.toInt := by rw [et40]; exact add_i rfl rfl (by omega) (by omega)
                  refine lv_aload_n hx hb dX11_rota_70 rfl (lv_at hl 4 rfl) ?_
                  refine va_get (D := (dC, dI)) (ci := 11) (v := .int (v19 24)) (C := RX11) (T := TX11) (N := 79) hx hb hts inB_11 hown hE.1 hP 0 rfl rfl 48 (by decide) (hts _ k_1368) (fun _ h9 => h9) rfl dX11_rota_71 ?_
                  refine tI (y := (v 24)) hq24_v19 ?_
                  refine lv_irem hx hb dX11_rota_74 (ne0 (by omega)) ?_
                  refine lv_topi (fun t41 et41 => ?_)
                  have zt41 : 0 ≤ t41.toInt ∧ t41.toInt < (v 24).toInt := by rw [et41]; exact rem_rng (zx := t40.toInt) (zy := (v 24).toInt) rfl rfl (by omega) (by omega)
                  refine lv_iadd hx hb dX11_rota_75 ?_
                  refine lv_topi (fun t42 et42 => ?_)
                  have rg43 := fb_rng t41
                  have zt42 : t42.toInt = 6 + t41.toInt := by rw [et42]; exact add_i (by decide) rfl (by omega) (by omega)
                  refine ldI hx hb hE hP 24 rfl (vp_in_iff.mpr ⟨by omega, by omega⟩) rfl rfl dX11_rota_76 ?_
                  refine lv_topi (fun t44 et44 => ?_)
                  have zt44 : t42.toInt.toNat % 39 < 6 ∨ 12 ≤ t42.toInt.toNat % 39 ∨ (-1 ≤ t44.toInt ∧ t44.toInt ≤ 5) := by rw [et44]; exact wear_ld hCf19.1 (show t42.toInt.toNat < 39 by omega)
                  refine stI hx hb hE hP hD hS 25 rfl (vp_in_iff.mpr ⟨by omega, by omega⟩) rfl dX11_rota_77 (fun H locs hP hD hS => ?_)
                  obtain ⟨f45, ef45, hP, hD⟩ : ∃ fz9, fz9 = upd2 f19 24 (upd (f19 24) t39.toNatClampNeg t44) ∧ va_P (dC, dI) vwCl (YW cy y0 r v19 fz9 w19 g19) H ∧ va_D A (YW cy y0 r v19 fz9 w19 g19) := ⟨_, rfl, hP, hD⟩
                  have hCf45 : YC f45 := by rw [ef45]; exact ⟨hCf19.1, (wear_st hCf19.2.1 (by show t39.toInt.toNat % 39 < 6 ∨ 12 ≤ t39.toInt.toNat % 39 ∨ (-1 ≤ t44.toInt ∧ t44.toInt ≤ 5); omega)), hCf19.2.2.1, hCf19.2.2.2.1, hCf19.2.2.2.2.1, hCf19.2.2.2.2.2⟩
                  have hRf45 : progOK (f45 4) (f45 5) (v19 9).toInt.toNat := by rw [ef45]; exact hRf19
                  have hA_f45 : KF [7, 8, 24] f45 f := by rw [ef45]; exact KF.up hA_f19 rfl
                  obtain ⟨t46, et46⟩ : ∃ y : Int32, y = l5_19 + 1 := ⟨_, rfl⟩
                  have zt46 : t46.toInt = l5_19.toInt + 1 := by rw [et46]; exact add_i rfl (by decide) (by omega) (by omega)
                  refine lv_iinc (v := t46) (lv' := [(5, .int t46), (4, .int l4_7), (3, .int l3_7), (2, .int l2_7), (0, .ref y0), (1, .int p1)]) hx hb dX11_rota_78 hl (k := 0) rfl (by rw [et46]; rfl) (by decide) rfl (fun ls hl => ?_)
                  refine lv_goto (tgt := 41) hx hb dX11_rota_81 (by decide) ?_
                  have rg47 := fb_rng t46
                  exact ih19 t46 v19 f45 w19 g19 hIv19 hCf45 hRf45 hq0_v19 hq1_v19 hq2_v19 hq3_v19 hq4_v19 hq5_v19 hq8_v19 hq9_v19 hq10_v19 hq13_v19 hq14_v19 hq15_v19 hq17_v19 hq18_v19 hq24_v19 hq25_v19 hq35_v19 hq36_v19 hq38_v19 hq39_v19 ⟨show (0 : Int) ≤ t46.toInt by omega, show t46.toInt ≤ (2147483647 : Int) by omega⟩ hM_v19 hA_f45 (by show (2147483647 - t46.toInt).toNat < n19; omega) _ _ _ hP hD hS (lv_sub hl [0, 1, 2, 3, 4, 5] rfl)
            exact lp19 _ 0 v15 f16 w17 g18 hIv15 hCf16 hRf16 hq0_v15 hq1_v15 hq2_v15 hq3_v15 hq4_v15 hq5_v15 hq8_v15 hq9_v15 hq10_v15 hq13_v15 hq14_v15 hq15_v15 hq17_v15 hq18_v15 hq24_v15 hq25_v15 hq35_v15 hq36_v15 hq38_v15 hq39_v15 ⟨by decide, by decide⟩ hM_v15 hA_f16 (Nat.lt_succ_self _) _ _ _ hP hD hS (lv_sub hl [0, 1, 2, 3, 4, 5] rfl)
      exact lp7 _ 0 (-1) 0 v f w g hIv hCf hRf rfl rfl rfl rfl rfl rfl rfl rfl rfl rfl rfl rfl rfl rfl rfl rfl rfl rfl rfl rfl ⟨by decide, by decide⟩ hM_v hA_f (Nat.lt_succ_self _) _ _ _ hP hD hS (lv_sub hl [0, 1, 2, 3, 4] rfl)
    · skip
      have zc6 : (v 24).toInt = 0 := by rw [fa_eq, show (0 : Int32).toInt = 0 from by decide] at c6; exact c6
      refine lv_iconst (v := (-1)) hx hb dX11_rota_16 (by decide) ?_
      exact ret (-1) (v, f, w, g) _ _ _ _ _ _ rfl ⟨hM_v, hA_f, hIv, hCf, hRf, rfl, rfl, rfl, rfl, rfl, rfl, rfl, rfl, rfl, rfl, rfl, rfl, rfl, rfl, rfl, rfl, rfl, rfl, rfl, rfl⟩ hP hD hS dX11_rota_17 (Nat.le_refl _) (Nat.le_refl _)
  · skip
    subst g5
    refine lv_if_eq (tgt := 16) hx hb dX11_rota_6 (by decide) (fun _ => ?_) (fun c0 => absurd (by decide) c0)
    refine lv_iconst (v := (-1)) hx hb dX11_rota_16 (by decide) ?_
    exact ret (-1) (v, f, w, g) _ _ _ _ _ _ rfl ⟨hM_v, hA_f, hIv, hCf, hRf, rfl, rfl, rfl, rfl, rfl, rfl, rfl, rfl, rfl, rfl, rfl, rfl, rfl, rfl, rfl, rfl, rfl, rfl, rfl, rfl⟩ hP hD hS dX11_rota_17 (Nat.le_refl _) (Nat.le_refl _)
