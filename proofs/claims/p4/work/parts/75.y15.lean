set_option maxHeartbeats 4000000 in
set_option maxRecDepth 100000 in
theorem sY_X11_illOfRow_1 (l : Launch) (dC : Nat → ClassId) (dI : Nat → Nat → Nat) (cy : Nat → ClassId) (y0 : Nat) (r : Nat → Nat)  (v : Nat → Int32) (f : Nat → Nat → Int32) (w : Int64) (g : Nat → Int64) (hIv : YI v) (hCf : YC f) (hRf : progOK (f 4) (f 5) (v 9).toInt.toNat)  : ctI l (dC, dI) cy yX11_illOfRow cX11_illOfRow 3 .int 1 60 0 0 Unit [.ref y0] (YW cy y0 r v f w g) (fun r u => True) (fun u => YW cy y0 r v f w g) := by
  refine ctI_of (by decide) (Nat.le_of_ble_eq_true rfl) (fun p e s m below meth c A ls Q hx hb hml hts hown hE hP hD hA hl ret => ?_)
  have hUv : (v 35).toInt + (v 36).toInt ≤ 40 := hIv.2
  have hown : s.vm.findClass RX11 = some m.cls := hown
  have hS : va_S A s.heap s.heap [] := va_S.rf
  have hl : lv_has ls 3 [(0, .ref y0)] := hl
  refine lv_iconst (v := 0) hx hb dX11_illOfRow_0 (by decide) ?_
  refine lv_istore_n (lv' := [(1, .int 0), (0, .ref y0)]) hx hb dX11_illOfRow_1 rfl hl (by decide) rfl (fun ls hl => ?_)
  refine lv_iconst (v := 0) hx hb dX11_illOfRow_2 (by decide) ?_
  refine lv_istore_n (lv' := [(2, .int 0), (1, .int 0), (0, .ref y0)]) hx hb dX11_illOfRow_3 rfl hl (by decide) rfl (fun ls hl => ?_)
  have lp1 : ∀ (n1 : Nat) (l1_1 : Int32) (l2_1 : Int32), ((0 : Int) ≤ l2_1.toInt ∧ l2_1.toInt ≤ 2147483647) → (2147483647 - l2_1.toInt).toNat < n1 → ∀ (H : Heap) (locs : List Loc) (ls : Array Slot), va_P (dC, dI) vwCl (YW cy y0 r v f w g) H → va_D A (YW cy y0 r v f w g) → va_S A s.heap H locs → lv_has ls 3 [(2, .int l2_1), (1, .int l1_1), (0, .ref y0)] → W p l e { frames := 1, cells := 0, slots := 0, locals := 60 } s m ([.ref y0] : List Value).toArray below meth c H locs 0 0 Q (F0 m 4 ls []) := by
    intro n1
    induction n1 with
    | zero => intro l1_1 l2_1 hr2_1 hm; exact absurd hm (Nat.not_lt_zero _)
    | succ n1 ih1 =>
      intro l1_1 l2_1 hr2_1 hm1 H locs ls hP hD hS hl
      refine lv_iload_n hx hb dX11_illOfRow_4 rfl (lv_at hl 0 rfl) ?_
      refine lv_aload_n hx hb dX11_illOfRow_5 rfl (lv_at hl 2 rfl) ?_
      refine va_get (D := (dC, dI)) (ci := 11) (v := .int (v 24)) (C := RX11) (T := TX11) (N := 79) hx hb hts inB_11 hown hE.1 hP 0 rfl rfl 48 (by decide) (hts _ k_1368) (fun _ h9 => h9) rfl dX11_illOfRow_6 ?_
      have b24_v : 0 ≤ (v 24).toInt ∧ (v 24).toInt ≤ 6 := YIb.b hIv.1 24 (by decide)
      refine lv_icmp_ge (tgt := 50) hx hb dX11_illOfRow_9 (by decide) (fun c2 => ?_) (fun c2 => ?_)
      · skip
        have zc2 : (v 24).toInt ≤ l2_1.toInt := by rw [fa_le] at c2; exact c2
        have rg3 := fb_rng l2_1
        have rg4 := fb_rng (v 24)
        refine lv_iload_n hx hb dX11_illOfRow_50 rfl (lv_at hl 1 rfl) ?_
        exact ret l1_1 () _ _ _ _ _ _ rfl trivial hP hD hS dX11_illOfRow_51 (Nat.le_refl _) (Nat.le_refl _)
      · skip
        have zc2 : ¬ ((v 24).toInt ≤ l2_1.toInt) := by rw [fa_le] at c2; exact c2
        have rg5 := fb_rng l2_1
        have rg6 := fb_rng (v 24)
        refine lv_iload_n hx hb dX11_illOfRow_12 rfl (lv_at hl 1 rfl) ?_
        refine lv_aload_n hx hb dX11_illOfRow_13 rfl (lv_at hl 2 rfl) ?_
        refine va_get (D := (dC, dI)) (ci := 11) (v := .ref (r 65)) (C := RX11) (T := TX11) (N := 79) hx hb hts inB_11 hown hE.1 hP 0 rfl rfl 65 (by decide) (hts _ k_1385) (fun _ h9 => h9) rfl dX11_illOfRow_14 ?_
        refine lv_iload_n hx hb dX11_illOfRow_17 rfl (lv_at hl 0 rfl) ?_
        refine ldI hx hb hE hP 28 rfl (vp_in_iff.mpr ⟨by omega, by omega⟩) rfl rfl dX11_illOfRow_18 ?_
        refine lv_topi (fun t7 et7 => ?_)
        have zt7 : -1 ≤ t7.toInt ∧ t7.toInt ≤ 5 := by rw [et7]; exact hCf.2.2.2.1 l2_1.toInt.toNat (show l2_1.toInt.toNat < 6 by omega)
        refine lv_if_ge (tgt := 26) hx hb dX11_illOfRow_19 (by decide) (fun c8 => ?_) (fun c8 => ?_)
        · skip
          have zc8 : 0 ≤ t7.toInt := by rw [fa_le, show (0 : Int32).toInt = 0 from by decide] at c8; exact c8
          refine lv_aload_n hx hb dX11_illOfRow_26 rfl (lv_at hl 2 rfl) ?_
          refine va_get (D := (dC, dI)) (ci := 11) (v := .ref (r 66)) (C := RX11) (T := TX11) (N := 79) hx hb hts inB_11 hown hE.1 hP 0 rfl rfl 66 (by decide) (hts _ k_1386) (fun _ h9 => h9) rfl dX11_illOfRow_27 ?_
          refine lv_bipush (v := 6) hx hb dX11_illOfRow_30 (by decide) ?_
          refine lv_iload_n hx hb dX11_illOfRow_32 rfl (lv_at hl 0 rfl) ?_
          refine lv_imul hx hb dX11_illOfRow_33 ?_
          refine lv_topi (fun t9 et9 => ?_)
          have zt9 : t9.toInt = 6 * l2_1.toInt := by rw [et9]; exact mul_i (by decide) rfl (by omega) (by omega)
          refine lv_aload_n hx hb dX11_illOfRow_34 rfl (lv_at hl 2 rfl) ?_
          refine va_get (D := (dC, dI)) (ci := 11) (v := .ref (r 65)) (C := RX11) (T := TX11) (N := 79) hx hb hts inB_11 hown hE.1 hP 0 rfl rfl 65 (by decide) (hts _ k_1385) (fun _ h9 => h9) rfl dX11_illOfRow_35 ?_
          refine lv_iload_n hx hb dX11_illOfRow_38 rfl (lv_at hl 0 rfl) ?_
          refine ldI hx hb hE hP 28 rfl (vp_in_iff.mpr ⟨by omega, by omega⟩) rfl rfl dX11_illOfRow_39 ?_
          refine tI (y := t7) et7.symm ?_
          refine lv_iadd hx hb dX11_illOfRow_40 ?_
          refine lv_topi (fun t10 et10 => ?_)
          have rg11 := fb_rng t9
          have rg12 := fb_rng t7
          have zt10 : t10.toInt = t9.toInt + t7.toInt := by rw [et10]; exact add_i rfl rfl (by omega) (by omega)
          refine ldI hx hb hE hP 29 rfl (vp_in_iff.mpr ⟨by omega, by omega⟩) rfl rfl dX11_illOfRow_41 ?_
          refine lv_topi (fun t13 et13 => ?_)
          refine lv_iadd hx hb dX11_illOfRow_42 ?_
          refine lv_topi (fun t14 et14 => ?_)
          refine lv_istore_n (lv' := [(1, .int t14), (2, .int l2_1), (0, .ref y0)]) hx hb dX11_illOfRow_43 rfl hl (by decide) rfl (fun ls hl => ?_)
          obtain ⟨t15, et15⟩ : ∃ y : Int32, y = l2_1 + 1 := ⟨_, rfl⟩
          have zt15 : t15.toInt = l2_1.toInt + 1 := by rw [et15]; exact add_i rfl (by decide) (by omega) (by omega)
          refine lv_iinc (v := t15) (lv' := [(2, .int t15), (1, .int t14), (0, .ref y0)]) hx hb dX11_illOfRow_44 hl (k := 1) rfl (by rw [et15]; rfl) (by decide) rfl (fun ls hl => ?_)
          refine lv_goto (tgt := 4) hx hb dX11_illOfRow_47 (by decide) ?_
          have rg16 := fb_rng t15
          exact ih1 t14 t15 ⟨show (0 : Int) ≤ t15.toInt by omega, show t15.toInt ≤ (2147483647 : Int) by omega⟩ (by show (2147483647 - t15.toInt).toNat < n1; omega) _ _ _ hP hD hS (lv_sub hl [0, 1, 2] rfl)
        · skip
          have zc8 : ¬ (0 ≤ t7.toInt) := by rw [fa_le, show (0 : Int32).toInt = 0 from by decide] at c8; exact c8
          refine lv_iconst (v := 0) hx hb dX11_illOfRow_22 (by decide) ?_
          refine lv_goto (tgt := 42) hx hb dX11_illOfRow_23 (by decide) ?_
          refine lv_iadd hx hb dX11_illOfRow_42 ?_
          refine lv_topi (fun t17 et17 => ?_)
          have rg18 := fb_rng l1_1
          have zt17 : t17.toInt = l1_1.toInt + 0 := by rw [et17]; exact add_i rfl (by decide) (by omega) (by omega)
          refine lv_istore_n (lv' := [(1, .int t17), (2, .int l2_1), (0, .ref y0)]) hx hb dX11_illOfRow_43 rfl hl (by decide) rfl (fun ls hl => ?_)
          obtain ⟨t19, et19⟩ : ∃ y : Int32, y = l2_1 + 1 := ⟨_, rfl⟩
          have zt19 : t19.toInt = l2_1.toInt + 1 := by rw [et19]; exact add_i rfl (by decide) (by omega) (by omega)
          refine lv_iinc (v := t19) (lv' := [(2, .int t19), (1, .int t17), (0, .ref y0)]) hx hb dX11_illOfRow_44 hl (k := 1) rfl (by rw [et19]; rfl) (by decide) rfl (fun ls hl => ?_)
          refine lv_goto (tgt := 4) hx hb dX11_illOfRow_47 (by decide) ?_
          have rg20 := fb_rng t19
          exact ih1 t17 t19 ⟨show (0 : Int) ≤ t19.toInt by omega, show t19.toInt ≤ (2147483647 : Int) by omega⟩ (by show (2147483647 - t19.toInt).toNat < n1; omega) _ _ _ hP hD hS (lv_sub hl [0, 1, 2] rfl)
  exact lp1 _ 0 0 ⟨by decide, by decide⟩ (Nat.lt_succ_self _) _ _ _ hP hD hS (lv_sub hl [0, 1, 2] rfl)
set_option maxHeartbeats 4000000 in
set_option maxRecDepth 100000 in
theorem sY_X11_dress_1 (l : Launch) (dC : Nat → ClassId) (dI : Nat → Nat → Nat) (cy : Nat → ClassId) (y0 : Nat) (r : Nat → Nat) (p1 : Int32) (v : Nat → Int32) (f : Nat → Nat → Int32) (w : Int64) (g : Nat → Int64) (hIv : YI v) (hCf : YC f) (hRf : progOK (f 4) (f 5) (v 9).toInt.toNat)  : ctI l (dC, dI) cy yX11_dress cX11_dress 7 .int 5 148 0 0 ((Nat → Int32) × (Nat → Nat → Int32) × (Int64) × (Nat → Int64)) [.ref y0, .int p1] (YW cy y0 r v f w g) (fun r u => u.2.1 0 = f 0 ∧ YI u.1 ∧ YC u.2.1 ∧ progOK (u.2.1 4) (u.2.1 5) (u.1 9).toInt.toNat ∧ u.1 0 = v 0 ∧ u.1 1 = v 1 ∧ u.1 2 = v 2 ∧ u.1 3 = v 3 ∧ u.1 4 = v 4 ∧ u.1 5 = v 5 ∧ u.1 8 = v 8 ∧ u.1 9 = v 9 ∧ u.1 10 = v 10 ∧ u.1 13 = v 13 ∧ u.1 14 = v 14 ∧ u.1 15 = v 15 ∧ u.1 17 = v 17 ∧ u.1 18 = v 18 ∧ u.1 24 = v 24 ∧ u.1 25 = v 25 ∧ u.1 35 = v 35 ∧ u.1 36 = v 36 ∧ u.1 38 = v 38 ∧ u.1 39 = v 39) (fun u => YW cy y0 r u.1 u.2.1 u.2.2.1 u.2.2.2) := by
  refine ctI_of (by decide) (Nat.le_of_ble_eq_true rfl) (fun p e s m below meth c A ls Q hx hb hml hts hown hE hP hD hA hl ret => ?_)
  have hUv : (v 35).toInt + (v 36).toInt ≤ 40 := hIv.2
  have ha0_f : f 0 = f 0 := rfl
  have hown : s.vm.findClass RX11 = some m.cls := hown
  have hS : va_S A s.heap s.heap [] := va_S.rf
  have hl : lv_has ls 7 [(0, .ref y0), (1, .int p1)] := hl
  refine lv_iload_n hx hb dX11_dress_0 rfl (lv_at hl 1 rfl) ?_
  refine lv_iconst (v := 0) hx hb dX11_dress_1 (by decide) ?_
  refine lv_iconst (v := 1) hx hb dX11_dress_2 (by decide) ?_
  have lt1 : (0 : Int32).toInt = 0 := by decide
  have lt2 : (1 : Int32).toInt = 1 := by decide
  refine cbSi (n := 3) (rest := []) hx hb hml hown hts hE hP hD hS hA (sY_X11_isIn_1 l dC dI cy y0 r p1 0 1 v f w g hIv hCf hRf ) k_1736 k_1737 k_114 k_1738 (by decide +kernel) ⟨Nat.le_of_ble_eq_true rfl, Nat.le_of_ble_eq_true rfl⟩ (rfl) hl.1 rfl (Nat.le_of_ble_eq_true rfl) dX11_dress_3 (fun r3 u H locs hw hP hD hS => ?_)
  rcases hw with ⟨g4, g4_0, g4_1⟩ | ⟨g4⟩
  · skip
    subst g4
    refine lv_if_ne (tgt := 11) hx hb dX11_dress_6 (by decide) (fun _ => ?_) (fun c0 => absurd c0 (by decide))
    refine lv_aload_n hx hb dX11_dress_11 rfl (lv_at hl 0 rfl) ?_
    refine cbVv (n := 0) (rest := []) hx hb hml hown hts hE hP hD hS hA (sY_X11_layIlls_1 l dC dI cy y0 r  v f w g hIv hCf hRf ) k_1873 k_1875 k_84 k_114 k_1876 (by decide +kernel) ⟨Nat.le_of_ble_eq_true rfl, Nat.le_of_ble_eq_true rfl⟩ 0 11 rfl rfl (rfl) hl.1 rfl (Nat.le_of_ble_eq_true rfl) dX11_dress_12 (fun u H locs hw hP hD hS => ?_)
    obtain ⟨v5, f6, w7, g8⟩ := u
    obtain ⟨ka0_f6, hIv5, hCf6, hRf6, hk0_v5, hk1_v5, hk2_v5, hk3_v5, hk4_v5, hk5_v5, hk8_v5, hk9_v5, hk10_v5, hk13_v5, hk14_v5, hk15_v5, hk17_v5, hk18_v5, hk24_v5, hk25_v5, hk35_v5, hk36_v5, hk38_v5, hk39_v5⟩ := hw
    have ha0_f6 : f6 0 = f 0 := ka0_f6.trans ha0_f
    have hP : va_P (dC, dI) vwCl (YW cy y0 r v5 f6 w7 g8) H := hP
    have hD : va_D A (YW cy y0 r v5 f6 w7 g8) := hD
    have hUv5 : (v5 35).toInt + (v5 36).toInt ≤ 40 := hIv5.2
    have hq0_v5 : v5 0 = (v 0) := hk0_v5
    have hq1_v5 : v5 1 = (v 1) := hk1_v5
    have hq2_v5 : v5 2 = (v 2) := hk2_v5
    have hq3_v5 : v5 3 = (v 3) := hk3_v5
    have zq3_v5 := congrArg Int32.toInt hq3_v5
    have hq4_v5 : v5 4 = (v 4) := hk4_v5
    have zq4_v5 := congrArg Int32.toInt hq4_v5
    have hq5_v5 : v5 5 = (v 5) := hk5_v5
    have zq5_v5 := congrArg Int32.toInt hq5_v5
    have hq8_v5 : v5 8 = (v 8) := hk8_v5
    have hq9_v5 : v5 9 = (v 9) := hk9_v5
    have zq9_v5 := congrArg Int32.toInt hq9_v5
    have hq10_v5 : v5 10 = (v 10) := hk10_v5
    have hq13_v5 : v5 13 = (v 13) := hk13_v5
    have hq14_v5 : v5 14 = (v 14) := hk14_v5
    have hq15_v5 : v5 15 = (v 15) := hk15_v5
    have hq17_v5 : v5 17 = (v 17) := hk17_v5
    have hq18_v5 : v5 18 = (v 18) := hk18_v5
    have hq24_v5 : v5 24 = (v 24) := hk24_v5
    have hq25_v5 : v5 25 = (v 25) := hk25_v5
    have hq35_v5 : v5 35 = (v 35) := hk35_v5
    have zq35_v5 := congrArg Int32.toInt hq35_v5
    have hq36_v5 : v5 36 = (v 36) := hk36_v5
    have zq36_v5 := congrArg Int32.toInt hq36_v5
    have hq38_v5 : v5 38 = (v 38) := hk38_v5
    have hq39_v5 : v5 39 = (v 39) := hk39_v5
    refine lv_iconst (v := (-1)) hx hb dX11_dress_15 (by decide) ?_
    refine lv_istore_n (lv' := [(2, .int (-1)), (0, .ref y0), (1, .int p1)]) hx hb dX11_dress_16 rfl hl (by decide) rfl (fun ls hl => ?_)
    refine lv_iconst (v := 0) hx hb dX11_dress_17 (by decide) ?_
    refine lv_istore_n (lv' := [(3, .int 0), (2, .int (-1)), (0, .ref y0), (1, .int p1)]) hx hb dX11_dress_18 rfl hl (by decide) rfl (fun ls hl => ?_)
    refine lv_iconst (v := 0) hx hb dX11_dress_19 (by decide) ?_
    refine lv_istore (lv' := [(4, .int 0), (3, .int 0), (2, .int (-1)), (0, .ref y0), (1, .int p1)]) hx hb dX11_dress_20 hl (by decide) rfl (fun ls hl => ?_)
    have lp9 : ∀ (n9 : Nat) (l2_9 : Int32) (l3_9 : Int32) (l4_9 : Int32) (v9 : Nat → Int32) (f9 : Nat → Nat → Int32) (w9 : Int64) (g9 : Nat → Int64), YI v9 → YC f9 → progOK (f9 4) (f9 5) (v9 9).toInt.toNat → v9 0 = (v 0) → v9 1 = (v 1) → v9 2 = (v 2) → v9 3 = (v 3) → v9 4 = (v 4) → v9 5 = (v 5) → v9 8 = (v 8) → v9 9 = (v 9) → v9 10 = (v 10) → v9 13 = (v 13) → v9 14 = (v 14) → v9 15 = (v 15) → v9 17 = (v 17) → v9 18 = (v 18) → v9 24 = (v 24) → v9 25 = (v 25) → v9 35 = (v 35) → v9 36 = (v 36) → v9 38 = (v 38) → v9 39 = (v 39) → ((0 : Int) ≤ l4_9.toInt ∧ l4_9.toInt ≤ 2147483647) → f9 0 = f 0 → (2147483647 - l4_9.toInt).toNat < n9 → ∀ (H : Heap) (locs : List Loc) (ls : Array Slot), va_P (dC, dI) vwCl (YW cy y0 r v9 f9 w9 g9) H → va_D A (YW cy y0 r v9 f9 w9 g9) → va_S A s.heap H locs → lv_has ls 7 [(4, .int l4_9), (3, .int l3_9), (2, .int l2_9), (0, .ref y0), (1, .int p1)] → W p l e { frames := 5, cells := 0, slots := 0, locals := 148 } s m ([.ref y0, .int p1] : List Value).toArray below meth c H locs 0 0 Q (F0 m 22 ls []) := by
      intro n9
      induction n9 with
      | zero => intro l2_9 l3_9 l4_9 v9 f9 w9 g9 hIv9 hCf9 hRf9 hq0_v9 hq1_v9 hq2_v9 hq3_v9 hq4_v9 hq5_v9 hq8_v9 hq9_v9 hq10_v9 hq13_v9 hq14_v9 hq15_v9 hq17_v9 hq18_v9 hq24_v9 hq25_v9 hq35_v9 hq36_v9 hq38_v9 hq39_v9 hr4_9 ha0_f9 hm; exact absurd hm (Nat.not_lt_zero _)
      | succ n9 ih9 =>
        intro l2_9 l3_9 l4_9 v9 f9 w9 g9 hIv9 hCf9 hRf9 hq0_v9 hq1_v9 hq2_v9 hq3_v9 hq4_v9 hq5_v9 hq8_v9 hq9_v9 hq10_v9 hq13_v9 hq14_v9 hq15_v9 hq17_v9 hq18_v9 hq24_v9 hq25_v9 hq35_v9 hq36_v9 hq38_v9 hq39_v9 hr4_9 ha0_f9 hm9 H locs ls hP hD hS hl
        have hUv9 : (v9 35).toInt + (v9 36).toInt ≤ 40 := hIv9.2
        have zq3_v9 := congrArg Int32.toInt hq3_v9
        have zq4_v9 := congrArg Int32.toInt hq4_v9
        have zq5_v9 := congrArg Int32.toInt hq5_v9
        have zq9_v9 := congrArg Int32.toInt hq9_v9
        have zq35_v9 := congrArg Int32.toInt hq35_v9
        have zq36_v9 := congrArg Int32.toInt hq36_v9
        refine lv_iload hx hb dX11_dress_22 (lv_at hl 0 rfl) ?_
        refine lv_aload_n hx hb dX11_dress_24 rfl (lv_at hl 3 rfl) ?_
        refine va_get (D := (dC, dI)) (ci := 11) (v := .int (v9 25)) (C := RX11) (T := TX11) (N := 79) hx hb hts inB_11 hown hE.1 hP 0 rfl rfl 49 (by decide) (hts _ k_1369) (fun _ h9 => h9) rfl dX11_dress_25 ?_
        refine tI (y := (v 25)) hq25_v9 ?_
        have b25_v : 0 ≤ (v 25).toInt ∧ (v 25).toInt ≤ 6 := YIb.b hIv.1 25 (by decide)
        refine lv_iconst (v := 1) hx hb dX11_dress_28 (by decide) ?_
        refine lv_iadd hx hb dX11_dress_29 ?_
        refine lv_topi (fun t10 et10 => ?_)
        have rg11 := fb_rng (v 25)
        have zt10 : t10.toInt = (v 25).toInt + 1 := by rw [et10]; exact add_i rfl (by decide) (by omega) (by omega)
        refine lv_aload_n hx hb dX11_dress_30 rfl (lv_at hl 3 rfl) ?_
        refine va_get (D := (dC, dI)) (ci := 11) (v := .int (v9 24)) (C := RX11) (T := TX11) (N := 79) hx hb hts inB_11 hown hE.1 hP 0 rfl rfl 48 (by decide) (hts _ k_1368) (fun _ h9 => h9) rfl dX11_dress_31 ?_
        refine tI (y := (v 24)) hq24_v9 ?_
        have b24_v : 0 ≤ (v 24).toInt ∧ (v 24).toInt ≤ 6 := YIb.b hIv.1 24 (by decide)
        refine cbSi (n := 2) (rest := [.int l4_9]) hx hb hml hown hts hE hP hD hS hA (sY_X11_power_1 l dC dI cy y0 r t10 (v 24) v9 f9 w9 g9 hIv9 hCf9 hRf9 ) k_1877 k_1878 k_114 k_1879 (by decide +kernel) ⟨Nat.le_of_ble_eq_true rfl, Nat.le_of_ble_eq_true rfl⟩ (rfl) hl.1 rfl (Nat.le_of_ble_eq_true rfl) dX11_dress_34 (fun r12 u H locs hw hP hD hS => ?_)
        refine lv_icmp_ge (tgt := 122) hx hb dX11_dress_37 (by decide) (fun c13 => ?_) (fun c13 => ?_)
        · skip
          have zc13 : r12.toInt ≤ l4_9.toInt := by rw [fa_le] at c13; exact c13
          have rg14 := fb_rng l4_9
          have rg15 := fb_rng r12
          refine lv_aload_n hx hb dX11_dress_122 rfl (lv_at hl 3 rfl) ?_
          refine lv_aload_n hx hb dX11_dress_123 rfl (lv_at hl 3 rfl) ?_
          refine va_get (D := (dC, dI)) (ci := 11) (v := .int (v9 24)) (C := RX11) (T := TX11) (N := 79) hx hb hts inB_11 hown hE.1 hP 0 rfl rfl 48 (by decide) (hts _ k_1368) (fun _ h9 => h9) rfl dX11_dress_124 ?_
          refine tI (y := (v 24)) hq24_v9 ?_
          refine va_put (D := (dC, dI)) (ci := 11) (v := .int (v 24)) (ty := tyX11 67) (C := RX11) (T := TX11) (N := 79) hx hb hts inB_11 tyX11 tyX11_ok nmX11 hown hE.1 hP hD hS 0 rfl rfl 67 (by decide) (hts _ k_1387) (fun _ h9 => h9) rfl (tyX11_ok 67 (by decide)) rfl rfl (Nat.le_of_ble_eq_true rfl) dX11_dress_127 (fun H locs hP hD hS => ?_)
          have hP : va_P (dC, dI) vwCl (YW cy y0 r (upd v9 37 (v 24)) f9 w9 g9) H := hP
          have hD : va_D A (YW cy y0 r (upd v9 37 (v 24)) f9 w9 g9) := hD
          refine lv_iload_n hx hb dX11_dress_130 rfl (lv_at hl 4 rfl) ?_
          refine lv_if_ne (tgt := 138) hx hb dX11_dress_131 (by decide) (fun c16 => ?_) (fun c16 => ?_)
          · skip
            have zc16 : ¬ (p1.toInt = 0) := by rw [fa_eq, show (0 : Int32).toInt = 0 from by decide] at c16; exact c16
            refine lv_iload_n hx hb dX11_dress_138 rfl (lv_at hl 1 rfl) ?_
            exact ret l3_9 ((upd v9 37 (v 24)), f9, w9, g9) _ _ _ _ _ _ rfl ⟨ha0_f9, ⟨(YIb.upd (j := 37) (x := (v 24)) hIv9.1 (show (0 : Int) ≤ (v 24).toInt by omega) (show (v 24).toInt ≤ (6 : Int) by omega)), hIv9.2⟩, hCf9, hRf9, hq0_v9, hq1_v9, hq2_v9, hq3_v9, hq4_v9, hq5_v9, hq8_v9, hq9_v9, hq10_v9, hq13_v9, hq14_v9, hq15_v9, hq17_v9, hq18_v9, hq24_v9, hq25_v9, hq35_v9, hq36_v9, hq38_v9, hq39_v9⟩ hP hD hS dX11_dress_139 (Nat.le_refl _) (Nat.le_refl _)
          · skip
            have zc16 : p1.toInt = 0 := by rw [fa_eq, show (0 : Int32).toInt = 0 from by decide] at c16; exact c16
            refine lv_iload_n hx hb dX11_dress_134 rfl (lv_at hl 2 rfl) ?_
            refine lv_goto (tgt := 139) hx hb dX11_dress_135 (by decide) ?_
            exact ret l2_9 ((upd v9 37 (v 24)), f9, w9, g9) _ _ _ _ _ _ rfl ⟨ha0_f9, ⟨(YIb.upd (j := 37) (x := (v 24)) hIv9.1 (show (0 : Int) ≤ (v 24).toInt by omega) (show (v 24).toInt ≤ (6 : Int) by omega)), hIv9.2⟩, hCf9, hRf9, hq0_v9, hq1_v9, hq2_v9, hq3_v9, hq4_v9, hq5_v9, hq8_v9, hq9_v9, hq10_v9, hq13_v9, hq14_v9, hq15_v9, hq17_v9, hq18_v9, hq24_v9, hq25_v9, hq35_v9, hq36_v9, hq38_v9, hq39_v9⟩ hP hD hS dX11_dress_139 (Nat.le_refl _) (Nat.le_refl _)
        · skip
          have zc13 : ¬ (r12.toInt ≤ l4_9.toInt) := by rw [fa_le] at c13; exact c13
          have rg17 := fb_rng l4_9
          have rg18 := fb_rng r12
          refine lv_aload_n hx hb dX11_dress_40 rfl (lv_at hl 3 rfl) ?_
          refine lv_iload hx hb dX11_dress_41 (lv_at hl 0 rfl) ?_
          refine cbVi (n := 1) (rest := []) hx hb hml hown hts hE hP hD hS hA (sY_X11_layDress_1 l dC dI cy y0 r l4_9 v9 f9 w9 g9 hIv9 hCf9 hRf9 ⟨show (0 : Int) ≤ l4_9.toInt by omega, show l4_9.toInt ≤ (2147483647 : Int) by omega⟩) k_1880 k_1882 k_85 k_114 k_1883 (by decide +kernel) ⟨Nat.le_of_ble_eq_true rfl, Nat.le_of_ble_eq_true rfl⟩ 0 11 rfl rfl (rfl) hl.1 rfl (Nat.le_of_ble_eq_true rfl) dX11_dress_43 (fun r19 u H locs hw hP hD hS => ?_)
          obtain ⟨v20, f21, w22, g23⟩ := u
          obtain ⟨ka0_f21, hIv20, hCf21, hRf21, hk0_v20, hk1_v20, hk2_v20, hk3_v20, hk4_v20, hk5_v20, hk8_v20, hk9_v20, hk10_v20, hk13_v20, hk14_v20, hk15_v20, hk17_v20, hk18_v20, hk24_v20, hk25_v20, hk35_v20, hk36_v20, hk38_v20, hk39_v20⟩ := hw
          have ha0_f21 : f21 0 = f 0 := ka0_f21.trans ha0_f9
          have hP : va_P (dC, dI) vwCl (YW cy y0 r v20 f21 w22 g23) H := hP
          have hD : va_D A (YW cy y0 r v20 f21 w22 g23) := hD
          have hUv20 : (v20 35).toInt + (v20 36).toInt ≤ 40 := hIv20.2
          have hq0_v20 : v20 0 = (v 0) := hk0_v20.trans hq0_v9
          have hq1_v20 : v20 1 = (v 1) := hk1_v20.trans hq1_v9
          have hq2_v20 : v20 2 = (v 2) := hk2_v20.trans hq2_v9
          have hq3_v20 : v20 3 = (v 3) := hk3_v20.trans hq3_v9
          have zq3_v20 := congrArg Int32.toInt hq3_v20
          have hq4_v20 : v20 4 = (v 4) := hk4_v20.trans hq4_v9
          have zq4_v20 := congrArg Int32.toInt hq4_v20
          have hq5_v20 : v20 5 = (v 5) := hk5_v20.trans hq5_v9
          have zq5_v20 := congrArg Int32.toInt hq5_v20
          have hq8_v20 : v20 8 = (v 8) := hk8_v20.trans hq8_v9
          have hq9_v20 : v20 9 = (v 9) := hk9_v20.trans hq9_v9
          have zq9_v20 := congrArg Int32.toInt hq9_v20
          have hq10_v20 : v20 10 = (v 10) := hk10_v20.trans hq10_v9
          have hq13_v20 : v20 13 = (v 13) := hk13_v20.trans hq13_v9
          have hq14_v20 : v20 14 = (v 14) := hk14_v20.trans hq14_v9
          have hq15_v20 : v20 15 = (v 15) := hk15_v20.trans hq15_v9
          have hq17_v20 : v20 17 = (v 17) := hk17_v20.trans hq17_v9
          have hq18_v20 : v20 18 = (v 18) := hk18_v20.trans hq18_v9
          have hq24_v20 : v20 24 = (v 24) := hk24_v20.trans hq24_v9
          have hq25_v20 : v20 25 = (v 25) := hk25_v20.trans hq25_v9
          have hq35_v20 : v20 35 = (v 35) := hk35_v20.trans hq35_v9
          have zq35_v20 := congrArg Int32.toInt hq35_v20
          have hq36_v20 : v20 36 = (v 36) := hk36_v20.trans hq36_v9
          have zq36_v20 := congrArg Int32.toInt hq36_v20
          have hq38_v20 : v20 38 = (v 38) := hk38_v20.trans hq38_v9
          have hq39_v20 : v20 39 = (v 39) := hk39_v20.trans hq39_v9
          refine lv_istore (lv' := [(5, .int r19), (4, .int l4_9), (3, .int l3_9), (2, .int l2_9), (0, .ref y0), (1, .int p1)]) hx hb dX11_dress_46 hl (by decide) rfl (fun ls hl => ?_)
          refine lv_iload hx hb dX11_dress_48 (lv_at hl 0 rfl) ?_
          refine lv_if_lt (tgt := 116) hx hb dX11_dress_50 (by decide) (fun c24 => ?_) (fun c24 => ?_)
          · skip
            have zc24 : r19.toInt < 0 := by rw [fa_lt, show (0 : Int32).toInt = 0 from by decide] at c24; exact c24
            obtain ⟨t25, et25⟩ : ∃ y : Int32, y = l4_9 + 1 := ⟨_, rfl⟩
            have zt25 : t25.toInt = l4_9.toInt + 1 := by rw [et25]; exact add_i rfl (by decide) (by omega) (by omega)
            refine lv_iinc (v := t25) (lv' := [(4, .int t25), (5, .int r19), (3, .int l3_9), (2, .int l2_9), (0, .ref y0), (1, .int p1)]) hx hb dX11_dress_116 hl (k := 1) rfl (by rw [et25]; rfl) (by decide) rfl (fun ls hl => ?_)
            refine lv_goto (tgt := 22) hx hb dX11_dress_119 (by decide) ?_
            have rg26 := fb_rng t25
            exact ih9 l2_9 l3_9 t25 v20 f21 w22 g23 hIv20 hCf21 hRf21 hq0_v20 hq1_v20 hq2_v20 hq3_v20 hq4_v20 hq5_v20 hq8_v20 hq9_v20 hq10_v20 hq13_v20 hq14_v20 hq15_v20 hq17_v20 hq18_v20 hq24_v20 hq25_v20 hq35_v20 hq36_v20 hq38_v20 hq39_v20 ⟨show (0 : Int) ≤ t25.toInt by omega, show t25.toInt ≤ (2147483647 : Int) by omega⟩ ha0_f21 (by show (2147483647 - t25.toInt).toNat < n9; omega) _ _ _ hP hD hS (lv_sub hl [0, 2, 3, 4, 5] rfl)
          · skip
            have zc24 : ¬ (r19.toInt < 0) := by rw [fa_lt, show (0 : Int32).toInt = 0 from by decide] at c24; exact c24
            refine lv_iload hx hb dX11_dress_53 (lv_at hl 0 rfl) ?_
            refine lv_iload_n hx hb dX11_dress_55 rfl (lv_at hl 3 rfl) ?_
            refine lv_icmp_lt (tgt := 116) hx hb dX11_dress_56 (by decide) (fun c27 => ?_) (fun c27 => ?_)
            · skip
              have zc27 : r19.toInt < l2_9.toInt := by rw [fa_lt] at c27; exact c27
              have rg28 := fb_rng r19
              have rg29 := fb_rng l2_9
              obtain ⟨t30, et30⟩ : ∃ y : Int32, y = l4_9 + 1 := ⟨_, rfl⟩
              have zt30 : t30.toInt = l4_9.toInt + 1 := by rw [et30]; exact add_i rfl (by decide) (by omega) (by omega)
              refine lv_iinc (v := t30) (lv' := [(4, .int t30), (5, .int r19), (3, .int l3_9), (2, .int l2_9), (0, .ref y0), (1, .int p1)]) hx hb dX11_dress_116 hl (k := 1) rfl (by rw [et30]; rfl) (by decide) rfl (fun ls hl => ?_)
              refine lv_goto (tgt := 22) hx hb dX11_dress_119 (by decide) ?_
              have rg31 := fb_rng t30
              exact ih9 l2_9 l3_9 t30 v20 f21 w22 g23 hIv20 hCf21 hRf21 hq0_v20 hq1_v20 hq2_v20 hq3_v20 hq4_v20 hq5_v20 hq8_v20 hq9_v20 hq10_v20 hq13_v20 hq14_v20 hq15_v20 hq17_v20 hq18_v20 hq24_v20 hq25_v20 hq35_v20 hq36_v20 hq38_v20 hq39_v20 ⟨show (0 : Int) ≤ t30.toInt by omega, show t30.toInt ≤ (2147483647 : Int) by omega⟩ ha0_f21 (by show (2147483647 - t30.toInt).toNat < n9; omega) _ _ _ hP hD hS (lv_sub hl [0, 2, 3, 4, 5] rfl)
            · skip
              have zc27 : ¬ (r19.toInt < l2_9.toInt) := by rw [fa_lt] at c27; exact c27
              have rg32 := fb_rng r19
              have rg33 := fb_rng l2_9
              refine lv_iload hx hb dX11_dress_59 (lv_at hl 0 rfl) ?_
              refine lv_iload_n hx hb dX11_dress_61 rfl (lv_at hl 3 rfl) ?_
              refine lv_icmp_ne (tgt := 76) hx hb dX11_dress_62 (by decide) (fun c34 => ?_) (fun c34 => ?_)
              · skip
                have zc34 : ¬ (r19.toInt = l2_9.toInt) := by rw [fa_eq] at c34; exact c34
                refine lv_iload hx hb dX11_dress_76 (lv_at hl 0 rfl) ?_
                refine lv_istore_n (lv' := [(2, .int r19), (5, .int r19), (4, .int l4_9), (3, .int l3_9), (0, .ref y0), (1, .int p1)]) hx hb dX11_dress_78 rfl hl (by decide) rfl (fun ls hl => ?_)
                refine lv_aload_n hx hb dX11_dress_79 rfl (lv_at hl 4 rfl) ?_
                refine cbVi (n := 0) (rest := []) hx hb hml hown hts hE hP hD hS hA (sY_X11_illOfRow_1 l dC dI cy y0 r  v20 f21 w22 g23 hIv20 hCf21 hRf21 ) k_1884 k_1886 k_86 k_114 k_1887 (by decide +kernel) ⟨Nat.le_of_ble_eq_true rfl, Nat.le_of_ble_eq_true rfl⟩ 0 11 rfl rfl (rfl) hl.1 rfl (Nat.le_of_ble_eq_true rfl) dX11_dress_80 (fun r35 u H locs hw hP hD hS => ?_)
                refine lv_istore_n (lv' := [(3, .int r35), (2, .int r19), (5, .int r19), (4, .int l4_9), (0, .ref y0), (1, .int p1)]) hx hb dX11_dress_83 rfl hl (by decide) rfl (fun ls hl => ?_)
                refine lv_iconst (v := 0) hx hb dX11_dress_84 (by decide) ?_
                refine lv_istore (lv' := [(6, .int 0), (3, .int r35), (2, .int r19), (5, .int r19), (4, .int l4_9), (0, .ref y0), (1, .int p1)]) hx hb dX11_dress_85 hl (by decide) rfl (fun ls hl => ?_)
                have lp36 : ∀ (n36 : Nat) (l6_36 : Int32) (v36 : Nat → Int32) (f36 : Nat → Nat → Int32) (w36 : Int64) (g36 : Nat → Int64), YI v36 → YC f36 → progOK (f36 4) (f36 5) (v36 9).toInt.toNat → v36 0 = (v 0) → v36 1 = (v 1) → v36 2 = (v 2) → v36 3 = (v 3) → v36 4 = (v 4) → v36 5 = (v 5) → v36 8 = (v 8) → v36 9 = (v 9) → v36 10 = (v 10) → v36 13 = (v 13) → v36 14 = (v 14) → v36 15 = (v 15) → v36 17 = (v 17) → v36 18 = (v 18) → v36 24 = (v 24) → v36 25 = (v 25) → v36 35 = (v 35) → v36 36 = (v 36) → v36 38 = (v 38) → v36 39 = (v 39) → ((0 : Int) ≤ l6_36.toInt ∧ l6_36.toInt ≤ 2147483647) → f36 0 = f 0 → (2147483647 - l6_36.toInt).toNat < n36 → ∀ (H : Heap) (locs : List Loc) (ls : Array Slot), va_P (dC, dI) vwCl (YW cy y0 r v36 f36 w36 g36) H → va_D A (YW cy y0 r v36 f36 w36 g36) → va_S A s.heap H locs → lv_has ls 7 [(6, .int l6_36), (3, .int r35), (2, .int r19), (5, .int r19), (4, .int l4_9), (0, .ref y0), (1, .int p1)] → W p l e { frames := 5, cells := 0, slots := 0, locals := 148 } s m ([.ref y0, .int p1] : List Value).toArray below meth c H locs 0 0 Q (F0 m 87 ls []) := by
                  intro n36
                  induction n36 with
                  | zero => intro l6_36 v36 f36 w36 g36 hIv36 hCf36 hRf36 hq0_v36 hq1_v36 hq2_v36 hq3_v36 hq4_v36 hq5_v36 hq8_v36 hq9_v36 hq10_v36 hq13_v36 hq14_v36 hq15_v36 hq17_v36 hq18_v36 hq24_v36 hq25_v36 hq35_v36 hq36_v36 hq38_v36 hq39_v36 hr6_36 ha0_f36 hm; exact absurd hm (Nat.not_lt_zero _)
                  | succ n36 ih36 =>
                    intro l6_36 v36 f36 w36 g36 hIv36 hCf36 hRf36 hq0_v36 hq1_v36 hq2_v36 hq3_v36 hq4_v36 hq5_v36 hq8_v36 hq9_v36 hq10_v36 hq13_v36 hq14_v36 hq15_v36 hq17_v36 hq18_v36 hq24_v36 hq25_v36 hq35_v36 hq36_v36 hq38_v36 hq39_v36 hr6_36 ha0_f36 hm36 H locs ls hP hD hS hl
                    have hUv36 : (v36 35).toInt + (v36 36).toInt ≤ 40 := hIv36.2
                    have zq3_v36 := congrArg Int32.toInt hq3_v36
                    have zq4_v36 := congrArg Int32.toInt hq4_v36
                    have zq5_v36 := congrArg Int32.toInt hq5_v36
                    have zq9_v36 := congrArg Int32.toInt hq9_v36
                    have zq35_v36 := congrArg Int32.toInt hq35_v36
                    have zq36_v36 := congrArg Int32.toInt hq36_v36
                    refine lv_iload hx hb dX11_dress_87 (lv_at hl 0 rfl) ?_
                    refine lv_aload_n hx hb dX11_dress_89 rfl (lv_at hl 5 rfl) ?_
                    refine va_get (D := (dC, dI)) (ci := 11) (v := .int (v36 24)) (C := RX11) (T := TX11) (N := 79) hx hb hts inB_11 hown hE.1 hP 0 rfl rfl 48 (by decide) (hts _ k_1368) (fun _ h9 => h9) rfl dX11_dress_90 ?_
                    refine tI (y := (v 24)) hq24_v36 ?_
                    have b24_v : 0 ≤ (v 24).toInt ∧ (v 24).toInt ≤ 6 := YIb.b hIv.1 24 (by decide)
                    refine lv_icmp_ge (tgt := 116) hx hb dX11_dress_93 (by decide) (fun c37 => ?_) (fun c37 => ?_)
                    · skip
                      have zc37 : (v 24).toInt ≤ l6_36.toInt := by rw [fa_le] at c37; exact c37
                      have rg38 := fb_rng l6_36
                      have rg39 := fb_rng (v 24)
                      obtain ⟨t40, et40⟩ : ∃ y : Int32, y = l4_9 + 1 := ⟨_, rfl⟩
                      have zt40 : t40.toInt = l4_9.toInt + 1 := by rw [et40]; exact add_i rfl (by decide) (by omega) (by omega)
                      refine lv_iinc (v := t40) (lv' := [(4, .int t40), (6, .int l6_36), (3, .int r35), (2, .int r19), (5, .int r19), (0, .ref y0), (1, .int p1)]) hx hb dX11_dress_116 hl (k := 4) rfl (by rw [et40]; rfl) (by decide) rfl (fun ls hl => ?_)
                      refine lv_goto (tgt := 22) hx hb dX11_dress_119 (by decide) ?_
                      have rg41 := fb_rng t40
                      exact ih9 r19 r35 t40 v36 f36 w36 g36 hIv36 hCf36 hRf36 hq0_v36 hq1_v36 hq2_v36 hq3_v36 hq4_v36 hq5_v36 hq8_v36 hq9_v36 hq10_v36 hq13_v36 hq14_v36 hq15_v36 hq17_v36 hq18_v36 hq24_v36 hq25_v36 hq35_v36 hq36_v36 hq38_v36 hq39_v36 ⟨show (0 : Int) ≤ t40.toInt by omega, show t40.toInt ≤ (2147483647 : Int) by omega⟩ ha0_f36 (by show (2147483647 - t40.toInt).toNat < n9; omega) _ _ _ hP hD hS (lv_sub hl [0, 2, 3, 5, 6] rfl)
                    · skip
                      have zc37 : ¬ ((v 24).toInt ≤ l6_36.toInt) := by rw [fa_le] at c37; exact c37
                      have rg42 := fb_rng l6_36
                      have rg43 := fb_rng (v 24)
                      refine lv_aload_n hx hb dX11_dress_96 rfl (lv_at hl 5 rfl) ?_
                      refine va_get (D := (dC, dI)) (ci := 11) (v := .ref (r 64)) (C := RX11) (T := TX11) (N := 79) hx hb hts inB_11 hown hE.1 hP 0 rfl rfl 64 (by decide) (hts _ k_1384) (fun _ h9 => h9) rfl dX11_dress_97 ?_
                      refine lv_iload hx hb dX11_dress_100 (lv_at hl 0 rfl) ?_
                      refine lv_aload_n hx hb dX11_dress_102 rfl (lv_at hl 5 rfl) ?_
                      refine va_get (D := (dC, dI)) (ci := 11) (v := .ref (r 65)) (C := RX11) (T := TX11) (N := 79) hx hb hts inB_11 hown hE.1 hP 0 rfl rfl 65 (by decide) (hts _ k_1385) (fun _ h9 => h9) rfl dX11_dress_103 ?_
                      refine lv_iload hx hb dX11_dress_106 (lv_at hl 0 rfl) ?_
                      refine ldI hx hb hE hP 28 rfl (vp_in_iff.mpr ⟨by omega, by omega⟩) rfl rfl dX11_dress_108 ?_
                      refine lv_topi (fun t44 et44 => ?_)
                      have zt44 : -1 ≤ t44.toInt ∧ t44.toInt ≤ 5 := by rw [et44]; exact hCf36.2.2.2.1 l6_36.toInt.toNat (show l6_36.toInt.toNat < 6 by omega)
                      refine stI hx hb hE hP hD hS 27 rfl (vp_in_iff.mpr ⟨by omega, by omega⟩) rfl dX11_dress_109 (fun H locs hP hD hS => ?_)
                      obtain ⟨f45, ef45, hP, hD⟩ : ∃ fz9, fz9 = upd2 f36 26 (upd (f36 26) l6_36.toNatClampNeg t44) ∧ va_P (dC, dI) vwCl (YW cy y0 r v36 fz9 w36 g36) H ∧ va_D A (YW cy y0 r v36 fz9 w36 g36) := ⟨_, rfl, hP, hD⟩
                      have hCf45 : YC f45 := by rw [ef45]; exact hCf36
                      have hRf45 : progOK (f45 4) (f45 5) (v36 9).toInt.toNat := by rw [ef45]; exact hRf36
                      have ha0_f45 : f45 0 = f 0 := by rw [ef45]; exact ha0_f36
                      obtain ⟨t46, et46⟩ : ∃ y : Int32, y = l6_36 + 1 := ⟨_, rfl⟩
                      have zt46 : t46.toInt = l6_36.toInt + 1 := by rw [et46]; exact add_i rfl (by decide) (by omega) (by omega)
                      refine lv_iinc (v := t46) (lv' := [(6, .int t46), (3, .int r35), (2, .int r19), (5, .int r19), (4, .int l4_9), (0, .ref y0), (1, .int p1)]) hx hb dX11_dress_110 hl (k := 0) rfl (by rw [et46]; rfl) (by decide) rfl (fun ls hl => ?_)
                      refine lv_goto (tgt := 87) hx hb dX11_dress_113 (by decide) ?_
                      have rg47 := fb_rng t46
                      exact ih36 t46 v36 f45 w36 g36 hIv36 hCf45 hRf45 hq0_v36 hq1_v36 hq2_v36 hq3_v36 hq4_v36 hq5_v36 hq8_v36 hq9_v36 hq10_v36 hq13_v36 hq14_v36 hq15_v36 hq17_v36 hq18_v36 hq24_v36 hq25_v36 hq35_v36 hq36_v36 hq38_v36 hq39_v36 ⟨show (0 : Int) ≤ t46.toInt by omega, show t46.toInt ≤ (2147483647 : Int) by omega⟩ ha0_f45 (by show (2147483647 - t46.toInt).toNat < n36; omega) _ _ _ hP hD hS (lv_sub hl [0, 1, 2, 3, 4, 5, 6] rfl)
                exact lp36 _ 0 v20 f21 w22 g23 hIv20 hCf21 hRf21 hq0_v20 hq1_v20 hq2_v20 hq3_v20 hq4_v20 hq5_v20 hq8_v20 hq9_v20 hq10_v20 hq13_v20 hq14_v20 hq15_v20 hq17_v20 hq18_v20 hq24_v20 hq25_v20 hq35_v20 hq36_v20 hq38_v20 hq39_v20 ⟨by decide, by decide⟩ ha0_f21 (Nat.lt_succ_self _) _ _ _ hP hD hS (lv_sub hl [0, 1, 2, 3, 4, 5, 6] rfl)
              · skip
                have zc34 : r19.toInt = l2_9.toInt := by rw [fa_eq] at c34; exact c34
                refine lv_aload_n hx hb dX11_dress_65 rfl (lv_at hl 4 rfl) ?_
                refine cbVi (n := 0) (rest := []) hx hb hml hown hts hE hP hD hS hA (sY_X11_illOfRow_1 l dC dI cy y0 r  v20 f21 w22 g23 hIv20 hCf21 hRf21 ) k_1884 k_1886 k_86 k_114 k_1887 (by decide +kernel) ⟨Nat.le_of_ble_eq_true rfl, Nat.le_of_ble_eq_true rfl⟩ 0 11 rfl rfl (rfl) hl.1 rfl (Nat.le_of_ble_eq_true rfl) dX11_dress_66 (fun r48 u H locs hw hP hD hS => ?_)
                refine lv_iload_n hx hb dX11_dress_69 rfl (lv_at hl 2 rfl) ?_
                refine lv_icmp_lt (tgt := 76) hx hb dX11_dress_70 (by decide) (fun c49 => ?_) (fun c49 => ?_)
                · skip
                  have zc49 : r48.toInt < l3_9.toInt := by rw [fa_lt] at c49; exact c49
                  have rg50 := fb_rng r48
                  have rg51 := fb_rng l3_9
                  refine lv_iload hx hb dX11_dress_76 (lv_at hl 0 rfl) ?_
                  refine lv_istore_n (lv' := [(2, .int r19), (5, .int r19), (4, .int l4_9), (3, .int l3_9), (0, .ref y0), (1, .int p1)]) hx hb dX11_dress_78 rfl hl (by decide) rfl (fun ls hl => ?_)
                  refine lv_aload_n hx hb dX11_dress_79 rfl (lv_at hl 4 rfl) ?_
                  refine cbVi (n := 0) (rest := []) hx hb hml hown hts hE hP hD hS hA (sY_X11_illOfRow_1 l dC dI cy y0 r  v20 f21 w22 g23 hIv20 hCf21 hRf21 ) k_1884 k_1886 k_86 k_114 k_1887 (by decide +kernel) ⟨Nat.le_of_ble_eq_true rfl, Nat.le_of_ble_eq_true rfl⟩ 0 11 rfl rfl (rfl) hl.1 rfl (Nat.le_of_ble_eq_true rfl) dX11_dress_80 (fun r52 u H locs hw hP hD hS => ?_)
                  refine lv_istore_n (lv' := [(3, .int r52), (2, .int r19), (5, .int r19), (4, .int l4_9), (0, .ref y0), (1, .int p1)]) hx hb dX11_dress_83 rfl hl (by decide) rfl (fun ls hl => ?_)
                  refine lv_iconst (v := 0) hx hb dX11_dress_84 (by decide) ?_
                  refine lv_istore (lv' := [(6, .int 0), (3, .int r52), (2, .int r19), (5, .int r19), (4, .int l4_9), (0, .ref y0), (1, .int p1)]) hx hb dX11_dress_85 hl (by decide) rfl (fun ls hl => ?_)
                  have lp53 : ∀ (n53 : Nat) (l6_53 : Int32) (v53 : Nat → Int32) (f53 : Nat → Nat → Int32) (w53 : Int64) (g53 : Nat → Int64), YI v53 → YC f53 → progOK (f53 4) (f53 5) (v53 9).toInt.toNat → v53 0 = (v 0) → v53 1 = (v 1) → v53 2 = (v 2) → v53 3 = (v 3) → v53 4 = (v 4) → v53 5 = (v 5) → v53 8 = (v 8) → v53 9 = (v 9) → v53 10 = (v 10) → v53 13 = (v 13) → v53 14 = (v 14) → v53 15 = (v 15) → v53 17 = (v 17) → v53 18 = (v 18) → v53 24 = (v 24) → v53 25 = (v 25) → v53 35 = (v 35) → v53 36 = (v 36) → v53 38 = (v 38) → v53 39 = (v 39) → ((0 : Int) ≤ l6_53.toInt ∧ l6_53.toInt ≤ 2147483647) → f53 0 = f 0 → (2147483647 - l6_53.toInt).toNat < n53 → ∀ (H : Heap) (locs : List Loc) (ls : Array Slot), va_P (dC, dI) vwCl (YW cy y0 r v53 f53 w53 g53) H → va_D A (YW cy y0 r v53 f53 w53 g53) → va_S A s.heap H locs → lv_has ls 7 [(6, .int l6_53), (3, .int r52), (2, .int r19), (5, .int r19), (4, .int l4_9), (0, .ref y0), (1, .int p1)] → W p l e { frames := 5, cells := 0, slots := 0, locals := 148 } s m ([.ref y0, .int p1] : List Value).toArray below meth c H locs 0 0 Q (F0 m 87 ls []) := by
                    intro n53
                    induction n53 with
                    | zero => intro l6_53 v53 f53 w53 g53 hIv53 hCf53 hRf53 hq0_v53 hq1_v53 hq2_v53 hq3_v53 hq4_v53 hq5_v53 hq8_v53 hq9_v53 hq10_v53 hq13_v53 hq14_v53 hq15_v53 hq17_v53 hq18_v53 hq24_v53 hq25_v53 hq35_v53 hq36_v53 hq38_v53 hq39_v53 hr6_53 ha0_f53 hm; exact absurd hm (Nat.not_lt_zero _)
                    | succ n53 ih53 =>
                      intro l6_53 v53 f53 w53 g53 hIv53 hCf53 hRf53 hq0_v53 hq1_v53 hq2_v53 hq3_v53 hq4_v53 hq5_v53 hq8_v53 hq9_v53 hq10_v53 hq13_v53 hq14_v53 hq15_v53 hq17_v53 hq18_v53 hq24_v53 hq25_v53 hq35_v53 hq36_v53 hq38_v53 hq39_v53 hr6_53 ha0_f53 hm53 H locs ls hP hD hS hl
                      have hUv53 : (v53 35).toInt + (v53 36).toInt ≤ 40 := hIv53.2
                      have zq3_v53 := congrArg Int32.toInt hq3_v53
                      have zq4_v53 := congrArg Int32.toInt hq4_v53
                      have zq5_v53 := congrArg Int32.toInt hq5_v53
                      have zq9_v53 := congrArg Int32.toInt hq9_v53
                      have zq35_v53 := congrArg Int32.toInt hq35_v53
                      have zq36_v53 := congrArg Int32.toInt hq36_v53
                      refine lv_iload hx hb dX11_dress_87 (lv_at hl 0 rfl) ?_
                      refine lv_aload_n hx hb dX11_dress_89 rfl (lv_at hl 5 rfl) ?_
                      refine va_get (D := (dC, dI)) (ci := 11) (v := .int (v53 24)) (C := RX11) (T := TX11) (N := 79) hx hb hts inB_11 hown hE.1 hP 0 rfl rfl 48 (by decide) (hts _ k_1368) (fun _ h9 => h9) rfl dX11_dress_90 ?_
                      refine tI (y := (v 24)) hq24_v53 ?_
                      have b24_v : 0 ≤ (v 24).toInt ∧ (v 24).toInt ≤ 6 := YIb.b hIv.1 24 (by decide)
                      refine lv_icmp_ge (tgt := 116) hx hb dX11_dress_93 (by decide) (fun c54 => ?_) (fun c54 => ?_)
                      · skip
                        have zc54 : (v 24).toInt ≤ l6_53.toInt := by rw [fa_le] at c54; exact c54
                        have rg55 := fb_rng l6_53
                        have rg56 := fb_rng (v 24)
                        obtain ⟨t57, et57⟩ : ∃ y : Int32, y = l4_9 + 1 := ⟨_, rfl⟩
                        have zt57 : t57.toInt = l4_9.toInt + 1 := by rw [et57]; exact add_i rfl (by decide) (by omega) (by omega)
                        refine lv_iinc (v := t57) (lv' := [(4, .int t57), (6, .int l6_53), (3, .int r52), (2, .int r19), (5, .int r19), (0, .ref y0), (1, .int p1)]) hx hb dX11_dress_116 hl (k := 4) rfl (by rw [et57]; rfl) (by decide) rfl (fun ls hl => ?_)
                        refine lv_goto (tgt := 22) hx hb dX11_dress_119 (by decide) ?_
                        have rg58 := fb_rng t57
                        exact ih9 r19 r52 t57 v53 f53 w53 g53 hIv53 hCf53 hRf53 hq0_v53 hq1_v53 hq2_v53 hq3_v53 hq4_v53 hq5_v53 hq8_v53 hq9_v53 hq10_v53 hq13_v53 hq14_v53 hq15_v53 hq17_v53 hq18_v53 hq24_v53 hq25_v53 hq35_v53 hq36_v53 hq38_v53 hq39_v53 ⟨show (0 : Int) ≤ t57.toInt by omega, show t57.toInt ≤ (2147483647 : Int) by omega⟩ ha0_f53 (by show (2147483647 - t57.toInt).toNat < n9; omega) _ _ _ hP hD hS (lv_sub hl [0, 2, 3, 5, 6] rfl)
                      · skip
                        have zc54 : ¬ ((v 24).toInt ≤ l6_53.toInt) := by rw [fa_le] at c54; exact c54
                        have rg59 := fb_rng l6_53
                        have rg60 := fb_rng (v 24)
                        refine lv_aload_n hx hb dX11_dress_96 rfl (lv_at hl 5 rfl) ?_
                        refine va_get (D := (dC, dI)) (ci := 11) (v := .ref (r 64)) (C := RX11) (T := TX11) (N := 79) hx hb hts inB_11 hown hE.1 hP 0 rfl rfl 64 (by decide) (hts _ k_1384) (fun _ h9 => h9) rfl dX11_dress_97 ?_
                        refine lv_iload hx hb dX11_dress_100 (lv_at hl 0 rfl) ?_
                        refine lv_aload_n hx hb dX11_dress_102 rfl (lv_at hl 5 rfl) ?_
                        refine va_get (D := (dC, dI)) (ci := 11) (v := .ref (r 65)) (C := RX11) (T := TX11) (N := 79) hx hb hts inB_11 hown hE.1 hP 0 rfl rfl 65 (by decide) (hts _ k_1385) (fun _ h9 => h9) rfl dX11_dress_103 ?_
                        refine lv_iload hx hb dX11_dress_106 (lv_at hl 0 rfl) ?_
                        refine ldI hx hb hE hP 28 rfl (vp_in_iff.mpr ⟨by omega, by omega⟩) rfl rfl dX11_dress_108 ?_
                        refine lv_topi (fun t61 et61 => ?_)
                        have zt61 : -1 ≤ t61.toInt ∧ t61.toInt ≤ 5 := by rw [et61]; exact hCf53.2.2.2.1 l6_53.toInt.toNat (show l6_53.toInt.toNat < 6 by omega)
                        refine stI hx hb hE hP hD hS 27 rfl (vp_in_iff.mpr ⟨by omega, by omega⟩) rfl dX11_dress_109 (fun H locs hP hD hS => ?_)
                        obtain ⟨f62, ef62, hP, hD⟩ : ∃ fz9, fz9 = upd2 f53 26 (upd (f53 26) l6_53.toNatClampNeg t61) ∧ va_P (dC, dI) vwCl (YW cy y0 r v53 fz9 w53 g53) H ∧ va_D A (YW cy y0 r v53 fz9 w53 g53) := ⟨_, rfl, hP, hD⟩
                        have hCf62 : YC f62 := by rw [ef62]; exact hCf53
                        have hRf62 : progOK (f62 4) (f62 5) (v53 9).toInt.toNat := by rw [ef62]; exact hRf53
                        have ha0_f62 : f62 0 = f 0 := by rw [ef62]; exact ha0_f53
                        obtain ⟨t63, et63⟩ : ∃ y : Int32, y = l6_53 + 1 := ⟨_, rfl⟩
                        have zt63 : t63.toInt = l6_53.toInt + 1 := by rw [et63]; exact add_i rfl (by decide) (by omega) (by omega)
                        refine lv_iinc (v := t63) (lv' := [(6, .int t63), (3, .int r52), (2, .int r19), (5, .int r19), (4, .int l4_9), (0, .ref y0), (1, .int p1)]) hx hb dX11_dress_110 hl (k := 0) rfl (by rw [et63]; rfl) (by decide) rfl (fun ls hl => ?_)
                        refine lv_goto (tgt := 87) hx hb dX11_dress_113 (by decide) ?_
                        have rg64 := fb_rng t63
                        exact ih53 t63 v53 f62 w53 g53 hIv53 hCf62 hRf62 hq0_v53 hq1_v53 hq2_v53 hq3_v53 hq4_v53 hq5_v53 hq8_v53 hq9_v53 hq10_v53 hq13_v53 hq14_v53 hq15_v53 hq17_v53 hq18_v53 hq24_v53 hq25_v53 hq35_v53 hq36_v53 hq38_v53 hq39_v53 ⟨show (0 : Int) ≤ t63.toInt by omega, show t63.toInt ≤ (2147483647 : Int) by omega⟩ ha0_f62 (by show (2147483647 - t63.toInt).toNat < n53; omega) _ _ _ hP hD hS (lv_sub hl [0, 1, 2, 3, 4, 5, 6] rfl)
                  exact lp53 _ 0 v20 f21 w22 g23 hIv20 hCf21 hRf21 hq0_v20 hq1_v20 hq2_v20 hq3_v20 hq4_v20 hq5_v20 hq8_v20 hq9_v20 hq10_v20 hq13_v20 hq14_v20 hq15_v20 hq17_v20 hq18_v20 hq24_v20 hq25_v20 hq35_v20 hq36_v20 hq38_v20 hq39_v20 ⟨by decide, by decide⟩ ha0_f21 (Nat.lt_succ_self _) _ _ _ hP hD hS (lv_sub hl [0, 1, 2, 3, 4, 5, 6] rfl)
                · skip
                  have zc49 : ¬ (r48.toInt < l3_9.toInt) := by rw [fa_lt] at c49; exact c49
                  have rg65 := fb_rng r48
                  have rg66 := fb_rng l3_9
                  refine lv_goto (tgt := 116) hx hb dX11_dress_73 (by decide) ?_
                  obtain ⟨t67, et67⟩ : ∃ y : Int32, y = l4_9 + 1 := ⟨_, rfl⟩
                  have zt67 : t67.toInt = l4_9.toInt + 1 := by rw [et67]; exact add_i rfl (by decide) (by omega) (by omega)
                  refine lv_iinc (v := t67) (lv' := [(4, .int t67), (5, .int r19), (3, .int l3_9), (2, .int l2_9), (0, .ref y0), (1, .int p1)]) hx hb dX11_dress_116 hl (k := 1) rfl (by rw [et67]; rfl) (by decide) rfl (fun ls hl => ?_)
                  refine lv_goto (tgt := 22) hx hb dX11_dress_119 (by decide) ?_
                  have rg68 := fb_rng t67
                  exact ih9 l2_9 l3_9 t67 v20 f21 w22 g23 hIv20 hCf21 hRf21 hq0_v20 hq1_v20 hq2_v20 hq3_v20 hq4_v20 hq5_v20 hq8_v20 hq9_v20 hq10_v20 hq13_v20 hq14_v20 hq15_v20 hq17_v20 hq18_v20 hq24_v20 hq25_v20 hq35_v20 hq36_v20 hq38_v20 hq39_v20 ⟨show (0 : Int) ≤ t67.toInt by omega, show t67.toInt ≤ (2147483647 : Int) by omega⟩ ha0_f21 (by show (2147483647 - t67.toInt).toNat < n9; omega) _ _ _ hP hD hS (lv_sub hl [0, 2, 3, 4, 5] rfl)
    exact lp9 _ (-1) 0 0 v5 f6 w7 g8 hIv5 hCf6 hRf6 hq0_v5 hq1_v5 hq2_v5 hq3_v5 hq4_v5 hq5_v5 hq8_v5 hq9_v5 hq10_v5 hq13_v5 hq14_v5 hq15_v5 hq17_v5 hq18_v5 hq24_v5 hq25_v5 hq35_v5 hq36_v5 hq38_v5 hq39_v5 ⟨by decide, by decide⟩ ha0_f6 (Nat.lt_succ_self _) _ _ _ hP hD hS (lv_sub hl [0, 1, 2, 3, 4] rfl)
  · skip
    subst g4
    refine lv_if_ne (tgt := 11) hx hb dX11_dress_6 (by decide) (fun c0 => absurd (by decide) c0) (fun _ => ?_)
    refine lv_iconst (v := (-1)) hx hb dX11_dress_9 (by decide) ?_
    exact ret (-1) (v, f, w, g) _ _ _ _ _ _ rfl ⟨ha0_f, hIv, hCf, hRf, rfl, rfl, rfl, rfl, rfl, rfl, rfl, rfl, rfl, rfl, rfl, rfl, rfl, rfl, rfl, rfl, rfl, rfl, rfl, rfl⟩ hP hD hS dX11_dress_10 (Nat.le_refl _) (Nat.le_refl _)
set_option maxHeartbeats 4000000 in
set_option maxRecDepth 100000 in
theorem sY_X11_isSewn_1 (l : Launch) (dC : Nat → ClassId) (dI : Nat → Nat → Nat) (cy : Nat → ClassId) (y0 : Nat) (r : Nat → Nat) (p1 : Int32) (p2 : Int32) (p3 : Int32) (p4 : Int32) (v : Nat → Int32) (f : Nat → Nat → Int32) (w : Int64) (g : Nat → Int64) (hIv : YI v) (hCf : YC f) (hRf : progOK (f 4) (f 5) (v 9).toInt.toNat) (hp1 : (0 : Int) ≤ p1.toInt ∧ p1.toInt ≤ 5) (hp2 : (0 : Int) ≤ p2.toInt ∧ p2.toInt ≤ 5) : ctI l (dC, dI) cy yX11_isSewn cX11_isSewn 5 .boolean 4 126 0 0 ((Nat → Int32) × (Nat → Nat → Int32) × (Int64) × (Nat → Int64)) [.ref y0, .int p1, .int p2, .int p3, .int p4] (YW cy y0 r v f w g) (fun r u => u.2.1 0 = f 0 ∧ YI u.1 ∧ YC u.2.1 ∧ progOK (u.2.1 4) (u.2.1 5) (u.1 9).toInt.toNat ∧ u.1 0 = v 0 ∧ u.1 1 = v 1 ∧ u.1 2 = v 2 ∧ u.1 3 = v 3 ∧ u.1 4 = v 4 ∧ u.1 5 = v 5 ∧ u.1 8 = v 8 ∧ u.1 9 = v 9 ∧ u.1 10 = v 10 ∧ u.1 13 = v 13 ∧ u.1 14 = v 14 ∧ u.1 15 = v 15 ∧ u.1 17 = v 17 ∧ u.1 18 = v 18 ∧ u.1 24 = v 24 ∧ u.1 25 = v 25 ∧ u.1 35 = v 35 ∧ u.1 36 = v 36 ∧ u.1 38 = v 38 ∧ u.1 39 = v 39 ∧ ((r = 1) ∨ (r = 0))) (fun u => YW cy y0 r u.1 u.2.1 u.2.2.1 u.2.2.2) := by
  refine ctI_of (by decide) (Nat.le_of_ble_eq_true rfl) (fun p e s m below meth c A ls Q hx hb hml hts hown hE hP hD hA hl ret => ?_)
  have hUv : (v 35).toInt + (v 36).toInt ≤ 40 := hIv.2
  have ha0_f : f 0 = f 0 := rfl
  have hown : s.vm.findClass RX11 = some m.cls := hown
  have hS : va_S A s.heap s.heap [] := va_S.rf
  have hl : lv_has ls 5 [(0, .ref y0), (1, .int p1), (2, .int p2), (3, .int p3), (4, .int p4)] := hl
  refine lv_aload_n hx hb dX11_isSewn_0 rfl (lv_at hl 0 rfl) ?_
  refine cbVv (n := 0) (rest := []) hx hb hml hown hts hE hP hD hS hA (sY_X11_fill_1 l dC dI cy y0 r  v f w g hIv hCf hRf ) k_1739 k_1741 k_71 k_114 k_1742 (by decide +kernel) ⟨Nat.le_of_ble_eq_true rfl, Nat.le_of_ble_eq_true rfl⟩ 0 11 rfl rfl (rfl) hl.1 rfl (Nat.le_of_ble_eq_true rfl) dX11_isSewn_1 (fun u H locs hw hP hD hS => ?_)
  obtain ⟨v1, f2, w3, g4⟩ := u
  obtain ⟨ka0_f2, hIv1, hCf2, hRf2, hk0_v1, hk1_v1, hk2_v1, hk3_v1, hk4_v1, hk5_v1, hk8_v1, hk9_v1, hk10_v1, hk13_v1, hk14_v1, hk15_v1, hk17_v1, hk18_v1, hk24_v1, hk25_v1, hk35_v1, hk36_v1, hk38_v1, hk39_v1⟩ := hw
  have ha0_f2 : f2 0 = f 0 := ka0_f2.trans ha0_f
  have hP : va_P (dC, dI) vwCl (YW cy y0 r v1 f2 w3 g4) H := hP
  have hD : va_D A (YW cy y0 r v1 f2 w3 g4) := hD
  have hUv1 : (v1 35).toInt + (v1 36).toInt ≤ 40 := hIv1.2
  have hq0_v1 : v1 0 = (v 0) := hk0_v1
  have hq1_v1 : v1 1 = (v 1) := hk1_v1
  have hq2_v1 : v1 2 = (v 2) := hk2_v1
  have hq3_v1 : v1 3 = (v 3) := hk3_v1
  have zq3_v1 := congrArg Int32.toInt hq3_v1
  have hq4_v1 : v1 4 = (v 4) := hk4_v1
  have zq4_v1 := congrArg Int32.toInt hq4_v1
  have hq5_v1 : v1 5 = (v 5) := hk5_v1
  have zq5_v1 := congrArg Int32.toInt hq5_v1
  have hq8_v1 : v1 8 = (v 8) := hk8_v1
  have hq9_v1 : v1 9 = (v 9) := hk9_v1
  have zq9_v1 := congrArg Int32.toInt hq9_v1
  have hq10_v1 : v1 10 = (v 10) := hk10_v1
  have hq13_v1 : v1 13 = (v 13) := hk13_v1
  have hq14_v1 : v1 14 = (v 14) := hk14_v1
  have hq15_v1 : v1 15 = (v 15) := hk15_v1
  have hq17_v1 : v1 17 = (v 17) := hk17_v1
  have hq18_v1 : v1 18 = (v 18) := hk18_v1
  have hq24_v1 : v1 24 = (v 24) := hk24_v1
  have hq25_v1 : v1 25 = (v 25) := hk25_v1
  have hq35_v1 : v1 35 = (v 35) := hk35_v1
  have zq35_v1 := congrArg Int32.toInt hq35_v1
  have hq36_v1 : v1 36 = (v 36) := hk36_v1
  have zq36_v1 := congrArg Int32.toInt hq36_v1
  have hq38_v1 : v1 38 = (v 38) := hk38_v1
  have hq39_v1 : v1 39 = (v 39) := hk39_v1
  refine lv_aload_n hx hb dX11_isSewn_4 rfl (lv_at hl 0 rfl) ?_
  refine va_get (D := (dC, dI)) (ci := 11) (v := .ref (r 60)) (C := RX11) (T := TX11) (N := 79) hx hb hts inB_11 hown hE.1 hP 0 rfl rfl 60 (by decide) (hts _ k_1380) (fun _ h9 => h9) rfl dX11_isSewn_5 ?_
  refine lv_bipush (v := 12) hx hb dX11_isSewn_8 (by decide) ?_
  refine lv_iload_n hx hb dX11_isSewn_10 rfl (lv_at hl 1 rfl) ?_
  refine lv_iadd hx hb dX11_isSewn_11 ?_
  refine lv_topi (fun t5 et5 => ?_)
  have rg6 := fb_rng p1
  have zt5 : t5.toInt = 12 + p1.toInt := by rw [et5]; exact add_i (by decide) rfl (by omega) (by omega)
  refine lv_dup2_11 hx hb dX11_isSewn_12 rfl rfl ?_
  refine ldI hx hb hE hP 25 rfl (vp_in_iff.mpr ⟨by omega, by omega⟩) rfl rfl dX11_isSewn_13 ?_
  refine lv_topi (fun t7 et7 => ?_)
  have zt7 : t5.toInt.toNat % 39 < 6 ∨ 12 ≤ t5.toInt.toNat % 39 ∨ (-1 ≤ t7.toInt ∧ t7.toInt ≤ 5) := by rw [et7]; exact wear_ld hCf2.2.1 (show t5.toInt.toNat < 39 by omega)
  refine lv_iload_n hx hb dX11_isSewn_14 rfl (lv_at hl 3 rfl) ?_
  refine lv_isub hx hb dX11_isSewn_15 ?_
  refine lv_topi (fun t8 et8 => ?_)
  refine stI hx hb hE hP hD hS 25 rfl (vp_in_iff.mpr ⟨by omega, by omega⟩) rfl dX11_isSewn_16 (fun H locs hP hD hS => ?_)
  obtain ⟨f9, ef9, hP, hD⟩ : ∃ fz9, fz9 = upd2 f2 24 (upd (f2 24) t5.toNatClampNeg t8) ∧ va_P (dC, dI) vwCl (YW cy y0 r v1 fz9 w3 g4) H ∧ va_D A (YW cy y0 r v1 fz9 w3 g4) := ⟨_, rfl, hP, hD⟩
  have hCf9 : YC f9 := by rw [ef9]; exact ⟨hCf2.1, (wear_st hCf2.2.1 (by show t5.toInt.toNat % 39 < 6 ∨ 12 ≤ t5.toInt.toNat % 39 ∨ (-1 ≤ t8.toInt ∧ t8.toInt ≤ 5); omega)), hCf2.2.2.1, hCf2.2.2.2.1, hCf2.2.2.2.2.1, hCf2.2.2.2.2.2⟩
  have hRf9 : progOK (f9 4) (f9 5) (v1 9).toInt.toNat := by rw [ef9]; exact hRf2
  have ha0_f9 : f9 0 = f 0 := by rw [ef9]; exact ha0_f2
  refine lv_aload_n hx hb dX11_isSewn_17 rfl (lv_at hl 0 rfl) ?_
  refine va_get (D := (dC, dI)) (ci := 11) (v := .ref (r 60)) (C := RX11) (T := TX11) (N := 79) hx hb hts inB_11 hown hE.1 hP 0 rfl rfl 60 (by decide) (hts _ k_1380) (fun _ h9 => h9) rfl dX11_isSewn_18 ?_
  refine lv_bipush (v := 18) hx hb dX11_isSewn_21 (by decide) ?_
  refine lv_iload_n hx hb dX11_isSewn_23 rfl (lv_at hl 1 rfl) ?_
  refine lv_iadd hx hb dX11_isSewn_24 ?_
  refine lv_topi (fun t10 et10 => ?_)
  have zt10 : t10.toInt = 18 + p1.toInt := by rw [et10]; exact add_i (by decide) rfl (by omega) (by omega)
  refine lv_dup2_11 hx hb dX11_isSewn_25 rfl rfl ?_
  refine ldI hx hb hE hP 25 rfl (vp_in_iff.mpr ⟨by omega, by omega⟩) rfl rfl dX11_isSewn_26 ?_
  refine lv_topi (fun t11 et11 => ?_)
  have zt11 : t10.toInt.toNat % 39 < 6 ∨ 12 ≤ t10.toInt.toNat % 39 ∨ (-1 ≤ t11.toInt ∧ t11.toInt ≤ 5) := by rw [et11]; exact wear_ld hCf9.2.1 (show t10.toInt.toNat < 39 by omega)
  refine lv_iload hx hb dX11_isSewn_27 (lv_at hl 4 rfl) ?_
  refine lv_isub hx hb dX11_isSewn_29 ?_
  refine lv_topi (fun t12 et12 => ?_)
  refine stI hx hb hE hP hD hS 25 rfl (vp_in_iff.mpr ⟨by omega, by omega⟩) rfl dX11_isSewn_30 (fun H locs hP hD hS => ?_)
  obtain ⟨f13, ef13, hP, hD⟩ : ∃ fz9, fz9 = upd2 f9 24 (upd (f9 24) t10.toNatClampNeg t12) ∧ va_P (dC, dI) vwCl (YW cy y0 r v1 fz9 w3 g4) H ∧ va_D A (YW cy y0 r v1 fz9 w3 g4) := ⟨_, rfl, hP, hD⟩
  have hCf13 : YC f13 := by rw [ef13]; exact ⟨hCf9.1, (wear_st hCf9.2.1 (by show t10.toInt.toNat % 39 < 6 ∨ 12 ≤ t10.toInt.toNat % 39 ∨ (-1 ≤ t12.toInt ∧ t12.toInt ≤ 5); omega)), hCf9.2.2.1, hCf9.2.2.2.1, hCf9.2.2.2.2.1, hCf9.2.2.2.2.2⟩
  have hRf13 : progOK (f13 4) (f13 5) (v1 9).toInt.toNat := by rw [ef13]; exact hRf9
  have ha0_f13 : f13 0 = f 0 := by rw [ef13]; exact ha0_f9
  refine lv_aload_n hx hb dX11_isSewn_31 rfl (lv_at hl 0 rfl) ?_
  refine lv_iload_n hx hb dX11_isSewn_32 rfl (lv_at hl 2 rfl) ?_
  refine lv_iload_n hx hb dX11_isSewn_33 rfl (lv_at hl 1 rfl) ?_
  refine cbVi (n := 2) (rest := []) hx hb hml hown hts hE hP hD hS hA (sY_X11_misfitOf_1 l dC dI cy y0 r p2 p1 v1 f13 w3 g4 hIv1 hCf13 hRf13 ⟨show (0 : Int) ≤ p2.toInt by omega, show p2.toInt ≤ (5 : Int) by omega⟩ ⟨show (0 : Int) ≤ p1.toInt by omega, show p1.toInt ≤ (5 : Int) by omega⟩) k_1751 k_1753 k_74 k_114 k_1754 (by decide +kernel) ⟨Nat.le_of_ble_eq_true rfl, Nat.le_of_ble_eq_true rfl⟩ 0 11 rfl rfl (rfl) hl.1 rfl (Nat.le_of_ble_eq_true rfl) dX11_isSewn_34 (fun r14 u H locs hw hP hD hS => ?_)
  obtain ⟨v15, f16, w17, g18⟩ := u
  obtain ⟨ka0_f16, hIv15, hCf16, hRf16, hk0_v15, hk1_v15, hk2_v15, hk3_v15, hk4_v15, hk5_v15, hk8_v15, hk9_v15, hk10_v15, hk13_v15, hk14_v15, hk15_v15, hk17_v15, hk18_v15, hk24_v15, hk25_v15, hk35_v15, hk36_v15, hk38_v15, hk39_v15⟩ := hw
  have ha0_f16 : f16 0 = f 0 := ka0_f16.trans ha0_f13
  have hP : va_P (dC, dI) vwCl (YW cy y0 r v15 f16 w17 g18) H := hP
  have hD : va_D A (YW cy y0 r v15 f16 w17 g18) := hD
  have hUv15 : (v15 35).toInt + (v15 36).toInt ≤ 40 := hIv15.2
  have hq0_v15 : v15 0 = (v 0) := hk0_v15.trans hq0_v1
  have hq1_v15 : v15 1 = (v 1) := hk1_v15.trans hq1_v1
  have hq2_v15 : v15 2 = (v 2) := hk2_v15.trans hq2_v1
  have hq3_v15 : v15 3 = (v 3) := hk3_v15.trans hq3_v1
  have zq3_v15 := congrArg Int32.toInt hq3_v15
  have hq4_v15 : v15 4 = (v 4) := hk4_v15.trans hq4_v1
  have zq4_v15 := congrArg Int32.toInt hq4_v15
  have hq5_v15 : v15 5 = (v 5) := hk5_v15.trans hq5_v1
  have zq5_v15 := congrArg Int32.toInt hq5_v15
  have hq8_v15 : v15 8 = (v 8) := hk8_v15.trans hq8_v1
  have hq9_v15 : v15 9 = (v 9) := hk9_v15.trans hq9_v1
  have zq9_v15 := congrArg Int32.toInt hq9_v15
  have hq10_v15 : v15 10 = (v 10) := hk10_v15.trans hq10_v1
  have hq13_v15 : v15 13 = (v 13) := hk13_v15.trans hq13_v1
  have hq14_v15 : v15 14 = (v 14) := hk14_v15.trans hq14_v1
  have hq15_v15 : v15 15 = (v 15) := hk15_v15.trans hq15_v1
  have hq17_v15 : v15 17 = (v 17) := hk17_v15.trans hq17_v1
  have hq18_v15 : v15 18 = (v 18) := hk18_v15.trans hq18_v1
  have hq24_v15 : v15 24 = (v 24) := hk24_v15.trans hq24_v1
  have hq25_v15 : v15 25 = (v 25) := hk25_v15.trans hq25_v1
  have hq35_v15 : v15 35 = (v 35) := hk35_v15.trans hq35_v1
  have zq35_v15 := congrArg Int32.toInt hq35_v15
  have hq36_v15 : v15 36 = (v 36) := hk36_v15.trans hq36_v1
  have zq36_v15 := congrArg Int32.toInt hq36_v15
  have hq38_v15 : v15 38 = (v 38) := hk38_v15.trans hq38_v1
  have hq39_v15 : v15 39 = (v 39) := hk39_v15.trans hq39_v1
  refine lv_aload_n hx hb dX11_isSewn_37 rfl (lv_at hl 0 rfl) ?_
  refine va_get (D := (dC, dI)) (ci := 11) (v := .int (v15 26)) (C := RX11) (T := TX11) (N := 79) hx hb hts inB_11 hown hE.1 hP 0 rfl rfl 50 (by decide) (hts _ k_1370) (fun _ h9 => h9) rfl dX11_isSewn_38 ?_
  refine lv_icmp_gt (tgt := 48) hx hb dX11_isSewn_41 (by decide) (fun c19 => ?_) (fun c19 => ?_)
  · skip
    have zc19 : (v15 26).toInt < r14.toInt := by rw [fa_lt] at c19; exact c19
    have rg20 := fb_rng r14
    have rg21 := fb_rng (v15 26)
    refine lv_iconst (v := 0) hx hb dX11_isSewn_48 (by decide) ?_
    exact ret 0 (v15, f16, w17, g18) _ _ _ _ _ _ rfl ⟨ha0_f16, hIv15, hCf16, hRf16, (hk0_v15.trans hk0_v1), (hk1_v15.trans hk1_v1), (hk2_v15.trans hk2_v1), (hk3_v15.trans hk3_v1), (hk4_v15.trans hk4_v1), (hk5_v15.trans hk5_v1), (hk8_v15.trans hk8_v1), (hk9_v15.trans hk9_v1), (hk10_v15.trans hk10_v1), (hk13_v15.trans hk13_v1), (hk14_v15.trans hk14_v1), (hk15_v15.trans hk15_v1), (hk17_v15.trans hk17_v1), (hk18_v15.trans hk18_v1), (hk24_v15.trans hk24_v1), (hk25_v15.trans hk25_v1), (hk35_v15.trans hk35_v1), (hk36_v15.trans hk36_v1), (hk38_v15.trans hk38_v1), (hk39_v15.trans hk39_v1), (Or.inr rfl)⟩ hP hD hS dX11_isSewn_49 (Nat.le_refl _) (Nat.le_refl _)
  · skip
    have zc19 : ¬ ((v15 26).toInt < r14.toInt) := by rw [fa_lt] at c19; exact c19
    have rg22 := fb_rng r14
    have rg23 := fb_rng (v15 26)
    refine lv_iconst (v := 1) hx hb dX11_isSewn_44 (by decide) ?_
    refine lv_goto (tgt := 49) hx hb dX11_isSewn_45 (by decide) ?_
    exact ret 1 (v15, f16, w17, g18) _ _ _ _ _ _ rfl ⟨ha0_f16, hIv15, hCf16, hRf16, (hk0_v15.trans hk0_v1), (hk1_v15.trans hk1_v1), (hk2_v15.trans hk2_v1), (hk3_v15.trans hk3_v1), (hk4_v15.trans hk4_v1), (hk5_v15.trans hk5_v1), (hk8_v15.trans hk8_v1), (hk9_v15.trans hk9_v1), (hk10_v15.trans hk10_v1), (hk13_v15.trans hk13_v1), (hk14_v15.trans hk14_v1), (hk15_v15.trans hk15_v1), (hk17_v15.trans hk17_v1), (hk18_v15.trans hk18_v1), (hk24_v15.trans hk24_v1), (hk25_v15.trans hk25_v1), (hk35_v15.trans hk35_v1), (hk36_v15.trans hk36_v1), (hk38_v15.trans hk38_v1), (hk39_v15.trans hk39_v1), (Or.inl rfl)⟩ hP hD hS dX11_isSewn_49 (Nat.le_refl _) (Nat.le_refl _)
set_option maxHeartbeats 4000000 in
set_option maxRecDepth 100000 in
theorem sY_X11_sewing_1 (l : Launch) (dC : Nat → ClassId) (dI : Nat → Nat → Nat) (cy : Nat → ClassId) (y0 : Nat) (r : Nat → Nat) (p1 : Int32) (p2 : Int32) (p3 : Int32) (v : Nat → Int32) (f : Nat → Nat → Int32) (w : Int64) (g : Nat → Int64) (hIv : YI v) (hCf : YC f) (hRf : progOK (f 4) (f 5) (v 9).toInt.toNat)  : ctI l (dC, dI) cy yX11_sewing cX11_sewing 10 .int 5 150 0 0 ((Nat → Int32) × (Nat → Nat → Int32) × (Int64) × (Nat → Int64)) [.ref y0, .int p1, .int p2, .int p3] (YW cy y0 r v f w g) (fun r u => u.2.1 0 = f 0 ∧ YI u.1 ∧ YC u.2.1 ∧ progOK (u.2.1 4) (u.2.1 5) (u.1 9).toInt.toNat ∧ u.1 0 = v 0 ∧ u.1 1 = v 1 ∧ u.1 2 = v 2 ∧ u.1 3 = v 3 ∧ u.1 4 = v 4 ∧ u.1 5 = v 5 ∧ u.1 8 = v 8 ∧ u.1 9 = v 9 ∧ u.1 10 = v 10 ∧ u.1 13 = v 13 ∧ u.1 14 = v 14 ∧ u.1 15 = v 15 ∧ u.1 17 = v 17 ∧ u.1 18 = v 18 ∧ u.1 24 = v 24 ∧ u.1 25 = v 25 ∧ u.1 35 = v 35 ∧ u.1 36 = v 36 ∧ u.1 38 = v 38 ∧ u.1 39 = v 39) (fun u => YW cy y0 r u.1 u.2.1 u.2.2.1 u.2.2.2) := by
  refine ctI_of (by decide) (Nat.le_of_ble_eq_true rfl) (fun p e s m below meth c A ls Q hx hb hml hts hown hE hP hD hA hl ret => ?_)
  have hUv : (v 35).toInt + (v 36).toInt ≤ 40 := hIv.2
  have ha0_f : f 0 = f 0 := rfl
  have hown : s.vm.findClass RX11 = some m.cls := hown
  have hS : va_S A s.heap s.heap [] := va_S.rf
  have hl : lv_has ls 10 [(0, .ref y0), (1, .int p1), (2, .int p2), (3, .int p3)] := hl
  refine lv_aload_n hx hb dX11_sewing_0 rfl (lv_at hl 0 rfl) ?_
  refine lv_iload_n hx hb dX11_sewing_1 rfl (lv_at hl 1 rfl) ?_
  refine cbVi (n := 1) (rest := []) hx hb hml hown hts hE hP hD hS hA (sY_X11_isCoat_1 l dC dI cy y0 r p1 v f w g hIv hCf hRf ) k_1771 k_1773 k_75 k_114 k_1774 (by decide +kernel) ⟨Nat.le_of_ble_eq_true rfl, Nat.le_of_ble_eq_true rfl⟩ 0 11 rfl rfl (rfl) hl.1 rfl (Nat.le_of_ble_eq_true rfl) dX11_sewing_2 (fun r1 u H locs hw hP hD hS => ?_)
  rcases hw with ⟨g2, g2_0, g2_1, g2_2⟩ | ⟨g2⟩
  · skip
    subst g2
    refine lv_if_eq (tgt := 25) hx hb dX11_sewing_5 (by decide) (fun c0 => absurd c0 (by decide)) (fun _ => ?_)
    refine lv_aload_n hx hb dX11_sewing_8 rfl (lv_at hl 0 rfl) ?_
    refine lv_iload_n hx hb dX11_sewing_9 rfl (lv_at hl 2 rfl) ?_
    refine cbVi (n := 1) (rest := []) hx hb hml hown hts hE hP hD hS hA (sY_X11_isMan_1 l dC dI cy y0 r p2 v f w g hIv hCf hRf ) k_1732 k_1734 k_70 k_114 k_1735 (by decide +kernel) ⟨Nat.le_of_ble_eq_true rfl, Nat.le_of_ble_eq_true rfl⟩ 0 11 rfl rfl (rfl) hl.1 rfl (Nat.le_of_ble_eq_true rfl) dX11_sewing_10 (fun r3 u H locs hw hP hD hS => ?_)
    rcases hw with ⟨g4, g4_0, g4_1, g4_2⟩ | ⟨g4⟩
    · skip
      subst g4
      refine lv_if_eq (tgt := 25) hx hb dX11_sewing_13 (by decide) (fun c0 => absurd c0 (by decide)) (fun _ => ?_)
      refine lv_iload_n hx hb dX11_sewing_16 rfl (lv_at hl 3 rfl) ?_
      refine lv_iconst (v := 0) hx hb dX11_sewing_17 (by decide) ?_
      refine lv_iconst (v := 2) hx hb dX11_sewing_18 (by decide) ?_
      have lt5 : (0 : Int32).toInt = 0 := by decide
      have lt6 : (2 : Int32).toInt = 2 := by decide
      refine cbSi (n := 3) (rest := []) hx hb hml hown hts hE hP hD hS hA (sY_X11_isIn_1 l dC dI cy y0 r p3 0 2 v f w g hIv hCf hRf ) k_1736 k_1737 k_114 k_1738 (by decide +kernel) ⟨Nat.le_of_ble_eq_true rfl, Nat.le_of_ble_eq_true rfl⟩ (rfl) hl.1 rfl (Nat.le_of_ble_eq_true rfl) dX11_sewing_19 (fun r7 u H locs hw hP hD hS => ?_)
      rcases hw with ⟨g8, g8_0, g8_1⟩ | ⟨g8⟩
      · skip
        subst g8
        refine lv_if_ne (tgt := 28) hx hb dX11_sewing_22 (by decide) (fun _ => ?_) (fun c0 => absurd c0 (by decide))
        refine lv_bipush (v := 20) hx hb dX11_sewing_28 (by decide) ?_
        refine lv_aload_n hx hb dX11_sewing_30 rfl (lv_at hl 0 rfl) ?_
        refine va_get (D := (dC, dI)) (ci := 11) (v := .ref (r 59)) (C := RX11) (T := TX11) (N := 79) hx hb hts inB_11 hown hE.1 hP 0 rfl rfl 59 (by decide) (hts _ k_1379) (fun _ h9 => h9) rfl dX11_sewing_31 ?_
        refine lv_bipush (v := 12) hx hb dX11_sewing_34 (by decide) ?_
        refine lv_iload_n hx hb dX11_sewing_36 rfl (lv_at hl 1 rfl) ?_
        refine lv_iadd hx hb dX11_sewing_37 ?_
        refine lv_topi (fun t9 et9 => ?_)
        have rg10 := fb_rng p1
        have zt9 : t9.toInt = 12 + p1.toInt := by rw [et9]; exact add_i (by decide) rfl (by omega) (by omega)
        refine ldI hx hb hE hP 24 rfl (vp_in_iff.mpr ⟨by omega, by omega⟩) rfl rfl dX11_sewing_38 ?_
        refine lv_topi (fun t11 et11 => ?_)
        have zt11 : t9.toInt.toNat % 39 < 6 ∨ 12 ≤ t9.toInt.toNat % 39 ∨ (-1 ≤ t11.toInt ∧ t11.toInt ≤ 5) := by rw [et11]; exact wear_ld hCf.1 (show t9.toInt.toNat < 39 by omega)
        have lt12 : (20 : Int32).toInt = 20 := by decide
        refine cbSi (n := 2) (rest := []) hx hb hml hown hts hE hP hD hS hA (sY_X11_lesser_1 l dC dI cy y0 r 20 t11 v f w g hIv hCf hRf ) k_1799 k_1800 k_114 k_1801 (by decide +kernel) ⟨Nat.le_of_ble_eq_true rfl, Nat.le_of_ble_eq_true rfl⟩ (rfl) hl.1 rfl (Nat.le_of_ble_eq_true rfl) dX11_sewing_39 (fun r13 u H locs hw hP hD hS => ?_)
        obtain ⟨pp14, pp15⟩ := hw
        have pp14 : r13.toInt ≤ (20 : Int32).toInt := pp14
        have pp15 : r13.toInt ≤ t11.toInt := pp15
        refine lv_istore (lv' := [(4, .int r13), (0, .ref y0), (1, .int p1), (2, .int p2), (3, .int p3)]) hx hb dX11_sewing_42 hl (by decide) rfl (fun ls hl => ?_)
        refine lv_bipush (v := 20) hx hb dX11_sewing_44 (by decide) ?_
        refine lv_aload_n hx hb dX11_sewing_46 rfl (lv_at hl 1 rfl) ?_
        refine va_get (D := (dC, dI)) (ci := 11) (v := .ref (r 59)) (C := RX11) (T := TX11) (N := 79) hx hb hts inB_11 hown hE.1 hP 0 rfl rfl 59 (by decide) (hts _ k_1379) (fun _ h9 => h9) rfl dX11_sewing_47 ?_
        refine lv_bipush (v := 18) hx hb dX11_sewing_50 (by decide) ?_
        refine lv_iload_n hx hb dX11_sewing_52 rfl (lv_at hl 2 rfl) ?_
        refine lv_iadd hx hb dX11_sewing_53 ?_
        refine lv_topi (fun t16 et16 => ?_)
        have zt16 : t16.toInt = 18 + p1.toInt := by rw [et16]; exact add_i (by decide) rfl (by omega) (by omega)
        refine ldI hx hb hE hP 24 rfl (vp_in_iff.mpr ⟨by omega, by omega⟩) rfl rfl dX11_sewing_54 ?_
        refine lv_topi (fun t17 et17 => ?_)
        have zt17 : t16.toInt.toNat % 39 < 6 ∨ 12 ≤ t16.toInt.toNat % 39 ∨ (-1 ≤ t17.toInt ∧ t17.toInt ≤ 5) := by rw [et17]; exact wear_ld hCf.1 (show t16.toInt.toNat < 39 by omega)
        refine cbSi (n := 2) (rest := []) hx hb hml hown hts hE hP hD hS hA (sY_X11_lesser_1 l dC dI cy y0 r 20 t17 v f w g hIv hCf hRf ) k_1799 k_1800 k_114 k_1801 (by decide +kernel) ⟨Nat.le_of_ble_eq_true rfl, Nat.le_of_ble_eq_true rfl⟩ (rfl) hl.1 rfl (Nat.le_of_ble_eq_true rfl) dX11_sewing_55 (fun r18 u H locs hw hP hD hS => ?_)
        obtain ⟨pp19, pp20⟩ := hw
        have pp19 : r18.toInt ≤ (20 : Int32).toInt := pp19
        have pp20 : r18.toInt ≤ t17.toInt := pp20
        refine lv_istore (lv' := [(5, .int r18), (4, .int r13), (0, .ref y0), (1, .int p1), (2, .int p2), (3, .int p3)]) hx hb dX11_sewing_58 hl (by decide) rfl (fun ls hl => ?_)
        refine lv_bipush (v := 20) hx hb dX11_sewing_60 (by decide) ?_
        refine lv_aload_n hx hb dX11_sewing_62 rfl (lv_at hl 2 rfl) ?_
        refine va_get (D := (dC, dI)) (ci := 11) (v := .ref (r 59)) (C := RX11) (T := TX11) (N := 79) hx hb hts inB_11 hown hE.1 hP 0 rfl rfl 59 (by decide) (hts _ k_1379) (fun _ h9 => h9) rfl dX11_sewing_63 ?_
        refine lv_bipush (v := 24) hx hb dX11_sewing_66 (by decide) ?_
        refine lv_iload_n hx hb dX11_sewing_68 rfl (lv_at hl 3 rfl) ?_
        refine lv_iadd hx hb dX11_sewing_69 ?_
        refine lv_topi (fun t21 et21 => ?_)
        have zt21 : t21.toInt = 24 + p1.toInt := by rw [et21]; exact add_i (by decide) rfl (by omega) (by omega)
        refine ldI hx hb hE hP 24 rfl (vp_in_iff.mpr ⟨by omega, by omega⟩) rfl rfl dX11_sewing_70 ?_
        refine lv_topi (fun t22 et22 => ?_)
        have zt22 : t21.toInt.toNat % 39 < 6 ∨ 12 ≤ t21.toInt.toNat % 39 ∨ (-1 ≤ t22.toInt ∧ t22.toInt ≤ 5) := by rw [et22]; exact wear_ld hCf.1 (show t21.toInt.toNat < 39 by omega)
        refine cbSi (n := 2) (rest := []) hx hb hml hown hts hE hP hD hS hA (sY_X11_lesser_1 l dC dI cy y0 r 20 t22 v f w g hIv hCf hRf ) k_1799 k_1800 k_114 k_1801 (by decide +kernel) ⟨Nat.le_of_ble_eq_true rfl, Nat.le_of_ble_eq_true rfl⟩ (rfl) hl.1 rfl (Nat.le_of_ble_eq_true rfl) dX11_sewing_71 (fun r23 u H locs hw hP hD hS => ?_)
        obtain ⟨pp24, pp25⟩ := hw
        have pp24 : r23.toInt ≤ (20 : Int32).toInt := pp24
        have pp25 : r23.toInt ≤ t22.toInt := pp25
        refine lv_bipush (v := 99) hx hb dX11_sewing_74 (by decide) ?_
        refine lv_aload_n hx hb dX11_sewing_76 rfl (lv_at hl 2 rfl) ?_
        refine va_get (D := (dC, dI)) (ci := 11) (v := .ref (r 59)) (C := RX11) (T := TX11) (N := 79) hx hb hts inB_11 hown hE.1 hP 0 rfl rfl 59 (by decide) (hts _ k_1379) (fun _ h9 => h9) rfl dX11_sewing_77 ?_
        refine lv_bipush (v := 18) hx hb dX11_sewing_80 (by decide) ?_
        refine lv_iload_n hx hb dX11_sewing_82 rfl (lv_at hl 3 rfl) ?_
        refine lv_iadd hx hb dX11_sewing_83 ?_
        refine tI (y := t16) et16.symm ?_
        refine ldI hx hb hE hP 24 rfl (vp_in_iff.mpr ⟨by omega, by omega⟩) rfl rfl dX11_sewing_84 ?_
        refine tI (y := t17) et17.symm ?_
        refine lv_isub hx hb dX11_sewing_85 ?_
        refine lv_topi (fun t26 et26 => ?_)
        refine cbSi (n := 2) (rest := []) hx hb hml hown hts hE hP hD hS hA (sY_X11_lesser_1 l dC dI cy y0 r r23 t26 v f w g hIv hCf hRf ) k_1799 k_1800 k_114 k_1801 (by decide +kernel) ⟨Nat.le_of_ble_eq_true rfl, Nat.le_of_ble_eq_true rfl⟩ (rfl) hl.1 rfl (Nat.le_of_ble_eq_true rfl) dX11_sewing_86 (fun r27 u H locs hw hP hD hS => ?_)
        obtain ⟨pp28, pp29⟩ := hw
        have pp28 : r27.toInt ≤ r23.toInt := pp28
        have pp29 : r27.toInt ≤ t26.toInt := pp29
        refine lv_istore (lv' := [(6, .int r27), (5, .int r18), (4, .int r13), (0, .ref y0), (1, .int p1), (2, .int p2), (3, .int p3)]) hx hb dX11_sewing_89 hl (by decide) rfl (fun ls hl => ?_)
        refine lv_iconst (v := 0) hx hb dX11_sewing_91 (by decide) ?_
        refine lv_istore (lv' := [(7, .int 0), (6, .int r27), (5, .int r18), (4, .int r13), (0, .ref y0), (1, .int p1), (2, .int p2), (3, .int p3)]) hx hb dX11_sewing_92 hl (by decide) rfl (fun ls hl => ?_)
        have lp30 : ∀ (n30 : Nat) (l7_30 : Int32) (v30 : Nat → Int32) (f30 : Nat → Nat → Int32) (w30 : Int64) (g30 : Nat → Int64), YI v30 → YC f30 → progOK (f30 4) (f30 5) (v30 9).toInt.toNat → v30 0 = (v 0) → v30 1 = (v 1) → v30 2 = (v 2) → v30 3 = (v 3) → v30 4 = (v 4) → v30 5 = (v 5) → v30 8 = (v 8) → v30 9 = (v 9) → v30 10 = (v 10) → v30 13 = (v 13) → v30 14 = (v 14) → v30 15 = (v 15) → v30 17 = (v 17) → v30 18 = (v 18) → v30 24 = (v 24) → v30 25 = (v 25) → v30 35 = (v 35) → v30 36 = (v 36) → v30 38 = (v 38) → v30 39 = (v 39) → ((0 : Int) ≤ l7_30.toInt ∧ l7_30.toInt ≤ 2147483647) → f30 0 = f 0 → (2147483647 - l7_30.toInt).toNat < n30 → ∀ (H : Heap) (locs : List Loc) (ls : Array Slot), va_P (dC, dI) vwCl (YW cy y0 r v30 f30 w30 g30) H → va_D A (YW cy y0 r v30 f30 w30 g30) → va_S A s.heap H locs → lv_has ls 10 [(7, .int l7_30), (6, .int r27), (5, .int r18), (4, .int r13), (0, .ref y0), (1, .int p1), (2, .int p2), (3, .int p3)] → W p l e { frames := 5, cells := 0, slots := 0, locals := 150 } s m ([.ref y0, .int p1, .int p2, .int p3] : List Value).toArray below meth c H locs 0 0 Q (F0 m 94 ls []) := by
          intro n30
          induction n30 with
          | zero => intro l7_30 v30 f30 w30 g30 hIv30 hCf30 hRf30 hq0_v30 hq1_v30 hq2_v30 hq3_v30 hq4_v30 hq5_v30 hq8_v30 hq9_v30 hq10_v30 hq13_v30 hq14_v30 hq15_v30 hq17_v30 hq18_v30 hq24_v30 hq25_v30 hq35_v30 hq36_v30 hq38_v30 hq39_v30 hr7_30 ha0_f30 hm; exact absurd hm (Nat.not_lt_zero _)
          | succ n30 ih30 =>
            intro l7_30 v30 f30 w30 g30 hIv30 hCf30 hRf30 hq0_v30 hq1_v30 hq2_v30 hq3_v30 hq4_v30 hq5_v30 hq8_v30 hq9_v30 hq10_v30 hq13_v30 hq14_v30 hq15_v30 hq17_v30 hq18_v30 hq24_v30 hq25_v30 hq35_v30 hq36_v30 hq38_v30 hq39_v30 hr7_30 ha0_f30 hm30 H locs ls hP hD hS hl
            have hUv30 : (v30 35).toInt + (v30 36).toInt ≤ 40 := hIv30.2
            have zq3_v30 := congrArg Int32.toInt hq3_v30
            have zq4_v30 := congrArg Int32.toInt hq4_v30
            have zq5_v30 := congrArg Int32.toInt hq5_v30
            have zq9_v30 := congrArg Int32.toInt hq9_v30
            have zq35_v30 := congrArg Int32.toInt hq35_v30
            have zq36_v30 := congrArg Int32.toInt hq36_v30
            refine lv_iload hx hb dX11_sewing_94 (lv_at hl 0 rfl) ?_
            refine lv_bipush (v := 40) hx hb dX11_sewing_96 (by decide) ?_
            refine lv_icmp_gt (tgt := 226) hx hb dX11_sewing_98 (by decide) (fun c31 => ?_) (fun c31 => ?_)
            · skip
              have zc31 : 40 < l7_30.toInt := by rw [fa_lt, show (40 : Int32).toInt = 40 from by decide] at c31; exact c31
              refine lv_bipush (v := (-100)) hx hb dX11_sewing_226 (by decide) ?_
              exact ret (-100) (v30, f30, w30, g30) _ _ _ _ _ _ rfl ⟨ha0_f30, hIv30, hCf30, hRf30, (show v30 0 = v 0 from hq0_v30), (show v30 1 = v 1 from hq1_v30), (show v30 2 = v 2 from hq2_v30), (show v30 3 = v 3 from hq3_v30), (show v30 4 = v 4 from hq4_v30), (show v30 5 = v 5 from hq5_v30), (show v30 8 = v 8 from hq8_v30), (show v30 9 = v 9 from hq9_v30), (show v30 10 = v 10 from hq10_v30), (show v30 13 = v 13 from hq13_v30), (show v30 14 = v 14 from hq14_v30), (show v30 15 = v 15 from hq15_v30), (show v30 17 = v 17 from hq17_v30), (show v30 18 = v 18 from hq18_v30), (show v30 24 = v 24 from hq24_v30), (show v30 25 = v 25 from hq25_v30), (show v30 35 = v 35 from hq35_v30), (show v30 36 = v 36 from hq36_v30), (show v30 38 = v 38 from hq38_v30), (show v30 39 = v 39 from hq39_v30)⟩ hP hD hS dX11_sewing_228 (Nat.le_refl _) (Nat.le_refl _)
            · skip
              have zc31 : ¬ (40 < l7_30.toInt) := by rw [fa_lt, show (40 : Int32).toInt = 40 from by decide] at c31; exact c31
              refine lv_iconst (v := 0) hx hb dX11_sewing_101 (by decide) ?_
              refine lv_istore (lv' := [(8, .int 0), (7, .int l7_30), (6, .int r27), (5, .int r18), (4, .int r13), (0, .ref y0), (1, .int p1), (2, .int p2), (3, .int p3)]) hx hb dX11_sewing_102 hl (by decide) rfl (fun ls hl => ?_)
              have lp32 : ∀ (n32 : Nat) (l8_32 : Int32) (v32 : Nat → Int32) (f32 : Nat → Nat → Int32) (w32 : Int64) (g32 : Nat → Int64), YI v32 → YC f32 → progOK (f32 4) (f32 5) (v32 9).toInt.toNat → v32 0 = (v 0) → v32 1 = (v 1) → v32 2 = (v 2) → v32 3 = (v 3) → v32 4 = (v 4) → v32 5 = (v 5) → v32 8 = (v 8) → v32 9 = (v 9) → v32 10 = (v 10) → v32 13 = (v 13) → v32 14 = (v 14) → v32 15 = (v 15) → v32 17 = (v 17) → v32 18 = (v 18) → v32 24 = (v 24) → v32 25 = (v 25) → v32 35 = (v 35) → v32 36 = (v 36) → v32 38 = (v 38) → v32 39 = (v 39) → ((0 : Int) ≤ l8_32.toInt ∧ l8_32.toInt ≤ 2147483647) → f32 0 = f 0 → (2147483647 - l8_32.toInt).toNat < n32 → ∀ (H : Heap) (locs : List Loc) (ls : Array Slot), va_P (dC, dI) vwCl (YW cy y0 r v32 f32 w32 g32) H → va_D A (YW cy y0 r v32 f32 w32 g32) → va_S A s.heap H locs → lv_has ls 10 [(8, .int l8_32), (7, .int l7_30), (6, .int r27), (5, .int r18), (4, .int r13), (0, .ref y0), (1, .int p1), (2, .int p2), (3, .int p3)] → W p l e { frames := 5, cells := 0, slots := 0, locals := 150 } s m ([.ref y0, .int p1, .int p2, .int p3] : List Value).toArray below meth c H locs 0 0 Q (F0 m 104 ls []) := by
                intro n32
                induction n32 with
                | zero => intro l8_32 v32 f32 w32 g32 hIv32 hCf32 hRf32 hq0_v32 hq1_v32 hq2_v32 hq3_v32 hq4_v32 hq5_v32 hq8_v32 hq9_v32 hq10_v32 hq13_v32 hq14_v32 hq15_v32 hq17_v32 hq18_v32 hq24_v32 hq25_v32 hq35_v32 hq36_v32 hq38_v32 hq39_v32 hr8_32 ha0_f32 hm; exact absurd hm (Nat.not_lt_zero _)
                | succ n32 ih32 =>
                  intro l8_32 v32 f32 w32 g32 hIv32 hCf32 hRf32 hq0_v32 hq1_v32 hq2_v32 hq3_v32 hq4_v32 hq5_v32 hq8_v32 hq9_v32 hq10_v32 hq13_v32 hq14_v32 hq15_v32 hq17_v32 hq18_v32 hq24_v32 hq25_v32 hq35_v32 hq36_v32 hq38_v32 hq39_v32 hr8_32 ha0_f32 hm32 H locs ls hP hD hS hl
                  have hUv32 : (v32 35).toInt + (v32 36).toInt ≤ 40 := hIv32.2
                  have zq3_v32 := congrArg Int32.toInt hq3_v32
                  have zq4_v32 := congrArg Int32.toInt hq4_v32
                  have zq5_v32 := congrArg Int32.toInt hq5_v32
                  have zq9_v32 := congrArg Int32.toInt hq9_v32
                  have zq35_v32 := congrArg Int32.toInt hq35_v32
                  have zq36_v32 := congrArg Int32.toInt hq36_v32
                  refine lv_iload hx hb dX11_sewing_104 (lv_at hl 0 rfl) ?_
                  refine lv_iload hx hb dX11_sewing_106 (lv_at hl 1 rfl) ?_
                  refine lv_iload hx hb dX11_sewing_108 (lv_at hl 4 rfl) ?_
                  refine cbSi (n := 2) (rest := [.int l8_32]) hx hb hml hown hts hE hP hD hS hA (sY_X11_lesser_1 l dC dI cy y0 r l7_30 r13 v32 f32 w32 g32 hIv32 hCf32 hRf32 ) k_1799 k_1800 k_114 k_1801 (by decide +kernel) ⟨Nat.le_of_ble_eq_true rfl, Nat.le_of_ble_eq_true rfl⟩ (rfl) hl.1 rfl (Nat.le_of_ble_eq_true rfl) dX11_sewing_110 (fun r33 u H locs hw hP hD hS => ?_)
                  obtain ⟨pp34, pp35⟩ := hw
                  have pp34 : r33.toInt ≤ l7_30.toInt := pp34
                  have pp35 : r33.toInt ≤ r13.toInt := pp35
                  refine lv_icmp_gt (tgt := 220) hx hb dX11_sewing_113 (by decide) (fun c36 => ?_) (fun c36 => ?_)
                  · skip
                    have zc36 : r33.toInt < l8_32.toInt := by rw [fa_lt] at c36; exact c36
                    have rg37 := fb_rng l8_32
                    have rg38 := fb_rng r33
                    obtain ⟨t39, et39⟩ : ∃ y : Int32, y = l7_30 + 1 := ⟨_, rfl⟩
                    have rg40 := fb_rng l7_30
                    have zt39 : t39.toInt = l7_30.toInt + 1 := by rw [et39]; exact add_i rfl (by decide) (by omega) (by omega)
                    refine lv_iinc (v := t39) (lv' := [(7, .int t39), (8, .int l8_32), (6, .int r27), (5, .int r18), (4, .int r13), (0, .ref y0), (1, .int p1), (2, .int p2), (3, .int p3)]) hx hb dX11_sewing_220 hl (k := 1) rfl (by rw [et39]; rfl) (by decide) rfl (fun ls hl => ?_)
                    refine lv_goto (tgt := 94) hx hb dX11_sewing_223 (by decide) ?_
                    have rg41 := fb_rng t39
                    exact ih30 t39 v32 f32 w32 g32 hIv32 hCf32 hRf32 hq0_v32 hq1_v32 hq2_v32 hq3_v32 hq4_v32 hq5_v32 hq8_v32 hq9_v32 hq10_v32 hq13_v32 hq14_v32 hq15_v32 hq17_v32 hq18_v32 hq24_v32 hq25_v32 hq35_v32 hq36_v32 hq38_v32 hq39_v32 ⟨show (0 : Int) ≤ t39.toInt by omega, show t39.toInt ≤ (2147483647 : Int) by omega⟩ ha0_f32 (by show (2147483647 - t39.toInt).toNat < n30; omega) _ _ _ hP hD hS (lv_sub hl [0, 2, 3, 4, 5, 6, 7, 8] rfl)
                  · skip
                    have zc36 : ¬ (r33.toInt < l8_32.toInt) := by rw [fa_lt] at c36; exact c36
                    have rg42 := fb_rng l8_32
                    have rg43 := fb_rng r33
                    refine lv_iload hx hb dX11_sewing_116 (lv_at hl 1 rfl) ?_
                    refine lv_iload hx hb dX11_sewing_118 (lv_at hl 0 rfl) ?_
                    refine lv_isub hx hb dX11_sewing_120 ?_
                    refine lv_topi (fun t44 et44 => ?_)
                    have rg45 := fb_rng l7_30
                    have zt44 : t44.toInt = l7_30.toInt - l8_32.toInt := by rw [et44]; exact sub_i rfl rfl (by omega) (by omega)
                    refine lv_istore (lv' := [(9, .int t44), (8, .int l8_32), (7, .int l7_30), (6, .int r27), (5, .int r18), (4, .int r13), (0, .ref y0), (1, .int p1), (2, .int p2), (3, .int p3)]) hx hb dX11_sewing_121 hl (by decide) rfl (fun ls hl => ?_)
                    refine lv_iload hx hb dX11_sewing_123 (lv_at hl 0 rfl) ?_
                    refine lv_iload hx hb dX11_sewing_125 (lv_at hl 4 rfl) ?_
                    refine lv_icmp_gt (tgt := 165) hx hb dX11_sewing_127 (by decide) (fun c46 => ?_) (fun c46 => ?_)
                    · skip
                      have zc46 : r18.toInt < t44.toInt := by rw [fa_lt] at c46; exact c46
                      have rg47 := fb_rng t44
                      have rg48 := fb_rng r18
                      refine lv_iload hx hb dX11_sewing_165 (lv_at hl 0 rfl) ?_
                      refine lv_if_le (tgt := 214) hx hb dX11_sewing_167 (by decide) (fun c49 => ?_) (fun c49 => ?_)
                      · skip
                        have zc49 : t44.toInt ≤ 0 := by rw [fa_le, show (0 : Int32).toInt = 0 from by decide] at c49; exact c49
                        obtain ⟨t50, et50⟩ : ∃ y : Int32, y = l8_32 + 1 := ⟨_, rfl⟩
                        have zt50 : t50.toInt = l8_32.toInt + 1 := by rw [et50]; exact add_i rfl (by decide) (by omega) (by omega)
                        refine lv_iinc (v := t50) (lv' := [(8, .int t50), (9, .int t44), (7, .int l7_30), (6, .int r27), (5, .int r18), (4, .int r13), (0, .ref y0), (1, .int p1), (2, .int p2), (3, .int p3)]) hx hb dX11_sewing_214 hl (k := 1) rfl (by rw [et50]; rfl) (by decide) rfl (fun ls hl => ?_)
                        refine lv_goto (tgt := 104) hx hb dX11_sewing_217 (by decide) ?_
                        have rg51 := fb_rng t50
                        exact ih32 t50 v32 f32 w32 g32 hIv32 hCf32 hRf32 hq0_v32 hq1_v32 hq2_v32 hq3_v32 hq4_v32 hq5_v32 hq8_v32 hq9_v32 hq10_v32 hq13_v32 hq14_v32 hq15_v32 hq17_v32 hq18_v32 hq24_v32 hq25_v32 hq35_v32 hq36_v32 hq38_v32 hq39_v32 ⟨show (0 : Int) ≤ t50.toInt by omega, show t50.toInt ≤ (2147483647 : Int) by omega⟩ ha0_f32 (by show (2147483647 - t50.toInt).toNat < n32; omega) _ _ _ hP hD hS (lv_sub hl [0, 2, 3, 4, 5, 6, 7, 8, 9] rfl)
                      · skip
                        have zc49 : ¬ (t44.toInt ≤ 0) := by rw [fa_le, show (0 : Int32).toInt = 0 from by decide] at c49; exact c49
                        refine lv_iload hx hb dX11_sewing_170 (lv_at hl 0 rfl) ?_
                        refine lv_iload hx hb dX11_sewing_172 (lv_at hl 3 rfl) ?_
                        refine lv_icmp_gt (tgt := 214) hx hb dX11_sewing_174 (by decide) (fun c52 => ?_) (fun c52 => ?_)
                        · skip
                          have zc52 : r27.toInt < t44.toInt := by rw [fa_lt] at c52; exact c52
                          have rg53 := fb_rng r27
                          obtain ⟨t54, et54⟩ : ∃ y : Int32, y = l8_32 + 1 := ⟨_, rfl⟩
                          have zt54 : t54.toInt = l8_32.toInt + 1 := by rw [et54]; exact add_i rfl (by decide) (by omega) (by omega)
                          refine lv_iinc (v := t54) (lv' := [(8, .int t54), (9, .int t44), (7, .int l7_30), (6, .int r27), (5, .int r18), (4, .int r13), (0, .ref y0), (1, .int p1), (2, .int p2), (3, .int p3)]) hx hb dX11_sewing_214 hl (k := 1) rfl (by rw [et54]; rfl) (by decide) rfl (fun ls hl => ?_)
                          refine lv_goto (tgt := 104) hx hb dX11_sewing_217 (by decide) ?_
                          have rg55 := fb_rng t54
                          exact ih32 t54 v32 f32 w32 g32 hIv32 hCf32 hRf32 hq0_v32 hq1_v32 hq2_v32 hq3_v32 hq4_v32 hq5_v32 hq8_v32 hq9_v32 hq10_v32 hq13_v32 hq14_v32 hq15_v32 hq17_v32 hq18_v32 hq24_v32 hq25_v32 hq35_v32 hq36_v32 hq38_v32 hq39_v32 ⟨show (0 : Int) ≤ t54.toInt by omega, show t54.toInt ≤ (2147483647 : Int) by omega⟩ ha0_f32 (by show (2147483647 - t54.toInt).toNat < n32; omega) _ _ _ hP hD hS (lv_sub hl [0, 2, 3, 4, 5, 6, 7, 8, 9] rfl)
                        · skip
                          have zc52 : ¬ (r27.toInt < t44.toInt) := by rw [fa_lt] at c52; exact c52
                          have rg56 := fb_rng r27
                          refine lv_aload_n hx hb dX11_sewing_177 rfl (lv_at hl 6 rfl) ?_
                          refine lv_iload_n hx hb dX11_sewing_178 rfl (lv_at hl 7 rfl) ?_
                          refine lv_iload_n hx hb dX11_sewing_179 rfl (lv_at hl 8 rfl) ?_
                          refine lv_iload hx hb dX11_sewing_180 (lv_at hl 1 rfl) ?_
                          refine lv_iload hx hb dX11_sewing_182 (lv_at hl 0 rfl) ?_
                          refine lv_ineg hx hb dX11_sewing_184 ?_
                          refine lv_topi (fun t57 et57 => ?_)
                          refine cbVi (n := 4) (rest := []) hx hb hml hown hts hE hP hD hS hA (sY_X11_isSewn_1 l dC dI cy y0 r p1 p2 l8_32 t57 v32 f32 w32 g32 hIv32 hCf32 hRf32 ⟨show (0 : Int) ≤ p1.toInt by omega, show p1.toInt ≤ (5 : Int) by omega⟩ ⟨show (0 : Int) ≤ p2.toInt by omega, show p2.toInt ≤ (5 : Int) by omega⟩) k_1892 k_1894 k_87 k_114 k_1895 (by decide +kernel) ⟨Nat.le_of_ble_eq_true rfl, Nat.le_of_ble_eq_true rfl⟩ 0 11 rfl rfl (rfl) hl.1 rfl (Nat.le_of_ble_eq_true rfl) dX11_sewing_185 (fun r58 u H locs hw hP hD hS => ?_)
                          obtain ⟨v59, f60, w61, g62⟩ := u
                          obtain ⟨ka0_f60, hIv59, hCf60, hRf60, hk0_v59, hk1_v59, hk2_v59, hk3_v59, hk4_v59, hk5_v59, hk8_v59, hk9_v59, hk10_v59, hk13_v59, hk14_v59, hk15_v59, hk17_v59, hk18_v59, hk24_v59, hk25_v59, hk35_v59, hk36_v59, hk38_v59, hk39_v59, hw⟩ := hw
                          have ha0_f60 : f60 0 = f 0 := ka0_f60.trans ha0_f32
                          have hP : va_P (dC, dI) vwCl (YW cy y0 r v59 f60 w61 g62) H := hP
                          have hD : va_D A (YW cy y0 r v59 f60 w61 g62) := hD
                          have hUv59 : (v59 35).toInt + (v59 36).toInt ≤ 40 := hIv59.2
                          have hq0_v59 : v59 0 = (v 0) := hk0_v59.trans hq0_v32
                          have hq1_v59 : v59 1 = (v 1) := hk1_v59.trans hq1_v32
                          have hq2_v59 : v59 2 = (v 2) := hk2_v59.trans hq2_v32
                          have hq3_v59 : v59 3 = (v 3) := hk3_v59.trans hq3_v32
                          have zq3_v59 := congrArg Int32.toInt hq3_v59
                          have hq4_v59 : v59 4 = (v 4) := hk4_v59.trans hq4_v32
                          have zq4_v59 := congrArg Int32.toInt hq4_v59
                          have hq5_v59 : v59 5 = (v 5) := hk5_v59.trans hq5_v32
                          have zq5_v59 := congrArg Int32.toInt hq5_v59
                          have hq8_v59 : v59 8 = (v 8) := hk8_v59.trans hq8_v32
                          have hq9_v59 : v59 9 = (v 9) := hk9_v59.trans hq9_v32
                          have zq9_v59 := congrArg Int32.toInt hq9_v59
                          have hq10_v59 : v59 10 = (v 10) := hk10_v59.trans hq10_v32
                          have hq13_v59 : v59 13 = (v 13) := hk13_v59.trans hq13_v32
                          have hq14_v59 : v59 14 = (v 14) := hk14_v59.trans hq14_v32
                          have hq15_v59 : v59 15 = (v 15) := hk15_v59.trans hq15_v32
                          have hq17_v59 : v59 17 = (v 17) := hk17_v59.trans hq17_v32
                          have hq18_v59 : v59 18 = (v 18) := hk18_v59.trans hq18_v32
                          have hq24_v59 : v59 24 = (v 24) := hk24_v59.trans hq24_v32
                          have hq25_v59 : v59 25 = (v 25) := hk25_v59.trans hq25_v32
                          have hq35_v59 : v59 35 = (v 35) := hk35_v59.trans hq35_v32
                          have zq35_v59 := congrArg Int32.toInt hq35_v59
                          have hq36_v59 : v59 36 = (v 36) := hk36_v59.trans hq36_v32
                          have zq36_v59 := congrArg Int32.toInt hq36_v59
                          have hq38_v59 : v59 38 = (v 38) := hk38_v59.trans hq38_v32
                          have hq39_v59 : v59 39 = (v 39) := hk39_v59.trans hq39_v32
                          rcases hw with ⟨g63⟩ | ⟨g63⟩
                          · skip
                            subst g63
                            refine lv_if_eq (tgt := 214) hx hb dX11_sewing_188 (by decide) (fun c0 => absurd c0 (by decide)) (fun _ => ?_)
                            refine lv_iload_n hx hb dX11_sewing_191 rfl (lv_at hl 9 rfl) ?_
                            refine lv_if_ne (tgt := 200) hx hb dX11_sewing_192 (by decide) (fun c64 => ?_) (fun c64 => ?_)
                            · skip
                              have zc64 : ¬ (p3.toInt = 0) := by rw [fa_eq, show (0 : Int32).toInt = 0 from by decide] at c64; exact c64
                              refine lv_iload_n hx hb dX11_sewing_200 rfl (lv_at hl 9 rfl) ?_
                              refine lv_iconst (v := 1) hx hb dX11_sewing_201 (by decide) ?_
                              refine lv_icmp_ne (tgt := 210) hx hb dX11_sewing_202 (by decide) (fun c65 => ?_) (fun c65 => ?_)
                              · skip
                                have zc65 : ¬ (p3.toInt = 1) := by rw [fa_eq, show (1 : Int32).toInt = 1 from by decide] at c65; exact c65
                                refine lv_iload hx hb dX11_sewing_210 (lv_at hl 0 rfl) ?_
                                refine lv_ineg hx hb dX11_sewing_212 ?_
                                refine lv_topi (fun t66 et66 => ?_)
                                exact ret t66 (v59, f60, w61, g62) _ _ _ _ _ _ rfl ⟨ha0_f60, hIv59, hCf60, hRf60, (hk0_v59.trans hq0_v32), (hk1_v59.trans hq1_v32), (hk2_v59.trans hq2_v32), (hk3_v59.trans hq3_v32), (hk4_v59.trans hq4_v32), (hk5_v59.trans hq5_v32), (hk8_v59.trans hq8_v32), (hk9_v59.trans hq9_v32), (hk10_v59.trans hq10_v32), (hk13_v59.trans hq13_v32), (hk14_v59.trans hq14_v32), (hk15_v59.trans hq15_v32), (hk17_v59.trans hq17_v32), (hk18_v59.trans hq18_v32), (hk24_v59.trans hq24_v32), (hk25_v59.trans hq25_v32), (hk35_v59.trans hq35_v32), (hk36_v59.trans hq36_v32), (hk38_v59.trans hq38_v32), (hk39_v59.trans hq39_v32)⟩ hP hD hS dX11_sewing_213 (Nat.le_refl _) (Nat.le_refl _)
                              · skip
                                have zc65 : p3.toInt = 1 := by rw [fa_eq, show (1 : Int32).toInt = 1 from by decide] at c65; exact c65
                                refine lv_iload hx hb dX11_sewing_205 (lv_at hl 1 rfl) ?_
                                refine lv_goto (tgt := 213) hx hb dX11_sewing_207 (by decide) ?_
                                exact ret l8_32 (v59, f60, w61, g62) _ _ _ _ _ _ rfl ⟨ha0_f60, hIv59, hCf60, hRf60, (hk0_v59.trans hq0_v32), (hk1_v59.trans hq1_v32), (hk2_v59.trans hq2_v32), (hk3_v59.trans hq3_v32), (hk4_v59.trans hq4_v32), (hk5_v59.trans hq5_v32), (hk8_v59.trans hq8_v32), (hk9_v59.trans hq9_v32), (hk10_v59.trans hq10_v32), (hk13_v59.trans hq13_v32), (hk14_v59.trans hq14_v32), (hk15_v59.trans hq15_v32), (hk17_v59.trans hq17_v32), (hk18_v59.trans hq18_v32), (hk24_v59.trans hq24_v32), (hk25_v59.trans hq25_v32), (hk35_v59.trans hq35_v32), (hk36_v59.trans hq36_v32), (hk38_v59.trans hq38_v32), (hk39_v59.trans hq39_v32)⟩ hP hD hS dX11_sewing_213 (Nat.le_refl _) (Nat.le_refl _)
                            · skip
                              have zc64 : p3.toInt = 0 := by rw [fa_eq, show (0 : Int32).toInt = 0 from by decide] at c64; exact c64
                              refine lv_iload hx hb dX11_sewing_195 (lv_at hl 2 rfl) ?_
                              refine lv_goto (tgt := 213) hx hb dX11_sewing_197 (by decide) ?_
                              exact ret l7_30 (v59, f60, w61, g62) _ _ _ _ _ _ rfl ⟨ha0_f60, hIv59, hCf60, hRf60, (hk0_v59.trans hq0_v32), (hk1_v59.trans hq1_v32), (hk2_v59.trans hq2_v32), (hk3_v59.trans hq3_v32), (hk4_v59.trans hq4_v32), (hk5_v59.trans hq5_v32), (hk8_v59.trans hq8_v32), (hk9_v59.trans hq9_v32), (hk10_v59.trans hq10_v32), (hk13_v59.trans hq13_v32), (hk14_v59.trans hq14_v32), (hk15_v59.trans hq15_v32), (hk17_v59.trans hq17_v32), (hk18_v59.trans hq18_v32), (hk24_v59.trans hq24_v32), (hk25_v59.trans hq25_v32), (hk35_v59.trans hq35_v32), (hk36_v59.trans hq36_v32), (hk38_v59.trans hq38_v32), (hk39_v59.trans hq39_v32)⟩ hP hD hS dX11_sewing_213 (Nat.le_refl _) (Nat.le_refl _)
                          · skip
                            subst g63
                            refine lv_if_eq (tgt := 214) hx hb dX11_sewing_188 (by decide) (fun _ => ?_) (fun c0 => absurd (by decide) c0)
                            obtain ⟨t67, et67⟩ : ∃ y : Int32, y = l8_32 + 1 := ⟨_, rfl⟩
                            have zt67 : t67.toInt = l8_32.toInt + 1 := by rw [et67]; exact add_i rfl (by decide) (by omega) (by omega)
                            refine lv_iinc (v := t67) (lv' := [(8, .int t67), (9, .int t44), (7, .int l7_30), (6, .int r27), (5, .int r18), (4, .int r13), (0, .ref y0), (1, .int p1), (2, .int p2), (3, .int p3)]) hx hb dX11_sewing_214 hl (k := 1) rfl (by rw [et67]; rfl) (by decide) rfl (fun ls hl => ?_)
                            refine lv_goto (tgt := 104) hx hb dX11_sewing_217 (by decide) ?_
                            have rg68 := fb_rng t67
                            exact ih32 t67 v59 f60 w61 g62 hIv59 hCf60 hRf60 hq0_v59 hq1_v59 hq2_v59 hq3_v59 hq4_v59 hq5_v59 hq8_v59 hq9_v59 hq10_v59 hq13_v59 hq14_v59 hq15_v59 hq17_v59 hq18_v59 hq24_v59 hq25_v59 hq35_v59 hq36_v59 hq38_v59 hq39_v59 ⟨show (0 : Int) ≤ t67.toInt by omega, show t67.toInt ≤ (2147483647 : Int) by omega⟩ ha0_f60 (by show (2147483647 - t67.toInt).toNat < n32; omega) _ _ _ hP hD hS (lv_sub hl [0, 2, 3, 4, 5, 6, 7, 8, 9] rfl)
                    · skip
                      have zc46 : ¬ (r18.toInt < t44.toInt) := by rw [fa_lt] at c46; exact c46
                      have rg69 := fb_rng t44
                      have rg70 := fb_rng r18
                      refine lv_aload_n hx hb dX11_sewing_130 rfl (lv_at hl 6 rfl) ?_
                      refine lv_iload_n hx hb dX11_sewing_131 rfl (lv_at hl 7 rfl) ?_
                      refine lv_iload_n hx hb dX11_sewing_132 rfl (lv_at hl 8 rfl) ?_
                      refine lv_iload hx hb dX11_sewing_133 (lv_at hl 1 rfl) ?_
                      refine lv_iload hx hb dX11_sewing_135 (lv_at hl 0 rfl) ?_
                      refine cbVi (n := 4) (rest := []) hx hb hml hown hts hE hP hD hS hA (sY_X11_isSewn_1 l dC dI cy y0 r p1 p2 l8_32 t44 v32 f32 w32 g32 hIv32 hCf32 hRf32 ⟨show (0 : Int) ≤ p1.toInt by omega, show p1.toInt ≤ (5 : Int) by omega⟩ ⟨show (0 : Int) ≤ p2.toInt by omega, show p2.toInt ≤ (5 : Int) by omega⟩) k_1892 k_1894 k_87 k_114 k_1895 (by decide +kernel) ⟨Nat.le_of_ble_eq_true rfl, Nat.le_of_ble_eq_true rfl⟩ 0 11 rfl rfl (rfl) hl.1 rfl (Nat.le_of_ble_eq_true rfl) dX11_sewing_137 (fun r71 u H locs hw hP hD hS => ?_)
                      obtain ⟨v72, f73, w74, g75⟩ := u
                      obtain ⟨ka0_f73, hIv72, hCf73, hRf73, hk0_v72, hk1_v72, hk2_v72, hk3_v72, hk4_v72, hk5_v72, hk8_v72, hk9_v72, hk10_v72, hk13_v72, hk14_v72, hk15_v72, hk17_v72, hk18_v72, hk24_v72, hk25_v72, hk35_v72, hk36_v72, hk38_v72, hk39_v72, hw⟩ := hw
                      have ha0_f73 : f73 0 = f 0 := ka0_f73.trans ha0_f32
                      have hP : va_P (dC, dI) vwCl (YW cy y0 r v72 f73 w74 g75) H := hP
                      have hD : va_D A (YW cy y0 r v72 f73 w74 g75) := hD
                      have hUv72 : (v72 35).toInt + (v72 36).toInt ≤ 40 := hIv72.2
                      have hq0_v72 : v72 0 = (v 0) := hk0_v72.trans hq0_v32
                      have hq1_v72 : v72 1 = (v 1) := hk1_v72.trans hq1_v32
                      have hq2_v72 : v72 2 = (v 2) := hk2_v72.trans hq2_v32
                      have hq3_v72 : v72 3 = (v 3) := hk3_v72.trans hq3_v32
                      have zq3_v72 := congrArg Int32.toInt hq3_v72
                      have hq4_v72 : v72 4 = (v 4) := hk4_v72.trans hq4_v32
                      have zq4_v72 := congrArg Int32.toInt hq4_v72
                      have hq5_v72 : v72 5 = (v 5) := hk5_v72.trans hq5_v32
                      have zq5_v72 := congrArg Int32.toInt hq5_v72
                      have hq8_v72 : v72 8 = (v 8) := hk8_v72.trans hq8_v32
                      have hq9_v72 : v72 9 = (v 9) := hk9_v72.trans hq9_v32
                      have zq9_v72 := congrArg Int32.toInt hq9_v72
                      have hq10_v72 : v72 10 = (v 10) := hk10_v72.trans hq10_v32
                      have hq13_v72 : v72 13 = (v 13) := hk13_v72.trans hq13_v32
                      have hq14_v72 : v72 14 = (v 14) := hk14_v72.trans hq14_v32
                      have hq15_v72 : v72 15 = (v 15) := hk15_v72.trans hq15_v32
                      have hq17_v72 : v72 17 = (v 17) := hk17_v72.trans hq17_v32
                      have hq18_v72 : v72 18 = (v 18) := hk18_v72.trans hq18_v32
                      have hq24_v72 : v72 24 = (v 24) := hk24_v72.trans hq24_v32
                      have hq25_v72 : v72 25 = (v 25) := hk25_v72.trans hq25_v32
                      have hq35_v72 : v72 35 = (v 35) := hk35_v72.trans hq35_v32
                      have zq35_v72 := congrArg Int32.toInt hq35_v72
                      have hq36_v72 : v72 36 = (v 36) := hk36_v72.trans hq36_v32
                      have zq36_v72 := congrArg Int32.toInt hq36_v72
                      have hq38_v72 : v72 38 = (v 38) := hk38_v72.trans hq38_v32
                      have hq39_v72 : v72 39 = (v 39) := hk39_v72.trans hq39_v32
                      rcases hw with ⟨g76⟩ | ⟨g76⟩
                      · skip
                        subst g76
                        refine lv_if_eq (tgt := 165) hx hb dX11_sewing_140 (by decide) (fun c0 => absurd c0 (by decide)) (fun _ => ?_)
                        refine lv_iload_n hx hb dX11_sewing_143 rfl (lv_at hl 9 rfl) ?_
                        refine lv_if_ne (tgt := 152) hx hb dX11_sewing_144 (by decide) (fun c77 => ?_) (fun c77 => ?_)
                        · skip
                          have zc77 : ¬ (p3.toInt = 0) := by rw [fa_eq, show (0 : Int32).toInt = 0 from by decide] at c77; exact c77
                          refine lv_iload_n hx hb dX11_sewing_152 rfl (lv_at hl 9 rfl) ?_
                          refine lv_iconst (v := 1) hx hb dX11_sewing_153 (by decide) ?_
                          refine lv_icmp_ne (tgt := 162) hx hb dX11_sewing_154 (by decide) (fun c78 => ?_) (fun c78 => ?_)
                          · skip
                            have zc78 : ¬ (p3.toInt = 1) := by rw [fa_eq, show (1 : Int32).toInt = 1 from by decide] at c78; exact c78
                            refine lv_iload hx hb dX11_sewing_162 (lv_at hl 0 rfl) ?_
                            exact ret t44 (v72, f73, w74, g75) _ _ _ _ _ _ rfl ⟨ha0_f73, hIv72, hCf73, hRf73, (hk0_v72.trans hq0_v32), (hk1_v72.trans hq1_v32), (hk2_v72.trans hq2_v32), (hk3_v72.trans hq3_v32), (hk4_v72.trans hq4_v32), (hk5_v72.trans hq5_v32), (hk8_v72.trans hq8_v32), (hk9_v72.trans hq9_v32), (hk10_v72.trans hq10_v32), (hk13_v72.trans hq13_v32), (hk14_v72.trans hq14_v32), (hk15_v72.trans hq15_v32), (hk17_v72.trans hq17_v32), (hk18_v72.trans hq18_v32), (hk24_v72.trans hq24_v32), (hk25_v72.trans hq25_v32), (hk35_v72.trans hq35_v32), (hk36_v72.trans hq36_v32), (hk38_v72.trans hq38_v32), (hk39_v72.trans hq39_v32)⟩ hP hD hS dX11_sewing_164 (Nat.le_refl _) (Nat.le_refl _)
                          · skip
                            have zc78 : p3.toInt = 1 := by rw [fa_eq, show (1 : Int32).toInt = 1 from by decide] at c78; exact c78
                            refine lv_iload hx hb dX11_sewing_157 (lv_at hl 1 rfl) ?_
                            refine lv_goto (tgt := 164) hx hb dX11_sewing_159 (by decide) ?_
                            exact ret l8_32 (v72, f73, w74, g75) _ _ _ _ _ _ rfl ⟨ha0_f73, hIv72, hCf73, hRf73, (hk0_v72.trans hq0_v32), (hk1_v72.trans hq1_v32), (hk2_v72.trans hq2_v32), (hk3_v72.trans hq3_v32), (hk4_v72.trans hq4_v32), (hk5_v72.trans hq5_v32), (hk8_v72.trans hq8_v32), (hk9_v72.trans hq9_v32), (hk10_v72.trans hq10_v32), (hk13_v72.trans hq13_v32), (hk14_v72.trans hq14_v32), (hk15_v72.trans hq15_v32), (hk17_v72.trans hq17_v32), (hk18_v72.trans hq18_v32), (hk24_v72.trans hq24_v32), (hk25_v72.trans hq25_v32), (hk35_v72.trans hq35_v32), (hk36_v72.trans hq36_v32), (hk38_v72.trans hq38_v32), (hk39_v72.trans hq39_v32)⟩ hP hD hS dX11_sewing_164 (Nat.le_refl _) (Nat.le_refl _)
                        · skip
                          have zc77 : p3.toInt = 0 := by rw [fa_eq, show (0 : Int32).toInt = 0 from by decide] at c77; exact c77
                          refine lv_iload hx hb dX11_sewing_147 (lv_at hl 2 rfl) ?_
                          refine lv_goto (tgt := 164) hx hb dX11_sewing_149 (by decide) ?_
                          exact ret l7_30 (v72, f73, w74, g75) _ _ _ _ _ _ rfl ⟨ha0_f73, hIv72, hCf73, hRf73, (hk0_v72.trans hq0_v32), (hk1_v72.trans hq1_v32), (hk2_v72.trans hq2_v32), (hk3_v72.trans hq3_v32), (hk4_v72.trans hq4_v32), (hk5_v72.trans hq5_v32), (hk8_v72.trans hq8_v32), (hk9_v72.trans hq9_v32), (hk10_v72.trans hq10_v32), (hk13_v72.trans hq13_v32), (hk14_v72.trans hq14_v32), (hk15_v72.trans hq15_v32), (hk17_v72.trans hq17_v32), (hk18_v72.trans hq18_v32), (hk24_v72.trans hq24_v32), (hk25_v72.trans hq25_v32), (hk35_v72.trans hq35_v32), (hk36_v72.trans hq36_v32), (hk38_v72.trans hq38_v32), (hk39_v72.trans hq39_v32)⟩ hP hD hS dX11_sewing_164 (Nat.le_refl _) (Nat.le_refl _)
                      · skip
                        subst g76
                        refine lv_if_eq (tgt := 165) hx hb dX11_sewing_140 (by decide) (fun _ => ?_) (fun c0 => absurd (by decide) c0)
                        refine lv_iload hx hb dX11_sewing_165 (lv_at hl 0 rfl) ?_
                        refine lv_if_le (tgt := 214) hx hb dX11_sewing_167 (by decide) (fun c79 => ?_) (fun c79 => ?_)
                        · skip
                          have zc79 : t44.toInt ≤ 0 := by rw [fa_le, show (0 : Int32).toInt = 0 from by decide] at c79; exact c79
                          obtain ⟨t80, et80⟩ : ∃ y : Int32, y = l8_32 + 1 := ⟨_, rfl⟩
                          have zt80 : t80.toInt = l8_32.toInt + 1 := by rw [et80]; exact add_i rfl (by decide) (by omega) (by omega)
                          refine lv_iinc (v := t80) (lv' := [(8, .int t80), (9, .int t44), (7, .int l7_30), (6, .int r27), (5, .int r18), (4, .int r13), (0, .ref y0), (1, .int p1), (2, .int p2), (3, .int p3)]) hx hb dX11_sewing_214 hl (k := 1) rfl (by rw [et80]; rfl) (by decide) rfl (fun ls hl => ?_)
                          refine lv_goto (tgt := 104) hx hb dX11_sewing_217 (by decide) ?_
                          have rg81 := fb_rng t80
                          exact ih32 t80 v72 f73 w74 g75 hIv72 hCf73 hRf73 hq0_v72 hq1_v72 hq2_v72 hq3_v72 hq4_v72 hq5_v72 hq8_v72 hq9_v72 hq10_v72 hq13_v72 hq14_v72 hq15_v72 hq17_v72 hq18_v72 hq24_v72 hq25_v72 hq35_v72 hq36_v72 hq38_v72 hq39_v72 ⟨show (0 : Int) ≤ t80.toInt by omega, show t80.toInt ≤ (2147483647 : Int) by omega⟩ ha0_f73 (by show (2147483647 - t80.toInt).toNat < n32; omega) _ _ _ hP hD hS (lv_sub hl [0, 2, 3, 4, 5, 6, 7, 8, 9] rfl)
                        · skip
                          have zc79 : ¬ (t44.toInt ≤ 0) := by rw [fa_le, show (0 : Int32).toInt = 0 from by decide] at c79; exact c79
                          refine lv_iload hx hb dX11_sewing_170 (lv_at hl 0 rfl) ?_
                          refine lv_iload hx hb dX11_sewing_172 (lv_at hl 3 rfl) ?_
                          refine lv_icmp_gt (tgt := 214) hx hb dX11_sewing_174 (by decide) (fun c82 => ?_) (fun c82 => ?_)
                          · skip
                            have zc82 : r27.toInt < t44.toInt := by rw [fa_lt] at c82; exact c82
                            have rg83 := fb_rng r27
                            obtain ⟨t84, et84⟩ : ∃ y : Int32, y = l8_32 + 1 := ⟨_, rfl⟩
                            have zt84 : t84.toInt = l8_32.toInt + 1 := by rw [et84]; exact add_i rfl (by decide) (by omega) (by omega)
                            refine lv_iinc (v := t84) (lv' := [(8, .int t84), (9, .int t44), (7, .int l7_30), (6, .int r27), (5, .int r18), (4, .int r13), (0, .ref y0), (1, .int p1), (2, .int p2), (3, .int p3)]) hx hb dX11_sewing_214 hl (k := 1) rfl (by rw [et84]; rfl) (by decide) rfl (fun ls hl => ?_)
                            refine lv_goto (tgt := 104) hx hb dX11_sewing_217 (by decide) ?_
                            have rg85 := fb_rng t84
                            exact ih32 t84 v72 f73 w74 g75 hIv72 hCf73 hRf73 hq0_v72 hq1_v72 hq2_v72 hq3_v72 hq4_v72 hq5_v72 hq8_v72 hq9_v72 hq10_v72 hq13_v72 hq14_v72 hq15_v72 hq17_v72 hq18_v72 hq24_v72 hq25_v72 hq35_v72 hq36_v72 hq38_v72 hq39_v72 ⟨show (0 : Int) ≤ t84.toInt by omega, show t84.toInt ≤ (2147483647 : Int) by omega⟩ ha0_f73 (by show (2147483647 - t84.toInt).toNat < n32; omega) _ _ _ hP hD hS (lv_sub hl [0, 2, 3, 4, 5, 6, 7, 8, 9] rfl)
                          · skip
                            have zc82 : ¬ (r27.toInt < t44.toInt) := by rw [fa_lt] at c82; exact c82
                            have rg86 := fb_rng r27
                            refine lv_aload_n hx hb dX11_sewing_177 rfl (lv_at hl 6 rfl) ?_
                            refine lv_iload_n hx hb dX11_sewing_178 rfl (lv_at hl 7 rfl) ?_
                            refine lv_iload_n hx hb dX11_sewing_179 rfl (lv_at hl 8 rfl) ?_
                            refine lv_iload hx hb dX11_sewing_180 (lv_at hl 1 rfl) ?_
                            refine lv_iload hx hb dX11_sewing_182 (lv_at hl 0 rfl) ?_
                            refine lv_ineg hx hb dX11_sewing_184 ?_
                            refine lv_topi (fun t87 et87 => ?_)
                            refine cbVi (n := 4) (rest := []) hx hb hml hown hts hE hP hD hS hA (sY_X11_isSewn_1 l dC dI cy y0 r p1 p2 l8_32 t87 v72 f73 w74 g75 hIv72 hCf73 hRf73 ⟨show (0 : Int) ≤ p1.toInt by omega, show p1.toInt ≤ (5 : Int) by omega⟩ ⟨show (0 : Int) ≤ p2.toInt by omega, show p2.toInt ≤ (5 : Int) by omega⟩) k_1892 k_1894 k_87 k_114 k_1895 (by decide +kernel) ⟨Nat.le_of_ble_eq_true rfl, Nat.le_of_ble_eq_true rfl⟩ 0 11 rfl rfl (rfl) hl.1 rfl (Nat.le_of_ble_eq_true rfl) dX11_sewing_185 (fun r88 u H locs hw hP hD hS => ?_)
                            obtain ⟨v89, f90, w91, g92⟩ := u
                            obtain ⟨ka0_f90, hIv89, hCf90, hRf90, hk0_v89, hk1_v89, hk2_v89, hk3_v89, hk4_v89, hk5_v89, hk8_v89, hk9_v89, hk10_v89, hk13_v89, hk14_v89, hk15_v89, hk17_v89, hk18_v89, hk24_v89, hk25_v89, hk35_v89, hk36_v89, hk38_v89, hk39_v89, hw⟩ := hw
                            have ha0_f90 : f90 0 = f 0 := ka0_f90.trans ha0_f73
                            have hP : va_P (dC, dI) vwCl (YW cy y0 r v89 f90 w91 g92) H := hP
                            have hD : va_D A (YW cy y0 r v89 f90 w91 g92) := hD
                            have hUv89 : (v89 35).toInt + (v89 36).toInt ≤ 40 := hIv89.2
                            have hq0_v89 : v89 0 = (v 0) := hk0_v89.trans hq0_v72
                            have hq1_v89 : v89 1 = (v 1) := hk1_v89.trans hq1_v72
                            have hq2_v89 : v89 2 = (v 2) := hk2_v89.trans hq2_v72
                            have hq3_v89 : v89 3 = (v 3) := hk3_v89.trans hq3_v72
                            have zq3_v89 := congrArg Int32.toInt hq3_v89
                            have hq4_v89 : v89 4 = (v 4) := hk4_v89.trans hq4_v72
                            have zq4_v89 := congrArg Int32.toInt hq4_v89
                            have hq5_v89 : v89 5 = (v 5) := hk5_v89.trans hq5_v72
                            have zq5_v89 := congrArg Int32.toInt hq5_v89
                            have hq8_v89 : v89 8 = (v 8) := hk8_v89.trans hq8_v72
                            have hq9_v89 : v89 9 = (v 9) := hk9_v89.trans hq9_v72
                            have zq9_v89 := congrArg Int32.toInt hq9_v89
                            have hq10_v89 : v89 10 = (v 10) := hk10_v89.trans hq10_v72
                            have hq13_v89 : v89 13 = (v 13) := hk13_v89.trans hq13_v72
                            have hq14_v89 : v89 14 = (v 14) := hk14_v89.trans hq14_v72
                            have hq15_v89 : v89 15 = (v 15) := hk15_v89.trans hq15_v72
                            have hq17_v89 : v89 17 = (v 17) := hk17_v89.trans hq17_v72
                            have hq18_v89 : v89 18 = (v 18) := hk18_v89.trans hq18_v72
                            have hq24_v89 : v89 24 = (v 24) := hk24_v89.trans hq24_v72
                            have hq25_v89 : v89 25 = (v 25) := hk25_v89.trans hq25_v72
                            have hq35_v89 : v89 35 = (v 35) := hk35_v89.trans hq35_v72
                            have zq35_v89 := congrArg Int32.toInt hq35_v89
                            have hq36_v89 : v89 36 = (v 36) := hk36_v89.trans hq36_v72
                            have zq36_v89 := congrArg Int32.toInt hq36_v89
                            have hq38_v89 : v89 38 = (v 38) := hk38_v89.trans hq38_v72
                            have hq39_v89 : v89 39 = (v 39) := hk39_v89.trans hq39_v72
                            rcases hw with ⟨g93⟩ | ⟨g93⟩
                            · skip
                              subst g93
                              refine lv_if_eq (tgt := 214) hx hb dX11_sewing_188 (by decide) (fun c0 => absurd c0 (by decide)) (fun _ => ?_)
                              refine lv_iload_n hx hb dX11_sewing_191 rfl (lv_at hl 9 rfl) ?_
                              refine lv_if_ne (tgt := 200) hx hb dX11_sewing_192 (by decide) (fun c94 => ?_) (fun c94 => ?_)
                              · skip
                                have zc94 : ¬ (p3.toInt = 0) := by rw [fa_eq, show (0 : Int32).toInt = 0 from by decide] at c94; exact c94
                                refine lv_iload_n hx hb dX11_sewing_200 rfl (lv_at hl 9 rfl) ?_
                                refine lv_iconst (v := 1) hx hb dX11_sewing_201 (by decide) ?_
                                refine lv_icmp_ne (tgt := 210) hx hb dX11_sewing_202 (by decide) (fun c95 => ?_) (fun c95 => ?_)
                                · skip
                                  have zc95 : ¬ (p3.toInt = 1) := by rw [fa_eq, show (1 : Int32).toInt = 1 from by decide] at c95; exact c95
                                  refine lv_iload hx hb dX11_sewing_210 (lv_at hl 0 rfl) ?_
                                  refine lv_ineg hx hb dX11_sewing_212 ?_
                                  refine lv_topi (fun t96 et96 => ?_)
                                  exact ret t96 (v89, f90, w91, g92) _ _ _ _ _ _ rfl ⟨ha0_f90, hIv89, hCf90, hRf90, (hk0_v89.trans (hk0_v72.trans hq0_v32)), (hk1_v89.trans (hk1_v72.trans hq1_v32)), (hk2_v89.trans (hk2_v72.trans hq2_v32)), (hk3_v89.trans (hk3_v72.trans hq3_v32)), (hk4_v89.trans (hk4_v72.trans hq4_v32)), (hk5_v89.trans (hk5_v72.trans hq5_v32)), (hk8_v89.trans (hk8_v72.trans hq8_v32)), (hk9_v89.trans (hk9_v72.trans hq9_v32)), (hk10_v89.trans (hk10_v72.trans hq10_v32)), (hk13_v89.trans (hk13_v72.trans hq13_v32)), (hk14_v89.trans (hk14_v72.trans hq14_v32)), (hk15_v89.trans (hk15_v72.trans hq15_v32)), (hk17_v89.trans (hk17_v72.trans hq17_v32)), (hk18_v89.trans (hk18_v72.trans hq18_v32)), (hk24_v89.trans (hk24_v72.trans hq24_v32)), (hk25_v89.trans (hk25_v72.trans hq25_v32)), (hk35_v89.trans (hk35_v72.trans hq35_v32)), (hk36_v89.trans (hk36_v72.trans hq36_v32)), (hk38_v89.trans (hk38_v72.trans hq38_v32)), (hk39_v89.trans (hk39_v72.trans hq39_v32))⟩ hP hD hS dX11_sewing_213 (Nat.le_refl _) (Nat.le_refl _)
                                · skip
                                  have zc95 : p3.toInt = 1 := by rw [fa_eq, show (1 : Int32).toInt = 1 from by decide] at c95; exact c95
                                  refine lv_iload hx hb dX11_sewing_205 (lv_at hl 1 rfl) ?_
                                  refine lv_goto (tgt := 213) hx hb dX11_sewing_207 (by decide) ?_
                                  exact ret l8_32 (v89, f90, w91, g92) _ _ _ _ _ _ rfl ⟨ha0_f90, hIv89, hCf90, hRf90, (hk0_v89.trans (hk0_v72.trans hq0_v32)), (hk1_v89.trans (hk1_v72.trans hq1_v32)), (hk2_v89.trans (hk2_v72.trans hq2_v32)), (hk3_v89.trans (hk3_v72.trans hq3_v32)), (hk4_v89.trans (hk4_v72.trans hq4_v32)), (hk5_v89.trans (hk5_v72.trans hq5_v32)), (hk8_v89.trans (hk8_v72.trans hq8_v32)), (hk9_v89.trans (hk9_v72.trans hq9_v32)), (hk10_v89.trans (hk10_v72.trans hq10_v32)), (hk13_v89.trans (hk13_v72.trans hq13_v32)), (hk14_v89.trans (hk14_v72.trans hq14_v32)), (hk15_v89.trans (hk15_v72.trans hq15_v32)), (hk17_v89.trans (hk17_v72.trans hq17_v32)), (hk18_v89.trans (hk18_v72.trans hq18_v32)), (hk24_v89.trans (hk24_v72.trans hq24_v32)), (hk25_v89.trans (hk25_v72.trans hq25_v32)), (hk35_v89.trans (hk35_v72.trans hq35_v32)), (hk36_v89.trans (hk36_v72.trans hq36_v32)), (hk38_v89.trans (hk38_v72.trans hq38_v32)), (hk39_v89.trans (hk39_v72.trans hq39_v32))⟩ hP hD hS dX11_sewing_213 (Nat.le_refl _) (Nat.le_refl _)
                              · skip
                                have zc94 : p3.toInt = 0 := by rw [fa_eq, show (0 : Int32).toInt = 0 from by decide] at c94; exact c94
                                refine lv_iload hx hb dX11_sewing_195 (lv_at hl 2 rfl) ?_
                                refine lv_goto (tgt := 213) hx hb dX11_sewing_197 (by decide) ?_
                                exact ret l7_30 (v89, f90, w91, g92) _ _ _ _ _ _ rfl ⟨ha0_f90, hIv89, hCf90, hRf90, (hk0_v89.trans (hk0_v72.trans hq0_v32)), (hk1_v89.trans (hk1_v72.trans hq1_v32)), (hk2_v89.trans (hk2_v72.trans hq2_v32)), (hk3_v89.trans (hk3_v72.trans hq3_v32)), (hk4_v89.trans (hk4_v72.trans hq4_v32)), (hk5_v89.trans (hk5_v72.trans hq5_v32)), (hk8_v89.trans (hk8_v72.trans hq8_v32)), (hk9_v89.trans (hk9_v72.trans hq9_v32)), (hk10_v89.trans (hk10_v72.trans hq10_v32)), (hk13_v89.trans (hk13_v72.trans hq13_v32)), (hk14_v89.trans (hk14_v72.trans hq14_v32)), (hk15_v89.trans (hk15_v72.trans hq15_v32)), (hk17_v89.trans (hk17_v72.trans hq17_v32)), (hk18_v89.trans (hk18_v72.trans hq18_v32)), (hk24_v89.trans (hk24_v72.trans hq24_v32)), (hk25_v89.trans (hk25_v72.trans hq25_v32)), (hk35_v89.trans (hk35_v72.trans hq35_v32)), (hk36_v89.trans (hk36_v72.trans hq36_v32)), (hk38_v89.trans (hk38_v72.trans hq38_v32)), (hk39_v89.trans (hk39_v72.trans hq39_v32))⟩ hP hD hS dX11_sewing_213 (Nat.le_refl _) (Nat.le_refl _)
                            · skip
                              subst g93
                              refine lv_if_eq (tgt := 214) hx hb dX11_sewing_188 (by decide) (fun _ => ?_) (fun c0 => absurd (by decide) c0)
                              obtain ⟨t97, et97⟩ : ∃ y : Int32, y = l8_32 + 1 := ⟨_, rfl⟩
                              have zt97 : t97.toInt = l8_32.toInt + 1 := by rw [et97]; exact add_i rfl (by decide) (by omega) (by omega)
                              refine lv_iinc (v := t97) (lv' := [(8, .int t97), (9, .int t44), (7, .int l7_30), (6, .int r27), (5, .int r18), (4, .int r13), (0, .ref y0), (1, .int p1), (2, .int p2), (3, .int p3)]) hx hb dX11_sewing_214 hl (k := 1) rfl (by rw [et97]; rfl) (by decide) rfl (fun ls hl => ?_)
                              refine lv_goto (tgt := 104) hx hb dX11_sewing_217 (by decide) ?_
                              have rg98 := fb_rng t97
                              exact ih32 t97 v89 f90 w91 g92 hIv89 hCf90 hRf90 hq0_v89 hq1_v89 hq2_v89 hq3_v89 hq4_v89 hq5_v89 hq8_v89 hq9_v89 hq10_v89 hq13_v89 hq14_v89 hq15_v89 hq17_v89 hq18_v89 hq24_v89 hq25_v89 hq35_v89 hq36_v89 hq38_v89 hq39_v89 ⟨show (0 : Int) ≤ t97.toInt by omega, show t97.toInt ≤ (2147483647 : Int) by omega⟩ ha0_f90 (by show (2147483647 - t97.toInt).toNat < n32; omega) _ _ _ hP hD hS (lv_sub hl [0, 2, 3, 4, 5, 6, 7, 8, 9] rfl)
              exact lp32 _ 0 v30 f30 w30 g30 hIv30 hCf30 hRf30 hq0_v30 hq1_v30 hq2_v30 hq3_v30 hq4_v30 hq5_v30 hq8_v30 hq9_v30 hq10_v30 hq13_v30 hq14_v30 hq15_v30 hq17_v30 hq18_v30 hq24_v30 hq25_v30 hq35_v30 hq36_v30 hq38_v30 hq39_v30 ⟨by decide, by decide⟩ ha0_f30 (Nat.lt_succ_self _) _ _ _ hP hD hS (lv_sub hl [0, 1, 2, 3, 4, 5, 6, 7, 8] rfl)
        exact lp30 _ 0 v f w g hIv hCf hRf rfl rfl rfl rfl rfl rfl rfl rfl rfl rfl rfl rfl rfl rfl rfl rfl rfl rfl rfl rfl ⟨by decide, by decide⟩ ha0_f (Nat.lt_succ_self _) _ _ _ hP hD hS (lv_sub hl [0, 1, 2, 3, 4, 5, 6, 7] rfl)
      · skip
        subst g8
        refine lv_if_ne (tgt := 28) hx hb dX11_sewing_22 (by decide) (fun c0 => absurd (by decide) c0) (fun _ => ?_)
        refine lv_bipush (v := (-100)) hx hb dX11_sewing_25 (by decide) ?_
        exact ret (-100) (v, f, w, g) _ _ _ _ _ _ rfl ⟨ha0_f, hIv, hCf, hRf, rfl, rfl, rfl, rfl, rfl, rfl, rfl, rfl, rfl, rfl, rfl, rfl, rfl, rfl, rfl, rfl, rfl, rfl, rfl, rfl⟩ hP hD hS dX11_sewing_27 (Nat.le_refl _) (Nat.le_refl _)
    · skip
      subst g4
      refine lv_if_eq (tgt := 25) hx hb dX11_sewing_13 (by decide) (fun _ => ?_) (fun c0 => absurd (by decide) c0)
      refine lv_bipush (v := (-100)) hx hb dX11_sewing_25 (by decide) ?_
      exact ret (-100) (v, f, w, g) _ _ _ _ _ _ rfl ⟨ha0_f, hIv, hCf, hRf, rfl, rfl, rfl, rfl, rfl, rfl, rfl, rfl, rfl, rfl, rfl, rfl, rfl, rfl, rfl, rfl, rfl, rfl, rfl, rfl⟩ hP hD hS dX11_sewing_27 (Nat.le_refl _) (Nat.le_refl _)
  · skip
    subst g2
    refine lv_if_eq (tgt := 25) hx hb dX11_sewing_5 (by decide) (fun _ => ?_) (fun c0 => absurd (by decide) c0)
    refine lv_bipush (v := (-100)) hx hb dX11_sewing_25 (by decide) ?_
    exact ret (-100) (v, f, w, g) _ _ _ _ _ _ rfl ⟨ha0_f, hIv, hCf, hRf, rfl, rfl, rfl, rfl, rfl, rfl, rfl, rfl, rfl, rfl, rfl, rfl, rfl, rfl, rfl, rfl, rfl, rfl, rfl, rfl⟩ hP hD hS dX11_sewing_27 (Nat.le_refl _) (Nat.le_refl _)
set_option maxHeartbeats 4000000 in
set_option maxRecDepth 100000 in
theorem sY_X11_members_1 (l : Launch) (dC : Nat → ClassId) (dI : Nat → Nat → Nat) (cy : Nat → ClassId) (y0 : Nat) (r : Nat → Nat) (p0 : Int32) (v : Nat → Int32) (f : Nat → Nat → Int32) (w : Int64) (g : Nat → Int64) (hIv : YI v) (hCf : YC f) (hRf : progOK (f 4) (f 5) (v 9).toInt.toNat)  : ctI l (dC, dI) cy yX11_members cX11_members 3 .int 1 60 0 0 Unit [.int p0] (YW cy y0 r v f w g) (fun r u => True) (fun u => YW cy y0 r v f w g) := by
  refine ctI_of (by decide) (Nat.le_of_ble_eq_true rfl) (fun p e s m below meth c A ls Q hx hb hml hts hown hE hP hD hA hl ret => ?_)
  have hUv : (v 35).toInt + (v 36).toInt ≤ 40 := hIv.2
  have hown : s.vm.findClass RX11 = some m.cls := hown
  have hS : va_S A s.heap s.heap [] := va_S.rf
  have hl : lv_has ls 3 [(0, .int p0)] := hl
  refine lv_iconst (v := 0) hx hb dX11_members_0 (by decide) ?_
  refine lv_istore_n (lv' := [(1, .int 0), (0, .int p0)]) hx hb dX11_members_1 rfl hl (by decide) rfl (fun ls hl => ?_)
  refine lv_iconst (v := 0) hx hb dX11_members_2 (by decide) ?_
  refine lv_istore_n (lv' := [(2, .int 0), (1, .int 0), (0, .int p0)]) hx hb dX11_members_3 rfl hl (by decide) rfl (fun ls hl => ?_)
  have lp1 : ∀ (n1 : Nat) (l1_1 : Int32) (l2_1 : Int32), ((0 : Int) ≤ l2_1.toInt ∧ l2_1.toInt ≤ 2147483647) → (2147483647 - l2_1.toInt).toNat < n1 → ∀ (H : Heap) (locs : List Loc) (ls : Array Slot), va_P (dC, dI) vwCl (YW cy y0 r v f w g) H → va_D A (YW cy y0 r v f w g) → va_S A s.heap H locs → lv_has ls 3 [(2, .int l2_1), (1, .int l1_1), (0, .int p0)] → W p l e { frames := 1, cells := 0, slots := 0, locals := 60 } s m ([.int p0] : List Value).toArray below meth c H locs 0 0 Q (F0 m 4 ls []) := by
    intro n1
    induction n1 with
    | zero => intro l1_1 l2_1 hr2_1 hm; exact absurd hm (Nat.not_lt_zero _)
    | succ n1 ih1 =>
      intro l1_1 l2_1 hr2_1 hm1 H locs ls hP hD hS hl
      refine lv_iload_n hx hb dX11_members_4 rfl (lv_at hl 0 rfl) ?_
      refine lv_bipush (v := 6) hx hb dX11_members_5 (by decide) ?_
      refine lv_icmp_ge (tgt := 24) hx hb dX11_members_7 (by decide) (fun c2 => ?_) (fun c2 => ?_)
      · skip
        have zc2 : 6 ≤ l2_1.toInt := by rw [fa_le, show (6 : Int32).toInt = 6 from by decide] at c2; exact c2
        refine lv_iload_n hx hb dX11_members_24 rfl (lv_at hl 1 rfl) ?_
        exact ret l1_1 () _ _ _ _ _ _ rfl trivial hP hD hS dX11_members_25 (Nat.le_refl _) (Nat.le_refl _)
      · skip
        have zc2 : ¬ (6 ≤ l2_1.toInt) := by rw [fa_le, show (6 : Int32).toInt = 6 from by decide] at c2; exact c2
        refine lv_iload_n hx hb dX11_members_10 rfl (lv_at hl 1 rfl) ?_
        refine lv_iload_n hx hb dX11_members_11 rfl (lv_at hl 2 rfl) ?_
        refine lv_iload_n hx hb dX11_members_12 rfl (lv_at hl 0 rfl) ?_
        refine lv_ishr hx hb dX11_members_13 ?_
        refine lv_topi (fun t3 et3 => ?_)
        refine lv_iconst (v := 1) hx hb dX11_members_14 (by decide) ?_
        refine lv_iand hx hb dX11_members_15 ?_
        refine lv_topi (fun t4 et4 => ?_)
        have zt4 : 0 ≤ t4.toInt ∧ t4.toInt < 2 := by rw [et4]; exact and_rng _ (k := 1) (by decide) (by decide)
        refine lv_iadd hx hb dX11_members_16 ?_
        refine lv_topi (fun t5 et5 => ?_)
        refine lv_istore_n (lv' := [(1, .int t5), (2, .int l2_1), (0, .int p0)]) hx hb dX11_members_17 rfl hl (by decide) rfl (fun ls hl => ?_)
        obtain ⟨t6, et6⟩ : ∃ y : Int32, y = l2_1 + 1 := ⟨_, rfl⟩
        have rg7 := fb_rng l2_1
        have zt6 : t6.toInt = l2_1.toInt + 1 := by rw [et6]; exact add_i rfl (by decide) (by omega) (by omega)
        refine lv_iinc (v := t6) (lv' := [(2, .int t6), (1, .int t5), (0, .int p0)]) hx hb dX11_members_18 hl (k := 1) rfl (by rw [et6]; rfl) (by decide) rfl (fun ls hl => ?_)
        refine lv_goto (tgt := 4) hx hb dX11_members_21 (by decide) ?_
        have rg8 := fb_rng t6
        exact ih1 t5 t6 ⟨show (0 : Int) ≤ t6.toInt by omega, show t6.toInt ≤ (2147483647 : Int) by omega⟩ (by show (2147483647 - t6.toInt).toNat < n1; omega) _ _ _ hP hD hS (lv_sub hl [0, 1, 2] rfl)
  exact lp1 _ 0 0 ⟨by decide, by decide⟩ (Nat.lt_succ_self _) _ _ _ hP hD hS (lv_sub hl [0, 1, 2] rfl)
set_option maxHeartbeats 4000000 in
set_option maxRecDepth 100000 in
theorem sY_X11_rota_1 (l : Launch) (dC : Nat → ClassId) (dI : Nat → Nat → Nat) (cy : Nat → ClassId) (y0 : Nat) (r : Nat → Nat) (p1 : Int32) (v : Nat → Int32) (f : Nat → Nat → Int32) (w : Int64) (g : Nat → Int64) (hIv : YI v) (hCf : YC f) (hRf : progOK (f 4) (f 5) (v 9).toInt.toNat)  : ctI l (dC, dI) cy yX11_rota cX11_rota 6 .int 7 191 0 0 ((Nat → Int32) × (Nat → Nat → Int32) × (Int64) × (Nat → Int64)) [.ref y0, .int p1] (YW cy y0 r v f w g) (fun r u => u.2.1 0 = f 0 ∧ YI u.1 ∧ YC u.2.1 ∧ progOK (u.2.1 4) (u.2.1 5) (u.1 9).toInt.toNat ∧ u.1 0 = v 0 ∧ u.1 1 = v 1 ∧ u.1 2 = v 2 ∧ u.1 3 = v 3 ∧ u.1 4 = v 4 ∧ u.1 5 = v 5 ∧ u.1 8 = v 8 ∧ u.1 9 = v 9 ∧ u.1 10 = v 10 ∧ u.1 13 = v 13 ∧ u.1 14 = v 14 ∧ u.1 15 = v 15 ∧ u.1 17 = v 17 ∧ u.1 18 = v 18 ∧ u.1 24 = v 24 ∧ u.1 25 = v 25 ∧ u.1 35 = v 35 ∧ u.1 36 = v 36 ∧ u.1 38 = v 38 ∧ u.1 39 = v 39) (fun u => YW cy y0 r u.1 u.2.1 u.2.2.1 u.2.2.2) := by
  refine ctI_of (by decide) (Nat.le_of_ble_eq_true rfl) (fun p e s m below meth c A ls Q hx hb hml hts hown hE hP hD hA hl ret => ?_)
  have hUv : (v 35).toInt + (v 36).toInt ≤ 40 := hIv.2
  have ha0_f : f 0 = f 0 := rfl
  have hown : s.vm.findClass RX11 = some m.cls := hown
  have hS : va_S A s.heap s.heap [] := va_S.rf
  have hl : lv_has ls 6 [(0, .ref y0), (1, .int p1)] := hl
  refine lv_iload_n hx hb dX11_rota_0 rfl (lv_at hl 1 rfl) ?_
  refine lv_iconst (v := 0) hx hb dX11_rota_1 (by decide) ?_
  refine lv_iconst (v := 1) hx hb dX11_rota_2 (by decide) ?_
  have lt1 : (0 : Int32).toInt = 0 := by decide
  have lt2 : (1 : Int32).toInt = 1 := by decide
  refine cbSi (n := 3) (rest := []) hx hb hml hown hts hE hP hD hS hA (sY_X11_isIn_1 l dC dI cy y0 r p1 0 1 v f w g hIv hCf hRf ) k_1736 k_1737 k_114 k_1738 (by decide +kernel) ⟨Nat.le_of_ble_eq_true rfl, Nat.le_of_ble_eq_true rfl⟩ (rfl) hl.1 rfl (Nat.le_of_ble_eq_true rfl) dX11_rota_3 (fun r3 u H locs hw hP hD hS => ?_)
  rcases hw with ⟨g4, g4_0, g4_1⟩ | ⟨g4⟩
  · skip
    subst g4
    refine lv_if_eq (tgt := 16) hx hb dX11_rota_6 (by decide) (fun c0 => absurd c0 (by decide)) (fun _ => ?_)
    refine lv_aload_n hx hb dX11_rota_9 rfl (lv_at hl 0 rfl) ?_
    refine va_get (D := (dC, dI)) (ci := 11) (v := .int (v 24)) (C := RX11) (T := TX11) (N := 79) hx hb hts inB_11 hown hE.1 hP 0 rfl rfl 48 (by decide) (hts _ k_1368) (fun _ h9 => h9) rfl dX11_rota_10 ?_
    have b24_v : 0 ≤ (v 24).toInt ∧ (v 24).toInt ≤ 6 := YIb.b hIv.1 24 (by decide)
    refine lv_if_ne (tgt := 18) hx hb dX11_rota_13 (by decide) (fun c5 => ?_) (fun c5 => ?_)
    · skip
      have zc5 : ¬ ((v 24).toInt = 0) := by rw [fa_eq, show (0 : Int32).toInt = 0 from by decide] at c5; exact c5
      refine lv_iconst (v := 0) hx hb dX11_rota_18 (by decide) ?_
      refine lv_istore_n (lv' := [(2, .int 0), (0, .ref y0), (1, .int p1)]) hx hb dX11_rota_19 rfl hl (by decide) rfl (fun ls hl => ?_)
      refine lv_iconst (v := (-1)) hx hb dX11_rota_20 (by decide) ?_
      refine lv_istore_n (lv' := [(3, .int (-1)), (2, .int 0), (0, .ref y0), (1, .int p1)]) hx hb dX11_rota_21 rfl hl (by decide) rfl (fun ls hl => ?_)
      refine lv_iconst (v := 0) hx hb dX11_rota_22 (by decide) ?_
      refine lv_istore (lv' := [(4, .int 0), (3, .int (-1)), (2, .int 0), (0, .ref y0), (1, .int p1)]) hx hb dX11_rota_23 hl (by decide) rfl (fun ls hl => ?_)
      have lp6 : ∀ (n6 : Nat) (l2_6 : Int32) (l3_6 : Int32) (l4_6 : Int32) (v6 : Nat → Int32) (f6 : Nat → Nat → Int32) (w6 : Int64) (g6 : Nat → Int64), YI v6 → YC f6 → progOK (f6 4) (f6 5) (v6 9).toInt.toNat → v6 0 = (v 0) → v6 1 = (v 1) → v6 2 = (v 2) → v6 3 = (v 3) → v6 4 = (v 4) → v6 5 = (v 5) → v6 8 = (v 8) → v6 9 = (v 9) → v6 10 = (v 10) → v6 13 = (v 13) → v6 14 = (v 14) → v6 15 = (v 15) → v6 17 = (v 17) → v6 18 = (v 18) → v6 24 = (v 24) → v6 25 = (v 25) → v6 35 = (v 35) → v6 36 = (v 36) → v6 38 = (v 38) → v6 39 = (v 39) → ((0 : Int) ≤ l4_6.toInt ∧ l4_6.toInt ≤ 2147483647) → f6 0 = f 0 → (2147483647 - l4_6.toInt).toNat < n6 → ∀ (H : Heap) (locs : List Loc) (ls : Array Slot), va_P (dC, dI) vwCl (YW cy y0 r v6 f6 w6 g6) H → va_D A (YW cy y0 r v6 f6 w6 g6) → va_S A s.heap H locs → lv_has ls 6 [(4, .int l4_6), (3, .int l3_6), (2, .int l2_6), (0, .ref y0), (1, .int p1)] → W p l e { frames := 7, cells := 0, slots := 0, locals := 191 } s m ([.ref y0, .int p1] : List Value).toArray below meth c H locs 0 0 Q (F0 m 25 ls []) := by
        intro n6
        induction n6 with
        | zero => intro l2_6 l3_6 l4_6 v6 f6 w6 g6 hIv6 hCf6 hRf6 hq0_v6 hq1_v6 hq2_v6 hq3_v6 hq4_v6 hq5_v6 hq8_v6 hq9_v6 hq10_v6 hq13_v6 hq14_v6 hq15_v6 hq17_v6 hq18_v6 hq24_v6 hq25_v6 hq35_v6 hq36_v6 hq38_v6 hq39_v6 hr4_6 ha0_f6 hm; exact absurd hm (Nat.not_lt_zero _)
        | succ n6 ih6 =>
          intro l2_6 l3_6 l4_6 v6 f6 w6 g6 hIv6 hCf6 hRf6 hq0_v6 hq1_v6 hq2_v6 hq3_v6 hq4_v6 hq5_v6 hq8_v6 hq9_v6 hq10_v6 hq13_v6 hq14_v6 hq15_v6 hq17_v6 hq18_v6 hq24_v6 hq25_v6 hq35_v6 hq36_v6 hq38_v6 hq39_v6 hr4_6 ha0_f6 hm6 H locs ls hP hD hS hl
          have hUv6 : (v6 35).toInt + (v6 36).toInt ≤ 40 := hIv6.2
          have zq3_v6 := congrArg Int32.toInt hq3_v6
          have zq4_v6 := congrArg Int32.toInt hq4_v6
          have zq5_v6 := congrArg Int32.toInt hq5_v6
          have zq9_v6 := congrArg Int32.toInt hq9_v6
          have zq35_v6 := congrArg Int32.toInt hq35_v6
          have zq36_v6 := congrArg Int32.toInt hq36_v6
          refine lv_iload hx hb dX11_rota_25 (lv_at hl 0 rfl) ?_
          refine lv_aload_n hx hb dX11_rota_27 rfl (lv_at hl 3 rfl) ?_
          refine va_get (D := (dC, dI)) (ci := 11) (v := .int (v6 24)) (C := RX11) (T := TX11) (N := 79) hx hb hts inB_11 hown hE.1 hP 0 rfl rfl 48 (by decide) (hts _ k_1368) (fun _ h9 => h9) rfl dX11_rota_28 ?_
          refine tI (y := (v 24)) hq24_v6 ?_
          have b24_v : 0 ≤ (v 24).toInt ∧ (v 24).toInt ≤ 6 := YIb.b hIv.1 24 (by decide)
          refine lv_icmp_ge (tgt := 114) hx hb dX11_rota_31 (by decide) (fun c7 => ?_) (fun c7 => ?_)
          · skip
            have zc7 : (v 24).toInt ≤ l4_6.toInt := by rw [fa_le] at c7; exact c7
            have rg8 := fb_rng l4_6
            have rg9 := fb_rng (v 24)
            refine lv_iload_n hx hb dX11_rota_114 rfl (lv_at hl 4 rfl) ?_
            refine lv_if_ne (tgt := 122) hx hb dX11_rota_115 (by decide) (fun c10 => ?_) (fun c10 => ?_)
            · skip
              have zc10 : ¬ (p1.toInt = 0) := by rw [fa_eq, show (0 : Int32).toInt = 0 from by decide] at c10; exact c10
              refine lv_iload_n hx hb dX11_rota_122 rfl (lv_at hl 1 rfl) ?_
              exact ret l3_6 (v6, f6, w6, g6) _ _ _ _ _ _ rfl ⟨ha0_f6, hIv6, hCf6, hRf6, (show v6 0 = v 0 from hq0_v6), (show v6 1 = v 1 from hq1_v6), (show v6 2 = v 2 from hq2_v6), (show v6 3 = v 3 from hq3_v6), (show v6 4 = v 4 from hq4_v6), (show v6 5 = v 5 from hq5_v6), (show v6 8 = v 8 from hq8_v6), (show v6 9 = v 9 from hq9_v6), (show v6 10 = v 10 from hq10_v6), (show v6 13 = v 13 from hq13_v6), (show v6 14 = v 14 from hq14_v6), (show v6 15 = v 15 from hq15_v6), (show v6 17 = v 17 from hq17_v6), (show v6 18 = v 18 from hq18_v6), (show v6 24 = v 24 from hq24_v6), (show v6 25 = v 25 from hq25_v6), (show v6 35 = v 35 from hq35_v6), (show v6 36 = v 36 from hq36_v6), (show v6 38 = v 38 from hq38_v6), (show v6 39 = v 39 from hq39_v6)⟩ hP hD hS dX11_rota_123 (Nat.le_refl _) (Nat.le_refl _)
            · skip
              have zc10 : p1.toInt = 0 := by rw [fa_eq, show (0 : Int32).toInt = 0 from by decide] at c10; exact c10
              refine lv_iload_n hx hb dX11_rota_118 rfl (lv_at hl 2 rfl) ?_
              refine lv_goto (tgt := 123) hx hb dX11_rota_119 (by decide) ?_
              exact ret l2_6 (v6, f6, w6, g6) _ _ _ _ _ _ rfl ⟨ha0_f6, hIv6, hCf6, hRf6, (show v6 0 = v 0 from hq0_v6), (show v6 1 = v 1 from hq1_v6), (show v6 2 = v 2 from hq2_v6), (show v6 3 = v 3 from hq3_v6), (show v6 4 = v 4 from hq4_v6), (show v6 5 = v 5 from hq5_v6), (show v6 8 = v 8 from hq8_v6), (show v6 9 = v 9 from hq9_v6), (show v6 10 = v 10 from hq10_v6), (show v6 13 = v 13 from hq13_v6), (show v6 14 = v 14 from hq14_v6), (show v6 15 = v 15 from hq15_v6), (show v6 17 = v 17 from hq17_v6), (show v6 18 = v 18 from hq18_v6), (show v6 24 = v 24 from hq24_v6), (show v6 25 = v 25 from hq25_v6), (show v6 35 = v 35 from hq35_v6), (show v6 36 = v 36 from hq36_v6), (show v6 38 = v 38 from hq38_v6), (show v6 39 = v 39 from hq39_v6)⟩ hP hD hS dX11_rota_123 (Nat.le_refl _) (Nat.le_refl _)
          · skip
            have zc7 : ¬ ((v 24).toInt ≤ l4_6.toInt) := by rw [fa_le] at c7; exact c7
            have rg11 := fb_rng l4_6
            have rg12 := fb_rng (v 24)
            refine lv_aload_n hx hb dX11_rota_34 rfl (lv_at hl 3 rfl) ?_
            refine cbVv (n := 0) (rest := []) hx hb hml hown hts hE hP hD hS hA (sY_X11_fill_1 l dC dI cy y0 r  v6 f6 w6 g6 hIv6 hCf6 hRf6 ) k_1739 k_1741 k_71 k_114 k_1742 (by decide +kernel) ⟨Nat.le_of_ble_eq_true rfl, Nat.le_of_ble_eq_true rfl⟩ 0 11 rfl rfl (rfl) hl.1 rfl (Nat.le_of_ble_eq_true rfl) dX11_rota_35 (fun u H locs hw hP hD hS => ?_)
            obtain ⟨v13, f14, w15, g16⟩ := u
            obtain ⟨ka0_f14, hIv13, hCf14, hRf14, hk0_v13, hk1_v13, hk2_v13, hk3_v13, hk4_v13, hk5_v13, hk8_v13, hk9_v13, hk10_v13, hk13_v13, hk14_v13, hk15_v13, hk17_v13, hk18_v13, hk24_v13, hk25_v13, hk35_v13, hk36_v13, hk38_v13, hk39_v13⟩ := hw
            have ha0_f14 : f14 0 = f 0 := ka0_f14.trans ha0_f6
            have hP : va_P (dC, dI) vwCl (YW cy y0 r v13 f14 w15 g16) H := hP
            have hD : va_D A (YW cy y0 r v13 f14 w15 g16) := hD
            have hUv13 : (v13 35).toInt + (v13 36).toInt ≤ 40 := hIv13.2
            have hq0_v13 : v13 0 = (v 0) := hk0_v13.trans hq0_v6
            have hq1_v13 : v13 1 = (v 1) := hk1_v13.trans hq1_v6
            have hq2_v13 : v13 2 = (v 2) := hk2_v13.trans hq2_v6
            have hq3_v13 : v13 3 = (v 3) := hk3_v13.trans hq3_v6
            have zq3_v13 := congrArg Int32.toInt hq3_v13
            have hq4_v13 : v13 4 = (v 4) := hk4_v13.trans hq4_v6
            have zq4_v13 := congrArg Int32.toInt hq4_v13
            have hq5_v13 : v13 5 = (v 5) := hk5_v13.trans hq5_v6
            have zq5_v13 := congrArg Int32.toInt hq5_v13
            have hq8_v13 : v13 8 = (v 8) := hk8_v13.trans hq8_v6
            have hq9_v13 : v13 9 = (v 9) := hk9_v13.trans hq9_v6
            have zq9_v13 := congrArg Int32.toInt hq9_v13
            have hq10_v13 : v13 10 = (v 10) := hk10_v13.trans hq10_v6
            have hq13_v13 : v13 13 = (v 13) := hk13_v13.trans hq13_v6
            have hq14_v13 : v13 14 = (v 14) := hk14_v13.trans hq14_v6
            have hq15_v13 : v13 15 = (v 15) := hk15_v13.trans hq15_v6
            have hq17_v13 : v13 17 = (v 17) := hk17_v13.trans hq17_v6
            have hq18_v13 : v13 18 = (v 18) := hk18_v13.trans hq18_v6
            have hq24_v13 : v13 24 = (v 24) := hk24_v13.trans hq24_v6
            have hq25_v13 : v13 25 = (v 25) := hk25_v13.trans hq25_v6
            have hq35_v13 : v13 35 = (v 35) := hk35_v13.trans hq35_v6
            have zq35_v13 := congrArg Int32.toInt hq35_v13
            have hq36_v13 : v13 36 = (v 36) := hk36_v13.trans hq36_v6
            have zq36_v13 := congrArg Int32.toInt hq36_v13
            have hq38_v13 : v13 38 = (v 38) := hk38_v13.trans hq38_v6
            have hq39_v13 : v13 39 = (v 39) := hk39_v13.trans hq39_v6
            refine lv_iconst (v := 0) hx hb dX11_rota_38 (by decide) ?_
            refine lv_istore (lv' := [(5, .int 0), (4, .int l4_6), (3, .int l3_6), (2, .int l2_6), (0, .ref y0), (1, .int p1)]) hx hb dX11_rota_39 hl (by decide) rfl (fun ls hl => ?_)
            have lp17 : ∀ (n17 : Nat) (l5_17 : Int32) (v17 : Nat → Int32) (f17 : Nat → Nat → Int32) (w17 : Int64) (g17 : Nat → Int64), YI v17 → YC f17 → progOK (f17 4) (f17 5) (v17 9).toInt.toNat → v17 0 = (v 0) → v17 1 = (v 1) → v17 2 = (v 2) → v17 3 = (v 3) → v17 4 = (v 4) → v17 5 = (v 5) → v17 8 = (v 8) → v17 9 = (v 9) → v17 10 = (v 10) → v17 13 = (v 13) → v17 14 = (v 14) → v17 15 = (v 15) → v17 17 = (v 17) → v17 18 = (v 18) → v17 24 = (v 24) → v17 25 = (v 25) → v17 35 = (v 35) → v17 36 = (v 36) → v17 38 = (v 38) → v17 39 = (v 39) → ((0 : Int) ≤ l5_17.toInt ∧ l5_17.toInt ≤ 2147483647) → f17 0 = f 0 → (2147483647 - l5_17.toInt).toNat < n17 → ∀ (H : Heap) (locs : List Loc) (ls : Array Slot), va_P (dC, dI) vwCl (YW cy y0 r v17 f17 w17 g17) H → va_D A (YW cy y0 r v17 f17 w17 g17) → va_S A s.heap H locs → lv_has ls 6 [(5, .int l5_17), (4, .int l4_6), (3, .int l3_6), (2, .int l2_6), (0, .ref y0), (1, .int p1)] → W p l e { frames := 7, cells := 0, slots := 0, locals := 191 } s m ([.ref y0, .int p1] : List Value).toArray below meth c H locs 0 0 Q (F0 m 41 ls []) := by
              intro n17
              induction n17 with
              | zero => intro l5_17 v17 f17 w17 g17 hIv17 hCf17 hRf17 hq0_v17 hq1_v17 hq2_v17 hq3_v17 hq4_v17 hq5_v17 hq8_v17 hq9_v17 hq10_v17 hq13_v17 hq14_v17 hq15_v17 hq17_v17 hq18_v17 hq24_v17 hq25_v17 hq35_v17 hq36_v17 hq38_v17 hq39_v17 hr5_17 ha0_f17 hm; exact absurd hm (Nat.not_lt_zero _)
              | succ n17 ih17 =>
                intro l5_17 v17 f17 w17 g17 hIv17 hCf17 hRf17 hq0_v17 hq1_v17 hq2_v17 hq3_v17 hq4_v17 hq5_v17 hq8_v17 hq9_v17 hq10_v17 hq13_v17 hq14_v17 hq15_v17 hq17_v17 hq18_v17 hq24_v17 hq25_v17 hq35_v17 hq36_v17 hq38_v17 hq39_v17 hr5_17 ha0_f17 hm17 H locs ls hP hD hS hl
                have hUv17 : (v17 35).toInt + (v17 36).toInt ≤ 40 := hIv17.2
                have zq3_v17 := congrArg Int32.toInt hq3_v17
                have zq4_v17 := congrArg Int32.toInt hq4_v17
                have zq5_v17 := congrArg Int32.toInt hq5_v17
                have zq9_v17 := congrArg Int32.toInt hq9_v17
                have zq35_v17 := congrArg Int32.toInt hq35_v17
                have zq36_v17 := congrArg Int32.toInt hq36_v17
                refine lv_iload hx hb dX11_rota_41 (lv_at hl 0 rfl) ?_
                refine lv_aload_n hx hb dX11_rota_43 rfl (lv_at hl 4 rfl) ?_
                refine va_get (D := (dC, dI)) (ci := 11) (v := .int (v17 24)) (C := RX11) (T := TX11) (N := 79) hx hb hts inB_11 hown hE.1 hP 0 rfl rfl 48 (by decide) (hts _ k_1368) (fun _ h9 => h9) rfl dX11_rota_44 ?_
                refine tI (y := (v 24)) hq24_v17 ?_
                have b24_v : 0 ≤ (v 24).toInt ∧ (v 24).toInt ≤ 6 := YIb.b hIv.1 24 (by decide)
                refine lv_icmp_ge (tgt := 84) hx hb dX11_rota_47 (by decide) (fun c18 => ?_) (fun c18 => ?_)
                · skip
                  have zc18 : (v 24).toInt ≤ l5_17.toInt := by rw [fa_le] at c18; exact c18
                  have rg19 := fb_rng l5_17
                  refine lv_aload_n hx hb dX11_rota_84 rfl (lv_at hl 4 rfl) ?_
                  refine cbVi (n := 0) (rest := []) hx hb hml hown hts hE hP hD hS hA (sY_X11_fittedOnes_1 l dC dI cy y0 r  v17 f17 w17 g17 hIv17 hCf17 hRf17 ) k_1809 k_1811 k_81 k_114 k_1812 (by decide +kernel) ⟨Nat.le_of_ble_eq_true rfl, Nat.le_of_ble_eq_true rfl⟩ 0 11 rfl rfl (rfl) hl.1 rfl (Nat.le_of_ble_eq_true rfl) dX11_rota_85 (fun r20 u H locs hw hP hD hS => ?_)
                  obtain ⟨v21, f22, w23, g24⟩ := u
                  obtain ⟨ka0_f22, hIv21, hCf22, hRf22, hk0_v21, hk1_v21, hk2_v21, hk3_v21, hk4_v21, hk5_v21, hk8_v21, hk9_v21, hk10_v21, hk13_v21, hk14_v21, hk15_v21, hk17_v21, hk18_v21, hk24_v21, hk25_v21, hk35_v21, hk36_v21, hk38_v21, hk39_v21⟩ := hw
                  have ha0_f22 : f22 0 = f 0 := ka0_f22.trans ha0_f17
                  have hP : va_P (dC, dI) vwCl (YW cy y0 r v21 f22 w23 g24) H := hP
                  have hD : va_D A (YW cy y0 r v21 f22 w23 g24) := hD
                  have hUv21 : (v21 35).toInt + (v21 36).toInt ≤ 40 := hIv21.2
                  have hq0_v21 : v21 0 = (v 0) := hk0_v21.trans hq0_v17
                  have hq1_v21 : v21 1 = (v 1) := hk1_v21.trans hq1_v17
                  have hq2_v21 : v21 2 = (v 2) := hk2_v21.trans hq2_v17
                  have hq3_v21 : v21 3 = (v 3) := hk3_v21.trans hq3_v17
                  have zq3_v21 := congrArg Int32.toInt hq3_v21
                  have hq4_v21 : v21 4 = (v 4) := hk4_v21.trans hq4_v17
                  have zq4_v21 := congrArg Int32.toInt hq4_v21
                  have hq5_v21 : v21 5 = (v 5) := hk5_v21.trans hq5_v17
                  have zq5_v21 := congrArg Int32.toInt hq5_v21
                  have hq8_v21 : v21 8 = (v 8) := hk8_v21.trans hq8_v17
                  have hq9_v21 : v21 9 = (v 9) := hk9_v21.trans hq9_v17
                  have zq9_v21 := congrArg Int32.toInt hq9_v21
                  have hq10_v21 : v21 10 = (v 10) := hk10_v21.trans hq10_v17
                  have hq13_v21 : v21 13 = (v 13) := hk13_v21.trans hq13_v17
                  have hq14_v21 : v21 14 = (v 14) := hk14_v21.trans hq14_v17
                  have hq15_v21 : v21 15 = (v 15) := hk15_v21.trans hq15_v17
                  have hq17_v21 : v21 17 = (v 17) := hk17_v21.trans hq17_v17
                  have hq18_v21 : v21 18 = (v 18) := hk18_v21.trans hq18_v17
                  have hq24_v21 : v21 24 = (v 24) := hk24_v21.trans hq24_v17
                  have hq25_v21 : v21 25 = (v 25) := hk25_v21.trans hq25_v17
                  have hq35_v21 : v21 35 = (v 35) := hk35_v21.trans hq35_v17
                  have zq35_v21 := congrArg Int32.toInt hq35_v21
                  have hq36_v21 : v21 36 = (v 36) := hk36_v21.trans hq36_v17
                  have zq36_v21 := congrArg Int32.toInt hq36_v21
                  have hq38_v21 : v21 38 = (v 38) := hk38_v21.trans hq38_v17
                  have hq39_v21 : v21 39 = (v 39) := hk39_v21.trans hq39_v17
                  refine cbSi (n := 1) (rest := []) hx hb hml hown hts hE hP hD hS hA (sY_X11_members_1 l dC dI cy y0 r r20 v21 f22 w23 g24 hIv21 hCf22 hRf22 ) k_1900 k_1901 k_114 k_1902 (by decide +kernel) ⟨Nat.le_of_ble_eq_true rfl, Nat.le_of_ble_eq_true rfl⟩ (rfl) hl.1 rfl (Nat.le_of_ble_eq_true rfl) dX11_rota_88 (fun r25 u H locs hw hP hD hS => ?_)
                  refine lv_istore (lv' := [(5, .int r25), (4, .int l4_6), (3, .int l3_6), (2, .int l2_6), (0, .ref y0), (1, .int p1)]) hx hb dX11_rota_91 hl (by decide) rfl (fun ls hl => ?_)
                  refine lv_iload hx hb dX11_rota_93 (lv_at hl 0 rfl) ?_
                  refine lv_iload_n hx hb dX11_rota_95 rfl (lv_at hl 2 rfl) ?_
                  refine lv_icmp_gt (tgt := 102) hx hb dX11_rota_96 (by decide) (fun c26 => ?_) (fun c26 => ?_)
                  · skip
                    have zc26 : l3_6.toInt < r25.toInt := by rw [fa_lt] at c26; exact c26
                    have rg27 := fb_rng r25
                    have rg28 := fb_rng l3_6
                    refine lv_iload hx hb dX11_rota_102 (lv_at hl 1 rfl) ?_
                    refine lv_istore_n (lv' := [(2, .int l4_6), (5, .int r25), (4, .int l4_6), (3, .int l3_6), (0, .ref y0), (1, .int p1)]) hx hb dX11_rota_104 rfl hl (by decide) rfl (fun ls hl => ?_)
                    refine lv_iload hx hb dX11_rota_105 (lv_at hl 1 rfl) ?_
                    refine lv_istore_n (lv' := [(3, .int r25), (2, .int l4_6), (5, .int r25), (4, .int l4_6), (0, .ref y0), (1, .int p1)]) hx hb dX11_rota_107 rfl hl (by decide) rfl (fun ls hl => ?_)
                    obtain ⟨t29, et29⟩ : ∃ y : Int32, y = l4_6 + 1 := ⟨_, rfl⟩
                    have zt29 : t29.toInt = l4_6.toInt + 1 := by rw [et29]; exact add_i rfl (by decide) (by omega) (by omega)
                    refine lv_iinc (v := t29) (lv' := [(4, .int t29), (3, .int r25), (2, .int l4_6), (5, .int r25), (0, .ref y0), (1, .int p1)]) hx hb dX11_rota_108 hl (k := 3) rfl (by rw [et29]; rfl) (by decide) rfl (fun ls hl => ?_)
                    refine lv_goto (tgt := 25) hx hb dX11_rota_111 (by decide) ?_
                    have rg30 := fb_rng t29
                    exact ih6 l4_6 r25 t29 v21 f22 w23 g24 hIv21 hCf22 hRf22 hq0_v21 hq1_v21 hq2_v21 hq3_v21 hq4_v21 hq5_v21 hq8_v21 hq9_v21 hq10_v21 hq13_v21 hq14_v21 hq15_v21 hq17_v21 hq18_v21 hq24_v21 hq25_v21 hq35_v21 hq36_v21 hq38_v21 hq39_v21 ⟨show (0 : Int) ≤ t29.toInt by omega, show t29.toInt ≤ (2147483647 : Int) by omega⟩ ha0_f22 (by show (2147483647 - t29.toInt).toNat < n6; omega) _ _ _ hP hD hS (lv_sub hl [0, 1, 2, 4, 5] rfl)
                  · skip
                    have zc26 : ¬ (l3_6.toInt < r25.toInt) := by rw [fa_lt] at c26; exact c26
                    have rg31 := fb_rng r25
                    have rg32 := fb_rng l3_6
                    refine lv_goto (tgt := 108) hx hb dX11_rota_99 (by decide) ?_
                    obtain ⟨t33, et33⟩ : ∃ y : Int32, y = l4_6 + 1 := ⟨_, rfl⟩
                    have zt33 : t33.toInt = l4_6.toInt + 1 := by rw [et33]; exact add_i rfl (by decide) (by omega) (by omega)
                    refine lv_iinc (v := t33) (lv' := [(4, .int t33), (5, .int r25), (3, .int l3_6), (2, .int l2_6), (0, .ref y0), (1, .int p1)]) hx hb dX11_rota_108 hl (k := 1) rfl (by rw [et33]; rfl) (by decide) rfl (fun ls hl => ?_)
                    refine lv_goto (tgt := 25) hx hb dX11_rota_111 (by decide) ?_
                    have rg34 := fb_rng t33
                    exact ih6 l2_6 l3_6 t33 v21 f22 w23 g24 hIv21 hCf22 hRf22 hq0_v21 hq1_v21 hq2_v21 hq3_v21 hq4_v21 hq5_v21 hq8_v21 hq9_v21 hq10_v21 hq13_v21 hq14_v21 hq15_v21 hq17_v21 hq18_v21 hq24_v21 hq25_v21 hq35_v21 hq36_v21 hq38_v21 hq39_v21 ⟨show (0 : Int) ≤ t33.toInt by omega, show t33.toInt ≤ (2147483647 : Int) by omega⟩ ha0_f22 (by show (2147483647 - t33.toInt).toNat < n6; omega) _ _ _ hP hD hS (lv_sub hl [0, 2, 3, 4, 5] rfl)
                · skip
                  have zc18 : ¬ ((v 24).toInt ≤ l5_17.toInt) := by rw [fa_le] at c18; exact c18
                  have rg35 := fb_rng l5_17
                  refine lv_aload_n hx hb dX11_rota_50 rfl (lv_at hl 4 rfl) ?_
                  refine va_get (D := (dC, dI)) (ci := 11) (v := .ref (r 60)) (C := RX11) (T := TX11) (N := 79) hx hb hts inB_11 hown hE.1 hP 0 rfl rfl 60 (by decide) (hts _ k_1380) (fun _ h9 => h9) rfl dX11_rota_51 ?_
                  refine lv_bipush (v := 6) hx hb dX11_rota_54 (by decide) ?_
                  refine lv_iload hx hb dX11_rota_56 (lv_at hl 0 rfl) ?_
                  refine lv_iadd hx hb dX11_rota_58 ?_
                  refine lv_topi (fun t36 et36 => ?_)
                  have zt36 : t36.toInt = 6 + l5_17.toInt := by rw [et36]; exact add_i (by decide) rfl (by omega) (by omega)
                  refine lv_aload_n hx hb dX11_rota_59 rfl (lv_at hl 4 rfl) ?_
                  refine va_get (D := (dC, dI)) (ci := 11) (v := .ref (r 59)) (C := RX11) (T := TX11) (N := 79) hx hb hts inB_11 hown hE.1 hP 0 rfl rfl 59 (by decide) (hts _ k_1379) (fun _ h9 => h9) rfl dX11_rota_60 ?_
                  refine lv_bipush (v := 6) hx hb dX11_rota_63 (by decide) ?_
                  refine lv_iload hx hb dX11_rota_65 (lv_at hl 0 rfl) ?_
                  refine lv_iload hx hb dX11_rota_67 (lv_at hl 1 rfl) ?_
                  refine lv_iadd hx hb dX11_rota_69 ?_
                  refine lv_topi (fun t37 et37 => ?_)
                  have zt37 : t37.toInt = l5_17.toInt + l4_6.toInt := by rw [et37]; exact add_i rfl rfl (by omega) (by omega)
                  refine lv_aload_n hx hb dX11_rota_70 rfl (lv_at hl 4 rfl) ?_
                  refine va_get (D := (dC, dI)) (ci := 11) (v := .int (v17 24)) (C := RX11) (T := TX11) (N := 79) hx hb hts inB_11 hown hE.1 hP 0 rfl rfl 48 (by decide) (hts _ k_1368) (fun _ h9 => h9) rfl dX11_rota_71 ?_
                  refine tI (y := (v 24)) hq24_v17 ?_
                  refine lv_irem hx hb dX11_rota_74 (ne0 (by omega)) ?_
                  refine lv_topi (fun t38 et38 => ?_)
                  have zt38 : 0 ≤ t38.toInt ∧ t38.toInt < (v 24).toInt := by rw [et38]; exact rem_rng (zx := t37.toInt) (zy := (v 24).toInt) rfl rfl (by omega) (by omega)
                  refine lv_iadd hx hb dX11_rota_75 ?_
                  refine lv_topi (fun t39 et39 => ?_)
                  have rg40 := fb_rng t38
                  have zt39 : t39.toInt = 6 + t38.toInt := by rw [et39]; exact add_i (by decide) rfl (by omega) (by omega)
                  refine ldI hx hb hE hP 24 rfl (vp_in_iff.mpr ⟨by omega, by omega⟩) rfl rfl dX11_rota_76 ?_
                  refine lv_topi (fun t41 et41 => ?_)
                  have zt41 : t39.toInt.toNat % 39 < 6 ∨ 12 ≤ t39.toInt.toNat % 39 ∨ (-1 ≤ t41.toInt ∧ t41.toInt ≤ 5) := by rw [et41]; exact wear_ld hCf17.1 (show t39.toInt.toNat < 39 by omega)
                  refine stI hx hb hE hP hD hS 25 rfl (vp_in_iff.mpr ⟨by omega, by omega⟩) rfl dX11_rota_77 (fun H locs hP hD hS => ?_)
                  obtain ⟨f42, ef42, hP, hD⟩ : ∃ fz9, fz9 = upd2 f17 24 (upd (f17 24) t36.toNatClampNeg t41) ∧ va_P (dC, dI) vwCl (YW cy y0 r v17 fz9 w17 g17) H ∧ va_D A (YW cy y0 r v17 fz9 w17 g17) := ⟨_, rfl, hP, hD⟩
                  have hCf42 : YC f42 := by rw [ef42]; exact ⟨hCf17.1, (wear_st hCf17.2.1 (by show t36.toInt.toNat % 39 < 6 ∨ 12 ≤ t36.toInt.toNat % 39 ∨ (-1 ≤ t41.toInt ∧ t41.toInt ≤ 5); omega)), hCf17.2.2.1, hCf17.2.2.2.1, hCf17.2.2.2.2.1, hCf17.2.2.2.2.2⟩
                  have hRf42 : progOK (f42 4) (f42 5) (v17 9).toInt.toNat := by rw [ef42]; exact hRf17
                  have ha0_f42 : f42 0 = f 0 := by rw [ef42]; exact ha0_f17
                  obtain ⟨t43, et43⟩ : ∃ y : Int32, y = l5_17 + 1 := ⟨_, rfl⟩
                  have zt43 : t43.toInt = l5_17.toInt + 1 := by rw [et43]; exact add_i rfl (by decide) (by omega) (by omega)
                  refine lv_iinc (v := t43) (lv' := [(5, .int t43), (4, .int l4_6), (3, .int l3_6), (2, .int l2_6), (0, .ref y0), (1, .int p1)]) hx hb dX11_rota_78 hl (k := 0) rfl (by rw [et43]; rfl) (by decide) rfl (fun ls hl => ?_)
                  refine lv_goto (tgt := 41) hx hb dX11_rota_81 (by decide) ?_
                  have rg44 := fb_rng t43
                  exact ih17 t43 v17 f42 w17 g17 hIv17 hCf42 hRf42 hq0_v17 hq1_v17 hq2_v17 hq3_v17 hq4_v17 hq5_v17 hq8_v17 hq9_v17 hq10_v17 hq13_v17 hq14_v17 hq15_v17 hq17_v17 hq18_v17 hq24_v17 hq25_v17 hq35_v17 hq36_v17 hq38_v17 hq39_v17 ⟨show (0 : Int) ≤ t43.toInt by omega, show t43.toInt ≤ (2147483647 : Int) by omega⟩ ha0_f42 (by show (2147483647 - t43.toInt).toNat < n17; omega) _ _ _ hP hD hS (lv_sub hl [0, 1, 2, 3, 4, 5] rfl)
            exact lp17 _ 0 v13 f14 w15 g16 hIv13 hCf14 hRf14 hq0_v13 hq1_v13 hq2_v13 hq3_v13 hq4_v13 hq5_v13 hq8_v13 hq9_v13 hq10_v13 hq13_v13 hq14_v13 hq15_v13 hq17_v13 hq18_v13 hq24_v13 hq25_v13 hq35_v13 hq36_v13 hq38_v13 hq39_v13 ⟨by decide, by decide⟩ ha0_f14 (Nat.lt_succ_self _) _ _ _ hP hD hS (lv_sub hl [0, 1, 2, 3, 4, 5] rfl)
      exact lp6 _ 0 (-1) 0 v f w g hIv hCf hRf rfl rfl rfl rfl rfl rfl rfl rfl rfl rfl rfl rfl rfl rfl rfl rfl rfl rfl rfl rfl ⟨by decide, by decide⟩ ha0_f (Nat.lt_succ_self _) _ _ _ hP hD hS (lv_sub hl [0, 1, 2, 3, 4] rfl)
    · skip
      have zc5 : (v 24).toInt = 0 := by rw [fa_eq, show (0 : Int32).toInt = 0 from by decide] at c5; exact c5
      refine lv_iconst (v := (-1)) hx hb dX11_rota_16 (by decide) ?_
      exact ret (-1) (v, f, w, g) _ _ _ _ _ _ rfl ⟨ha0_f, hIv, hCf, hRf, rfl, rfl, rfl, rfl, rfl, rfl, rfl, rfl, rfl, rfl, rfl, rfl, rfl, rfl, rfl, rfl, rfl, rfl, rfl, rfl⟩ hP hD hS dX11_rota_17 (Nat.le_refl _) (Nat.le_refl _)
  · skip
    subst g4
    refine lv_if_eq (tgt := 16) hx hb dX11_rota_6 (by decide) (fun _ => ?_) (fun c0 => absurd (by decide) c0)
    refine lv_iconst (v := (-1)) hx hb dX11_rota_16 (by decide) ?_
    exact ret (-1) (v, f, w, g) _ _ _ _ _ _ rfl ⟨ha0_f, hIv, hCf, hRf, rfl, rfl, rfl, rfl, rfl, rfl, rfl, rfl, rfl, rfl, rfl, rfl, rfl, rfl, rfl, rfl, rfl, rfl, rfl, rfl⟩ hP hD hS dX11_rota_17 (Nat.le_refl _) (Nat.le_refl _)
