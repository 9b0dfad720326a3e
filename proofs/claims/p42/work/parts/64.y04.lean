set_option maxHeartbeats 4000000 in
set_option maxRecDepth 100000 in
theorem sY_X11_illOfRow_1 (l : Launch) (dC : Nat → ClassId) (dI : Nat → Nat → Nat) (cy : Nat → ClassId) (y0 : Nat) (r : Nat → Nat)  (v : Nat → Int32) (f : Nat → Nat → Int32) (w : Int64) (g : Nat → Int64) (hIv : YI v) (hCf : YC f) (hRf : progOK (f 4) (f 5) (v 9).toInt.toNat)  : ctI l (dC, dI) cy yX11_illOfRow cX11_illOfRow 3 .int 1 60 0 0 Unit [.ref y0] (YW cy y0 r v f w g) (fun r u => True) (fun u => YW cy y0 r v f w g) := by
  refine ctI_of (by decide) (Nat.le_of_ble_eq_true rfl) (fun p e s m below meth c A ls Q hx hb hml hts hown hE hP hD hA hl ret => ?_)
  have hUv : (v 35).toInt + (v 36).toInt ≤ 40 := hIv.2
  have hown : s.vm.findClass RX11 = some m.cls := hown
  have hS : va_S A s.heap s.heap [] := va_S.rf
  have hl : lv_has ls 3 [(0, .ref y0)] := hl
  refine lv_iconst (v := 0) hx hb dX11_illOfRow_0 (by decide) ?_
  refine lv_istore_n (lv' := [(1, .int 0), (0, .ref y0)]) hx hb dX11_illOfRow_1 rfl hl (by decide) rfl (fun ls hl => ?_)
  refine lv_iconst (v := 0) hx hb dX11_illOfRow_2 (by decide) ?_
  refine lv_istore_n (lv' := [(2, .int 0), (1, .int 0), (0, .ref y0)]) hx hb dX11_illOfRow_3 rfl hl (by decide) rfl (fun ls hl => ?_)
  have lp1 : ∀ (n1 : Nat) (l1_1 : Int32) (l2_1 : Int32), ((0 : Int) ≤ l2_1.toInt ∧ l2_1.toInt ≤ 2147483647) → (2147483647 - l2_1.toInt).toNat < n1 → ∀ (H : Heap) (locs : List Loc) (ls : Array Slot), va_P (dC, dI) vwCl (YW cy y0 r v f w g) H → va_D A (YW cy y0 r v f w g) → va_S A s.heap H locs → lv_has ls 3 [(2, .int l2_1), (1, .int l1_1), (0, .ref y0)] → W p l e { frames := 1, cells := 0, slots := 0, locals := 60 } s m ([.ref y0] : List Value).toArray below meth c H locs 0 0 Q (F0 m 4 ls []) := by
    intro n1
    induction n1 with
    | zero => intro l1_1 l2_1 hr2_1 hm; exact absurd hm (Nat.not_lt_zero _)
    | succ n1 ih1 =>
      intro l1_1 l2_1 hr2_1 hm1 H locs ls hP hD hS hl
      refine lv_iload_n hx hb dX11_illOfRow_4 rfl (lv_at hl 0 rfl) ?_
      refine lv_aload_n hx hb dX11_illOfRow_5 rfl (lv_at hl 2 rfl) ?_
      refine va_get (D := (dC, dI)) (ci := 11) (v := .int (v 24)) (C := RX11) (T := TX11) (N := 79) hx hb hts inB_11 hown hE.1 hP 0 rfl rfl 48 (by decide) (hts _ k_1368) (fun _ h9 => h9) rfl dX11_illOfRow_6 ?_
      have b24_v : 0 ≤ (v 24).toInt ∧ (v 24).toInt ≤ 6 := YIb.b hIv.1 24 (by decide)
      refine lv_icmp_ge (tgt := 50) hx hb dX11_illOfRow_9 (by decide) (fun c2 => ?_) (fun c2 => ?_)
      · skip
        have zc2 : (v 24).toInt ≤ l2_1.toInt := by rw [fa_le] at c2; exact c2
        have rg3 := fb_rng l2_1
        have rg4 := fb_rng (v 24)
        refine lv_iload_n hx hb dX11_illOfRow_50 rfl (lv_at hl 1 rfl) ?_
        exact ret l1_1 () _ _ _ _ _ _ rfl trivial hP hD hS dX11_illOfRow_51 (Nat.le_refl _) (Nat.le_refl _)
      · skip
        have zc2 : ¬ ((v 24).toInt ≤ l2_1.toInt) := by rw [fa_le] at c2; exact c2
        have rg5 := fb_rng l2_1
        have rg6 := fb_rng (v 24)
        refine lv_iload_n hx hb dX11_illOfRow_12 rfl (lv_at hl 1 rfl) ?_
        refine lv_aload_n hx hb dX11_illOfRow_13 rfl (lv_at hl 2 rfl) ?_
        refine va_get (D := (dC, dI)) (ci := 11) (v := .ref (r 65)) (C := RX11) (T := TX11) (N := 79) hx hb hts inB_11 hown hE.1 hP 0 rfl rfl 65 (by decide) (hts _ k_1385) (fun _ h9 => h9) rfl dX11_illOfRow_14 ?_
        refine lv_iload_n hx hb dX11_illOfRow_17 rfl (lv_at hl 0 rfl) ?_
        refine ldI hx hb hE hP 28 rfl (vp_in_iff.mpr ⟨by omega, by omega⟩) rfl rfl dX11_illOfRow_18 ?_
        refine lv_topi (fun t7 et7 => ?_)
        have zt7 : -1 ≤ t7.toInt ∧ t7.toInt ≤ 5 := by rw [et7]; exact hCf.2.2.2.1 l2_1.toInt.toNat (show l2_1.toInt.toNat < 6 by omega)
        refine lv_if_ge (tgt := 26) hx hb dX11_illOfRow_19 (by decide) (fun c8 => ?_) (fun c8 => ?_)
        · skip
          have zc8 : 0 ≤ t7.toInt := by rw [fa_le, show (0 : Int32).toInt = 0 from by decide] at c8; exact c8
          refine lv_aload_n hx hb dX11_illOfRow_26 rfl (lv_at hl 2 rfl) ?_
          refine va_get (D := (dC, dI)) (ci := 11) (v := .ref (r 66)) (C := RX11) (T := TX11) (N := 79) hx hb hts inB_11 hown hE.1 hP 0 rfl rfl 66 (by decide) (hts _ k_1386) (fun _ h9 => h9) rfl dX11_illOfRow_27 ?_
          refine lv_bipush (v := 6) hx hb dX11_illOfRow_30 (by decide) ?_
          refine lv_iload_n hx hb dX11_illOfRow_32 rfl (lv_at hl 0 rfl) ?_
          refine lv_imul hx hb dX11_illOfRow_33 ?_
          refine lv_topi (fun t9 et9 => ?_)
          have zt9 : t9.toInt = 6 * l2_1.toInt := by rw [et9]; exact mul_i (by decide) rfl (by omega) (by omega)
          refine lv_aload_n hx hb dX11_illOfRow_34 rfl (lv_at hl 2 rfl) ?_
          refine va_get (D := (dC, dI)) (ci := 11) (v := .ref (r 65)) (C := RX11) (T := TX11) (N := 79) hx hb hts inB_11 hown hE.1 hP 0 rfl rfl 65 (by decide) (hts _ k_1385) (fun _ h9 => h9) rfl dX11_illOfRow_35 ?_
          refine lv_iload_n hx hb dX11_illOfRow_38 rfl (lv_at hl 0 rfl) ?_
          refine ldI hx hb hE hP 28 rfl (vp_in_iff.mpr ⟨by omega, by omega⟩) rfl rfl dX11_illOfRow_39 ?_
          refine tI (y := t7) et7.symm ?_
          refine lv_iadd hx hb dX11_illOfRow_40 ?_
          refine lv_topi (fun t10 et10 => ?_)
          have rg11 := fb_rng t9
          have rg12 := fb_rng t7
          have zt10 : t10.toInt = t9.toInt + t7.toInt := by rw [et10]; exact add_i rfl rfl (by omega) (by omega)
          refine ldI hx hb hE hP 29 rfl (vp_in_iff.mpr ⟨by omega, by omega⟩) rfl rfl dX11_illOfRow_41 ?_
          refine lv_topi (fun t13 et13 => ?_)
          refine lv_iadd hx hb dX11_illOfRow_42 ?_
          refine lv_topi (fun t14 et14 => ?_)
          refine lv_istore_n (lv' := [(1, .int t14), (2, .int l2_1), (0, .ref y0)]) hx hb dX11_illOfRow_43 rfl hl (by decide) rfl (fun ls hl => ?_)
          obtain ⟨t15, et15⟩ : ∃ y : Int32, y = l2_1 + 1 := ⟨_, rfl⟩
          have zt15 : t15.toInt = l2_1.toInt + 1 := by rw [et15]; exact add_i rfl (by decide) (by omega) (by omega)
          refine lv_iinc (v := t15) (lv' := [(2, .int t15), (1, .int t14), (0, .ref y0)]) hx hb dX11_illOfRow_44 hl (k := 1) rfl (by rw [et15]; rfl) (by decide) rfl (fun ls hl => ?_)
          refine lv_goto (tgt := 4) hx hb dX11_illOfRow_47 (by decide) ?_
          have rg16 := fb_rng t15
          exact ih1 t14 t15 ⟨show (0 : Int) ≤ t15.toInt by omega, show t15.toInt ≤ (2147483647 : Int) by omega⟩ (by show (2147483647 - t15.toInt).toNat < n1; omega) _ _ _ hP hD hS (lv_sub hl [0, 1, 2] rfl)
        · skip
          have zc8 : ¬ (0 ≤ t7.toInt) := by rw [fa_le, show (0 : Int32).toInt = 0 from by decide] at c8; exact c8
          refine lv_iconst (v := 0) hx hb dX11_illOfRow_22 (by decide) ?_
          refine lv_goto (tgt := 42) hx hb dX11_illOfRow_23 (by decide) ?_
          refine lv_iadd hx hb dX11_illOfRow_42 ?_
          refine lv_topi (fun t17 et17 => ?_)
          have rg18 := fb_rng l1_1
          have zt17 : t17.toInt = l1_1.toInt + 0 := by rw [et17]; exact add_i rfl (by decide) (by omega) (by omega)
          refine lv_istore_n (lv' := [(1, .int t17), (2, .int l2_1), (0, .ref y0)]) hx hb dX11_illOfRow_43 rfl hl (by decide) rfl (fun ls hl => ?_)
          obtain ⟨t19, et19⟩ : ∃ y : Int32, y = l2_1 + 1 := ⟨_, rfl⟩
          have zt19 : t19.toInt = l2_1.toInt + 1 := by rw [et19]; exact add_i rfl (by decide) (by omega) (by omega)
          refine lv_iinc (v := t19) (lv' := [(2, .int t19), (1, .int t17), (0, .ref y0)]) hx hb dX11_illOfRow_44 hl (k := 1) rfl (by rw [et19]; rfl) (by decide) rfl (fun ls hl => ?_)
          refine lv_goto (tgt := 4) hx hb dX11_illOfRow_47 (by decide) ?_
          have rg20 := fb_rng t19
          exact ih1 t17 t19 ⟨show (0 : Int) ≤ t19.toInt by omega, show t19.toInt ≤ (2147483647 : Int) by omega⟩ (by show (2147483647 - t19.toInt).toNat < n1; omega) _ _ _ hP hD hS (lv_sub hl [0, 1, 2] rfl)
  exact lp1 _ 0 0 ⟨by decide, by decide⟩ (Nat.lt_succ_self _) _ _ _ hP hD hS (lv_sub hl [0, 1, 2] rfl)
set_option maxHeartbeats 4000000 in
set_option maxRecDepth 100000 in
theorem sY_X11_dress_1 (l : Launch) (dC : Nat → ClassId) (dI : Nat → Nat → Nat) (cy : Nat → ClassId) (y0 : Nat) (r : Nat → Nat) (p1 : Int32) (v : Nat → Int32) (f : Nat → Nat → Int32) (w : Int64) (g : Nat → Int64) (hIv : YI v) (hCf : YC f) (hRf : progOK (f 4) (f 5) (v 9).toInt.toNat)  : ctI l (dC, dI) cy yX11_dress cX11_dress 7 .int 5 148 0 0 ((Nat → Int32) × (Nat → Nat → Int32) × (Int64) × (Nat → Int64)) [.ref y0, .int p1] (YW cy y0 r v f w g) (fun r u => YI u.1 ∧ YC u.2.1 ∧ progOK (u.2.1 4) (u.2.1 5) (u.1 9).toInt.toNat ∧ u.1 0 = v 0 ∧ u.1 3 = v 3 ∧ u.1 4 = v 4 ∧ u.1 8 = v 8 ∧ u.1 9 = v 9 ∧ u.1 10 = v 10 ∧ u.1 24 = v 24 ∧ u.1 25 = v 25 ∧ u.1 35 = v 35 ∧ u.1 36 = v 36 ∧ u.1 38 = v 38 ∧ u.1 39 = v 39) (fun u => YW cy y0 r u.1 u.2.1 u.2.2.1 u.2.2.2) := by
  refine ctI_of (by decide) (Nat.le_of_ble_eq_true rfl) (fun p e s m below meth c A ls Q hx hb hml hts hown hE hP hD hA hl ret => ?_)
  have hUv : (v 35).toInt + (v 36).toInt ≤ 40 := hIv.2
  have hown : s.vm.findClass RX11 = some m.cls := hown
  have hS : va_S A s.heap s.heap [] := va_S.rf
  have hl : lv_has ls 7 [(0, .ref y0), (1, .int p1)] := hl
  refine lv_iload_n hx hb dX11_dress_0 rfl (lv_at hl 1 rfl) ?_
  refine lv_iconst (v := 0) hx hb dX11_dress_1 (by decide) ?_
  refine lv_iconst (v := 1) hx hb dX11_dress_2 (by decide) ?_
  have lt1 : (0 : Int32).toInt = 0 := by decide
  have lt2 : (1 : Int32).toInt = 1 := by decide
  refine cbSi (n := 3) (rest := []) hx hb hml hown hts hE hP hD hS hA (sY_X11_isIn_1 l dC dI cy y0 r p1 0 1 v f w g hIv hCf hRf ) k_1736 k_1737 k_114 k_1738 (by decide +kernel) ⟨Nat.le_of_ble_eq_true rfl, Nat.le_of_ble_eq_true rfl⟩ (rfl) hl.1 rfl (Nat.le_of_ble_eq_true rfl) dX11_dress_3 (fun r3 u H locs hw hP hD hS => ?_)
  rcases hw with ⟨g4, g4_0, g4_1⟩ | ⟨g4⟩
  · skip
    subst g4
    refine lv_if_ne (tgt := 11) hx hb dX11_dress_6 (by decide) (fun _ => ?_) (fun c0 => absurd c0 (by decide))
    refine lv_aload_n hx hb dX11_dress_11 rfl (lv_at hl 0 rfl) ?_
    refine cbVv (n := 0) (rest := []) hx hb hml hown hts hE hP hD hS hA (sY_X11_layIlls_1 l dC dI cy y0 r  v f w g hIv hCf hRf ) k_1873 k_1875 k_84 k_114 k_1876 (by decide +kernel) ⟨Nat.le_of_ble_eq_true rfl, Nat.le_of_ble_eq_true rfl⟩ 0 11 rfl rfl (rfl) hl.1 rfl (Nat.le_of_ble_eq_true rfl) dX11_dress_12 (fun u H locs hw hP hD hS => ?_)
    obtain ⟨v5, f6, w7, g8⟩ := u
    obtain ⟨hIv5, hCf6, hRf6, hk0_v5, hk3_v5, hk4_v5, hk8_v5, hk9_v5, hk10_v5, hk24_v5, hk25_v5, hk35_v5, hk36_v5, hk38_v5, hk39_v5⟩ := hw
    have hP : va_P (dC, dI) vwCl (YW cy y0 r v5 f6 w7 g8) H := hP
    have hD : va_D A (YW cy y0 r v5 f6 w7 g8) := hD
    have hUv5 : (v5 35).toInt + (v5 36).toInt ≤ 40 := hIv5.2
    have hq0_v5 : v5 0 = (v 0) := hk0_v5
    have hq3_v5 : v5 3 = (v 3) := hk3_v5
    have hq4_v5 : v5 4 = (v 4) := hk4_v5
    have hq8_v5 : v5 8 = (v 8) := hk8_v5
    have hq9_v5 : v5 9 = (v 9) := hk9_v5
    have zq9_v5 := congrArg Int32.toInt hq9_v5
    have hq10_v5 : v5 10 = (v 10) := hk10_v5
    have hq24_v5 : v5 24 = (v 24) := hk24_v5
    have hq25_v5 : v5 25 = (v 25) := hk25_v5
    have hq35_v5 : v5 35 = (v 35) := hk35_v5
    have zq35_v5 := congrArg Int32.toInt hq35_v5
    have hq36_v5 : v5 36 = (v 36) := hk36_v5
    have zq36_v5 := congrArg Int32.toInt hq36_v5
    have hq38_v5 : v5 38 = (v 38) := hk38_v5
    have hq39_v5 : v5 39 = (v 39) := hk39_v5
    refine lv_iconst (v := (-1)) hx hb dX11_dress_15 (by decide) ?_
    refine lv_istore_n (lv' := [(2, .int (-1)), (0, .ref y0), (1, .int p1)]) hx hb dX11_dress_16 rfl hl (by decide) rfl (fun ls hl => ?_)
    refine lv_iconst (v := 0) hx hb dX11_dress_17 (by decide) ?_
    refine lv_istore_n (lv' := [(3, .int 0), (2, .int (-1)), (0, .ref y0), (1, .int p1)]) hx hb dX11_dress_18 rfl hl (by decide) rfl (fun ls hl => ?_)
    refine lv_iconst (v := 0) hx hb dX11_dress_19 (by decide) ?_
    refine lv_istore (lv' := [(4, .int 0), (3, .int 0), (2, .int (-1)), (0, .ref y0), (1, .int p1)]) hx hb dX11_dress_20 hl (by decide) rfl (fun ls hl => ?_)
    have lp9 : ∀ (n9 : Nat) (l2_9 : Int32) (l3_9 : Int32) (l4_9 : Int32) (v9 : Nat → Int32) (f9 : Nat → Nat → Int32) (w9 : Int64) (g9 : Nat → Int64), YI v9 → YC f9 → progOK (f9 4) (f9 5) (v9 9).toInt.toNat → v9 0 = (v 0) → v9 3 = (v 3) → v9 4 = (v 4) → v9 8 = (v 8) → v9 9 = (v 9) → v9 10 = (v 10) → v9 24 = (v 24) → v9 25 = (v 25) → v9 35 = (v 35) → v9 36 = (v 36) → v9 38 = (v 38) → v9 39 = (v 39) → ((0 : Int) ≤ l4_9.toInt ∧ l4_9.toInt ≤ 2147483647) → (2147483647 - l4_9.toInt).toNat < n9 → ∀ (H : Heap) (locs : List Loc) (ls : Array Slot), va_P (dC, dI) vwCl (YW cy y0 r v9 f9 w9 g9) H → va_D A (YW cy y0 r v9 f9 w9 g9) → va_S A s.heap H locs → lv_has ls 7 [(4, .int l4_9), (3, .int l3_9), (2, .int l2_9), (0, .ref y0), (1, .int p1)] → W p l e { frames := 5, cells := 0, slots := 0, locals := 148 } s m ([.ref y0, .int p1] : List Value).toArray below meth c H locs 0 0 Q (F0 m 22 ls []) := by
      intro n9
      induction n9 with
      | zero => intro l2_9 l3_9 l4_9 v9 f9 w9 g9 hIv9 hCf9 hRf9 hq0_v9 hq3_v9 hq4_v9 hq8_v9 hq9_v9 hq10_v9 hq24_v9 hq25_v9 hq35_v9 hq36_v9 hq38_v9 hq39_v9 hr4_9 hm; exact absurd hm (Nat.not_lt_zero _)
      | succ n9 ih9 =>
        intro l2_9 l3_9 l4_9 v9 f9 w9 g9 hIv9 hCf9 hRf9 hq0_v9 hq3_v9 hq4_v9 hq8_v9 hq9_v9 hq10_v9 hq24_v9 hq25_v9 hq35_v9 hq36_v9 hq38_v9 hq39_v9 hr4_9 hm9 H locs ls hP hD hS hl
        have hUv9 : (v9 35).toInt + (v9 36).toInt ≤ 40 := hIv9.2
        have zq9_v9 := congrArg Int32.toInt hq9_v9
        have zq35_v9 := congrArg Int32.toInt hq35_v9
        have zq36_v9 := congrArg Int32.toInt hq36_v9
        refine lv_iload hx hb dX11_dress_22 (lv_at hl 0 rfl) ?_
        refine lv_aload_n hx hb dX11_dress_24 rfl (lv_at hl 3 rfl) ?_
        refine va_get (D := (dC, dI)) (ci := 11) (v := .int (v9 25)) (C := RX11) (T := TX11) (N := 79) hx hb hts inB_11 hown hE.1 hP 0 rfl rfl 49 (by decide) (hts _ k_1369) (fun _ h9 => h9) rfl dX11_dress_25 ?_
        refine tI (y := (v 25)) hq25_v9 ?_
        have b25_v : 0 ≤ (v 25).toInt ∧ (v 25).toInt ≤ 6 := YIb.b hIv.1 25 (by decide)
        refine lv_iconst (v := 1) hx hb dX11_dress_28 (by decide) ?_
        refine lv_iadd hx hb dX11_dress_29 ?_
        refine lv_topi (fun t10 et10 => ?_)
        have rg11 := fb_rng (v 25)
        have zt10 : t10.toInt = (v 25).toInt + 1 := by rw [et10]; exact add_i rfl (by decide) (by omega) (by omega)
        refine lv_aload_n hx hb dX11_dress_30 rfl (lv_at hl 3 rfl) ?_
        refine va_get (D := (dC, dI)) (ci := 11) (v := .int (v9 24)) (C := RX11) (T := TX11) (N := 79) hx hb hts inB_11 hown hE.1 hP 0 rfl rfl 48 (by decide) (hts _ k_1368) (fun _ h9 => h9) rfl dX11_dress_31 ?_
        refine tI (y := (v 24)) hq24_v9 ?_
        have b24_v : 0 ≤ (v 24).toInt ∧ (v 24).toInt ≤ 6 := YIb.b hIv.1 24 (by decide)
        refine cbSi (n := 2) (rest := [.int l4_9]) hx hb hml hown hts hE hP hD hS hA (sY_X11_power_1 l dC dI cy y0 r t10 (v 24) v9 f9 w9 g9 hIv9 hCf9 hRf9 ) k_1877 k_1878 k_114 k_1879 (by decide +kernel) ⟨Nat.le_of_ble_eq_true rfl, Nat.le_of_ble_eq_true rfl⟩ (rfl) hl.1 rfl (Nat.le_of_ble_eq_true rfl) dX11_dress_34 (fun r12 u H locs hw hP hD hS => ?_)
        refine lv_icmp_ge (tgt := 122) hx hb dX11_dress_37 (by decide) (fun c13 => ?_) (fun c13 => ?_)
        · skip
          have zc13 : r12.toInt ≤ l4_9.toInt := by rw [fa_le] at c13; exact c13
          have rg14 := fb_rng l4_9
          have rg15 := fb_rng r12
          refine lv_aload_n hx hb dX11_dress_122 rfl (lv_at hl 3 rfl) ?_
          refine lv_aload_n hx hb dX11_dress_123 rfl (lv_at hl 3 rfl) ?_
          refine va_get (D := (dC, dI)) (ci := 11) (v := .int (v9 24)) (C := RX11) (T := TX11) (N := 79) hx hb hts inB_11 hown hE.1 hP 0 rfl rfl 48 (by decide) (hts _ k_1368) (fun _ h9 => h9) rfl dX11_dress_124 ?_
          refine tI (y := (v 24)) hq24_v9 ?_
          refine va_put (D := (dC, dI)) (ci := 11) (v := .int (v 24)) (ty := tyX11 67) (C := RX11) (T := TX11) (N := 79) hx hb hts inB_11 tyX11 tyX11_ok nmX11 hown hE.1 hP hD hS 0 rfl rfl 67 (by decide) (hts _ k_1387) (fun _ h9 => h9) rfl (tyX11_ok 67 (by decide)) rfl rfl (Nat.le_of_ble_eq_true rfl) dX11_dress_127 (fun H locs hP hD hS => ?_)
          have hP : va_P (dC, dI) vwCl (YW cy y0 r (upd v9 37 (v 24)) f9 w9 g9) H := hP
          have hD : va_D A (YW cy y0 r (upd v9 37 (v 24)) f9 w9 g9) := hD
          refine lv_iload_n hx hb dX11_dress_130 rfl (lv_at hl 4 rfl) ?_
          refine lv_if_ne (tgt := 138) hx hb dX11_dress_131 (by decide) (fun c16 => ?_) (fun c16 => ?_)
          · skip
            have zc16 : ¬ (p1.toInt = 0) := by rw [fa_eq, show (0 : Int32).toInt = 0 from by decide] at c16; exact c16
            refine lv_iload_n hx hb dX11_dress_138 rfl (lv_at hl 1 rfl) ?_
            exact ret l3_9 ((upd v9 37 (v 24)), f9, w9, g9) _ _ _ _ _ _ rfl ⟨⟨(YIb.upd (j := 37) (x := (v 24)) hIv9.1 (show (0 : Int) ≤ (v 24).toInt by omega) (show (v 24).toInt ≤ (6 : Int) by omega)), hIv9.2⟩, hCf9, hRf9, hq0_v9, hq3_v9, hq4_v9, hq8_v9, hq9_v9, hq10_v9, hq24_v9, hq25_v9, hq35_v9, hq36_v9, hq38_v9, hq39_v9⟩ hP hD hS dX11_dress_139 (Nat.le_refl _) (Nat.le_refl _)
          · skip
            have zc16 : p1.toInt = 0 := by rw [fa_eq, show (0 : Int32).toInt = 0 from by decide] at c16; exact c16
            refine lv_iload_n hx hb dX11_dress_134 rfl (lv_at hl 2 rfl) ?_
            refine lv_goto (tgt := 139) hx hb dX11_dress_135 (by decide) ?_
            exact ret l2_9 ((upd v9 37 (v 24)), f9, w9, g9) _ _ _ _ _ _ rfl ⟨⟨(YIb.upd (j := 37) (x := (v 24)) hIv9.1 (show (0 : Int) ≤ (v 24).toInt by omega) (show (v 24).toInt ≤ (6 : Int) by omega)), hIv9.2⟩, hCf9, hRf9, hq0_v9, hq3_v9, hq4_v9, hq8_v9, hq9_v9, hq10_v9, hq24_v9, hq25_v9, hq35_v9, hq36_v9, hq38_v9, hq39_v9⟩ hP hD hS dX11_dress_139 (Nat.le_refl _) (Nat.le_refl _)
        · skip
          have zc13 : ¬ (r12.toInt ≤ l4_9.toInt) := by rw [fa_le] at c13; exact c13
          have rg17 := fb_rng l4_9
          have rg18 := fb_rng r12
          refine lv_aload_n hx hb dX11_dress_40 rfl (lv_at hl 3 rfl) ?_
          refine lv_iload hx hb dX11_dress_41 (lv_at hl 0 rfl) ?_
          refine cbVi (n := 1) (rest := []) hx hb hml hown hts hE hP hD hS hA (sY_X11_layDress_1 l dC dI cy y0 r l4_9 v9 f9 w9 g9 hIv9 hCf9 hRf9 ⟨show (0 : Int) ≤ l4_9.toInt by omega, show l4_9.toInt ≤ (2147483647 : Int) by omega⟩) k_1880 k_1882 k_85 k_114 k_1883 (by decide +kernel) ⟨Nat.le_of_ble_eq_true rfl, Nat.le_of_ble_eq_true rfl⟩ 0 11 rfl rfl (rfl) hl.1 rfl (Nat.le_of_ble_eq_true rfl) dX11_dress_43 (fun r19 u H locs hw hP hD hS => ?_)
          obtain ⟨v20, f21, w22, g23⟩ := u
          obtain ⟨hIv20, hCf21, hRf21, hk0_v20, hk3_v20, hk4_v20, hk8_v20, hk9_v20, hk10_v20, hk24_v20, hk25_v20, hk35_v20, hk36_v20, hk38_v20, hk39_v20⟩ := hw
          have hP : va_P (dC, dI) vwCl (YW cy y0 r v20 f21 w22 g23) H := hP
          have hD : va_D A (YW cy y0 r v20 f21 w22 g23) := hD
          have hUv20 : (v20 35).toInt + (v20 36).toInt ≤ 40 := hIv20.2
          have hq0_v20 : v20 0 = (v 0) := hk0_v20.trans hq0_v9
          have hq3_v20 : v20 3 = (v 3) := hk3_v20.trans hq3_v9
          have hq4_v20 : v20 4 = (v 4) := hk4_v20.trans hq4_v9
          have hq8_v20 : v20 8 = (v 8) := hk8_v20.trans hq8_v9
          have hq9_v20 : v20 9 = (v 9) := hk9_v20.trans hq9_v9
          have zq9_v20 := congrArg Int32.toInt hq9_v20
          have hq10_v20 : v20 10 = (v 10) := hk10_v20.trans hq10_v9
          have hq24_v20 : v20 24 = (v 24) := hk24_v20.trans hq24_v9
          have hq25_v20 : v20 25 = (v 25) := hk25_v20.trans hq25_v9
          have hq35_v20 : v20 35 = (v 35) := hk35_v20.trans hq35_v9
          have zq35_v20 := congrArg Int32.toInt hq35_v20
          have hq36_v20 : v20 36 = (v 36) := hk36_v20.trans hq36_v9
          have zq36_v20 := congrArg Int32.toInt hq36_v20
          have hq38_v20 : v20 38 = (v 38) := hk38_v20.trans hq38_v9
          have hq39_v20 : v20 39 = (v 39) := hk39_v20.trans hq39_v9
          refine lv_istore (lv' := [(5, .int r19), (4, .int l4_9), (3, .int l3_9), (2, .int l2_9), (0, .ref y0), (1, .int p1)]) hx hb dX11_dress_46 hl (by decide) rfl (fun ls hl => ?_)
          refine lv_iload hx hb dX11_dress_48 (lv_at hl 0 rfl) ?_
          refine lv_if_lt (tgt := 116) hx hb dX11_dress_50 (by decide) (fun c24 => ?_) (fun c24 => ?_)
          · skip
            have zc24 : r19.toInt < 0 := by rw [fa_lt, show (0 : Int32).toInt = 0 from by decide] at c24; exact c24
            obtain ⟨t25, et25⟩ : ∃ y : Int32, y = l4_9 + 1 := ⟨_, rfl⟩
            have zt25 : t25.toInt = l4_9.toInt + 1 := by rw [et25]; exact add_i rfl (by decide) (by omega) (by omega)
            refine lv_iinc (v := t25) (lv' := [(4, .int t25), (5, .int r19), (3, .int l3_9), (2, .int l2_9), (0, .ref y0), (1, .int p1)]) hx hb dX11_dress_116 hl (k := 1) rfl (by rw [et25]; rfl) (by decide) rfl (fun ls hl => ?_)
            refine lv_goto (tgt := 22) hx hb dX11_dress_119 (by decide) ?_
            have rg26 := fb_rng t25
            exact ih9 l2_9 l3_9 t25 v20 f21 w22 g23 hIv20 hCf21 hRf21 hq0_v20 hq3_v20 hq4_v20 hq8_v20 hq9_v20 hq10_v20 hq24_v20 hq25_v20 hq35_v20 hq36_v20 hq38_v20 hq39_v20 ⟨show (0 : Int) ≤ t25.toInt by omega, show t25.toInt ≤ (2147483647 : Int) by omega⟩ (by show (2147483647 - t25.toInt).toNat < n9; omega) _ _ _ hP hD hS (lv_sub hl [0, 2, 3, 4, 5] rfl)
          · skip
            have zc24 : ¬ (r19.toInt < 0) := by rw [fa_lt, show (0 : Int32).toInt = 0 from by decide] at c24; exact c24
            refine lv_iload hx hb dX11_dress_53 (lv_at hl 0 rfl) ?_
            refine lv_iload_n hx hb dX11_dress_55 rfl (lv_at hl 3 rfl) ?_
            refine lv_icmp_lt (tgt := 116) hx hb dX11_dress_56 (by decide) (fun c27 => ?_) (fun c27 => ?_)
            · skip
              have zc27 : r19.toInt < l2_9.toInt := by rw [fa_lt] at c27; exact c27
              have rg28 := fb_rng r19
              have rg29 := fb_rng l2_9
              obtain ⟨t30, et30⟩ : ∃ y : Int32, y = l4_9 + 1 := ⟨_, rfl⟩
              have zt30 : t30.toInt = l4_9.toInt + 1 := by rw [et30]; exact add_i rfl (by decide) (by omega) (by omega)
              refine lv_iinc (v := t30) (lv' := [(4, .int t30), (5, .int r19), (3, .int l3_9), (2, .int l2_9), (0, .ref y0), (1, .int p1)]) hx hb dX11_dress_116 hl (k := 1) rfl (by rw [et30]; rfl) (by decide) rfl (fun ls hl => ?_)
              refine lv_goto (tgt := 22) hx hb dX11_dress_119 (by decide) ?_
              have rg31 := fb_rng t30
              exact ih9 l2_9 l3_9 t30 v20 f21 w22 g23 hIv20 hCf21 hRf21 hq0_v20 hq3_v20 hq4_v20 hq8_v20 hq9_v20 hq10_v20 hq24_v20 hq25_v20 hq35_v20 hq36_v20 hq38_v20 hq39_v20 ⟨show (0 : Int) ≤ t30.toInt by omega, show t30.toInt ≤ (2147483647 : Int) by omega⟩ (by show (2147483647 - t30.toInt).toNat < n9; omega) _ _ _ hP hD hS (lv_sub hl [0, 2, 3, 4, 5] rfl)
            · skip
              have zc27 : ¬ (r19.toInt < l2_9.toInt) := by rw [fa_lt] at c27; exact c27
              have rg32 := fb_rng r19
              have rg33 := fb_rng l2_9
              refine lv_iload hx hb dX11_dress_59 (lv_at hl 0 rfl) ?_
              refine lv_iload_n hx hb dX11_dress_61 rfl (lv_at hl 3 rfl) ?_
              refine lv_icmp_ne (tgt := 76) hx hb dX11_dress_62 (by decide) (fun c34 => ?_) (fun c34 => ?_)
              · skip
                have zc34 : ¬ (r19.toInt = l2_9.toInt) := by rw [fa_eq] at c34; exact c34
                refine lv_iload hx hb dX11_dress_76 (lv_at hl 0 rfl) ?_
                refine lv_istore_n (lv' := [(2, .int r19), (5, .int r19), (4, .int l4_9), (3, .int l3_9), (0, .ref y0), (1, .int p1)]) hx hb dX11_dress_78 rfl hl (by decide) rfl (fun ls hl => ?_)
                refine lv_aload_n hx hb dX11_dress_79 rfl (lv_at hl 4 rfl) ?_
                refine cbVi (n := 0) (rest := []) hx hb hml hown hts hE hP hD hS hA (sY_X11_illOfRow_1 l dC dI cy y0 r  v20 f21 w22 g23 hIv20 hCf21 hRf21 ) k_1884 k_1886 k_86 k_114 k_1887 (by decide +kernel) ⟨Nat.le_of_ble_eq_true rfl, Nat.le_of_ble_eq_true rfl⟩ 0 11 rfl rfl (rfl) hl.1 rfl (Nat.le_of_ble_eq_true rfl) dX11_dress_80 (fun r35 u H locs hw hP hD hS => ?_)
                refine lv_istore_n (lv' := [(3, .int r35), (2, .int r19), (5, .int r19), (4, .int l4_9), (0, .ref y0), (1, .int p1)]) hx hb dX11_dress_83 rfl hl (by decide) rfl (fun ls hl => ?_)
                refine lv_iconst (v := 0) hx hb dX11_dress_84 (by decide) ?_
                refine lv_istore (lv' := [(6, .int 0), (3, .int r35), (2, .int r19), (5, .int r19), (4, .int l4_9), (0, .ref y0), (1, .int p1)]) hx hb dX11_dress_85 hl (by decide) rfl (fun ls hl => ?_)
                have lp36 : ∀ (n36 : Nat) (l6_36 : Int32) (v36 : Nat → Int32) (f36 : Nat → Nat → Int32) (w36 : Int64) (g36 : Nat → Int64), YI v36 → YC f36 → progOK (f36 4) (f36 5) (v36 9).toInt.toNat → v36 0 = (v 0) → v36 3 = (v 3) → v36 4 = (v 4) → v36 8 = (v 8) → v36 9 = (v 9) → v36 10 = (v 10) → v36 24 = (v 24) → v36 25 = (v 25) → v36 35 = (v 35) → v36 36 = (v 36) → v36 38 = (v 38) → v36 39 = (v 39) → ((0 : Int) ≤ l6_36.toInt ∧ l6_36.toInt ≤ 2147483647) → (2147483647 - l6_36.toInt).toNat < n36 → ∀ (H : Heap) (locs : List Loc) (ls : Array Slot), va_P (dC, dI) vwCl (YW cy y0 r v36 f36 w36 g36) H → va_D A (YW cy y0 r v36 f36 w36 g36) → va_S A s.heap H locs → lv_has ls 7 [(6, .int l6_36), (3, .int r35), (2, .int r19), (5, .int r19), (4, .int l4_9), (0, .ref y0), (1, .int p1)] → W p l e { frames := 5, cells := 0, slots := 0, locals := 148 } s m ([.ref y0, .int p1] : List Value).toArray below meth c H locs 0 0 Q (F0 m 87 ls []) := by
                  intro n36
                  induction n36 with
                  | zero => intro l6_36 v36 f36 w36 g36 hIv36 hCf36 hRf36 hq0_v36 hq3_v36 hq4_v36 hq8_v36 hq9_v36 hq10_v36 hq24_v36 hq25_v36 hq35_v36 hq36_v36 hq38_v36 hq39_v36 hr6_36 hm; exact absurd hm (Nat.not_lt_zero _)
                  | succ n36 ih36 =>
                    intro l6_36 v36 f36 w36 g36 hIv36 hCf36 hRf36 hq0_v36 hq3_v36 hq4_v36 hq8_v36 hq9_v36 hq10_v36 hq24_v36 hq25_v36 hq35_v36 hq36_v36 hq38_v36 hq39_v36 hr6_36 hm36 H locs ls hP hD hS hl
                    have hUv36 : (v36 35).toInt + (v36 36).toInt ≤ 40 := hIv36.2
                    have zq9_v36 := congrArg Int32.toInt hq9_v36
                    have zq35_v36 := congrArg Int32.toInt hq35_v36
                    have zq36_v36 := congrArg Int32.toInt hq36_v36
                    refine lv_iload hx hb dX11_dress_87 (lv_at hl 0 rfl) ?_
                    refine lv_aload_n hx hb dX11_dress_89 rfl (lv_at hl 5 rfl) ?_
                    refine va_get (D := (dC, dI)) (ci := 11) (v := .int (v36 24)) (C := RX11) (T := TX11) (N := 79) hx hb hts inB_11 hown hE.1 hP 0 rfl rfl 48 (by decide) (hts _ k_1368) (fun _ h9 => h9) rfl dX11_dress_90 ?_
                    refine tI (y := (v 24)) hq24_v36 ?_
                    have b24_v : 0 ≤ (v 24).toInt ∧ (v 24).toInt ≤ 6 := YIb.b hIv.1 24 (by decide)
                    refine lv_icmp_ge (tgt := 116) hx hb dX11_dress_93 (by decide) (fun c37 => ?_) (fun c37 => ?_)
                    · skip
                      have zc37 : (v 24).toInt ≤ l6_36.toInt := by rw [fa_le] at c37; exact c37
                      have rg38 := fb_rng l6_36
                      have rg39 := fb_rng (v 24)
                      obtain ⟨t40, et40⟩ : ∃ y : Int32, y = l4_9 + 1 := ⟨_, rfl⟩
                      have zt40 : t40.toInt = l4_9.toInt + 1 := by rw [et40]; exact add_i rfl (by decide) (by omega) (by omega)
                      refine lv_iinc (v := t40) (lv' := [(4, .int t40), (6, .int l6_36), (3, .int r35), (2, .int r19), (5, .int r19), (0, .ref y0), (1, .int p1)]) hx hb dX11_dress_116 hl (k := 4) rfl (by rw [et40]; rfl) (by decide) rfl (fun ls hl => ?_)
                      refine lv_goto (tgt := 22) hx hb dX11_dress_119 (by decide) ?_
                      have rg41 := fb_rng t40
                      exact ih9 r19 r35 t40 v36 f36 w36 g36 hIv36 hCf36 hRf36 hq0_v36 hq3_v36 hq4_v36 hq8_v36 hq9_v36 hq10_v36 hq24_v36 hq25_v36 hq35_v36 hq36_v36 hq38_v36 hq39_v36 ⟨show (0 : Int) ≤ t40.toInt by omega, show t40.toInt ≤ (2147483647 : Int) by omega⟩ (by show (2147483647 - t40.toInt).toNat < n9; omega) _ _ _ hP hD hS (lv_sub hl [0, 2, 3, 5, 6] rfl)
                    · skip
                      have zc37 : ¬ ((v 24).toInt ≤ l6_36.toInt) := by rw [fa_le] at c37; exact c37
                      have rg42 := fb_rng l6_36
                      have rg43 := fb_rng (v 24)
                      refine lv_aload_n hx hb dX11_dress_96 rfl (lv_at hl 5 rfl) ?_
                      refine va_get (D := (dC, dI)) (ci := 11) (v := .ref (r 64)) (C := RX11) (T := TX11) (N := 79) hx hb hts inB_11 hown hE.1 hP 0 rfl rfl 64 (by decide) (hts _ k_1384) (fun _ h9 => h9) rfl dX11_dress_97 ?_
                      refine lv_iload hx hb dX11_dress_100 (lv_at hl 0 rfl) ?_
                      refine lv_aload_n hx hb dX11_dress_102 rfl (lv_at hl 5 rfl) ?_
                      refine va_get (D := (dC, dI)) (ci := 11) (v := .ref (r 65)) (C := RX11) (T := TX11) (N := 79) hx hb hts inB_11 hown hE.1 hP 0 rfl rfl 65 (by decide) (hts _ k_1385) (fun _ h9 => h9) rfl dX11_dress_103 ?_
                      refine lv_iload hx hb dX11_dress_106 (lv_at hl 0 rfl) ?_
                      refine ldI hx hb hE hP 28 rfl (vp_in_iff.mpr ⟨by omega, by omega⟩) rfl rfl dX11_dress_108 ?_
                      refine lv_topi (fun t44 et44 => ?_)
                      have zt44 : -1 ≤ t44.toInt ∧ t44.toInt ≤ 5 := by rw [et44]; exact hCf36.2.2.2.1 l6_36.toInt.toNat (show l6_36.toInt.toNat < 6 by omega)
                      refine stI hx hb hE hP hD hS 27 rfl (vp_in_iff.mpr ⟨by omega, by omega⟩) rfl dX11_dress_109 (fun H locs hP hD hS => ?_)
                      obtain ⟨f45, ef45, hP, hD⟩ : ∃ f9, f9 = upd2 f36 26 (upd (f36 26) l6_36.toNatClampNeg t44) ∧ va_P (dC, dI) vwCl (YW cy y0 r v36 f9 w36 g36) H ∧ va_D A (YW cy y0 r v36 f9 w36 g36) := ⟨_, rfl, hP, hD⟩
                      have hCf45 : YC f45 := by rw [ef45]; exact hCf36
                      have hRf45 : progOK (f45 4) (f45 5) (v36 9).toInt.toNat := by rw [ef45]; exact hRf36
                      obtain ⟨t46, et46⟩ : ∃ y : Int32, y = l6_36 + 1 := ⟨_, rfl⟩
                      have zt46 : t46.toInt = l6_36.toInt + 1 := by rw [et46]; exact add_i rfl (by decide) (by omega) (by omega)
                      refine lv_iinc (v := t46) (lv' := [(6, .int t46), (3, .int r35), (2, .int r19), (5, .int r19), (4, .int l4_9), (0, .ref y0), (1, .int p1)]) hx hb dX11_dress_110 hl (k := 0) rfl (by rw [et46]; rfl) (by decide) rfl (fun ls hl => ?_)
                      refine lv_goto (tgt := 87) hx hb dX11_dress_113 (by decide) ?_
                      have rg47 := fb_rng t46
                      exact ih36 t46 v36 f45 w36 g36 hIv36 hCf45 hRf45 hq0_v36 hq3_v36 hq4_v36 hq8_v36 hq9_v36 hq10_v36 hq24_v36 hq25_v36 hq35_v36 hq36_v36 hq38_v36 hq39_v36 ⟨show (0 : Int) ≤ t46.toInt by omega, show t46.toInt ≤ (2147483647 : Int) by omega⟩ (by show (2147483647 - t46.toInt).toNat < n36; omega) _ _ _ hP hD hS (lv_sub hl [0, 1, 2, 3, 4, 5, 6] rfl)
                exact lp36 _ 0 v20 f21 w22 g23 hIv20 hCf21 hRf21 hq0_v20 hq3_v20 hq4_v20 hq8_v20 hq9_v20 hq10_v20 hq24_v20 hq25_v20 hq35_v20 hq36_v20 hq38_v20 hq39_v20 ⟨by decide, by decide⟩ (Nat.lt_succ_self _) _ _ _ hP hD hS (lv_sub hl [0, 1, 2, 3, 4, 5, 6] rfl)
              · skip
                have zc34 : r19.toInt = l2_9.toInt := by rw [fa_eq] at c34; exact c34
                refine lv_aload_n hx hb dX11_dress_65 rfl (lv_at hl 4 rfl) ?_
                refine cbVi (n := 0) (rest := []) hx hb hml hown hts hE hP hD hS hA (sY_X11_illOfRow_1 l dC dI cy y0 r  v20 f21 w22 g23 hIv20 hCf21 hRf21 ) k_1884 k_1886 k_86 k_114 k_1887 (by decide +kernel) ⟨Nat.le_of_ble_eq_true rfl, Nat.le_of_ble_eq_true rfl⟩ 0 11 rfl rfl (rfl) hl.1 rfl (Nat.le_of_ble_eq_true rfl) dX11_dress_66 (fun r48 u H locs hw hP hD hS => ?_)
                refine lv_iload_n hx hb dX11_dress_69 rfl (lv_at hl 2 rfl) ?_
                refine lv_icmp_lt (tgt := 76) hx hb dX11_dress_70 (by decide) (fun c49 => ?_) (fun c49 => ?_)
                · skip
                  have zc49 : r48.toInt < l3_9.toInt := by rw [fa_lt] at c49; exact c49
                  have rg50 := fb_rng r48
                  have rg51 := fb_rng l3_9
                  refine lv_iload hx hb dX11_dress_76 (lv_at hl 0 rfl) ?_
                  refine lv_istore_n (lv' := [(2, .int r19), (5, .int r19), (4, .int l4_9), (3, .int l3_9), (0, .ref y0), (1, .int p1)]) hx hb dX11_dress_78 rfl hl (by decide) rfl (fun ls hl => ?_)
                  refine lv_aload_n hx hb dX11_dress_79 rfl (lv_at hl 4 rfl) ?_
                  refine cbVi (n := 0) (rest := []) hx hb hml hown hts hE hP hD hS hA (sY_X11_illOfRow_1 l dC dI cy y0 r  v20 f21 w22 g23 hIv20 hCf21 hRf21 ) k_1884 k_1886 k_86 k_114 k_1887 (by decide +kernel) ⟨Nat.le_of_ble_eq_true rfl, Nat.le_of_ble_eq_true rfl⟩ 0 11 rfl rfl (rfl) hl.1 rfl (Nat.le_of_ble_eq_true rfl) dX11_dress_80 (fun r52 u H locs hw hP hD hS => ?_)
                  refine lv_istore_n (lv' := [(3, .int r52), (2, .int r19), (5, .int r19), (4, .int l4_9), (0, .ref y0), (1, .int p1)]) hx hb dX11_dress_83 rfl hl (by decide) rfl (fun ls hl => ?_)
                  refine lv_iconst (v := 0) hx hb dX11_dress_84 (by decide) ?_
                  refine lv_istore (lv' := [(6, .int 0), (3, .int r52), (2, .int r19), (5, .int r19), (4, .int l4_9), (0, .ref y0), (1, .int p1)]) hx hb dX11_dress_85 hl (by decide) rfl (fun ls hl => ?_)
                  have lp53 : ∀ (n53 : Nat) (l6_53 : Int32) (v53 : Nat → Int32) (f53 : Nat → Nat → Int32) (w53 : Int64) (g53 : Nat → Int64), YI v53 → YC f53 → progOK (f53 4) (f53 5) (v53 9).toInt.toNat → v53 0 = (v 0) → v53 3 = (v 3) → v53 4 = (v 4) → v53 8 = (v 8) → v53 9 = (v 9) → v53 10 = (v 10) → v53 24 = (v 24) → v53 25 = (v 25) → v53 35 = (v 35) → v53 36 = (v 36) → v53 38 = (v 38) → v53 39 = (v 39) → ((0 : Int) ≤ l6_53.toInt ∧ l6_53.toInt ≤ 2147483647) → (2147483647 - l6_53.toInt).toNat < n53 → ∀ (H : Heap) (locs : List Loc) (ls : Array Slot), va_P (dC, dI) vwCl (YW cy y0 r v53 f53 w53 g53) H → va_D A (YW cy y0 r v53 f53 w53 g53) → va_S A s.heap H locs → lv_has ls 7 [(6, .int l6_53), (3, .int r52), (2, .int r19), (5, .int r19), (4, .int l4_9), (0, .ref y0), (1, .int p1)] → W p l e { frames := 5, cells := 0, slots := 0, locals := 148 } s m ([.ref y0, .int p1] : List Value).toArray below meth c H locs 0 0 Q (F0 m 87 ls []) := by
                    intro n53
                    induction n53 with
                    | zero => intro l6_53 v53 f53 w53 g53 hIv53 hCf53 hRf53 hq0_v53 hq3_v53 hq4_v53 hq8_v53 hq9_v53 hq10_v53 hq24_v53 hq25_v53 hq35_v53 hq36_v53 hq38_v53 hq39_v53 hr6_53 hm; exact absurd hm (Nat.not_lt_zero _)
                    | succ n53 ih53 =>
                      intro l6_53 v53 f53 w53 g53 hIv53 hCf53 hRf53 hq0_v53 hq3_v53 hq4_v53 hq8_v53 hq9_v53 hq10_v53 hq24_v53 hq25_v53 hq35_v53 hq36_v53 hq38_v53 hq39_v53 hr6_53 hm53 H locs ls hP hD hS hl
                      have hUv53 : (v53 35).toInt + (v53 36).toInt ≤ 40 := hIv53.2
                      have zq9_v53 := congrArg Int32.toInt hq9_v53
                      have zq35_v53 := congrArg Int32.toInt hq35_v53
                      have zq36_v53 := congrArg Int32.toInt hq36_v53
                      refine lv_iload hx hb dX11_dress_87 (lv_at hl 0 rfl) ?_
                      refine lv_aload_n hx hb dX11_dress_89 rfl (lv_at hl 5 rfl) ?_
                      refine va_get (D := (dC, dI)) (ci := 11) (v := .int (v53 24)) (C := RX11) (T := TX11) (N := 79) hx hb hts inB_11 hown hE.1 hP 0 rfl rfl 48 (by decide) (hts _ k_1368) (fun _ h9 => h9) rfl dX11_dress_90 ?_
                      refine tI (y := (v 24)) hq24_v53 ?_
                      have b24_v : 0 ≤ (v 24).toInt ∧ (v 24).toInt ≤ 6 := YIb.b hIv.1 24 (by decide)
                      refine lv_icmp_ge (tgt := 116) hx hb dX11_dress_93 (by decide) (fun c54 => ?_) (fun c54 => ?_)
                      · skip
                        have zc54 : (v 24).toInt ≤ l6_53.toInt := by rw [fa_le] at c54; exact c54
                        have rg55 := fb_rng l6_53
                        have rg56 := fb_rng (v 24)
                        obtain ⟨t57, et57⟩ : ∃ y : Int32, y = l4_9 + 1 := ⟨_, rfl⟩
                        have zt57 : t57.toInt = l4_9.toInt + 1 := by rw [et57]; exact add_i rfl (by decide) (by omega) (by omega)
                        refine lv_iinc (v := t57) (lv' := [(4, .int t57), (6, .int l6_53), (3, .int r52), (2, .int r19), (5, .int r19), (0, .ref y0), (1, .int p1)]) hx hb dX11_dress_116 hl (k := 4) rfl (by rw [et57]; rfl) (by decide) rfl (fun ls hl => ?_)
                        refine lv_goto (tgt := 22) hx hb dX11_dress_119 (by decide) ?_
                        have rg58 := fb_rng t57
                        exact ih9 r19 r52 t57 v53 f53 w53 g53 hIv53 hCf53 hRf53 hq0_v53 hq3_v53 hq4_v53 hq8_v53 hq9_v53 hq10_v53 hq24_v53 hq25_v53 hq35_v53 hq36_v53 hq38_v53 hq39_v53 ⟨show (0 : Int) ≤ t57.toInt by omega, show t57.toInt ≤ (2147483647 : Int) by omega⟩ (by show (2147483647 - t57.toInt).toNat < n9; omega) _ _ _ hP hD hS (lv_sub hl [0, 2, 3, 5, 6] rfl)
                      · skip
                        have zc54 : ¬ ((v 24).toInt ≤ l6_53.toInt) := by rw [fa_le] at c54; exact c54
                        have rg59 := fb_rng l6_53
                        have rg60 := fb_rng (v 24)
                        refine lv_aload_n hx hb dX11_dress_96 rfl (lv_at hl 5 rfl) ?_
                        refine va_get (D := (dC, dI)) (ci := 11) (v := .ref (r 64)) (C := RX11) (T := TX11) (N := 79) hx hb hts inB_11 hown hE.1 hP 0 rfl rfl 64 (by decide) (hts _ k_1384) (fun _ h9 => h9) rfl dX11_dress_97 ?_
                        refine lv_iload hx hb dX11_dress_100 (lv_at hl 0 rfl) ?_
                        refine lv_aload_n hx hb dX11_dress_102 rfl (lv_at hl 5 rfl) ?_
                        refine va_get (D := (dC, dI)) (ci := 11) (v := .ref (r 65)) (C := RX11) (T := TX11) (N := 79) hx hb hts inB_11 hown hE.1 hP 0 rfl rfl 65 (by decide) (hts _ k_1385) (fun _ h9 => h9) rfl dX11_dress_103 ?_
                        refine lv_iload hx hb dX11_dress_106 (lv_at hl 0 rfl) ?_
                        refine ldI hx hb hE hP 28 rfl (vp_in_iff.mpr ⟨by omega, by omega⟩) rfl rfl dX11_dress_108 ?_
                        refine lv_topi (fun t61 et61 => ?_)
                        have zt61 : -1 ≤ t61.toInt ∧ t61.toInt ≤ 5 := by rw [et61]; exact hCf53.2.2.2.1 l6_53.toInt.toNat (show l6_53.toInt.toNat < 6 by omega)
                        refine stI hx hb hE hP hD hS 27 rfl (vp_in_iff.mpr ⟨by omega, by omega⟩) rfl dX11_dress_109 (fun H locs hP hD hS => ?_)
                        obtain ⟨f62, ef62, hP, hD⟩ : ∃ f9, f9 = upd2 f53 26 (upd (f53 26) l6_53.toNatClampNeg t61) ∧ va_P (dC, dI) vwCl (YW cy y0 r v53 f9 w53 g53) H ∧ va_D A (YW cy y0 r v53 f9 w53 g53) := ⟨_, rfl, hP, hD⟩
                        have hCf62 : YC f62 := by rw [ef62]; exact hCf53
                        have hRf62 : progOK (f62 4) (f62 5) (v53 9).toInt.toNat := by rw [ef62]; exact hRf53
                        obtain ⟨t63, et63⟩ : ∃ y : Int32, y = l6_53 + 1 := ⟨_, rfl⟩
                        have zt63 : t63.toInt = l6_53.toInt + 1 := by rw [et63]; exact add_i rfl (by decide) (by omega) (by omega)
                        refine lv_iinc (v := t63) (lv' := [(6, .int t63), (3, .int r52), (2, .int r19), (5, .int r19), (4, .int l4_9), (0, .ref y0), (1, .int p1)]) hx hb dX11_dress_110 hl (k := 0) rfl (by rw [et63]; rfl) (by decide) rfl (fun ls hl => ?_)
                        refine lv_goto (tgt := 87) hx hb dX11_dress_113 (by decide) ?_
                        have rg64 := fb_rng t63
                        exact ih53 t63 v53 f62 w53 g53 hIv53 hCf62 hRf62 hq0_v53 hq3_v53 hq4_v53 hq8_v53 hq9_v53 hq10_v53 hq24_v53 hq25_v53 hq35_v53 hq36_v53 hq38_v53 hq39_v53 ⟨show (0 : Int) ≤ t63.toInt by omega, show t63.toInt ≤ (2147483647 : Int) by omega⟩ (by show (2147483647 - t63.toInt).toNat < n53; omega) _ _ _ hP hD hS (lv_sub hl [0, 1, 2, 3, 4, 5, 6] rfl)
                  exact lp53 _ 0 v20 f21 w22 g23 hIv20 hCf21 hRf21 hq0_v20 hq3_v20 hq4_v20 hq8_v20 hq9_v20 hq10_v20 hq24_v20 hq25_v20 hq35_v20 hq36_v20 hq38_v20 hq39_v20 ⟨by decide, by decide⟩ (Nat.lt_succ_self _) _ _ _ hP hD hS (lv_sub hl [0, 1, 2, 3, 4, 5, 6] rfl)
                · skip
                  have zc49 : ¬ (r48.toInt < l3_9.toInt) := by rw [fa_lt] at c49; exact c49
                  have rg65 := fb_rng r48
                  have rg66 := fb_rng l3_9
                  refine lv_goto (tgt := 116) hx hb dX11_dress_73 (by decide) ?_
                  obtain ⟨t67, et67⟩ : ∃ y : Int32, y = l4_9 + 1 := ⟨_, rfl⟩
                  have zt67 : t67.toInt = l4_9.toInt + 1 := by rw [et67]; exact add_i rfl (by decide) (by omega) (by omega)
                  refine lv_iinc (v := t67) (lv' := [(4, .int t67), (5, .int r19), (3, .int l3_9), (2, .int l2_9), (0, .ref y0), (1, .int p1)]) hx hb dX11_dress_116 hl (k := 1) rfl (by rw [et67]; rfl) (by decide) rfl (fun ls hl => ?_)
                  refine lv_goto (tgt := 22) hx hb dX11_dress_119 (by decide) ?_
                  have rg68 := fb_rng t67
                  exact ih9 l2_9 l3_9 t67 v20 f21 w22 g23 hIv20 hCf21 hRf21 hq0_v20 hq3_v20 hq4_v20 hq8_v20 hq9_v20 hq10_v20 hq24_v20 hq25_v20 hq35_v20 hq36_v20 hq38_v20 hq39_v20 ⟨show (0 : Int) ≤ t67.toInt by omega, show t67.toInt ≤ (2147483647 : Int) by omega⟩ (by show (2147483647 - t67.toInt).toNat < n9; omega) _ _ _ hP hD hS (lv_sub hl [0, 2, 3, 4, 5] rfl)
    exact lp9 _ (-1) 0 0 v5 f6 w7 g8 hIv5 hCf6 hRf6 hq0_v5 hq3_v5 hq4_v5 hq8_v5 hq9_v5 hq10_v5 hq24_v5 hq25_v5 hq35_v5 hq36_v5 hq38_v5 hq39_v5 ⟨by decide, by decide⟩ (Nat.lt_succ_self _) _ _ _ hP hD hS (lv_sub hl [0, 1, 2, 3, 4] rfl)
  · skip
    subst g4
    refine lv_if_ne (tgt := 11) hx hb dX11_dress_6 (by decide) (fun c0 => absurd (by decide) c0) (fun _ => ?_)
    refine lv_iconst (v := (-1)) hx hb dX11_dress_9 (by decide) ?_
    exact ret (-1) (v, f, w, g) _ _ _ _ _ _ rfl ⟨hIv, hCf, hRf, rfl, rfl, rfl, rfl, rfl, rfl, rfl, rfl, rfl, rfl, rfl, rfl⟩ hP hD hS dX11_dress_10 (Nat.le_refl _) (Nat.le_refl _)
set_option maxHeartbeats 4000000 in
set_option maxRecDepth 100000 in
theorem sY_X11_isSewn_1 (l : Launch) (dC : Nat → ClassId) (dI : Nat → Nat → Nat) (cy : Nat → ClassId) (y0 : Nat) (r : Nat → Nat) (p1 : Int32) (p2 : Int32) (p3 : Int32) (p4 : Int32) (v : Nat → Int32) (f : Nat → Nat → Int32) (w : Int64) (g : Nat → Int64) (hIv : YI v) (hCf : YC f) (hRf : progOK (f 4) (f 5) (v 9).toInt.toNat)  : ctI l (dC, dI) cy yX11_isSewn cX11_isSewn 5 .boolean 4 126 0 0 ((Nat → Int32) × (Nat → Nat → Int32) × (Int64) × (Nat → Int64)) [.ref y0, .int p1, .int p2, .int p3, .int p4] (YW cy y0 r v f w g) (fun r u => YI u.1 ∧ YC u.2.1 ∧ progOK (u.2.1 4) (u.2.1 5) (u.1 9).toInt.toNat ∧ u.1 0 = v 0 ∧ u.1 3 = v 3 ∧ u.1 4 = v 4 ∧ u.1 8 = v 8 ∧ u.1 9 = v 9 ∧ u.1 10 = v 10 ∧ u.1 24 = v 24 ∧ u.1 25 = v 25 ∧ u.1 35 = v 35 ∧ u.1 36 = v 36 ∧ u.1 38 = v 38 ∧ u.1 39 = v 39 ∧ ((r = 1) ∨ (r = 0))) (fun u => YW cy y0 r u.1 u.2.1 u.2.2.1 u.2.2.2) := by
  refine ctI_of (by decide) (Nat.le_of_ble_eq_true rfl) (fun p e s m below meth c A ls Q hx hb hml hts hown hE hP hD hA hl ret => ?_)
  have hUv : (v 35).toInt + (v 36).toInt ≤ 40 := hIv.2
  have hown : s.vm.findClass RX11 = some m.cls := hown
  have hS : va_S A s.heap s.heap [] := va_S.rf
  have hl : lv_has ls 5 [(0, .ref y0), (1, .int p1), (2, .int p2), (3, .int p3), (4, .int p4)] := hl
  refine lv_aload_n hx hb dX11_isSewn_0 rfl (lv_at hl 0 rfl) ?_
  refine cbVv (n := 0) (rest := []) hx hb hml hown hts hE hP hD hS hA (sY_X11_fill_1 l dC dI cy y0 r  v f w g hIv hCf hRf ) k_1739 k_1741 k_71 k_114 k_1742 (by decide +kernel) ⟨Nat.le_of_ble_eq_true rfl, Nat.le_of_ble_eq_true rfl⟩ 0 11 rfl rfl (rfl) hl.1 rfl (Nat.le_of_ble_eq_true rfl) dX11_isSewn_1 (fun u H locs hw hP hD hS => ?_)
  obtain ⟨v1, f2, w3, g4⟩ := u
  obtain ⟨hIv1, hCf2, hRf2, hk0_v1, hk3_v1, hk4_v1, hk8_v1, hk9_v1, hk10_v1, hk24_v1, hk25_v1, hk35_v1, hk36_v1, hk38_v1, hk39_v1⟩ := hw
  have hP : va_P (dC, dI) vwCl (YW cy y0 r v1 f2 w3 g4) H := hP
  have hD : va_D A (YW cy y0 r v1 f2 w3 g4) := hD
  have hUv1 : (v1 35).toInt + (v1 36).toInt ≤ 40 := hIv1.2
  have hq0_v1 : v1 0 = (v 0) := hk0_v1
  have hq3_v1 : v1 3 = (v 3) := hk3_v1
  have hq4_v1 : v1 4 = (v 4) := hk4_v1
  have hq8_v1 : v1 8 = (v 8) := hk8_v1
  have hq9_v1 : v1 9 = (v 9) := hk9_v1
  have zq9_v1 := congrArg Int32.toInt hq9_v1
  have hq10_v1 : v1 10 = (v 10) := hk10_v1
  have hq24_v1 : v1 24 = (v 24) := hk24_v1
  have hq25_v1 : v1 25 = (v 25) := hk25_v1
  have hq35_v1 : v1 35 = (v 35) := hk35_v1
  have zq35_v1 := congrArg Int32.toInt hq35_v1
  have hq36_v1 : v1 36 = (v 36) := hk36_v1
  have zq36_v1 := congrArg Int32.toInt hq36_v1
  have hq38_v1 : v1 38 = (v 38) := hk38_v1
  have hq39_v1 : v1 39 = (v 39) := hk39_v1
  refine lv_aload_n hx hb dX11_isSewn_4 rfl (lv_at hl 0 rfl) ?_
  refine va_get (D := (dC, dI)) (ci := 11) (v := .ref (r 60)) (C := RX11) (T := TX11) (N := 79) hx hb hts inB_11 hown hE.1 hP 0 rfl rfl 60 (by decide) (hts _ k_1380) (fun _ h9 => h9) rfl dX11_isSewn_5 ?_
  refine lv_bipush (v := 12) hx hb dX11_isSewn_8 (by decide) ?_
  refine lv_iload_n hx hb dX11_isSewn_10 rfl (lv_at hl 1 rfl) ?_
  refine lv_iadd hx hb dX11_isSewn_11 ?_
  refine lv_topi (fun t5 et5 => ?_)
  refine lv_dup2_11 hx hb dX11_isSewn_12 rfl rfl ?_
  refine ldI hx hb hE hP 25 rfl (vp_in_iff.mpr ⟨by omega, by omega⟩) rfl rfl dX11_isSewn_13 ?_
  refine lv_topi (fun t6 et6 => ?_)
  have zt6 : t5.toInt.toNat % 39 < 6 ∨ 12 ≤ t5.toInt.toNat % 39 ∨ (-1 ≤ t6.toInt ∧ t6.toInt ≤ 5) := by rw [et6]; exact wear_ld hCf2.2.1 (show t5.toInt.toNat < 39 by omega)
  refine lv_iload_n hx hb dX11_isSewn_14 rfl (lv_at hl 3 rfl) ?_
  refine lv_isub hx hb dX11_isSewn_15 ?_
  refine lv_topi (fun t7 et7 => ?_)
  refine stI hx hb hE hP hD hS 25 rfl (vp_in_iff.mpr ⟨by omega, by omega⟩) rfl dX11_isSewn_16 (fun H locs hP hD hS => ?_)
  obtain ⟨f8, ef8, hP, hD⟩ : ∃ f9, f9 = upd2 f2 24 (upd (f2 24) t5.toNatClampNeg t7) ∧ va_P (dC, dI) vwCl (YW cy y0 r v1 f9 w3 g4) H ∧ va_D A (YW cy y0 r v1 f9 w3 g4) := ⟨_, rfl, hP, hD⟩
  have hCf8 : YC f8 := by rw [ef8]; exact ⟨hCf2.1, (wear_st hCf2.2.1 (by show t5.toInt.toNat % 39 < 6 ∨ 12 ≤ t5.toInt.toNat % 39 ∨ (-1 ≤ t7.toInt ∧ t7.toInt ≤ 5); omega)), hCf2.2.2.1, hCf2.2.2.2.1, hCf2.2.2.2.2.1, hCf2.2.2.2.2.2⟩
  have hRf8 : progOK (f8 4) (f8 5) (v1 9).toInt.toNat := by rw [ef8]; exact hRf2
  refine lv_aload_n hx hb dX11_isSewn_17 rfl (lv_at hl 0 rfl) ?_
  refine va_get (D := (dC, dI)) (ci := 11) (v := .ref (r 60)) (C := RX11) (T := TX11) (N := 79) hx hb hts inB_11 hown hE.1 hP 0 rfl rfl 60 (by decide) (hts _ k_1380) (fun _ h9 => h9) rfl dX11_isSewn_18 ?_
  refine lv_bipush (v := 18) hx hb dX11_isSewn_21 (by decide) ?_
  refine lv_iload_n hx hb dX11_isSewn_23 rfl (lv_at hl 1 rfl) ?_
  refine lv_iadd hx hb dX11_isSewn_24 ?_
  refine lv_topi (fun t9 et9 => ?_)
  refine lv_dup2_11 hx hb dX11_isSewn_25 rfl rfl ?_
  refine ldI hx hb hE hP 25 rfl (vp_in_iff.mpr ⟨by omega, by omega⟩) rfl rfl dX11_isSewn_26 ?_
  refine lv_topi (fun t10 et10 => ?_)
  have zt10 : t9.toInt.toNat % 39 < 6 ∨ 12 ≤ t9.toInt.toNat % 39 ∨ (-1 ≤ t10.toInt ∧ t10.toInt ≤ 5) := by rw [et10]; exact wear_ld hCf8.2.1 (show t9.toInt.toNat < 39 by omega)
  refine lv_iload hx hb dX11_isSewn_27 (lv_at hl 4 rfl) ?_
  refine lv_isub hx hb dX11_isSewn_29 ?_
  refine lv_topi (fun t11 et11 => ?_)
  refine stI hx hb hE hP hD hS 25 rfl (vp_in_iff.mpr ⟨by omega, by omega⟩) rfl dX11_isSewn_30 (fun H locs hP hD hS => ?_)
  obtain ⟨f12, ef12, hP, hD⟩ : ∃ f9, f9 = upd2 f8 24 (upd (f8 24) t9.toNatClampNeg t11) ∧ va_P (dC, dI) vwCl (YW cy y0 r v1 f9 w3 g4) H ∧ va_D A (YW cy y0 r v1 f9 w3 g4) := ⟨_, rfl, hP, hD⟩
  have hCf12 : YC f12 := by rw [ef12]; exact ⟨hCf8.1, (wear_st hCf8.2.1 (by show t9.toInt.toNat % 39 < 6 ∨ 12 ≤ t9.toInt.toNat % 39 ∨ (-1 ≤ t11.toInt ∧ t11.toInt ≤ 5); omega)), hCf8.2.2.1, hCf8.2.2.2.1, hCf8.2.2.2.2.1, hCf8.2.2.2.2.2⟩
  have hRf12 : progOK (f12 4) (f12 5) (v1 9).toInt.toNat := by rw [ef12]; exact hRf8
  refine lv_aload_n hx hb dX11_isSewn_31 rfl (lv_at hl 0 rfl) ?_
  refine lv_iload_n hx hb dX11_isSewn_32 rfl (lv_at hl 2 rfl) ?_
  refine lv_iload_n hx hb dX11_isSewn_33 rfl (lv_at hl 1 rfl) ?_
  refine cbVi (n := 2) (rest := []) hx hb hml hown hts hE hP hD hS hA (sY_X11_misfitOf_1 l dC dI cy y0 r p2 p1 v1 f12 w3 g4 hIv1 hCf12 hRf12 ⟨show (0 : Int) ≤ p2.toInt by omega, show p2.toInt ≤ (5 : Int) by omega⟩ ⟨show (0 : Int) ≤ p1.toInt by omega, show p1.toInt ≤ (5 : Int) by omega⟩) k_1751 k_1753 k_74 k_114 k_1754 (by decide +kernel) ⟨Nat.le_of_ble_eq_true rfl, Nat.le_of_ble_eq_true rfl⟩ 0 11 rfl rfl (rfl) hl.1 rfl (Nat.le_of_ble_eq_true rfl) dX11_isSewn_34 (fun r13 u H locs hw hP hD hS => ?_)
  obtain ⟨v14, f15, w16, g17⟩ := u
  obtain ⟨hIv14, hCf15, hRf15, hk0_v14, hk3_v14, hk4_v14, hk8_v14, hk9_v14, hk10_v14, hk24_v14, hk25_v14, hk35_v14, hk36_v14, hk38_v14, hk39_v14⟩ := hw
  have hP : va_P (dC, dI) vwCl (YW cy y0 r v14 f15 w16 g17) H := hP
  have hD : va_D A (YW cy y0 r v14 f15 w16 g17) := hD
  have hUv14 : (v14 35).toInt + (v14 36).toInt ≤ 40 := hIv14.2
  have hq0_v14 : v14 0 = (v 0) := hk0_v14.trans hq0_v1
  have hq3_v14 : v14 3 = (v 3) := hk3_v14.trans hq3_v1
  have hq4_v14 : v14 4 = (v 4) := hk4_v14.trans hq4_v1
  have hq8_v14 : v14 8 = (v 8) := hk8_v14.trans hq8_v1
  have hq9_v14 : v14 9 = (v 9) := hk9_v14.trans hq9_v1
  have zq9_v14 := congrArg Int32.toInt hq9_v14
  have hq10_v14 : v14 10 = (v 10) := hk10_v14.trans hq10_v1
  have hq24_v14 : v14 24 = (v 24) := hk24_v14.trans hq24_v1
  have hq25_v14 : v14 25 = (v 25) := hk25_v14.trans hq25_v1
  have hq35_v14 : v14 35 = (v 35) := hk35_v14.trans hq35_v1
  have zq35_v14 := congrArg Int32.toInt hq35_v14
  have hq36_v14 : v14 36 = (v 36) := hk36_v14.trans hq36_v1
  have zq36_v14 := congrArg Int32.toInt hq36_v14
  have hq38_v14 : v14 38 = (v 38) := hk38_v14.trans hq38_v1
  have hq39_v14 : v14 39 = (v 39) := hk39_v14.trans hq39_v1
  refine lv_aload_n hx hb dX11_isSewn_37 rfl (lv_at hl 0 rfl) ?_
  refine va_get (D := (dC, dI)) (ci := 11) (v := .int (v14 26)) (C := RX11) (T := TX11) (N := 79) hx hb hts inB_11 hown hE.1 hP 0 rfl rfl 50 (by decide) (hts _ k_1370) (fun _ h9 => h9) rfl dX11_isSewn_38 ?_
  refine lv_icmp_gt (tgt := 48) hx hb dX11_isSewn_41 (by decide) (fun c18 => ?_) (fun c18 => ?_)
  · skip
    have zc18 : (v14 26).toInt < r13.toInt := by rw [fa_lt] at c18; exact c18
    have rg19 := fb_rng r13
    have rg20 := fb_rng (v14 26)
    refine lv_iconst (v := 0) hx hb dX11_isSewn_48 (by decide) ?_
    exact ret 0 (v14, f15, w16, g17) _ _ _ _ _ _ rfl ⟨hIv14, hCf15, hRf15, (hk0_v14.trans hk0_v1), (hk3_v14.trans hk3_v1), (hk4_v14.trans hk4_v1), (hk8_v14.trans hk8_v1), (hk9_v14.trans hk9_v1), (hk10_v14.trans hk10_v1), (hk24_v14.trans hk24_v1), (hk25_v14.trans hk25_v1), (hk35_v14.trans hk35_v1), (hk36_v14.trans hk36_v1), (hk38_v14.trans hk38_v1), (hk39_v14.trans hk39_v1), (Or.inr rfl)⟩ hP hD hS dX11_isSewn_49 (Nat.le_refl _) (Nat.le_refl _)
  · skip
    have zc18 : ¬ ((v14 26).toInt < r13.toInt) := by rw [fa_lt] at c18; exact c18
    have rg21 := fb_rng r13
    have rg22 := fb_rng (v14 26)
    refine lv_iconst (v := 1) hx hb dX11_isSewn_44 (by decide) ?_
    refine lv_goto (tgt := 49) hx hb dX11_isSewn_45 (by decide) ?_
    exact ret 1 (v14, f15, w16, g17) _ _ _ _ _ _ rfl ⟨hIv14, hCf15, hRf15, (hk0_v14.trans hk0_v1), (hk3_v14.trans hk3_v1), (hk4_v14.trans hk4_v1), (hk8_v14.trans hk8_v1), (hk9_v14.trans hk9_v1), (hk10_v14.trans hk10_v1), (hk24_v14.trans hk24_v1), (hk25_v14.trans hk25_v1), (hk35_v14.trans hk35_v1), (hk36_v14.trans hk36_v1), (hk38_v14.trans hk38_v1), (hk39_v14.trans hk39_v1), (Or.inl rfl)⟩ hP hD hS dX11_isSewn_49 (Nat.le_refl _) (Nat.le_refl _)
set_option maxHeartbeats 4000000 in
set_option maxRecDepth 100000 in
theorem sY_X11_sewing_1 (l : Launch) (dC : Nat → ClassId) (dI : Nat → Nat → Nat) (cy : Nat → ClassId) (y0 : Nat) (r : Nat → Nat) (p1 : Int32) (p2 : Int32) (p3 : Int32) (v : Nat → Int32) (f : Nat → Nat → Int32) (w : Int64) (g : Nat → Int64) (hIv : YI v) (hCf : YC f) (hRf : progOK (f 4) (f 5) (v 9).toInt.toNat)  : ctI l (dC, dI) cy yX11_sewing cX11_sewing 10 .int 5 150 0 0 ((Nat → Int32) × (Nat → Nat → Int32) × (Int64) × (Nat → Int64)) [.ref y0, .int p1, .int p2, .int p3] (YW cy y0 r v f w g) (fun r u => YI u.1 ∧ YC u.2.1 ∧ progOK (u.2.1 4) (u.2.1 5) (u.1 9).toInt.toNat ∧ u.1 0 = v 0 ∧ u.1 3 = v 3 ∧ u.1 4 = v 4 ∧ u.1 8 = v 8 ∧ u.1 9 = v 9 ∧ u.1 10 = v 10 ∧ u.1 24 = v 24 ∧ u.1 25 = v 25 ∧ u.1 35 = v 35 ∧ u.1 36 = v 36 ∧ u.1 38 = v 38 ∧ u.1 39 = v 39) (fun u => YW cy y0 r u.1 u.2.1 u.2.2.1 u.2.2.2) := by
  refine ctI_of (by decide) (Nat.le_of_ble_eq_true rfl) (fun p e s m below meth c A ls Q hx hb hml hts hown hE hP hD hA hl ret => ?_)
  have hUv : (v 35).toInt + (v 36).toInt ≤ 40 := hIv.2
  have hown : s.vm.findClass RX11 = some m.cls := hown
  have hS : va_S A s.heap s.heap [] := va_S.rf
  have hl : lv_has ls 10 [(0, .ref y0), (1, .int p1), (2, .int p2), (3, .int p3)] := hl
  refine lv_aload_n hx hb dX11_sewing_0 rfl (lv_at hl 0 rfl) ?_
  refine lv_iload_n hx hb dX11_sewing_1 rfl (lv_at hl 1 rfl) ?_
  refine cbVi (n := 1) (rest := []) hx hb hml hown hts hE hP hD hS hA (sY_X11_isCoat_1 l dC dI cy y0 r p1 v f w g hIv hCf hRf ) k_1771 k_1773 k_75 k_114 k_1774 (by decide +kernel) ⟨Nat.le_of_ble_eq_true rfl, Nat.le_of_ble_eq_true rfl⟩ 0 11 rfl rfl (rfl) hl.1 rfl (Nat.le_of_ble_eq_true rfl) dX11_sewing_2 (fun r1 u H locs hw hP hD hS => ?_)
  rcases hw with ⟨g2, g2_0, g2_1, g2_2⟩ | ⟨g2⟩
  · skip
    subst g2
    refine lv_if_eq (tgt := 25) hx hb dX11_sewing_5 (by decide) (fun c0 => absurd c0 (by decide)) (fun _ => ?_)
    refine lv_aload_n hx hb dX11_sewing_8 rfl (lv_at hl 0 rfl) ?_
    refine lv_iload_n hx hb dX11_sewing_9 rfl (lv_at hl 2 rfl) ?_
    refine cbVi (n := 1) (rest := []) hx hb hml hown hts hE hP hD hS hA (sY_X11_isMan_1 l dC dI cy y0 r p2 v f w g hIv hCf hRf ) k_1732 k_1734 k_70 k_114 k_1735 (by decide +kernel) ⟨Nat.le_of_ble_eq_true rfl, Nat.le_of_ble_eq_true rfl⟩ 0 11 rfl rfl (rfl) hl.1 rfl (Nat.le_of_ble_eq_true rfl) dX11_sewing_10 (fun r3 u H locs hw hP hD hS => ?_)
    rcases hw with ⟨g4, g4_0, g4_1, g4_2⟩ | ⟨g4⟩
    · skip
      subst g4
      refine lv_if_eq (tgt := 25) hx hb dX11_sewing_13 (by decide) (fun c0 => absurd c0 (by decide)) (fun _ => ?_)
      refine lv_iload_n hx hb dX11_sewing_16 rfl (lv_at hl 3 rfl) ?_
      refine lv_iconst (v := 0) hx hb dX11_sewing_17 (by decide) ?_
      refine lv_iconst (v := 2) hx hb dX11_sewing_18 (by decide) ?_
      have lt5 : (0 : Int32).toInt = 0 := by decide
      have lt6 : (2 : Int32).toInt = 2 := by decide
      refine cbSi (n := 3) (rest := []) hx hb hml hown hts hE hP hD hS hA (sY_X11_isIn_1 l dC dI cy y0 r p3 0 2 v f w g hIv hCf hRf ) k_1736 k_1737 k_114 k_1738 (by decide +kernel) ⟨Nat.le_of_ble_eq_true rfl, Nat.le_of_ble_eq_true rfl⟩ (rfl) hl.1 rfl (Nat.le_of_ble_eq_true rfl) dX11_sewing_19 (fun r7 u H locs hw hP hD hS => ?_)
      rcases hw with ⟨g8, g8_0, g8_1⟩ | ⟨g8⟩
      · skip
        subst g8
        refine lv_if_ne (tgt := 28) hx hb dX11_sewing_22 (by decide) (fun _ => ?_) (fun c0 => absurd c0 (by decide))
        refine lv_bipush (v := 20) hx hb dX11_sewing_28 (by decide) ?_
        refine lv_aload_n hx hb dX11_sewing_30 rfl (lv_at hl 0 rfl) ?_
        refine va_get (D := (dC, dI)) (ci := 11) (v := .ref (r 59)) (C := RX11) (T := TX11) (N := 79) hx hb hts inB_11 hown hE.1 hP 0 rfl rfl 59 (by decide) (hts _ k_1379) (fun _ h9 => h9) rfl dX11_sewing_31 ?_
        refine lv_bipush (v := 12) hx hb dX11_sewing_34 (by decide) ?_
        refine lv_iload_n hx hb dX11_sewing_36 rfl (lv_at hl 1 rfl) ?_
        refine lv_iadd hx hb dX11_sewing_37 ?_
        refine lv_topi (fun t9 et9 => ?_)
        have rg10 := fb_rng p1
        have zt9 : t9.toInt = 12 + p1.toInt := by rw [et9]; exact add_i (by decide) rfl (by omega) (by omega)
        refine ldI hx hb hE hP 24 rfl (vp_in_iff.mpr ⟨by omega, by omega⟩) rfl rfl dX11_sewing_38 ?_
        refine lv_topi (fun t11 et11 => ?_)
        have zt11 : t9.toInt.toNat % 39 < 6 ∨ 12 ≤ t9.toInt.toNat % 39 ∨ (-1 ≤ t11.toInt ∧ t11.toInt ≤ 5) := by rw [et11]; exact wear_ld hCf.1 (show t9.toInt.toNat < 39 by omega)
        refine cbSi (n := 2) (rest := []) hx hb hml hown hts hE hP hD hS hA (sY_X11_lesser_1 l dC dI cy y0 r 20 t11 v f w g hIv hCf hRf ) k_1799 k_1800 k_114 k_1801 (by decide +kernel) ⟨Nat.le_of_ble_eq_true rfl, Nat.le_of_ble_eq_true rfl⟩ (rfl) hl.1 rfl (Nat.le_of_ble_eq_true rfl) dX11_sewing_39 (fun r12 u H locs hw hP hD hS => ?_)
        refine lv_istore (lv' := [(4, .int r12), (0, .ref y0), (1, .int p1), (2, .int p2), (3, .int p3)]) hx hb dX11_sewing_42 hl (by decide) rfl (fun ls hl => ?_)
        refine lv_bipush (v := 20) hx hb dX11_sewing_44 (by decide) ?_
        refine lv_aload_n hx hb dX11_sewing_46 rfl (lv_at hl 1 rfl) ?_
        refine va_get (D := (dC, dI)) (ci := 11) (v := .ref (r 59)) (C := RX11) (T := TX11) (N := 79) hx hb hts inB_11 hown hE.1 hP 0 rfl rfl 59 (by decide) (hts _ k_1379) (fun _ h9 => h9) rfl dX11_sewing_47 ?_
        refine lv_bipush (v := 18) hx hb dX11_sewing_50 (by decide) ?_
        refine lv_iload_n hx hb dX11_sewing_52 rfl (lv_at hl 2 rfl) ?_
        refine lv_iadd hx hb dX11_sewing_53 ?_
        refine lv_topi (fun t13 et13 => ?_)
        have zt13 : t13.toInt = 18 + p1.toInt := by rw [et13]; exact add_i (by decide) rfl (by omega) (by omega)
        refine ldI hx hb hE hP 24 rfl (vp_in_iff.mpr ⟨by omega, by omega⟩) rfl rfl dX11_sewing_54 ?_
        refine lv_topi (fun t14 et14 => ?_)
        have zt14 : t13.toInt.toNat % 39 < 6 ∨ 12 ≤ t13.toInt.toNat % 39 ∨ (-1 ≤ t14.toInt ∧ t14.toInt ≤ 5) := by rw [et14]; exact wear_ld hCf.1 (show t13.toInt.toNat < 39 by omega)
        refine cbSi (n := 2) (rest := []) hx hb hml hown hts hE hP hD hS hA (sY_X11_lesser_1 l dC dI cy y0 r 20 t14 v f w g hIv hCf hRf ) k_1799 k_1800 k_114 k_1801 (by decide +kernel) ⟨Nat.le_of_ble_eq_true rfl, Nat.le_of_ble_eq_true rfl⟩ (rfl) hl.1 rfl (Nat.le_of_ble_eq_true rfl) dX11_sewing_55 (fun r15 u H locs hw hP hD hS => ?_)
        refine lv_istore (lv' := [(5, .int r15), (4, .int r12), (0, .ref y0), (1, .int p1), (2, .int p2), (3, .int p3)]) hx hb dX11_sewing_58 hl (by decide) rfl (fun ls hl => ?_)
        refine lv_bipush (v := 20) hx hb dX11_sewing_60 (by decide) ?_
        refine lv_aload_n hx hb dX11_sewing_62 rfl (lv_at hl 2 rfl) ?_
        refine va_get (D := (dC, dI)) (ci := 11) (v := .ref (r 59)) (C := RX11) (T := TX11) (N := 79) hx hb hts inB_11 hown hE.1 hP 0 rfl rfl 59 (by decide) (hts _ k_1379) (fun _ h9 => h9) rfl dX11_sewing_63 ?_
        refine lv_bipush (v := 24) hx hb dX11_sewing_66 (by decide) ?_
        refine lv_iload_n hx hb dX11_sewing_68 rfl (lv_at hl 3 rfl) ?_
        refine lv_iadd hx hb dX11_sewing_69 ?_
        refine lv_topi (fun t16 et16 => ?_)
        have zt16 : t16.toInt = 24 + p1.toInt := by rw [et16]; exact add_i (by decide) rfl (by omega) (by omega)
        refine ldI hx hb hE hP 24 rfl (vp_in_iff.mpr ⟨by omega, by omega⟩) rfl rfl dX11_sewing_70 ?_
        refine lv_topi (fun t17 et17 => ?_)
        have zt17 : t16.toInt.toNat % 39 < 6 ∨ 12 ≤ t16.toInt.toNat % 39 ∨ (-1 ≤ t17.toInt ∧ t17.toInt ≤ 5) := by rw [et17]; exact wear_ld hCf.1 (show t16.toInt.toNat < 39 by omega)
        refine cbSi (n := 2) (rest := []) hx hb hml hown hts hE hP hD hS hA (sY_X11_lesser_1 l dC dI cy y0 r 20 t17 v f w g hIv hCf hRf ) k_1799 k_1800 k_114 k_1801 (by decide +kernel) ⟨Nat.le_of_ble_eq_true rfl, Nat.le_of_ble_eq_true rfl⟩ (rfl) hl.1 rfl (Nat.le_of_ble_eq_true rfl) dX11_sewing_71 (fun r18 u H locs hw hP hD hS => ?_)
        refine lv_bipush (v := 99) hx hb dX11_sewing_74 (by decide) ?_
        refine lv_aload_n hx hb dX11_sewing_76 rfl (lv_at hl 2 rfl) ?_
        refine va_get (D := (dC, dI)) (ci := 11) (v := .ref (r 59)) (C := RX11) (T := TX11) (N := 79) hx hb hts inB_11 hown hE.1 hP 0 rfl rfl 59 (by decide) (hts _ k_1379) (fun _ h9 => h9) rfl dX11_sewing_77 ?_
        refine lv_bipush (v := 18) hx hb dX11_sewing_80 (by decide) ?_
        refine lv_iload_n hx hb dX11_sewing_82 rfl (lv_at hl 3 rfl) ?_
        refine lv_iadd hx hb dX11_sewing_83 ?_
        refine tI (y := t13) et13.symm ?_
        refine ldI hx hb hE hP 24 rfl (vp_in_iff.mpr ⟨by omega, by omega⟩) rfl rfl dX11_sewing_84 ?_
        refine tI (y := t14) et14.symm ?_
        refine lv_isub hx hb dX11_sewing_85 ?_
        refine lv_topi (fun t19 et19 => ?_)
        refine cbSi (n := 2) (rest := []) hx hb hml hown hts hE hP hD hS hA (sY_X11_lesser_1 l dC dI cy y0 r r18 t19 v f w g hIv hCf hRf ) k_1799 k_1800 k_114 k_1801 (by decide +kernel) ⟨Nat.le_of_ble_eq_true rfl, Nat.le_of_ble_eq_true rfl⟩ (rfl) hl.1 rfl (Nat.le_of_ble_eq_true rfl) dX11_sewing_86 (fun r20 u H locs hw hP hD hS => ?_)
        refine lv_istore (lv' := [(6, .int r20), (5, .int r15), (4, .int r12), (0, .ref y0), (1, .int p1), (2, .int p2), (3, .int p3)]) hx hb dX11_sewing_89 hl (by decide) rfl (fun ls hl => ?_)
        refine lv_iconst (v := 0) hx hb dX11_sewing_91 (by decide) ?_
        refine lv_istore (lv' := [(7, .int 0), (6, .int r20), (5, .int r15), (4, .int r12), (0, .ref y0), (1, .int p1), (2, .int p2), (3, .int p3)]) hx hb dX11_sewing_92 hl (by decide) rfl (fun ls hl => ?_)
        have lp21 : ∀ (n21 : Nat) (l7_21 : Int32) (v21 : Nat → Int32) (f21 : Nat → Nat → Int32) (w21 : Int64) (g21 : Nat → Int64), YI v21 → YC f21 → progOK (f21 4) (f21 5) (v21 9).toInt.toNat → v21 0 = (v 0) → v21 3 = (v 3) → v21 4 = (v 4) → v21 8 = (v 8) → v21 9 = (v 9) → v21 10 = (v 10) → v21 24 = (v 24) → v21 25 = (v 25) → v21 35 = (v 35) → v21 36 = (v 36) → v21 38 = (v 38) → v21 39 = (v 39) → ((0 : Int) ≤ l7_21.toInt ∧ l7_21.toInt ≤ 2147483647) → (2147483647 - l7_21.toInt).toNat < n21 → ∀ (H : Heap) (locs : List Loc) (ls : Array Slot), va_P (dC, dI) vwCl (YW cy y0 r v21 f21 w21 g21) H → va_D A (YW cy y0 r v21 f21 w21 g21) → va_S A s.heap H locs → lv_has ls 10 [(7, .int l7_21), (6, .int r20), (5, .int r15), (4, .int r12), (0, .ref y0), (1, .int p1), (2, .int p2), (3, .int p3)] → W p l e { frames := 5, cells := 0, slots := 0, locals := 150 } s m ([.ref y0, .int p1, .int p2, .int p3] : List Value).toArray below meth c H locs 0 0 Q (F0 m 94 ls []) := by
          intro n21
          induction n21 with
          | zero => intro l7_21 v21 f21 w21 g21 hIv21 hCf21 hRf21 hq0_v21 hq3_v21 hq4_v21 hq8_v21 hq9_v21 hq10_v21 hq24_v21 hq25_v21 hq35_v21 hq36_v21 hq38_v21 hq39_v21 hr7_21 hm; exact absurd hm (Nat.not_lt_zero _)
          | succ n21 ih21 =>
            intro l7_21 v21 f21 w21 g21 hIv21 hCf21 hRf21 hq0_v21 hq3_v21 hq4_v21 hq8_v21 hq9_v21 hq10_v21 hq24_v21 hq25_v21 hq35_v21 hq36_v21 hq38_v21 hq39_v21 hr7_21 hm21 H locs ls hP hD hS hl
            have hUv21 : (v21 35).toInt + (v21 36).toInt ≤ 40 := hIv21.2
            have zq9_v21 := congrArg Int32.toInt hq9_v21
            have zq35_v21 := congrArg Int32.toInt hq35_v21
            have zq36_v21 := congrArg Int32.toInt hq36_v21
            refine lv_iload hx hb dX11_sewing_94 (lv_at hl 0 rfl) ?_
            refine lv_bipush (v := 40) hx hb dX11_sewing_96 (by decide) ?_
            refine lv_icmp_gt (tgt := 226) hx hb dX11_sewing_98 (by decide) (fun c22 => ?_) (fun c22 => ?_)
            · skip
              have zc22 : 40 < l7_21.toInt := by rw [fa_lt, show (40 : Int32).toInt = 40 from by decide] at c22; exact c22
              refine lv_bipush (v := (-100)) hx hb dX11_sewing_226 (by decide) ?_
              exact ret (-100) (v21, f21, w21, g21) _ _ _ _ _ _ rfl ⟨hIv21, hCf21, hRf21, (show v21 0 = v 0 from hq0_v21), (show v21 3 = v 3 from hq3_v21), (show v21 4 = v 4 from hq4_v21), (show v21 8 = v 8 from hq8_v21), (show v21 9 = v 9 from hq9_v21), (show v21 10 = v 10 from hq10_v21), (show v21 24 = v 24 from hq24_v21), (show v21 25 = v 25 from hq25_v21), (show v21 35 = v 35 from hq35_v21), (show v21 36 = v 36 from hq36_v21), (show v21 38 = v 38 from hq38_v21), (show v21 39 = v 39 from hq39_v21)⟩ hP hD hS dX11_sewing_228 (Nat.le_refl _) (Nat.le_refl _)
            · skip
              have zc22 : ¬ (40 < l7_21.toInt) := by rw [fa_lt, show (40 : Int32).toInt = 40 from by decide] at c22; exact c22
              refine lv_iconst (v := 0) hx hb dX11_sewing_101 (by decide) ?_
              refine lv_istore (lv' := [(8, .int 0), (7, .int l7_21), (6, .int r20), (5, .int r15), (4, .int r12), (0, .ref y0), (1, .int p1), (2, .int p2), (3, .int p3)]) hx hb dX11_sewing_102 hl (by decide) rfl (fun ls hl => ?_)
              have lp23 : ∀ (n23 : Nat) (l8_23 : Int32) (v23 : Nat → Int32) (f23 : Nat → Nat → Int32) (w23 : Int64) (g23 : Nat → Int64), YI v23 → YC f23 → progOK (f23 4) (f23 5) (v23 9).toInt.toNat → v23 0 = (v 0) → v23 3 = (v 3) → v23 4 = (v 4) → v23 8 = (v 8) → v23 9 = (v 9) → v23 10 = (v 10) → v23 24 = (v 24) → v23 25 = (v 25) → v23 35 = (v 35) → v23 36 = (v 36) → v23 38 = (v 38) → v23 39 = (v 39) → ((0 : Int) ≤ l8_23.toInt ∧ l8_23.toInt ≤ 2147483647) → (2147483647 - l8_23.toInt).toNat < n23 → ∀ (H : Heap) (locs : List Loc) (ls : Array Slot), va_P (dC, dI) vwCl (YW cy y0 r v23 f23 w23 g23) H → va_D A (YW cy y0 r v23 f23 w23 g23) → va_S A s.heap H locs → lv_has ls 10 [(8, .int l8_23), (7, .int l7_21), (6, .int r20), (5, .int r15), (4, .int r12), (0, .ref y0), (1, .int p1), (2, .int p2), (3, .int p3)] → W p l e { frames := 5, cells := 0, slots := 0, locals := 150 } s m ([.ref y0, .int p1, .int p2, .int p3] : List Value).toArray below meth c H locs 0 0 Q (F0 m 104 ls []) := by
                intro n23
                induction n23 with
                | zero => intro l8_23 v23 f23 w23 g23 hIv23 hCf23 hRf23 hq0_v23 hq3_v23 hq4_v23 hq8_v23 hq9_v23 hq10_v23 hq24_v23 hq25_v23 hq35_v23 hq36_v23 hq38_v23 hq39_v23 hr8_23 hm; exact absurd hm (Nat.not_lt_zero _)
                | succ n23 ih23 =>
                  intro l8_23 v23 f23 w23 g23 hIv23 hCf23 hRf23 hq0_v23 hq3_v23 hq4_v23 hq8_v23 hq9_v23 hq10_v23 hq24_v23 hq25_v23 hq35_v23 hq36_v23 hq38_v23 hq39_v23 hr8_23 hm23 H locs ls hP hD hS hl
                  have hUv23 : (v23 35).toInt + (v23 36).toInt ≤ 40 := hIv23.2
                  have zq9_v23 := congrArg Int32.toInt hq9_v23
                  have zq35_v23 := congrArg Int32.toInt hq35_v23
                  have zq36_v23 := congrArg Int32.toInt hq36_v23
                  refine lv_iload hx hb dX11_sewing_104 (lv_at hl 0 rfl) ?_
                  refine lv_iload hx hb dX11_sewing_106 (lv_at hl 1 rfl) ?_
                  refine lv_iload hx hb dX11_sewing_108 (lv_at hl 4 rfl) ?_
                  refine cbSi (n := 2) (rest := [.int l8_23]) hx hb hml hown hts hE hP hD hS hA (sY_X11_lesser_1 l dC dI cy y0 r l7_21 r12 v23 f23 w23 g23 hIv23 hCf23 hRf23 ) k_1799 k_1800 k_114 k_1801 (by decide +kernel) ⟨Nat.le_of_ble_eq_true rfl, Nat.le_of_ble_eq_true rfl⟩ (rfl) hl.1 rfl (Nat.le_of_ble_eq_true rfl) dX11_sewing_110 (fun r24 u H locs hw hP hD hS => ?_)
                  refine lv_icmp_gt (tgt := 220) hx hb dX11_sewing_113 (by decide) (fun c25 => ?_) (fun c25 => ?_)
                  · skip
                    have zc25 : r24.toInt < l8_23.toInt := by rw [fa_lt] at c25; exact c25
                    have rg26 := fb_rng l8_23
                    have rg27 := fb_rng r24
                    obtain ⟨t28, et28⟩ : ∃ y : Int32, y = l7_21 + 1 := ⟨_, rfl⟩
                    have rg29 := fb_rng l7_21
                    have zt28 : t28.toInt = l7_21.toInt + 1 := by rw [et28]; exact add_i rfl (by decide) (by omega) (by omega)
                    refine lv_iinc (v := t28) (lv' := [(7, .int t28), (8, .int l8_23), (6, .int r20), (5, .int r15), (4, .int r12), (0, .ref y0), (1, .int p1), (2, .int p2), (3, .int p3)]) hx hb dX11_sewing_220 hl (k := 1) rfl (by rw [et28]; rfl) (by decide) rfl (fun ls hl => ?_)
                    refine lv_goto (tgt := 94) hx hb dX11_sewing_223 (by decide) ?_
                    have rg30 := fb_rng t28
                    exact ih21 t28 v23 f23 w23 g23 hIv23 hCf23 hRf23 hq0_v23 hq3_v23 hq4_v23 hq8_v23 hq9_v23 hq10_v23 hq24_v23 hq25_v23 hq35_v23 hq36_v23 hq38_v23 hq39_v23 ⟨show (0 : Int) ≤ t28.toInt by omega, show t28.toInt ≤ (2147483647 : Int) by omega⟩ (by show (2147483647 - t28.toInt).toNat < n21; omega) _ _ _ hP hD hS (lv_sub hl [0, 2, 3, 4, 5, 6, 7, 8] rfl)
                  · skip
                    have zc25 : ¬ (r24.toInt < l8_23.toInt) := by rw [fa_lt] at c25; exact c25
                    have rg31 := fb_rng l8_23
                    have rg32 := fb_rng r24
                    refine lv_iload hx hb dX11_sewing_116 (lv_at hl 1 rfl) ?_
                    refine lv_iload hx hb dX11_sewing_118 (lv_at hl 0 rfl) ?_
                    refine lv_isub hx hb dX11_sewing_120 ?_
                    refine lv_topi (fun t33 et33 => ?_)
                    have rg34 := fb_rng l7_21
                    have zt33 : t33.toInt = l7_21.toInt - l8_23.toInt := by rw [et33]; exact sub_i rfl rfl (by omega) (by omega)
                    refine lv_istore (lv' := [(9, .int t33), (8, .int l8_23), (7, .int l7_21), (6, .int r20), (5, .int r15), (4, .int r12), (0, .ref y0), (1, .int p1), (2, .int p2), (3, .int p3)]) hx hb dX11_sewing_121 hl (by decide) rfl (fun ls hl => ?_)
                    refine lv_iload hx hb dX11_sewing_123 (lv_at hl 0 rfl) ?_
                    refine lv_iload hx hb dX11_sewing_125 (lv_at hl 4 rfl) ?_
                    refine lv_icmp_gt (tgt := 165) hx hb dX11_sewing_127 (by decide) (fun c35 => ?_) (fun c35 => ?_)
                    · skip
                      have zc35 : r15.toInt < t33.toInt := by rw [fa_lt] at c35; exact c35
                      have rg36 := fb_rng t33
                      have rg37 := fb_rng r15
                      refine lv_iload hx hb dX11_sewing_165 (lv_at hl 0 rfl) ?_
                      refine lv_if_le (tgt := 214) hx hb dX11_sewing_167 (by decide) (fun c38 => ?_) (fun c38 => ?_)
                      · skip
                        have zc38 : t33.toInt ≤ 0 := by rw [fa_le, show (0 : Int32).toInt = 0 from by decide] at c38; exact c38
                        obtain ⟨t39, et39⟩ : ∃ y : Int32, y = l8_23 + 1 := ⟨_, rfl⟩
                        refine lv_iinc (v := t39) (lv' := [(8, .int t39), (9, .int t33), (7, .int l7_21), (6, .int r20), (5, .int r15), (4, .int r12), (0, .ref y0), (1, .int p1), (2, .int p2), (3, .int p3)]) hx hb dX11_sewing_214 hl (k := 1) rfl (by rw [et39]; rfl) (by decide) rfl (fun ls hl => ?_)
                        refine lv_goto (tgt := 104) hx hb dX11_sewing_217 (by decide) ?_
                        have rg40 := fb_rng t39
                        exact ih23 t39 v23 f23 w23 g23 hIv23 hCf23 hRf23 hq0_v23 hq3_v23 hq4_v23 hq8_v23 hq9_v23 hq10_v23 hq24_v23 hq25_v23 hq35_v23 hq36_v23 hq38_v23 hq39_v23 ⟨show (0 : Int) ≤ t39.toInt by omega, show t39.toInt ≤ (2147483647 : Int) by omega⟩ (by show (2147483647 - t39.toInt).toNat < n23; omega) _ _ _ hP hD hS (lv_sub hl [0, 2, 3, 4, 5, 6, 7, 8, 9] rfl)
                      · skip
                        have zc38 : ¬ (t33.toInt ≤ 0) := by rw [fa_le, show (0 : Int32).toInt = 0 from by decide] at c38; exact c38
                        refine lv_iload hx hb dX11_sewing_170 (lv_at hl 0 rfl) ?_
                        refine lv_iload hx hb dX11_sewing_172 (lv_at hl 3 rfl) ?_
                        refine lv_icmp_gt (tgt := 214) hx hb dX11_sewing_174 (by decide) (fun c41 => ?_) (fun c41 => ?_)
                        · skip
                          have zc41 : r20.toInt < t33.toInt := by rw [fa_lt] at c41; exact c41
                          have rg42 := fb_rng r20
                          obtain ⟨t43, et43⟩ : ∃ y : Int32, y = l8_23 + 1 := ⟨_, rfl⟩
                          refine lv_iinc (v := t43) (lv' := [(8, .int t43), (9, .int t33), (7, .int l7_21), (6, .int r20), (5, .int r15), (4, .int r12), (0, .ref y0), (1, .int p1), (2, .int p2), (3, .int p3)]) hx hb dX11_sewing_214 hl (k := 1) rfl (by rw [et43]; rfl) (by decide) rfl (fun ls hl => ?_)
                          refine lv_goto (tgt := 104) hx hb dX11_sewing_217 (by decide) ?_
                          have rg44 := fb_rng t43
                          exact ih23 t43 v23 f23 w23 g23 hIv23 hCf23 hRf23 hq0_v23 hq3_v23 hq4_v23 hq8_v23 hq9_v23 hq10_v23 hq24_v23 hq25_v23 hq35_v23 hq36_v23 hq38_v23 hq39_v23 ⟨show (0 : Int) ≤ t43.toInt by omega, show t43.toInt ≤ (2147483647 : Int) by omega⟩ (by show (2147483647 - t43.toInt).toNat < n23; omega) _ _ _ hP hD hS (lv_sub hl [0, 2, 3, 4, 5, 6, 7, 8, 9] rfl)
                        · skip
                          have zc41 : ¬ (r20.toInt < t33.toInt) := by rw [fa_lt] at c41; exact c41
                          have rg45 := fb_rng r20
                          refine lv_aload_n hx hb dX11_sewing_177 rfl (lv_at hl 6 rfl) ?_
                          refine lv_iload_n hx hb dX11_sewing_178 rfl (lv_at hl 7 rfl) ?_
                          refine lv_iload_n hx hb dX11_sewing_179 rfl (lv_at hl 8 rfl) ?_
                          refine lv_iload hx hb dX11_sewing_180 (lv_at hl 1 rfl) ?_
                          refine lv_iload hx hb dX11_sewing_182 (lv_at hl 0 rfl) ?_
                          refine lv_ineg hx hb dX11_sewing_184 ?_
                          refine lv_topi (fun t46 et46 => ?_)
                          refine cbVi (n := 4) (rest := []) hx hb hml hown hts hE hP hD hS hA (sY_X11_isSewn_1 l dC dI cy y0 r p1 p2 l8_23 t46 v23 f23 w23 g23 hIv23 hCf23 hRf23 ) k_1892 k_1894 k_87 k_114 k_1895 (by decide +kernel) ⟨Nat.le_of_ble_eq_true rfl, Nat.le_of_ble_eq_true rfl⟩ 0 11 rfl rfl (rfl) hl.1 rfl (Nat.le_of_ble_eq_true rfl) dX11_sewing_185 (fun r47 u H locs hw hP hD hS => ?_)
                          obtain ⟨v48, f49, w50, g51⟩ := u
                          obtain ⟨hIv48, hCf49, hRf49, hk0_v48, hk3_v48, hk4_v48, hk8_v48, hk9_v48, hk10_v48, hk24_v48, hk25_v48, hk35_v48, hk36_v48, hk38_v48, hk39_v48, hw⟩ := hw
                          have hP : va_P (dC, dI) vwCl (YW cy y0 r v48 f49 w50 g51) H := hP
                          have hD : va_D A (YW cy y0 r v48 f49 w50 g51) := hD
                          have hUv48 : (v48 35).toInt + (v48 36).toInt ≤ 40 := hIv48.2
                          have hq0_v48 : v48 0 = (v 0) := hk0_v48.trans hq0_v23
                          have hq3_v48 : v48 3 = (v 3) := hk3_v48.trans hq3_v23
                          have hq4_v48 : v48 4 = (v 4) := hk4_v48.trans hq4_v23
                          have hq8_v48 : v48 8 = (v 8) := hk8_v48.trans hq8_v23
                          have hq9_v48 : v48 9 = (v 9) := hk9_v48.trans hq9_v23
                          have zq9_v48 := congrArg Int32.toInt hq9_v48
                          have hq10_v48 : v48 10 = (v 10) := hk10_v48.trans hq10_v23
                          have hq24_v48 : v48 24 = (v 24) := hk24_v48.trans hq24_v23
                          have hq25_v48 : v48 25 = (v 25) := hk25_v48.trans hq25_v23
                          have hq35_v48 : v48 35 = (v 35) := hk35_v48.trans hq35_v23
                          have zq35_v48 := congrArg Int32.toInt hq35_v48
                          have hq36_v48 : v48 36 = (v 36) := hk36_v48.trans hq36_v23
                          have zq36_v48 := congrArg Int32.toInt hq36_v48
                          have hq38_v48 : v48 38 = (v 38) := hk38_v48.trans hq38_v23
                          have hq39_v48 : v48 39 = (v 39) := hk39_v48.trans hq39_v23
                          rcases hw with ⟨g52⟩ | ⟨g52⟩
                          · skip
                            subst g52
                            refine lv_if_eq (tgt := 214) hx hb dX11_sewing_188 (by decide) (fun c0 => absurd c0 (by decide)) (fun _ => ?_)
                            refine lv_iload_n hx hb dX11_sewing_191 rfl (lv_at hl 9 rfl) ?_
                            refine lv_if_ne (tgt := 200) hx hb dX11_sewing_192 (by decide) (fun c53 => ?_) (fun c53 => ?_)
                            · skip
                              have zc53 : ¬ (p3.toInt = 0) := by rw [fa_eq, show (0 : Int32).toInt = 0 from by decide] at c53; exact c53
                              refine lv_iload_n hx hb dX11_sewing_200 rfl (lv_at hl 9 rfl) ?_
                              refine lv_iconst (v := 1) hx hb dX11_sewing_201 (by decide) ?_
                              refine lv_icmp_ne (tgt := 210) hx hb dX11_sewing_202 (by decide) (fun c54 => ?_) (fun c54 => ?_)
                              · skip
                                have zc54 : ¬ (p3.toInt = 1) := by rw [fa_eq, show (1 : Int32).toInt = 1 from by decide] at c54; exact c54
                                refine lv_iload hx hb dX11_sewing_210 (lv_at hl 0 rfl) ?_
                                refine lv_ineg hx hb dX11_sewing_212 ?_
                                refine lv_topi (fun t55 et55 => ?_)
                                exact ret t55 (v48, f49, w50, g51) _ _ _ _ _ _ rfl ⟨hIv48, hCf49, hRf49, (hk0_v48.trans hq0_v23), (hk3_v48.trans hq3_v23), (hk4_v48.trans hq4_v23), (hk8_v48.trans hq8_v23), (hk9_v48.trans hq9_v23), (hk10_v48.trans hq10_v23), (hk24_v48.trans hq24_v23), (hk25_v48.trans hq25_v23), (hk35_v48.trans hq35_v23), (hk36_v48.trans hq36_v23), (hk38_v48.trans hq38_v23), (hk39_v48.trans hq39_v23)⟩ hP hD hS dX11_sewing_213 (Nat.le_refl _) (Nat.le_refl _)
                              · skip
                                have zc54 : p3.toInt = 1 := by rw [fa_eq, show (1 : Int32).toInt = 1 from by decide] at c54; exact c54
                                refine lv_iload hx hb dX11_sewing_205 (lv_at hl 1 rfl) ?_
                                refine lv_goto (tgt := 213) hx hb dX11_sewing_207 (by decide) ?_
                                exact ret l8_23 (v48, f49, w50, g51) _ _ _ _ _ _ rfl ⟨hIv48, hCf49, hRf49, (hk0_v48.trans hq0_v23), (hk3_v48.trans hq3_v23), (hk4_v48.trans hq4_v23), (hk8_v48.trans hq8_v23), (hk9_v48.trans hq9_v23), (hk10_v48.trans hq10_v23), (hk24_v48.trans hq24_v23), (hk25_v48.trans hq25_v23), (hk35_v48.trans hq35_v23), (hk36_v48.trans hq36_v23), (hk38_v48.trans hq38_v23), (hk39_v48.trans hq39_v23)⟩ hP hD hS dX11_sewing_213 (Nat.le_refl _) (Nat.le_refl _)
                            · skip
                              have zc53 : p3.toInt = 0 := by rw [fa_eq, show (0 : Int32).toInt = 0 from by decide] at c53; exact c53
                              refine lv_iload hx hb dX11_sewing_195 (lv_at hl 2 rfl) ?_
                              refine lv_goto (tgt := 213) hx hb dX11_sewing_197 (by decide) ?_
                              exact ret l7_21 (v48, f49, w50, g51) _ _ _ _ _ _ rfl ⟨hIv48, hCf49, hRf49, (hk0_v48.trans hq0_v23), (hk3_v48.trans hq3_v23), (hk4_v48.trans hq4_v23), (hk8_v48.trans hq8_v23), (hk9_v48.trans hq9_v23), (hk10_v48.trans hq10_v23), (hk24_v48.trans hq24_v23), (hk25_v48.trans hq25_v23), (hk35_v48.trans hq35_v23), (hk36_v48.trans hq36_v23), (hk38_v48.trans hq38_v23), (hk39_v48.trans hq39_v23)⟩ hP hD hS dX11_sewing_213 (Nat.le_refl _) (Nat.le_refl _)
                          · skip
                            subst g52
                            refine lv_if_eq (tgt := 214) hx hb dX11_sewing_188 (by decide) (fun _ => ?_) (fun c0 => absurd (by decide) c0)
                            obtain ⟨t56, et56⟩ : ∃ y : Int32, y = l8_23 + 1 := ⟨_, rfl⟩
                            refine lv_iinc (v := t56) (lv' := [(8, .int t56), (9, .int t33), (7, .int l7_21), (6, .int r20), (5, .int r15), (4, .int r12), (0, .ref y0), (1, .int p1), (2, .int p2), (3, .int p3)]) hx hb dX11_sewing_214 hl (k := 1) rfl (by rw [et56]; rfl) (by decide) rfl (fun ls hl => ?_)
                            refine lv_goto (tgt := 104) hx hb dX11_sewing_217 (by decide) ?_
                            have rg57 := fb_rng t56
                            exact ih23 t56 v48 f49 w50 g51 hIv48 hCf49 hRf49 hq0_v48 hq3_v48 hq4_v48 hq8_v48 hq9_v48 hq10_v48 hq24_v48 hq25_v48 hq35_v48 hq36_v48 hq38_v48 hq39_v48 ⟨show (0 : Int) ≤ t56.toInt by omega, show t56.toInt ≤ (2147483647 : Int) by omega⟩ (by show (2147483647 - t56.toInt).toNat < n23; omega) _ _ _ hP hD hS (lv_sub hl [0, 2, 3, 4, 5, 6, 7, 8, 9] rfl)
                    · skip
                      have zc35 : ¬ (r15.toInt < t33.toInt) := by rw [fa_lt] at c35; exact c35
                      have rg58 := fb_rng t33
                      have rg59 := fb_rng r15
                      refine lv_aload_n hx hb dX11_sewing_130 rfl (lv_at hl 6 rfl) ?_
                      refine lv_iload_n hx hb dX11_sewing_131 rfl (lv_at hl 7 rfl) ?_
                      refine lv_iload_n hx hb dX11_sewing_132 rfl (lv_at hl 8 rfl) ?_
                      refine lv_iload hx hb dX11_sewing_133 (lv_at hl 1 rfl) ?_
                      refine lv_iload hx hb dX11_sewing_135 (lv_at hl 0 rfl) ?_
                      refine cbVi (n := 4) (rest := []) hx hb hml hown hts hE hP hD hS hA (sY_X11_isSewn_1 l dC dI cy y0 r p1 p2 l8_23 t33 v23 f23 w23 g23 hIv23 hCf23 hRf23 ) k_1892 k_1894 k_87 k_114 k_1895 (by decide +kernel) ⟨Nat.le_of_ble_eq_true rfl, Nat.le_of_ble_eq_true rfl⟩ 0 11 rfl rfl (rfl) hl.1 rfl (Nat.le_of_ble_eq_true rfl) dX11_sewing_137 (fun r60 u H locs hw hP hD hS => ?_)
                      obtain ⟨v61, f62, w63, g64⟩ := u
                      obtain ⟨hIv61, hCf62, hRf62, hk0_v61, hk3_v61, hk4_v61, hk8_v61, hk9_v61, hk10_v61, hk24_v61, hk25_v61, hk35_v61, hk36_v61, hk38_v61, hk39_v61, hw⟩ := hw
                      have hP : va_P (dC, dI) vwCl (YW cy y0 r v61 f62 w63 g64) H := hP
                      have hD : va_D A (YW cy y0 r v61 f62 w63 g64) := hD
                      have hUv61 : (v61 35).toInt + (v61 36).toInt ≤ 40 := hIv61.2
                      have hq0_v61 : v61 0 = (v 0) := hk0_v61.trans hq0_v23
                      have hq3_v61 : v61 3 = (v 3) := hk3_v61.trans hq3_v23
                      have hq4_v61 : v61 4 = (v 4) := hk4_v61.trans hq4_v23
                      have hq8_v61 : v61 8 = (v 8) := hk8_v61.trans hq8_v23
                      have hq9_v61 : v61 9 = (v 9) := hk9_v61.trans hq9_v23
                      have zq9_v61 := congrArg Int32.toInt hq9_v61
                      have hq10_v61 : v61 10 = (v 10) := hk10_v61.trans hq10_v23
                      have hq24_v61 : v61 24 = (v 24) := hk24_v61.trans hq24_v23
                      have hq25_v61 : v61 25 = (v 25) := hk25_v61.trans hq25_v23
                      have hq35_v61 : v61 35 = (v 35) := hk35_v61.trans hq35_v23
                      have zq35_v61 := congrArg Int32.toInt hq35_v61
                      have hq36_v61 : v61 36 = (v 36) := hk36_v61.trans hq36_v23
                      have zq36_v61 := congrArg Int32.toInt hq36_v61
                      have hq38_v61 : v61 38 = (v 38) := hk38_v61.trans hq38_v23
                      have hq39_v61 : v61 39 = (v 39) := hk39_v61.trans hq39_v23
                      rcases hw with ⟨g65⟩ | ⟨g65⟩
                      · skip
                        subst g65
                        refine lv_if_eq (tgt := 165) hx hb dX11_sewing_140 (by decide) (fun c0 => absurd c0 (by decide)) (fun _ => ?_)
                        refine lv_iload_n hx hb dX11_sewing_143 rfl (lv_at hl 9 rfl) ?_
                        refine lv_if_ne (tgt := 152) hx hb dX11_sewing_144 (by decide) (fun c66 => ?_) (fun c66 => ?_)
                        · skip
                          have zc66 : ¬ (p3.toInt = 0) := by rw [fa_eq, show (0 : Int32).toInt = 0 from by decide] at c66; exact c66
                          refine lv_iload_n hx hb dX11_sewing_152 rfl (lv_at hl 9 rfl) ?_
                          refine lv_iconst (v := 1) hx hb dX11_sewing_153 (by decide) ?_
                          refine lv_icmp_ne (tgt := 162) hx hb dX11_sewing_154 (by decide) (fun c67 => ?_) (fun c67 => ?_)
                          · skip
                            have zc67 : ¬ (p3.toInt = 1) := by rw [fa_eq, show (1 : Int32).toInt = 1 from by decide] at c67; exact c67
                            refine lv_iload hx hb dX11_sewing_162 (lv_at hl 0 rfl) ?_
                            exact ret t33 (v61, f62, w63, g64) _ _ _ _ _ _ rfl ⟨hIv61, hCf62, hRf62, (hk0_v61.trans hq0_v23), (hk3_v61.trans hq3_v23), (hk4_v61.trans hq4_v23), (hk8_v61.trans hq8_v23), (hk9_v61.trans hq9_v23), (hk10_v61.trans hq10_v23), (hk24_v61.trans hq24_v23), (hk25_v61.trans hq25_v23), (hk35_v61.trans hq35_v23), (hk36_v61.trans hq36_v23), (hk38_v61.trans hq38_v23), (hk39_v61.trans hq39_v23)⟩ hP hD hS dX11_sewing_164 (Nat.le_refl _) (Nat.le_refl _)
                          · skip
                            have zc67 : p3.toInt = 1 := by rw [fa_eq, show (1 : Int32).toInt = 1 from by decide] at c67; exact c67
                            refine lv_iload hx hb dX11_sewing_157 (lv_at hl 1 rfl) ?_
                            refine lv_goto (tgt := 164) hx hb dX11_sewing_159 (by decide) ?_
                            exact ret l8_23 (v61, f62, w63, g64) _ _ _ _ _ _ rfl ⟨hIv61, hCf62, hRf62, (hk0_v61.trans hq0_v23), (hk3_v61.trans hq3_v23), (hk4_v61.trans hq4_v23), (hk8_v61.trans hq8_v23), (hk9_v61.trans hq9_v23), (hk10_v61.trans hq10_v23), (hk24_v61.trans hq24_v23), (hk25_v61.trans hq25_v23), (hk35_v61.trans hq35_v23), (hk36_v61.trans hq36_v23), (hk38_v61.trans hq38_v23), (hk39_v61.trans hq39_v23)⟩ hP hD hS dX11_sewing_164 (Nat.le_refl _) (Nat.le_refl _)
                        · skip
                          have zc66 : p3.toInt = 0 := by rw [fa_eq, show (0 : Int32).toInt = 0 from by decide] at c66; exact c66
                          refine lv_iload hx hb dX11_sewing_147 (lv_at hl 2 rfl) ?_
                          refine lv_goto (tgt := 164) hx hb dX11_sewing_149 (by decide) ?_
                          exact ret l7_21 (v61, f62, w63, g64) _ _ _ _ _ _ rfl ⟨hIv61, hCf62, hRf62, (hk0_v61.trans hq0_v23), (hk3_v61.trans hq3_v23), (hk4_v61.trans hq4_v23), (hk8_v61.trans hq8_v23), (hk9_v61.trans hq9_v23), (hk10_v61.trans hq10_v23), (hk24_v61.trans hq24_v23), (hk25_v61.trans hq25_v23), (hk35_v61.trans hq35_v23), (hk36_v61.trans hq36_v23), (hk38_v61.trans hq38_v23), (hk39_v61.trans hq39_v23)⟩ hP hD hS dX11_sewing_164 (Nat.le_refl _) (Nat.le_refl _)
                      · skip
                        subst g65
                        refine lv_if_eq (tgt := 165) hx hb dX11_sewing_140 (by decide) (fun _ => ?_) (fun c0 => absurd (by decide) c0)
                        refine lv_iload hx hb dX11_sewing_165 (lv_at hl 0 rfl) ?_
                        refine lv_if_le (tgt := 214) hx hb dX11_sewing_167 (by decide) (fun c68 => ?_) (fun c68 => ?_)
                        · skip
                          have zc68 : t33.toInt ≤ 0 := by rw [fa_le, show (0 : Int32).toInt = 0 from by decide] at c68; exact c68
                          obtain ⟨t69, et69⟩ : ∃ y : Int32, y = l8_23 + 1 := ⟨_, rfl⟩
                          refine lv_iinc (v := t69) (lv' := [(8, .int t69), (9, .int t33), (7, .int l7_21), (6, .int r20), (5, .int r15), (4, .int r12), (0, .ref y0), (1, .int p1), (2, .int p2), (3, .int p3)]) hx hb dX11_sewing_214 hl (k := 1) rfl (by rw [et69]; rfl) (by decide) rfl (fun ls hl => ?_)
                          refine lv_goto (tgt := 104) hx hb dX11_sewing_217 (by decide) ?_
                          have rg70 := fb_rng t69
                          exact ih23 t69 v61 f62 w63 g64 hIv61 hCf62 hRf62 hq0_v61 hq3_v61 hq4_v61 hq8_v61 hq9_v61 hq10_v61 hq24_v61 hq25_v61 hq35_v61 hq36_v61 hq38_v61 hq39_v61 ⟨show (0 : Int) ≤ t69.toInt by omega, show t69.toInt ≤ (2147483647 : Int) by omega⟩ (by show (2147483647 - t69.toInt).toNat < n23; omega) _ _ _ hP hD hS (lv_sub hl [0, 2, 3, 4, 5, 6, 7, 8, 9] rfl)
                        · skip
                          have zc68 : ¬ (t33.toInt ≤ 0) := by rw [fa_le, show (0 : Int32).toInt = 0 from by decide] at c68; exact c68
                          refine lv_iload hx hb dX11_sewing_170 (lv_at hl 0 rfl) ?_
                          refine lv_iload hx hb dX11_sewing_172 (lv_at hl 3 rfl) ?_
                          refine lv_icmp_gt (tgt := 214) hx hb dX11_sewing_174 (by decide) (fun c71 => ?_) (fun c71 => ?_)
                          · skip
                            have zc71 : r20.toInt < t33.toInt := by rw [fa_lt] at c71; exact c71
                            have rg72 := fb_rng r20
                            obtain ⟨t73, et73⟩ : ∃ y : Int32, y = l8_23 + 1 := ⟨_, rfl⟩
                            refine lv_iinc (v := t73) (lv' := [(8, .int t73), (9, .int t33), (7, .int l7_21), (6, .int r20), (5, .int r15), (4, .int r12), (0, .ref y0), (1, .int p1), (2, .int p2), (3, .int p3)]) hx hb dX11_sewing_214 hl (k := 1) rfl (by rw [et73]; rfl) (by decide) rfl (fun ls hl => ?_)
                            refine lv_goto (tgt := 104) hx hb dX11_sewing_217 (by decide) ?_
                            have rg74 := fb_rng t73
                            exact ih23 t73 v61 f62 w63 g64 hIv61 hCf62 hRf62 hq0_v61 hq3_v61 hq4_v61 hq8_v61 hq9_v61 hq10_v61 hq24_v61 hq25_v61 hq35_v61 hq36_v61 hq38_v61 hq39_v61 ⟨show (0 : Int) ≤ t73.toInt by omega, show t73.toInt ≤ (2147483647 : Int) by omega⟩ (by show (2147483647 - t73.toInt).toNat < n23; omega) _ _ _ hP hD hS (lv_sub hl [0, 2, 3, 4, 5, 6, 7, 8, 9] rfl)
                          · skip
                            have zc71 : ¬ (r20.toInt < t33.toInt) := by rw [fa_lt] at c71; exact c71
                            have rg75 := fb_rng r20
                            refine lv_aload_n hx hb dX11_sewing_177 rfl (lv_at hl 6 rfl) ?_
                            refine lv_iload_n hx hb dX11_sewing_178 rfl (lv_at hl 7 rfl) ?_
                            refine lv_iload_n hx hb dX11_sewing_179 rfl (lv_at hl 8 rfl) ?_
                            refine lv_iload hx hb dX11_sewing_180 (lv_at hl 1 rfl) ?_
                            refine lv_iload hx hb dX11_sewing_182 (lv_at hl 0 rfl) ?_
                            refine lv_ineg hx hb dX11_sewing_184 ?_
                            refine lv_topi (fun t76 et76 => ?_)
                            refine cbVi (n := 4) (rest := []) hx hb hml hown hts hE hP hD hS hA (sY_X11_isSewn_1 l dC dI cy y0 r p1 p2 l8_23 t76 v61 f62 w63 g64 hIv61 hCf62 hRf62 ) k_1892 k_1894 k_87 k_114 k_1895 (by decide +kernel) ⟨Nat.le_of_ble_eq_true rfl, Nat.le_of_ble_eq_true rfl⟩ 0 11 rfl rfl (rfl) hl.1 rfl (Nat.le_of_ble_eq_true rfl) dX11_sewing_185 (fun r77 u H locs hw hP hD hS => ?_)
                            obtain ⟨v78, f79, w80, g81⟩ := u
                            obtain ⟨hIv78, hCf79, hRf79, hk0_v78, hk3_v78, hk4_v78, hk8_v78, hk9_v78, hk10_v78, hk24_v78, hk25_v78, hk35_v78, hk36_v78, hk38_v78, hk39_v78, hw⟩ := hw
                            have hP : va_P (dC, dI) vwCl (YW cy y0 r v78 f79 w80 g81) H := hP
                            have hD : va_D A (YW cy y0 r v78 f79 w80 g81) := hD
                            have hUv78 : (v78 35).toInt + (v78 36).toInt ≤ 40 := hIv78.2
                            have hq0_v78 : v78 0 = (v 0) := hk0_v78.trans hq0_v61
                            have hq3_v78 : v78 3 = (v 3) := hk3_v78.trans hq3_v61
                            have hq4_v78 : v78 4 = (v 4) := hk4_v78.trans hq4_v61
                            have hq8_v78 : v78 8 = (v 8) := hk8_v78.trans hq8_v61
                            have hq9_v78 : v78 9 = (v 9) := hk9_v78.trans hq9_v61
                            have zq9_v78 := congrArg Int32.toInt hq9_v78
                            have hq10_v78 : v78 10 = (v 10) := hk10_v78.trans hq10_v61
                            have hq24_v78 : v78 24 = (v 24) := hk24_v78.trans hq24_v61
                            have hq25_v78 : v78 25 = (v 25) := hk25_v78.trans hq25_v61
                            have hq35_v78 : v78 35 = (v 35) := hk35_v78.trans hq35_v61
                            have zq35_v78 := congrArg Int32.toInt hq35_v78
                            have hq36_v78 : v78 36 = (v 36) := hk36_v78.trans hq36_v61
                            have zq36_v78 := congrArg Int32.toInt hq36_v78
                            have hq38_v78 : v78 38 = (v 38) := hk38_v78.trans hq38_v61
                            have hq39_v78 : v78 39 = (v 39) := hk39_v78.trans hq39_v61
                            rcases hw with ⟨g82⟩ | ⟨g82⟩
                            · skip
                              subst g82
                              refine lv_if_eq (tgt := 214) hx hb dX11_sewing_188 (by decide) (fun c0 => absurd c0 (by decide)) (fun _ => ?_)
                              refine lv_iload_n hx hb dX11_sewing_191 rfl (lv_at hl 9 rfl) ?_
                              refine lv_if_ne (tgt := 200) hx hb dX11_sewing_192 (by decide) (fun c83 => ?_) (fun c83 => ?_)
                              · skip
                                have zc83 : ¬ (p3.toInt = 0) := by rw [fa_eq, show (0 : Int32).toInt = 0 from by decide] at c83; exact c83
                                refine lv_iload_n hx hb dX11_sewing_200 rfl (lv_at hl 9 rfl) ?_
                                refine lv_iconst (v := 1) hx hb dX11_sewing_201 (by decide) ?_
                                refine lv_icmp_ne (tgt := 210) hx hb dX11_sewing_202 (by decide) (fun c84 => ?_) (fun c84 => ?_)
                                · skip
                                  have zc84 : ¬ (p3.toInt = 1) := by rw [fa_eq, show (1 : Int32).toInt = 1 from by decide] at c84; exact c84
                                  refine lv_iload hx hb dX11_sewing_210 (lv_at hl 0 rfl) ?_
                                  refine lv_ineg hx hb dX11_sewing_212 ?_
                                  refine lv_topi (fun t85 et85 => ?_)
                                  exact ret t85 (v78, f79, w80, g81) _ _ _ _ _ _ rfl ⟨hIv78, hCf79, hRf79, (hk0_v78.trans (hk0_v61.trans hq0_v23)), (hk3_v78.trans (hk3_v61.trans hq3_v23)), (hk4_v78.trans (hk4_v61.trans hq4_v23)), (hk8_v78.trans (hk8_v61.trans hq8_v23)), (hk9_v78.trans (hk9_v61.trans hq9_v23)), (hk10_v78.trans (hk10_v61.trans hq10_v23)), (hk24_v78.trans (hk24_v61.trans hq24_v23)), (hk25_v78.trans (hk25_v61.trans hq25_v23)), (hk35_v78.trans (hk35_v61.trans hq35_v23)), (hk36_v78.trans (hk36_v61.trans hq36_v23)), (hk38_v78.trans (hk38_v61.trans hq38_v23)), (hk39_v78.trans (hk39_v61.trans hq39_v23))⟩ hP hD hS dX11_sewing_213 (Nat.le_refl _) (Nat.le_refl _)
                                · skip
                                  have zc84 : p3.toInt = 1 := by rw [fa_eq, show (1 : Int32).toInt = 1 from by decide] at c84; exact c84
                                  refine lv_iload hx hb dX11_sewing_205 (lv_at hl 1 rfl) ?_
                                  refine lv_goto (tgt := 213) hx hb dX11_sewing_207 (by decide) ?_
                                  exact ret l8_23 (v78, f79, w80, g81) _ _ _ _ _ _ rfl ⟨hIv78, hCf79, hRf79, (hk0_v78.trans (hk0_v61.trans hq0_v23)), (hk3_v78.trans (hk3_v61.trans hq3_v23)), (hk4_v78.trans (hk4_v61.trans hq4_v23)), (hk8_v78.trans (hk8_v61.trans hq8_v23)), (hk9_v78.trans (hk9_v61.trans hq9_v23)), (hk10_v78.trans (hk10_v61.trans hq10_v23)), (hk24_v78.trans (hk24_v61.trans hq24_v23)), (hk25_v78.trans (hk25_v61.trans hq25_v23)), (hk35_v78.trans (hk35_v61.trans hq35_v23)), (hk36_v78.trans (hk36_v61.trans hq36_v23)), (hk38_v78.trans (hk38_v61.trans hq38_v23)), (hk39_v78.trans (hk39_v61.trans hq39_v23))⟩ hP hD hS dX11_sewing_213 (Nat.le_refl _) (Nat.le_refl _)
                              · skip
                                have zc83 : p3.toInt = 0 := by rw [fa_eq, show (0 : Int32).toInt = 0 from by decide] at c83; exact c83
                                refine lv_iload hx hb dX11_sewing_195 (lv_at hl 2 rfl) ?_
                                refine lv_goto (tgt := 213) hx hb dX11_sewing_197 (by decide) ?_
                                exact ret l7_21 (v78, f79, w80, g81) _ _ _ _ _ _ rfl ⟨hIv78, hCf79, hRf79, (hk0_v78.trans (hk0_v61.trans hq0_v23)), (hk3_v78.trans (hk3_v61.trans hq3_v23)), (hk4_v78.trans (hk4_v61.trans hq4_v23)), (hk8_v78.trans (hk8_v61.trans hq8_v23)), (hk9_v78.trans (hk9_v61.trans hq9_v23)), (hk10_v78.trans (hk10_v61.trans hq10_v23)), (hk24_v78.trans (hk24_v61.trans hq24_v23)), (hk25_v78.trans (hk25_v61.trans hq25_v23)), (hk35_v78.trans (hk35_v61.trans hq35_v23)), (hk36_v78.trans (hk36_v61.trans hq36_v23)), (hk38_v78.trans (hk38_v61.trans hq38_v23)), (hk39_v78.trans (hk39_v61.trans hq39_v23))⟩ hP hD hS dX11_sewing_213 (Nat.le_refl _) (Nat.le_refl _)
                            · skip
                              subst g82
                              refine lv_if_eq (tgt := 214) hx hb dX11_sewing_188 (by decide) (fun _ => ?_) (fun c0 => absurd (by decide) c0)
                              obtain ⟨t86, et86⟩ : ∃ y : Int32, y = l8_23 + 1 := ⟨_, rfl⟩
                              refine lv_iinc (v := t86) (lv' := [(8, .int t86), (9, .int t33), (7, .int l7_21), (6, .int r20), (5, .int r15), (4, .int r12), (0, .ref y0), (1, .int p1), (2, .int p2), (3, .int p3)]) hx hb dX11_sewing_214 hl (k := 1) rfl (by rw [et86]; rfl) (by decide) rfl (fun ls hl => ?_)
                              refine lv_goto (tgt := 104) hx hb dX11_sewing_217 (by decide) ?_
                              have rg87 := fb_rng t86
                              exact ih23 t86 v78 f79 w80 g81 hIv78 hCf79 hRf79 hq0_v78 hq3_v78 hq4_v78 hq8_v78 hq9_v78 hq10_v78 hq24_v78 hq25_v78 hq35_v78 hq36_v78 hq38_v78 hq39_v78 ⟨show (0 : Int) ≤ t86.toInt by omega, show t86.toInt ≤ (2147483647 : Int) by omega⟩ (by show (2147483647 - t86.toInt).toNat < n23; omega) _ _ _ hP hD hS (lv_sub hl [0, 2, 3, 4, 5, 6, 7, 8, 9] rfl)
              exact lp23 _ 0 v21 f21 w21 g21 hIv21 hCf21 hRf21 hq0_v21 hq3_v21 hq4_v21 hq8_v21 hq9_v21 hq10_v21 hq24_v21 hq25_v21 hq35_v21 hq36_v21 hq38_v21 hq39_v21 ⟨by decide, by decide⟩ (Nat.lt_succ_self _) _ _ _ hP hD hS (lv_sub hl [0, 1, 2, 3, 4, 5, 6, 7, 8] rfl)
        exact lp21 _ 0 v f w g hIv hCf hRf rfl rfl rfl rfl rfl rfl rfl rfl rfl rfl rfl rfl ⟨by decide, by decide⟩ (Nat.lt_succ_self _) _ _ _ hP hD hS (lv_sub hl [0, 1, 2, 3, 4, 5, 6, 7] rfl)
      · skip
        subst g8
        refine lv_if_ne (tgt := 28) hx hb dX11_sewing_22 (by decide) (fun c0 => absurd (by decide) c0) (fun _ => ?_)
        refine lv_bipush (v := (-100)) hx hb dX11_sewing_25 (by decide) ?_
        exact ret (-100) (v, f, w, g) _ _ _ _ _ _ rfl ⟨hIv, hCf, hRf, rfl, rfl, rfl, rfl, rfl, rfl, rfl, rfl, rfl, rfl, rfl, rfl⟩ hP hD hS dX11_sewing_27 (Nat.le_refl _) (Nat.le_refl _)
    · skip
      subst g4
      refine lv_if_eq (tgt := 25) hx hb dX11_sewing_13 (by decide) (fun _ => ?_) (fun c0 => absurd (by decide) c0)
      refine lv_bipush (v := (-100)) hx hb dX11_sewing_25 (by decide) ?_
      exact ret (-100) (v, f, w, g) _ _ _ _ _ _ rfl ⟨hIv, hCf, hRf, rfl, rfl, rfl, rfl, rfl, rfl, rfl, rfl, rfl, rfl, rfl, rfl⟩ hP hD hS dX11_sewing_27 (Nat.le_refl _) (Nat.le_refl _)
  · skip
    subst g2
    refine lv_if_eq (tgt := 25) hx hb dX11_sewing_5 (by decide) (fun _ => ?_) (fun c0 => absurd (by decide) c0)
    refine lv_bipush (v := (-100)) hx hb dX11_sewing_25 (by decide) ?_
    exact ret (-100) (v, f, w, g) _ _ _ _ _ _ rfl ⟨hIv, hCf, hRf, rfl, rfl, rfl, rfl, rfl, rfl, rfl, rfl, rfl, rfl, rfl, rfl⟩ hP hD hS dX11_sewing_27 (Nat.le_refl _) (Nat.le_refl _)
set_option maxHeartbeats 4000000 in
set_option maxRecDepth 100000 in
theorem sY_X11_members_1 (l : Launch) (dC : Nat → ClassId) (dI : Nat → Nat → Nat) (cy : Nat → ClassId) (y0 : Nat) (r : Nat → Nat) (p0 : Int32) (v : Nat → Int32) (f : Nat → Nat → Int32) (w : Int64) (g : Nat → Int64) (hIv : YI v) (hCf : YC f) (hRf : progOK (f 4) (f 5) (v 9).toInt.toNat)  : ctI l (dC, dI) cy yX11_members cX11_members 3 .int 1 60 0 0 Unit [.int p0] (YW cy y0 r v f w g) (fun r u => True) (fun u => YW cy y0 r v f w g) := by
  refine ctI_of (by decide) (Nat.le_of_ble_eq_true rfl) (fun p e s m below meth c A ls Q hx hb hml hts hown hE hP hD hA hl ret => ?_)
  have hUv : (v 35).toInt + (v 36).toInt ≤ 40 := hIv.2
  have hown : s.vm.findClass RX11 = some m.cls := hown
  have hS : va_S A s.heap s.heap [] := va_S.rf
  have hl : lv_has ls 3 [(0, .int p0)] := hl
  refine lv_iconst (v := 0) hx hb dX11_members_0 (by decide) ?_
  refine lv_istore_n (lv' := [(1, .int 0), (0, .int p0)]) hx hb dX11_members_1 rfl hl (by decide) rfl (fun ls hl => ?_)
  refine lv_iconst (v := 0) hx hb dX11_members_2 (by decide) ?_
  refine lv_istore_n (lv' := [(2, .int 0), (1, .int 0), (0, .int p0)]) hx hb dX11_members_3 rfl hl (by decide) rfl (fun ls hl => ?_)
  have lp1 : ∀ (n1 : Nat) (l1_1 : Int32) (l2_1 : Int32), ((0 : Int) ≤ l2_1.toInt ∧ l2_1.toInt ≤ 2147483647) → (2147483647 - l2_1.toInt).toNat < n1 → ∀ (H : Heap) (locs : List Loc) (ls : Array Slot), va_P (dC, dI) vwCl (YW cy y0 r v f w g) H → va_D A (YW cy y0 r v f w g) → va_S A s.heap H locs → lv_has ls 3 [(2, .int l2_1), (1, .int l1_1), (0, .int p0)] → W p l e { frames := 1, cells := 0, slots := 0, locals := 60 } s m ([.int p0] : List Value).toArray below meth c H locs 0 0 Q (F0 m 4 ls []) := by
    intro n1
    induction n1 with
    | zero => intro l1_1 l2_1 hr2_1 hm; exact absurd hm (Nat.not_lt_zero _)
    | succ n1 ih1 =>
      intro l1_1 l2_1 hr2_1 hm1 H locs ls hP hD hS hl
      refine lv_iload_n hx hb dX11_members_4 rfl (lv_at hl 0 rfl) ?_
      refine lv_bipush (v := 6) hx hb dX11_members_5 (by decide) ?_
      refine lv_icmp_ge (tgt := 24) hx hb dX11_members_7 (by decide) (fun c2 => ?_) (fun c2 => ?_)
      · skip
        have zc2 : 6 ≤ l2_1.toInt := by rw [fa_le, show (6 : Int32).toInt = 6 from by decide] at c2; exact c2
        refine lv_iload_n hx hb dX11_members_24 rfl (lv_at hl 1 rfl) ?_
        exact ret l1_1 () _ _ _ _ _ _ rfl trivial hP hD hS dX11_members_25 (Nat.le_refl _) (Nat.le_refl _)
      · skip
        have zc2 : ¬ (6 ≤ l2_1.toInt) := by rw [fa_le, show (6 : Int32).toInt = 6 from by decide] at c2; exact c2
        refine lv_iload_n hx hb dX11_members_10 rfl (lv_at hl 1 rfl) ?_
        refine lv_iload_n hx hb dX11_members_11 rfl (lv_at hl 2 rfl) ?_
        refine lv_iload_n hx hb dX11_members_12 rfl (lv_at hl 0 rfl) ?_
        refine lv_ishr hx hb dX11_members_13 ?_
        refine lv_topi (fun t3 et3 => ?_)
        refine lv_iconst (v := 1) hx hb dX11_members_14 (by decide) ?_
        refine lv_iand hx hb dX11_members_15 ?_
        refine lv_topi (fun t4 et4 => ?_)
        have zt4 : 0 ≤ t4.toInt ∧ t4.toInt < 2 := by rw [et4]; exact and_rng _ (k := 1) (by decide) (by decide)
        refine lv_iadd hx hb dX11_members_16 ?_
        refine lv_topi (fun t5 et5 => ?_)
        refine lv_istore_n (lv' := [(1, .int t5), (2, .int l2_1), (0, .int p0)]) hx hb dX11_members_17 rfl hl (by decide) rfl (fun ls hl => ?_)
        obtain ⟨t6, et6⟩ : ∃ y : Int32, y = l2_1 + 1 := ⟨_, rfl⟩
        have rg7 := fb_rng l2_1
        have zt6 : t6.toInt = l2_1.toInt + 1 := by rw [et6]; exact add_i rfl (by decide) (by omega) (by omega)
        refine lv_iinc (v := t6) (lv' := [(2, .int t6), (1, .int t5), (0, .int p0)]) hx hb dX11_members_18 hl (k := 1) rfl (by rw [et6]; rfl) (by decide) rfl (fun ls hl => ?_)
        refine lv_goto (tgt := 4) hx hb dX11_members_21 (by decide) ?_
        have rg8 := fb_rng t6
        exact ih1 t5 t6 ⟨show (0 : Int) ≤ t6.toInt by omega, show t6.toInt ≤ (2147483647 : Int) by omega⟩ (by show (2147483647 - t6.toInt).toNat < n1; omega) _ _ _ hP hD hS (lv_sub hl [0, 1, 2] rfl)
  exact lp1 _ 0 0 ⟨by decide, by decide⟩ (Nat.lt_succ_self _) _ _ _ hP hD hS (lv_sub hl [0, 1, 2] rfl)
set_option maxHeartbeats 4000000 in
set_option maxRecDepth 100000 in
theorem sY_X11_rota_1 (l : Launch) (dC : Nat → ClassId) (dI : Nat → Nat → Nat) (cy : Nat → ClassId) (y0 : Nat) (r : Nat → Nat) (p1 : Int32) (v : Nat → Int32) (f : Nat → Nat → Int32) (w : Int64) (g : Nat → Int64) (hIv : YI v) (hCf : YC f) (hRf : progOK (f 4) (f 5) (v 9).toInt.toNat)  : ctI l (dC, dI) cy yX11_rota cX11_rota 6 .int 7 191 0 0 ((Nat → Int32) × (Nat → Nat → Int32) × (Int64) × (Nat → Int64)) [.ref y0, .int p1] (YW cy y0 r v f w g) (fun r u => YI u.1 ∧ YC u.2.1 ∧ progOK (u.2.1 4) (u.2.1 5) (u.1 9).toInt.toNat ∧ u.1 0 = v 0 ∧ u.1 3 = v 3 ∧ u.1 4 = v 4 ∧ u.1 8 = v 8 ∧ u.1 9 = v 9 ∧ u.1 10 = v 10 ∧ u.1 24 = v 24 ∧ u.1 25 = v 25 ∧ u.1 35 = v 35 ∧ u.1 36 = v 36 ∧ u.1 38 = v 38 ∧ u.1 39 = v 39) (fun u => YW cy y0 r u.1 u.2.1 u.2.2.1 u.2.2.2) := by
  refine ctI_of (by decide) (Nat.le_of_ble_eq_true rfl) (fun p e s m below meth c A ls Q hx hb hml hts hown hE hP hD hA hl ret => ?_)
  have hUv : (v 35).toInt + (v 36).toInt ≤ 40 := hIv.2
  have hown : s.vm.findClass RX11 = some m.cls := hown
  have hS : va_S A s.heap s.heap [] := va_S.rf
  have hl : lv_has ls 6 [(0, .ref y0), (1, .int p1)] := hl
  refine lv_iload_n hx hb dX11_rota_0 rfl (lv_at hl 1 rfl) ?_
  refine lv_iconst (v := 0) hx hb dX11_rota_1 (by decide) ?_
  refine lv_iconst (v := 1) hx hb dX11_rota_2 (by decide) ?_
  have lt1 : (0 : Int32).toInt = 0 := by decide
  have lt2 : (1 : Int32).toInt = 1 := by decide
  refine cbSi (n := 3) (rest := []) hx hb hml hown hts hE hP hD hS hA (sY_X11_isIn_1 l dC dI cy y0 r p1 0 1 v f w g hIv hCf hRf ) k_1736 k_1737 k_114 k_1738 (by decide +kernel) ⟨Nat.le_of_ble_eq_true rfl, Nat.le_of_ble_eq_true rfl⟩ (rfl) hl.1 rfl (Nat.le_of_ble_eq_true rfl) dX11_rota_3 (fun r3 u H locs hw hP hD hS => ?_)
  rcases hw with ⟨g4, g4_0, g4_1⟩ | ⟨g4⟩
  · skip
    subst g4
    refine lv_if_eq (tgt := 16) hx hb dX11_rota_6 (by decide) (fun c0 => absurd c0 (by decide)) (fun _ => ?_)
    refine lv_aload_n hx hb dX11_rota_9 rfl (lv_at hl 0 rfl) ?_
    refine va_get (D := (dC, dI)) (ci := 11) (v := .int (v 24)) (C := RX11) (T := TX11) (N := 79) hx hb hts inB_11 hown hE.1 hP 0 rfl rfl 48 (by decide) (hts _ k_1368) (fun _ h9 => h9) rfl dX11_rota_10 ?_
    have b24_v : 0 ≤ (v 24).toInt ∧ (v 24).toInt ≤ 6 := YIb.b hIv.1 24 (by decide)
    refine lv_if_ne (tgt := 18) hx hb dX11_rota_13 (by decide) (fun c5 => ?_) (fun c5 => ?_)
    · skip
      have zc5 : ¬ ((v 24).toInt = 0) := by rw [fa_eq, show (0 : Int32).toInt = 0 from by decide] at c5; exact c5
      refine lv_iconst (v := 0) hx hb dX11_rota_18 (by decide) ?_
      refine lv_istore_n (lv' := [(2, .int 0), (0, .ref y0), (1, .int p1)]) hx hb dX11_rota_19 rfl hl (by decide) rfl (fun ls hl => ?_)
      refine lv_iconst (v := (-1)) hx hb dX11_rota_20 (by decide) ?_
      refine lv_istore_n (lv' := [(3, .int (-1)), (2, .int 0), (0, .ref y0), (1, .int p1)]) hx hb dX11_rota_21 rfl hl (by decide) rfl (fun ls hl => ?_)
      refine lv_iconst (v := 0) hx hb dX11_rota_22 (by decide) ?_
      refine lv_istore (lv' := [(4, .int 0), (3, .int (-1)), (2, .int 0), (0, .ref y0), (1, .int p1)]) hx hb dX11_rota_23 hl (by decide) rfl (fun ls hl => ?_)
      have lp6 : ∀ (n6 : Nat) (l2_6 : Int32) (l3_6 : Int32) (l4_6 : Int32) (v6 : Nat → Int32) (f6 : Nat → Nat → Int32) (w6 : Int64) (g6 : Nat → Int64), YI v6 → YC f6 → progOK (f6 4) (f6 5) (v6 9).toInt.toNat → v6 0 = (v 0) → v6 3 = (v 3) → v6 4 = (v 4) → v6 8 = (v 8) → v6 9 = (v 9) → v6 10 = (v 10) → v6 24 = (v 24) → v6 25 = (v 25) → v6 35 = (v 35) → v6 36 = (v 36) → v6 38 = (v 38) → v6 39 = (v 39) → ((0 : Int) ≤ l4_6.toInt ∧ l4_6.toInt ≤ 2147483647) → (2147483647 - l4_6.toInt).toNat < n6 → ∀ (H : Heap) (locs : List Loc) (ls : Array Slot), va_P (dC, dI) vwCl (YW cy y0 r v6 f6 w6 g6) H → va_D A (YW cy y0 r v6 f6 w6 g6) → va_S A s.heap H locs → lv_has ls 6 [(4, .int l4_6), (3, .int l3_6), (2, .int l2_6), (0, .ref y0), (1, .int p1)] → W p l e { frames := 7, cells := 0, slots := 0, locals := 191 } s m ([.ref y0, .int p1] : List Value).toArray below meth c H locs 0 0 Q (F0 m 25 ls []) := by
        intro n6
        induction n6 with
        | zero => intro l2_6 l3_6 l4_6 v6 f6 w6 g6 hIv6 hCf6 hRf6 hq0_v6 hq3_v6 hq4_v6 hq8_v6 hq9_v6 hq10_v6 hq24_v6 hq25_v6 hq35_v6 hq36_v6 hq38_v6 hq39_v6 hr4_6 hm; exact absurd hm (Nat.not_lt_zero _)
        | succ n6 ih6 =>
          intro l2_6 l3_6 l4_6 v6 f6 w6 g6 hIv6 hCf6 hRf6 hq0_v6 hq3_v6 hq4_v6 hq8_v6 hq9_v6 hq10_v6 hq24_v6 hq25_v6 hq35_v6 hq36_v6 hq38_v6 hq39_v6 hr4_6 hm6 H locs ls hP hD hS hl
          have hUv6 : (v6 35).toInt + (v6 36).toInt ≤ 40 := hIv6.2
          have zq9_v6 := congrArg Int32.toInt hq9_v6
          have zq35_v6 := congrArg Int32.toInt hq35_v6
          have zq36_v6 := congrArg Int32.toInt hq36_v6
          refine lv_iload hx hb dX11_rota_25 (lv_at hl 0 rfl) ?_
          refine lv_aload_n hx hb dX11_rota_27 rfl (lv_at hl 3 rfl) ?_
          refine va_get (D := (dC, dI)) (ci := 11) (v := .int (v6 24)) (C := RX11) (T := TX11) (N := 79) hx hb hts inB_11 hown hE.1 hP 0 rfl rfl 48 (by decide) (hts _ k_1368) (fun _ h9 => h9) rfl dX11_rota_28 ?_
          refine tI (y := (v 24)) hq24_v6 ?_
          have b24_v : 0 ≤ (v 24).toInt ∧ (v 24).toInt ≤ 6 := YIb.b hIv.1 24 (by decide)
          refine lv_icmp_ge (tgt := 114) hx hb dX11_rota_31 (by decide) (fun c7 => ?_) (fun c7 => ?_)
          · skip
            have zc7 : (v 24).toInt ≤ l4_6.toInt := by rw [fa_le] at c7; exact c7
            have rg8 := fb_rng l4_6
            have rg9 := fb_rng (v 24)
            refine lv_iload_n hx hb dX11_rota_114 rfl (lv_at hl 4 rfl) ?_
            refine lv_if_ne (tgt := 122) hx hb dX11_rota_115 (by decide) (fun c10 => ?_) (fun c10 => ?_)
            · skip
              have zc10 : ¬ (p1.toInt = 0) := by rw [fa_eq, show (0 : Int32).toInt = 0 from by decide] at c10; exact c10
              refine lv_iload_n hx hb dX11_rota_122 rfl (lv_at hl 1 rfl) ?_
              exact ret l3_6 (v6, f6, w6, g6) _ _ _ _ _ _ rfl ⟨hIv6, hCf6, hRf6, (show v6 0 = v 0 from hq0_v6), (show v6 3 = v 3 from hq3_v6), (show v6 4 = v 4 from hq4_v6), (show v6 8 = v 8 from hq8_v6), (show v6 9 = v 9 from hq9_v6), (show v6 10 = v 10 from hq10_v6), (show v6 24 = v 24 from hq24_v6), (show v6 25 = v 25 from hq25_v6), (show v6 35 = v 35 from hq35_v6), (show v6 36 = v 36 from hq36_v6), (show v6 38 = v 38 from hq38_v6), (show v6 39 = v 39 from hq39_v6)⟩ hP hD hS dX11_rota_123 (Nat.le_refl _) (Nat.le_refl _)
            · skip
              have zc10 : p1.toInt = 0 := by rw [fa_eq, show (0 : Int32).toInt = 0 from by decide] at c10; exact c10
              refine lv_iload_n hx hb dX11_rota_118 rfl (lv_at hl 2 rfl) ?_
              refine lv_goto (tgt := 123) hx hb dX11_rota_119 (by decide) ?_
              exact ret l2_6 (v6, f6, w6, g6) _ _ _ _ _ _ rfl ⟨hIv6, hCf6, hRf6, (show v6 0 = v 0 from hq0_v6), (show v6 3 = v 3 from hq3_v6), (show v6 4 = v 4 from hq4_v6), (show v6 8 = v 8 from hq8_v6), (show v6 9 = v 9 from hq9_v6), (show v6 10 = v 10 from hq10_v6), (show v6 24 = v 24 from hq24_v6), (show v6 25 = v 25 from hq25_v6), (show v6 35 = v 35 from hq35_v6), (show v6 36 = v 36 from hq36_v6), (show v6 38 = v 38 from hq38_v6), (show v6 39 = v 39 from hq39_v6)⟩ hP hD hS dX11_rota_123 (Nat.le_refl _) (Nat.le_refl _)
          · skip
            have zc7 : ¬ ((v 24).toInt ≤ l4_6.toInt) := by rw [fa_le] at c7; exact c7
            have rg11 := fb_rng l4_6
            have rg12 := fb_rng (v 24)
            refine lv_aload_n hx hb dX11_rota_34 rfl (lv_at hl 3 rfl) ?_
            refine cbVv (n := 0) (rest := []) hx hb hml hown hts hE hP hD hS hA (sY_X11_fill_1 l dC dI cy y0 r  v6 f6 w6 g6 hIv6 hCf6 hRf6 ) k_1739 k_1741 k_71 k_114 k_1742 (by decide +kernel) ⟨Nat.le_of_ble_eq_true rfl, Nat.le_of_ble_eq_true rfl⟩ 0 11 rfl rfl (rfl) hl.1 rfl (Nat.le_of_ble_eq_true rfl) dX11_rota_35 (fun u H locs hw hP hD hS => ?_)
            obtain ⟨v13, f14, w15, g16⟩ := u
            obtain ⟨hIv13, hCf14, hRf14, hk0_v13, hk3_v13, hk4_v13, hk8_v13, hk9_v13, hk10_v13, hk24_v13, hk25_v13, hk35_v13, hk36_v13, hk38_v13, hk39_v13⟩ := hw
            have hP : va_P (dC, dI) vwCl (YW cy y0 r v13 f14 w15 g16) H := hP
            have hD : va_D A (YW cy y0 r v13 f14 w15 g16) := hD
            have hUv13 : (v13 35).toInt + (v13 36).toInt ≤ 40 := hIv13.2
            have hq0_v13 : v13 0 = (v 0) := hk0_v13.trans hq0_v6
            have hq3_v13 : v13 3 = (v 3) := hk3_v13.trans hq3_v6
            have hq4_v13 : v13 4 = (v 4) := hk4_v13.trans hq4_v6
            have hq8_v13 : v13 8 = (v 8) := hk8_v13.trans hq8_v6
            have hq9_v13 : v13 9 = (v 9) := hk9_v13.trans hq9_v6
            have zq9_v13 := congrArg Int32.toInt hq9_v13
            have hq10_v13 : v13 10 = (v 10) := hk10_v13.trans hq10_v6
            have hq24_v13 : v13 24 = (v 24) := hk24_v13.trans hq24_v6
            have hq25_v13 : v13 25 = (v 25) := hk25_v13.trans hq25_v6
            have hq35_v13 : v13 35 = (v 35) := hk35_v13.trans hq35_v6
            have zq35_v13 := congrArg Int32.toInt hq35_v13
            have hq36_v13 : v13 36 = (v 36) := hk36_v13.trans hq36_v6
            have zq36_v13 := congrArg Int32.toInt hq36_v13
            have hq38_v13 : v13 38 = (v 38) := hk38_v13.trans hq38_v6
            have hq39_v13 : v13 39 = (v 39) := hk39_v13.trans hq39_v6
            refine lv_iconst (v := 0) hx hb dX11_rota_38 (by decide) ?_
            refine lv_istore (lv' := [(5, .int 0), (4, .int l4_6), (3, .int l3_6), (2, .int l2_6), (0, .ref y0), (1, .int p1)]) hx hb dX11_rota_39 hl (by decide) rfl (fun ls hl => ?_)
            have lp17 : ∀ (n17 : Nat) (l5_17 : Int32) (v17 : Nat → Int32) (f17 : Nat → Nat → Int32) (w17 : Int64) (g17 : Nat → Int64), YI v17 → YC f17 → progOK (f17 4) (f17 5) (v17 9).toInt.toNat → v17 0 = (v 0) → v17 3 = (v 3) → v17 4 = (v 4) → v17 8 = (v 8) → v17 9 = (v 9) → v17 10 = (v 10) → v17 24 = (v 24) → v17 25 = (v 25) → v17 35 = (v 35) → v17 36 = (v 36) → v17 38 = (v 38) → v17 39 = (v 39) → ((0 : Int) ≤ l5_17.toInt ∧ l5_17.toInt ≤ 2147483647) → (2147483647 - l5_17.toInt).toNat < n17 → ∀ (H : Heap) (locs : List Loc) (ls : Array Slot), va_P (dC, dI) vwCl (YW cy y0 r v17 f17 w17 g17) H → va_D A (YW cy y0 r v17 f17 w17 g17) → va_S A s.heap H locs → lv_has ls 6 [(5, .int l5_17), (4, .int l4_6), (3, .int l3_6), (2, .int l2_6), (0, .ref y0), (1, .int p1)] → W p l e { frames := 7, cells := 0, slots := 0, locals := 191 } s m ([.ref y0, .int p1] : List Value).toArray below meth c H locs 0 0 Q (F0 m 41 ls []) := by
              intro n17
              induction n17 with
              | zero => intro l5_17 v17 f17 w17 g17 hIv17 hCf17 hRf17 hq0_v17 hq3_v17 hq4_v17 hq8_v17 hq9_v17 hq10_v17 hq24_v17 hq25_v17 hq35_v17 hq36_v17 hq38_v17 hq39_v17 hr5_17 hm; exact absurd hm (Nat.not_lt_zero _)
              | succ n17 ih17 =>
                intro l5_17 v17 f17 w17 g17 hIv17 hCf17 hRf17 hq0_v17 hq3_v17 hq4_v17 hq8_v17 hq9_v17 hq10_v17 hq24_v17 hq25_v17 hq35_v17 hq36_v17 hq38_v17 hq39_v17 hr5_17 hm17 H locs ls hP hD hS hl
                have hUv17 : (v17 35).toInt + (v17 36).toInt ≤ 40 := hIv17.2
                have zq9_v17 := congrArg Int32.toInt hq9_v17
                have zq35_v17 := congrArg Int32.toInt hq35_v17
                have zq36_v17 := congrArg Int32.toInt hq36_v17
                refine lv_iload hx hb dX11_rota_41 (lv_at hl 0 rfl) ?_
                refine lv_aload_n hx hb dX11_rota_43 rfl (lv_at hl 4 rfl) ?_
                refine va_get (D := (dC, dI)) (ci := 11) (v := .int (v17 24)) (C := RX11) (T := TX11) (N := 79) hx hb hts inB_11 hown hE.1 hP 0 rfl rfl 48 (by decide) (hts _ k_1368) (fun _ h9 => h9) rfl dX11_rota_44 ?_
                refine tI (y := (v 24)) hq24_v17 ?_
                have b24_v : 0 ≤ (v 24).toInt ∧ (v 24).toInt ≤ 6 := YIb.b hIv.1 24 (by decide)
                refine lv_icmp_ge (tgt := 84) hx hb dX11_rota_47 (by decide) (fun c18 => ?_) (fun c18 => ?_)
                · skip
                  have zc18 : (v 24).toInt ≤ l5_17.toInt := by rw [fa_le] at c18; exact c18
                  have rg19 := fb_rng l5_17
                  refine lv_aload_n hx hb dX11_rota_84 rfl (lv_at hl 4 rfl) ?_
                  refine cbVi (n := 0) (rest := []) hx hb hml hown hts hE hP hD hS hA (sY_X11_fittedOnes_1 l dC dI cy y0 r  v17 f17 w17 g17 hIv17 hCf17 hRf17 ) k_1809 k_1811 k_81 k_114 k_1812 (by decide +kernel) ⟨Nat.le_of_ble_eq_true rfl, Nat.le_of_ble_eq_true rfl⟩ 0 11 rfl rfl (rfl) hl.1 rfl (Nat.le_of_ble_eq_true rfl) dX11_rota_85 (fun r20 u H locs hw hP hD hS => ?_)
                  obtain ⟨v21, f22, w23, g24⟩ := u
                  obtain ⟨hIv21, hCf22, hRf22, hk0_v21, hk3_v21, hk4_v21, hk8_v21, hk9_v21, hk10_v21, hk24_v21, hk25_v21, hk35_v21, hk36_v21, hk38_v21, hk39_v21⟩ := hw
                  have hP : va_P (dC, dI) vwCl (YW cy y0 r v21 f22 w23 g24) H := hP
                  have hD : va_D A (YW cy y0 r v21 f22 w23 g24) := hD
                  have hUv21 : (v21 35).toInt + (v21 36).toInt ≤ 40 := hIv21.2
                  have hq0_v21 : v21 0 = (v 0) := hk0_v21.trans hq0_v17
                  have hq3_v21 : v21 3 = (v 3) := hk3_v21.trans hq3_v17
                  have hq4_v21 : v21 4 = (v 4) := hk4_v21.trans hq4_v17
                  have hq8_v21 : v21 8 = (v 8) := hk8_v21.trans hq8_v17
                  have hq9_v21 : v21 9 = (v 9) := hk9_v21.trans hq9_v17
                  have zq9_v21 := congrArg Int32.toInt hq9_v21
                  have hq10_v21 : v21 10 = (v 10) := hk10_v21.trans hq10_v17
                  have hq24_v21 : v21 24 = (v 24) := hk24_v21.trans hq24_v17
                  have hq25_v21 : v21 25 = (v 25) := hk25_v21.trans hq25_v17
                  have hq35_v21 : v21 35 = (v 35) := hk35_v21.trans hq35_v17
                  have zq35_v21 := congrArg Int32.toInt hq35_v21
                  have hq36_v21 : v21 36 = (v 36) := hk36_v21.trans hq36_v17
                  have zq36_v21 := congrArg Int32.toInt hq36_v21
                  have hq38_v21 : v21 38 = (v 38) := hk38_v21.trans hq38_v17
                  have hq39_v21 : v21 39 = (v 39) := hk39_v21.trans hq39_v17
                  refine cbSi (n := 1) (rest := []) hx hb hml hown hts hE hP hD hS hA (sY_X11_members_1 l dC dI cy y0 r r20 v21 f22 w23 g24 hIv21 hCf22 hRf22 ) k_1900 k_1901 k_114 k_1902 (by decide +kernel) ⟨Nat.le_of_ble_eq_true rfl, Nat.le_of_ble_eq_true rfl⟩ (rfl) hl.1 rfl (Nat.le_of_ble_eq_true rfl) dX11_rota_88 (fun r25 u H locs hw hP hD hS => ?_)
                  refine lv_istore (lv' := [(5, .int r25), (4, .int l4_6), (3, .int l3_6), (2, .int l2_6), (0, .ref y0), (1, .int p1)]) hx hb dX11_rota_91 hl (by decide) rfl (fun ls hl => ?_)
                  refine lv_iload hx hb dX11_rota_93 (lv_at hl 0 rfl) ?_
                  refine lv_iload_n hx hb dX11_rota_95 rfl (lv_at hl 2 rfl) ?_
                  refine lv_icmp_gt (tgt := 102) hx hb dX11_rota_96 (by decide) (fun c26 => ?_) (fun c26 => ?_)
                  · skip
                    have zc26 : l3_6.toInt < r25.toInt := by rw [fa_lt] at c26; exact c26
                    have rg27 := fb_rng r25
                    have rg28 := fb_rng l3_6
                    refine lv_iload hx hb dX11_rota_102 (lv_at hl 1 rfl) ?_
                    refine lv_istore_n (lv' := [(2, .int l4_6), (5, .int r25), (4, .int l4_6), (3, .int l3_6), (0, .ref y0), (1, .int p1)]) hx hb dX11_rota_104 rfl hl (by decide) rfl (fun ls hl => ?_)
                    refine lv_iload hx hb dX11_rota_105 (lv_at hl 1 rfl) ?_
                    refine lv_istore_n (lv' := [(3, .int r25), (2, .int l4_6), (5, .int r25), (4, .int l4_6), (0, .ref y0), (1, .int p1)]) hx hb dX11_rota_107 rfl hl (by decide) rfl (fun ls hl => ?_)
                    obtain ⟨t29, et29⟩ : ∃ y : Int32, y = l4_6 + 1 := ⟨_, rfl⟩
                    have zt29 : t29.toInt = l4_6.toInt + 1 := by rw [et29]; exact add_i rfl (by decide) (by omega) (by omega)
                    refine lv_iinc (v := t29) (lv' := [(4, .int t29), (3, .int r25), (2, .int l4_6), (5, .int r25), (0, .ref y0), (1, .int p1)]) hx hb dX11_rota_108 hl (k := 3) rfl (by rw [et29]; rfl) (by decide) rfl (fun ls hl => ?_)
                    refine lv_goto (tgt := 25) hx hb dX11_rota_111 (by decide) ?_
                    have rg30 := fb_rng t29
                    exact ih6 l4_6 r25 t29 v21 f22 w23 g24 hIv21 hCf22 hRf22 hq0_v21 hq3_v21 hq4_v21 hq8_v21 hq9_v21 hq10_v21 hq24_v21 hq25_v21 hq35_v21 hq36_v21 hq38_v21 hq39_v21 ⟨show (0 : Int) ≤ t29.toInt by omega, show t29.toInt ≤ (2147483647 : Int) by omega⟩ (by show (2147483647 - t29.toInt).toNat < n6; omega) _ _ _ hP hD hS (lv_sub hl [0, 1, 2, 4, 5] rfl)
                  · skip
                    have zc26 : ¬ (l3_6.toInt < r25.toInt) := by rw [fa_lt] at c26; exact c26
                    have rg31 := fb_rng r25
                    have rg32 := fb_rng l3_6
                    refine lv_goto (tgt := 108) hx hb dX11_rota_99 (by decide) ?_
                    obtain ⟨t33, et33⟩ : ∃ y : Int32, y = l4_6 + 1 := ⟨_, rfl⟩
                    have zt33 : t33.toInt = l4_6.toInt + 1 := by rw [et33]; exact add_i rfl (by decide) (by omega) (by omega)
                    refine lv_iinc (v := t33) (lv' := [(4, .int t33), (5, .int r25), (3, .int l3_6), (2, .int l2_6), (0, .ref y0), (1, .int p1)]) hx hb dX11_rota_108 hl (k := 1) rfl (by rw [et33]; rfl) (by decide) rfl (fun ls hl => ?_)
                    refine lv_goto (tgt := 25) hx hb dX11_rota_111 (by decide) ?_
                    have rg34 := fb_rng t33
                    exact ih6 l2_6 l3_6 t33 v21 f22 w23 g24 hIv21 hCf22 hRf22 hq0_v21 hq3_v21 hq4_v21 hq8_v21 hq9_v21 hq10_v21 hq24_v21 hq25_v21 hq35_v21 hq36_v21 hq38_v21 hq39_v21 ⟨show (0 : Int) ≤ t33.toInt by omega, show t33.toInt ≤ (2147483647 : Int) by omega⟩ (by show (2147483647 - t33.toInt).toNat < n6; omega) _ _ _ hP hD hS (lv_sub hl [0, 2, 3, 4, 5] rfl)
                · skip
                  have zc18 : ¬ ((v 24).toInt ≤ l5_17.toInt) := by rw [fa_le] at c18; exact c18
                  have rg35 := fb_rng l5_17
                  refine lv_aload_n hx hb dX11_rota_50 rfl (lv_at hl 4 rfl) ?_
                  refine va_get (D := (dC, dI)) (ci := 11) (v := .ref (r 60)) (C := RX11) (T := TX11) (N := 79) hx hb hts inB_11 hown hE.1 hP 0 rfl rfl 60 (by decide) (hts _ k_1380) (fun _ h9 => h9) rfl dX11_rota_51 ?_
                  refine lv_bipush (v := 6) hx hb dX11_rota_54 (by decide) ?_
                  refine lv_iload hx hb dX11_rota_56 (lv_at hl 0 rfl) ?_
                  refine lv_iadd hx hb dX11_rota_58 ?_
                  refine lv_topi (fun t36 et36 => ?_)
                  have zt36 : t36.toInt = 6 + l5_17.toInt := by rw [et36]; exact add_i (by decide) rfl (by omega) (by omega)
                  refine lv_aload_n hx hb dX11_rota_59 rfl (lv_at hl 4 rfl) ?_
                  refine va_get (D := (dC, dI)) (ci := 11) (v := .ref (r 59)) (C := RX11) (T := TX11) (N := 79) hx hb hts inB_11 hown hE.1 hP 0 rfl rfl 59 (by decide) (hts _ k_1379) (fun _ h9 => h9) rfl dX11_rota_60 ?_
                  refine lv_bipush (v := 6) hx hb dX11_rota_63 (by decide) ?_
                  refine lv_iload hx hb dX11_rota_65 (lv_at hl 0 rfl) ?_
                  refine lv_iload hx hb dX11_rota_67 (lv_at hl 1 rfl) ?_
                  refine lv_iadd hx hb dX11_rota_69 ?_
                  refine lv_topi (fun t37 et37 => ?_)
                  have zt37 : t37.toInt = l5_17.toInt + l4_6.toInt := by rw [et37]; exact add_i rfl rfl (by omega) (by omega)
                  refine lv_aload_n hx hb dX11_rota_70 rfl (lv_at hl 4 rfl) ?_
                  refine va_get (D := (dC, dI)) (ci := 11) (v := .int (v17 24)) (C := RX11) (T := TX11) (N := 79) hx hb hts inB_11 hown hE.1 hP 0 rfl rfl 48 (by decide) (hts _ k_1368) (fun _ h9 => h9) rfl dX11_rota_71 ?_
                  refine tI (y := (v 24)) hq24_v17 ?_
                  refine lv_irem hx hb dX11_rota_74 (ne0 (by omega)) ?_
                  refine lv_topi (fun t38 et38 => ?_)
                  have zt38 : 0 ≤ t38.toInt ∧ t38.toInt < (v 24).toInt := by rw [et38]; exact rem_rng (zx := t37.toInt) (zy := (v 24).toInt) rfl rfl (by omega) (by omega)
                  refine lv_iadd hx hb dX11_rota_75 ?_
                  refine lv_topi (fun t39 et39 => ?_)
                  have rg40 := fb_rng t38
                  have zt39 : t39.toInt = 6 + t38.toInt := by rw [et39]; exact add_i (by decide) rfl (by omega) (by omega)
                  refine ldI hx hb hE hP 24 rfl (vp_in_iff.mpr ⟨by omega, by omega⟩) rfl rfl dX11_rota_76 ?_
                  refine lv_topi (fun t41 et41 => ?_)
                  have zt41 : t39.toInt.toNat % 39 < 6 ∨ 12 ≤ t39.toInt.toNat % 39 ∨ (-1 ≤ t41.toInt ∧ t41.toInt ≤ 5) := by rw [et41]; exact wear_ld hCf17.1 (show t39.toInt.toNat < 39 by omega)
                  refine stI hx hb hE hP hD hS 25 rfl (vp_in_iff.mpr ⟨by omega, by omega⟩) rfl dX11_rota_77 (fun H locs hP hD hS => ?_)
                  obtain ⟨f42, ef42, hP, hD⟩ : ∃ f9, f9 = upd2 f17 24 (upd (f17 24) t36.toNatClampNeg t41) ∧ va_P (dC, dI) vwCl (YW cy y0 r v17 f9 w17 g17) H ∧ va_D A (YW cy y0 r v17 f9 w17 g17) := ⟨_, rfl, hP, hD⟩
                  have hCf42 : YC f42 := by rw [ef42]; exact ⟨hCf17.1, (wear_st hCf17.2.1 (by show t36.toInt.toNat % 39 < 6 ∨ 12 ≤ t36.toInt.toNat % 39 ∨ (-1 ≤ t41.toInt ∧ t41.toInt ≤ 5); omega)), hCf17.2.2.1, hCf17.2.2.2.1, hCf17.2.2.2.2.1, hCf17.2.2.2.2.2⟩
                  have hRf42 : progOK (f42 4) (f42 5) (v17 9).toInt.toNat := by rw [ef42]; exact hRf17
                  obtain ⟨t43, et43⟩ : ∃ y : Int32, y = l5_17 + 1 := ⟨_, rfl⟩
                  have zt43 : t43.toInt = l5_17.toInt + 1 := by rw [et43]; exact add_i rfl (by decide) (by omega) (by omega)
                  refine lv_iinc (v := t43) (lv' := [(5, .int t43), (4, .int l4_6), (3, .int l3_6), (2, .int l2_6), (0, .ref y0), (1, .int p1)]) hx hb dX11_rota_78 hl (k := 0) rfl (by rw [et43]; rfl) (by decide) rfl (fun ls hl => ?_)
                  refine lv_goto (tgt := 41) hx hb dX11_rota_81 (by decide) ?_
                  have rg44 := fb_rng t43
                  exact ih17 t43 v17 f42 w17 g17 hIv17 hCf42 hRf42 hq0_v17 hq3_v17 hq4_v17 hq8_v17 hq9_v17 hq10_v17 hq24_v17 hq25_v17 hq35_v17 hq36_v17 hq38_v17 hq39_v17 ⟨show (0 : Int) ≤ t43.toInt by omega, show t43.toInt ≤ (2147483647 : Int) by omega⟩ (by show (2147483647 - t43.toInt).toNat < n17; omega) _ _ _ hP hD hS (lv_sub hl [0, 1, 2, 3, 4, 5] rfl)
            exact lp17 _ 0 v13 f14 w15 g16 hIv13 hCf14 hRf14 hq0_v13 hq3_v13 hq4_v13 hq8_v13 hq9_v13 hq10_v13 hq24_v13 hq25_v13 hq35_v13 hq36_v13 hq38_v13 hq39_v13 ⟨by decide, by decide⟩ (Nat.lt_succ_self _) _ _ _ hP hD hS (lv_sub hl [0, 1, 2, 3, 4, 5] rfl)
      exact lp6 _ 0 (-1) 0 v f w g hIv hCf hRf rfl rfl rfl rfl rfl rfl rfl rfl rfl rfl rfl rfl ⟨by decide, by decide⟩ (Nat.lt_succ_self _) _ _ _ hP hD hS (lv_sub hl [0, 1, 2, 3, 4] rfl)
    · skip
      have zc5 : (v 24).toInt = 0 := by rw [fa_eq, show (0 : Int32).toInt = 0 from by decide] at c5; exact c5
      refine lv_iconst (v := (-1)) hx hb dX11_rota_16 (by decide) ?_
      exact ret (-1) (v, f, w, g) _ _ _ _ _ _ rfl ⟨hIv, hCf, hRf, rfl, rfl, rfl, rfl, rfl, rfl, rfl, rfl, rfl, rfl, rfl, rfl⟩ hP hD hS dX11_rota_17 (Nat.le_refl _) (Nat.le_refl _)
  · skip
    subst g4
    refine lv_if_eq (tgt := 16) hx hb dX11_rota_6 (by decide) (fun _ => ?_) (fun c0 => absurd (by decide) c0)
    refine lv_iconst (v := (-1)) hx hb dX11_rota_16 (by decide) ?_
    exact ret (-1) (v, f, w, g) _ _ _ _ _ _ rfl ⟨hIv, hCf, hRf, rfl, rfl, rfl, rfl, rfl, rfl, rfl, rfl, rfl, rfl, rfl, rfl⟩ hP hD hS dX11_rota_17 (Nat.le_refl _) (Nat.le_refl _)
