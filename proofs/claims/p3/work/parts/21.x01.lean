set_option maxHeartbeats 4000000 in
set_option maxRecDepth 100000 in
theorem sX_X1_illness_1 (l : Launch) (dC : Nat → ClassId) (dI : Nat → Nat → Nat) (cy : Nat → ClassId) (x0 : Nat) (x : Nat → Nat) (p1 : Int32) (p2 : Int32) (v : Nat → Int32) (f : Nat → Nat → Int32) (hIv : XI v)  : ctI l (dC, dI) cy yX1_illness cX1_illness 3 .int 3 111 0 0 ((Nat → Int32) × (Nat → Nat → Int32)) [.ref (x 21), .int p1, .int p2] (XW cy x0 x v f) (fun r u => XI u.1 ∧ u.1 0 = v 0 ∧ u.1 1 = v 1 ∧ u.1 9 = v 9 ∧ u.1 10 = v 10 ∧ u.1 31 = v 31 ∧ u.1 32 = v 32) (fun u => XW cy x0 x u.1 u.2) := by
  refine ctI_of (by decide) (Nat.le_of_ble_eq_true rfl) (fun p e s m below meth c A ls Q hx hb hml hts hown hE hP hD hA hl ret => ?_)
  have hown : s.vm.findClass RX1 = some m.cls := hown
  have hS : va_S A s.heap s.heap [] := va_S.rf
  have hl : lv_has ls 3 [(0, .ref (x 21)), (1, .int p1), (2, .int p2)] := hl
  refine lv_aload_n hx hb dX1_illness_0 rfl (lv_at hl 0 rfl) ?_
  refine va_get (D := (dC, dI)) (ci := 1) (v := .ref (x 26)) (C := RX1) (T := TX1) (N := 2) hx hb hts inB_1 hown hE.1 hP 22 rfl rfl 0 (by decide) (hts _ k_318) (fun _ h9 => h9) rfl dX1_illness_1 ?_
  refine va_getN (D := (dC, dI)) (ci := 7) (v := .ref (x 15)) (C := RX7) (T := TX7) (N := 10) hx hb hts inB_7 hown hE.1 hP 27 rfl rfl 2 (by decide) (va_Nw.use rfl (hE.2 _ k_209)) (fun _ h9 => h9) rfl dX1_illness_4 ?_
  refine lv_aload_n hx hb dX1_illness_7 rfl (lv_at hl 0 rfl) ?_
  refine va_get (D := (dC, dI)) (ci := 1) (v := .ref (x 26)) (C := RX1) (T := TX1) (N := 2) hx hb hts inB_1 hown hE.1 hP 22 rfl rfl 0 (by decide) (hts _ k_318) (fun _ h9 => h9) rfl dX1_illness_8 ?_
  refine lv_iconst (v := 0) hx hb dX1_illness_11 (by decide) ?_
  refine lv_iload_n hx hb dX1_illness_12 rfl (lv_at hl 1 rfl) ?_
  refine cbVi (n := 2) (rest := [.ref (x 15)]) hx hb hml hown hts hE hP hD hS hA (sX_X7_manPart_1 l dC dI cy x0 x 0 p1 v f hIv ) k_302 k_303 k_304 k_104 k_305 (by decide +kernel) ⟨Nat.le_of_ble_eq_true rfl, Nat.le_of_ble_eq_true rfl⟩ 27 7 rfl rfl (rfl) hl.1 rfl (Nat.le_of_ble_eq_true rfl) dX1_illness_13 (fun r1 u H locs hw hP hD hS => ?_)
  refine lv_aload_n hx hb dX1_illness_16 rfl (lv_at hl 0 rfl) ?_
  refine lv_iload_n hx hb dX1_illness_17 rfl (lv_at hl 1 rfl) ?_
  refine cbVi (n := 1) (rest := [.int r1, .ref (x 15)]) hx hb hml hown hts hE hP hD hS hA (sX_X1_manWide_1 l dC dI cy x0 x p1 v f hIv ) k_826 k_805 k_806 k_106 k_807 (by decide +kernel) ⟨Nat.le_of_ble_eq_true rfl, Nat.le_of_ble_eq_true rfl⟩ 22 1 rfl rfl (rfl) hl.1 rfl (Nat.le_of_ble_eq_true rfl) dX1_illness_18 (fun r2 u H locs hw hP hD hS => ?_)
  refine lv_aload_n hx hb dX1_illness_21 rfl (lv_at hl 0 rfl) ?_
  refine lv_iconst (v := 0) hx hb dX1_illness_22 (by decide) ?_
  refine lv_iload_n hx hb dX1_illness_23 rfl (lv_at hl 2 rfl) ?_
  refine cbVi (n := 2) (rest := [.int r2, .int r1, .ref (x 15)]) hx hb hml hown hts hE hP hD hS hA (sX_X1_part_1 l dC dI cy x0 x 0 p2 v f hIv ) k_827 k_828 k_829 k_106 k_830 (by decide +kernel) ⟨Nat.le_of_ble_eq_true rfl, Nat.le_of_ble_eq_true rfl⟩ 22 1 rfl rfl (rfl) hl.1 rfl (Nat.le_of_ble_eq_true rfl) dX1_illness_24 (fun r3 u H locs hw hP hD hS => ?_)
  refine lv_aload_n hx hb dX1_illness_27 rfl (lv_at hl 0 rfl) ?_
  refine lv_iconst (v := 1) hx hb dX1_illness_28 (by decide) ?_
  refine lv_iload_n hx hb dX1_illness_29 rfl (lv_at hl 2 rfl) ?_
  refine cbVi (n := 2) (rest := [.int r3, .int r2, .int r1, .ref (x 15)]) hx hb hml hown hts hE hP hD hS hA (sX_X1_part_1 l dC dI cy x0 x 1 p2 v f hIv ) k_827 k_828 k_829 k_106 k_830 (by decide +kernel) ⟨Nat.le_of_ble_eq_true rfl, Nat.le_of_ble_eq_true rfl⟩ 22 1 rfl rfl (rfl) hl.1 rfl (Nat.le_of_ble_eq_true rfl) dX1_illness_30 (fun r4 u H locs hw hP hD hS => ?_)
  refine lv_aload_n hx hb dX1_illness_33 rfl (lv_at hl 0 rfl) ?_
  refine lv_iconst (v := 3) hx hb dX1_illness_34 (by decide) ?_
  refine lv_iload_n hx hb dX1_illness_35 rfl (lv_at hl 2 rfl) ?_
  refine cbVi (n := 2) (rest := [.int r4, .int r3, .int r2, .int r1, .ref (x 15)]) hx hb hml hown hts hE hP hD hS hA (sX_X1_part_1 l dC dI cy x0 x 3 p2 v f hIv ) k_827 k_828 k_829 k_106 k_830 (by decide +kernel) ⟨Nat.le_of_ble_eq_true rfl, Nat.le_of_ble_eq_true rfl⟩ 22 1 rfl rfl (rfl) hl.1 rfl (Nat.le_of_ble_eq_true rfl) dX1_illness_36 (fun r5 u H locs hw hP hD hS => ?_)
  refine lv_aload_n hx hb dX1_illness_39 rfl (lv_at hl 0 rfl) ?_
  refine cbVi (n := 0) (rest := [.int r5, .int r4, .int r3, .int r2, .int r1, .ref (x 15)]) hx hb hml hown hts hE hP hD hS hA (sX_X1_today_1 l dC dI cy x0 x  v f hIv ) k_831 k_832 k_833 k_106 k_834 (by decide +kernel) ⟨Nat.le_of_ble_eq_true rfl, Nat.le_of_ble_eq_true rfl⟩ 22 1 rfl rfl (rfl) hl.1 rfl (Nat.le_of_ble_eq_true rfl) dX1_illness_40 (fun r6 u H locs hw hP hD hS => ?_)
  refine cbVi (n := 6) (rest := []) hx hb hml hown hts hE hP hD hS hA (sX_X4_worth_1 l dC dI cy x0 x r1 r2 r3 r4 r5 r6 v f hIv ) k_835 k_836 k_837 k_105 k_838 (by decide +kernel) ⟨Nat.le_of_ble_eq_true rfl, Nat.le_of_ble_eq_true rfl⟩ 16 4 rfl rfl (rfl) hl.1 rfl (Nat.le_of_ble_eq_true rfl) dX1_illness_43 (fun r7 u H locs hw hP hD hS => ?_)
  obtain ⟨v8, f9⟩ := u
  obtain ⟨hIv8, hk0_v8, hk1_v8, hk9_v8, hk10_v8, hk31_v8, hk32_v8⟩ := hw
  have hP : va_P (dC, dI) vwCl (XW cy x0 x v8 f9) H := hP
  have hD : va_D A (XW cy x0 x v8 f9) := hD
  have hq0_v8 : v8 0 = (v 0) := hk0_v8
  have hq1_v8 : v8 1 = (v 1) := hk1_v8
  have hq9_v8 : v8 9 = (v 9) := hk9_v8
  have hq10_v8 : v8 10 = (v 10) := hk10_v8
  have hq31_v8 : v8 31 = (v 31) := hk31_v8
  have hq32_v8 : v8 32 = (v 32) := hk32_v8
  exact ret r7 (v8, f9) _ _ _ _ _ _ rfl ⟨hIv8, hk0_v8, hk1_v8, hk9_v8, hk10_v8, hk31_v8, hk32_v8⟩ hP hD hS dX1_illness_46 (Nat.le_refl _) (Nat.le_refl _)
set_option maxHeartbeats 4000000 in
set_option maxRecDepth 100000 in
theorem sX_X1_fits_1 (l : Launch) (dC : Nat → ClassId) (dI : Nat → Nat → Nat) (cy : Nat → ClassId) (x0 : Nat) (x : Nat → Nat) (p1 : Int32) (p2 : Int32) (v : Nat → Int32) (f : Nat → Nat → Int32) (hIv : XI v)  : ctI l (dC, dI) cy yX1_fits cX1_fits 3 .boolean 4 133 0 0 ((Nat → Int32) × (Nat → Nat → Int32)) [.ref (x 21), .int p1, .int p2] (XW cy x0 x v f) (fun r u => XI u.1 ∧ u.1 0 = v 0 ∧ u.1 1 = v 1 ∧ u.1 9 = v 9 ∧ u.1 10 = v 10 ∧ u.1 31 = v 31 ∧ u.1 32 = v 32 ∧ ((r = 1) ∨ (r = 0))) (fun u => XW cy x0 x u.1 u.2) := by
  refine ctI_of (by decide) (Nat.le_of_ble_eq_true rfl) (fun p e s m below meth c A ls Q hx hb hml hts hown hE hP hD hA hl ret => ?_)
  have hown : s.vm.findClass RX1 = some m.cls := hown
  have hS : va_S A s.heap s.heap [] := va_S.rf
  have hl : lv_has ls 3 [(0, .ref (x 21)), (1, .int p1), (2, .int p2)] := hl
  refine lv_aload_n hx hb dX1_fits_0 rfl (lv_at hl 0 rfl) ?_
  refine va_get (D := (dC, dI)) (ci := 1) (v := .ref (x 26)) (C := RX1) (T := TX1) (N := 2) hx hb hts inB_1 hown hE.1 hP 22 rfl rfl 0 (by decide) (hts _ k_318) (fun _ h9 => h9) rfl dX1_fits_1 ?_
  refine lv_iload_n hx hb dX1_fits_4 rfl (lv_at hl 1 rfl) ?_
  refine cbVi (n := 1) (rest := []) hx hb hml hown hts hE hP hD hS hA (sX_X7_hasMan_1 l dC dI cy x0 x p1 v f hIv ) k_808 k_307 k_308 k_104 k_309 (by decide +kernel) ⟨Nat.le_of_ble_eq_true rfl, Nat.le_of_ble_eq_true rfl⟩ 27 7 rfl rfl (rfl) hl.1 rfl (Nat.le_of_ble_eq_true rfl) dX1_fits_5 (fun r1 u H locs hw hP hD hS => ?_)
  rcases hw with ⟨g2, g2_0, g2_1, g2_2⟩ | ⟨g2⟩
  · skip
    subst g2
    refine lv_if_eq (tgt := 42) hx hb dX1_fits_8 (by decide) (fun c0 => absurd c0 (by decide)) (fun _ => ?_)
    refine lv_aload_n hx hb dX1_fits_11 rfl (lv_at hl 0 rfl) ?_
    refine va_get (D := (dC, dI)) (ci := 1) (v := .ref (x 26)) (C := RX1) (T := TX1) (N := 2) hx hb hts inB_1 hown hE.1 hP 22 rfl rfl 0 (by decide) (hts _ k_318) (fun _ h9 => h9) rfl dX1_fits_12 ?_
    refine lv_iload_n hx hb dX1_fits_15 rfl (lv_at hl 2 rfl) ?_
    refine cbVi (n := 1) (rest := []) hx hb hml hown hts hE hP hD hS hA (sX_X7_hasCoat_1 l dC dI cy x0 x p2 v f hIv ) k_821 k_315 k_316 k_104 k_317 (by decide +kernel) ⟨Nat.le_of_ble_eq_true rfl, Nat.le_of_ble_eq_true rfl⟩ 27 7 rfl rfl (rfl) hl.1 rfl (Nat.le_of_ble_eq_true rfl) dX1_fits_16 (fun r3 u H locs hw hP hD hS => ?_)
    rcases hw with ⟨g4, g4_0, g4_1, g4_2⟩ | ⟨g4⟩
    · skip
      subst g4
      refine lv_if_eq (tgt := 42) hx hb dX1_fits_19 (by decide) (fun c0 => absurd c0 (by decide)) (fun _ => ?_)
      refine lv_aload_n hx hb dX1_fits_22 rfl (lv_at hl 0 rfl) ?_
      refine lv_iload_n hx hb dX1_fits_23 rfl (lv_at hl 1 rfl) ?_
      refine lv_iload_n hx hb dX1_fits_24 rfl (lv_at hl 2 rfl) ?_
      refine cbVi (n := 2) (rest := []) hx hb hml hown hts hE hP hD hS hA (sX_X1_illness_1 l dC dI cy x0 x p1 p2 v f hIv ) k_822 k_823 k_824 k_106 k_825 (by decide +kernel) ⟨Nat.le_of_ble_eq_true rfl, Nat.le_of_ble_eq_true rfl⟩ 22 1 rfl rfl (rfl) hl.1 rfl (Nat.le_of_ble_eq_true rfl) dX1_fits_25 (fun r5 u H locs hw hP hD hS => ?_)
      obtain ⟨v6, f7⟩ := u
      obtain ⟨hIv6, hk0_v6, hk1_v6, hk9_v6, hk10_v6, hk31_v6, hk32_v6⟩ := hw
      have hP : va_P (dC, dI) vwCl (XW cy x0 x v6 f7) H := hP
      have hD : va_D A (XW cy x0 x v6 f7) := hD
      have hq0_v6 : v6 0 = (v 0) := hk0_v6
      have hq1_v6 : v6 1 = (v 1) := hk1_v6
      have hq9_v6 : v6 9 = (v 9) := hk9_v6
      have hq10_v6 : v6 10 = (v 10) := hk10_v6
      have hq31_v6 : v6 31 = (v 31) := hk31_v6
      have hq32_v6 : v6 32 = (v 32) := hk32_v6
      refine lv_aload_n hx hb dX1_fits_28 rfl (lv_at hl 0 rfl) ?_
      refine va_get (D := (dC, dI)) (ci := 1) (v := .ref (x 26)) (C := RX1) (T := TX1) (N := 2) hx hb hts inB_1 hown hE.1 hP 22 rfl rfl 0 (by decide) (hts _ k_318) (fun _ h9 => h9) rfl dX1_fits_29 ?_
      refine va_getN (D := (dC, dI)) (ci := 7) (v := .int (v6 33)) (C := RX7) (T := TX7) (N := 10) hx hb hts inB_7 hown hE.1 hP 27 rfl rfl 5 (by decide) (va_Nw.use rfl (hE.2 _ k_232)) (fun _ h9 => h9) rfl dX1_fits_32 ?_
      refine lv_icmp_gt (tgt := 42) hx hb dX1_fits_35 (by decide) (fun c8 => ?_) (fun c8 => ?_)
      · skip
        have zc8 : (v6 33).toInt < r5.toInt := by rw [fa_lt] at c8; exact c8
        have rg9 := fb_rng r5
        have rg10 := fb_rng (v6 33)
        refine lv_iconst (v := 0) hx hb dX1_fits_42 (by decide) ?_
        exact ret 0 (v6, f7) _ _ _ _ _ _ rfl ⟨hIv6, hk0_v6, hk1_v6, hk9_v6, hk10_v6, hk31_v6, hk32_v6, (Or.inr rfl)⟩ hP hD hS dX1_fits_43 (Nat.le_refl _) (Nat.le_refl _)
      · skip
        have zc8 : ¬ ((v6 33).toInt < r5.toInt) := by rw [fa_lt] at c8; exact c8
        have rg11 := fb_rng r5
        have rg12 := fb_rng (v6 33)
        refine lv_iconst (v := 1) hx hb dX1_fits_38 (by decide) ?_
        refine lv_goto (tgt := 43) hx hb dX1_fits_39 (by decide) ?_
        exact ret 1 (v6, f7) _ _ _ _ _ _ rfl ⟨hIv6, hk0_v6, hk1_v6, hk9_v6, hk10_v6, hk31_v6, hk32_v6, (Or.inl rfl)⟩ hP hD hS dX1_fits_43 (Nat.le_refl _) (Nat.le_refl _)
    · skip
      subst g4
      refine lv_if_eq (tgt := 42) hx hb dX1_fits_19 (by decide) (fun _ => ?_) (fun c0 => absurd (by decide) c0)
      refine lv_iconst (v := 0) hx hb dX1_fits_42 (by decide) ?_
      exact ret 0 (v, f) _ _ _ _ _ _ rfl ⟨hIv, rfl, rfl, rfl, rfl, rfl, rfl, (Or.inr rfl)⟩ hP hD hS dX1_fits_43 (Nat.le_refl _) (Nat.le_refl _)
  · skip
    subst g2
    refine lv_if_eq (tgt := 42) hx hb dX1_fits_8 (by decide) (fun _ => ?_) (fun c0 => absurd (by decide) c0)
    refine lv_iconst (v := 0) hx hb dX1_fits_42 (by decide) ?_
    exact ret 0 (v, f) _ _ _ _ _ _ rfl ⟨hIv, rfl, rfl, rfl, rfl, rfl, rfl, (Or.inr rfl)⟩ hP hD hS dX1_fits_43 (Nat.le_refl _) (Nat.le_refl _)
set_option maxHeartbeats 4000000 in
set_option maxRecDepth 100000 in
theorem sX_X1_fittingCoats_1 (l : Launch) (dC : Nat → ClassId) (dI : Nat → Nat → Nat) (cy : Nat → ClassId) (x0 : Nat) (x : Nat → Nat) (p1 : Int32) (v : Nat → Int32) (f : Nat → Nat → Int32) (hIv : XI v)  : ctI l (dC, dI) cy yX1_fittingCoats cX1_fittingCoats 4 .int 5 155 0 0 ((Nat → Int32) × (Nat → Nat → Int32)) [.ref (x 21), .int p1] (XW cy x0 x v f) (fun r u => XI u.1 ∧ u.1 0 = v 0 ∧ u.1 1 = v 1 ∧ u.1 9 = v 9 ∧ u.1 10 = v 10 ∧ u.1 31 = v 31 ∧ u.1 32 = v 32) (fun u => XW cy x0 x u.1 u.2) := by
  refine ctI_of (by decide) (Nat.le_of_ble_eq_true rfl) (fun p e s m below meth c A ls Q hx hb hml hts hown hE hP hD hA hl ret => ?_)
  have hown : s.vm.findClass RX1 = some m.cls := hown
  have hS : va_S A s.heap s.heap [] := va_S.rf
  have hl : lv_has ls 4 [(0, .ref (x 21)), (1, .int p1)] := hl
  refine lv_iconst (v := 0) hx hb dX1_fittingCoats_0 (by decide) ?_
  refine lv_istore_n (lv' := [(2, .int 0), (0, .ref (x 21)), (1, .int p1)]) hx hb dX1_fittingCoats_1 rfl hl (by decide) rfl (fun ls hl => ?_)
  refine lv_iconst (v := 0) hx hb dX1_fittingCoats_2 (by decide) ?_
  refine lv_istore_n (lv' := [(3, .int 0), (2, .int 0), (0, .ref (x 21)), (1, .int p1)]) hx hb dX1_fittingCoats_3 rfl hl (by decide) rfl (fun ls hl => ?_)
  have lp1 : ∀ (n1 : Nat) (l2_1 : Int32) (l3_1 : Int32) (v1 : Nat → Int32) (f1 : Nat → Nat → Int32), XI v1 → v1 0 = (v 0) → v1 1 = (v 1) → v1 9 = (v 9) → v1 10 = (v 10) → v1 31 = (v 31) → v1 32 = (v 32) → ((0 : Int) ≤ l3_1.toInt ∧ l3_1.toInt ≤ 2147483647) → (2147483647 - l3_1.toInt).toNat < n1 → ∀ (H : Heap) (locs : List Loc) (ls : Array Slot), va_P (dC, dI) vwCl (XW cy x0 x v1 f1) H → va_D A (XW cy x0 x v1 f1) → va_S A s.heap H locs → lv_has ls 4 [(3, .int l3_1), (2, .int l2_1), (0, .ref (x 21)), (1, .int p1)] → W p l e { frames := 5, cells := 0, slots := 0, locals := 155 } s m ([.ref (x 21), .int p1] : List Value).toArray below meth c H locs 0 0 Q (F0 m 4 ls []) := by
    intro n1
    induction n1 with
    | zero => intro l2_1 l3_1 v1 f1 hIv1 hq0_v1 hq1_v1 hq9_v1 hq10_v1 hq31_v1 hq32_v1 hr3_1 hm; exact absurd hm (Nat.not_lt_zero _)
    | succ n1 ih1 =>
      intro l2_1 l3_1 v1 f1 hIv1 hq0_v1 hq1_v1 hq9_v1 hq10_v1 hq31_v1 hq32_v1 hr3_1 hm1 H locs ls hP hD hS hl
      refine lv_iload_n hx hb dX1_fittingCoats_4 rfl (lv_at hl 0 rfl) ?_
      refine lv_aload_n hx hb dX1_fittingCoats_5 rfl (lv_at hl 2 rfl) ?_
      refine va_get (D := (dC, dI)) (ci := 1) (v := .ref (x 26)) (C := RX1) (T := TX1) (N := 2) hx hb hts inB_1 hown hE.1 hP 22 rfl rfl 0 (by decide) (hts _ k_318) (fun _ h9 => h9) rfl dX1_fittingCoats_6 ?_
      refine va_getN (D := (dC, dI)) (ci := 7) (v := .int (v1 32)) (C := RX7) (T := TX7) (N := 10) hx hb hts inB_7 hown hE.1 hP 27 rfl rfl 4 (by decide) (va_Nw.use rfl (hE.2 _ k_226)) (fun _ h9 => h9) rfl dX1_fittingCoats_9 ?_
      refine tI (y := (v 32)) hq32_v1 ?_
      have b32_v : 0 ≤ (v 32).toInt ∧ (v 32).toInt ≤ 6 := XI.b hIv 32 (by decide)
      refine lv_icmp_ge (tgt := 36) hx hb dX1_fittingCoats_12 (by decide) (fun c2 => ?_) (fun c2 => ?_)
      · skip
        have zc2 : (v 32).toInt ≤ l3_1.toInt := by rw [fa_le] at c2; exact c2
        have rg3 := fb_rng l3_1
        have rg4 := fb_rng (v 32)
        refine lv_iload_n hx hb dX1_fittingCoats_36 rfl (lv_at hl 1 rfl) ?_
        exact ret l2_1 (v1, f1) _ _ _ _ _ _ rfl ⟨hIv1, (show v1 0 = v 0 from hq0_v1), (show v1 1 = v 1 from hq1_v1), (show v1 9 = v 9 from hq9_v1), (show v1 10 = v 10 from hq10_v1), (show v1 31 = v 31 from hq31_v1), (show v1 32 = v 32 from hq32_v1)⟩ hP hD hS dX1_fittingCoats_37 (Nat.le_refl _) (Nat.le_refl _)
      · skip
        have zc2 : ¬ ((v 32).toInt ≤ l3_1.toInt) := by rw [fa_le] at c2; exact c2
        have rg5 := fb_rng l3_1
        have rg6 := fb_rng (v 32)
        refine lv_aload_n hx hb dX1_fittingCoats_15 rfl (lv_at hl 2 rfl) ?_
        refine lv_iload_n hx hb dX1_fittingCoats_16 rfl (lv_at hl 3 rfl) ?_
        refine lv_iload_n hx hb dX1_fittingCoats_17 rfl (lv_at hl 0 rfl) ?_
        refine cbVi (n := 2) (rest := []) hx hb hml hown hts hE hP hD hS hA (sX_X1_fits_1 l dC dI cy x0 x p1 l3_1 v1 f1 hIv1 ) k_817 k_818 k_819 k_106 k_820 (by decide +kernel) ⟨Nat.le_of_ble_eq_true rfl, Nat.le_of_ble_eq_true rfl⟩ 22 1 rfl rfl (rfl) hl.1 rfl (Nat.le_of_ble_eq_true rfl) dX1_fittingCoats_18 (fun r7 u H locs hw hP hD hS => ?_)
        obtain ⟨v8, f9⟩ := u
        obtain ⟨hIv8, hk0_v8, hk1_v8, hk9_v8, hk10_v8, hk31_v8, hk32_v8, hw⟩ := hw
        have hP : va_P (dC, dI) vwCl (XW cy x0 x v8 f9) H := hP
        have hD : va_D A (XW cy x0 x v8 f9) := hD
        have hq0_v8 : v8 0 = (v 0) := hk0_v8.trans hq0_v1
        have hq1_v8 : v8 1 = (v 1) := hk1_v8.trans hq1_v1
        have hq9_v8 : v8 9 = (v 9) := hk9_v8.trans hq9_v1
        have hq10_v8 : v8 10 = (v 10) := hk10_v8.trans hq10_v1
        have hq31_v8 : v8 31 = (v 31) := hk31_v8.trans hq31_v1
        have hq32_v8 : v8 32 = (v 32) := hk32_v8.trans hq32_v1
        rcases hw with ⟨g10⟩ | ⟨g10⟩
        · skip
          subst g10
          refine lv_if_eq (tgt := 30) hx hb dX1_fittingCoats_21 (by decide) (fun c0 => absurd c0 (by decide)) (fun _ => ?_)
          refine lv_iload_n hx hb dX1_fittingCoats_24 rfl (lv_at hl 1 rfl) ?_
          refine lv_iconst (v := 1) hx hb dX1_fittingCoats_25 (by decide) ?_
          refine lv_iload_n hx hb dX1_fittingCoats_26 rfl (lv_at hl 0 rfl) ?_
          refine lv_ishl hx hb dX1_fittingCoats_27 ?_
          refine lv_topi (fun t11 et11 => ?_)
          have zt11 : 1 ≤ t11.toInt ∧ t11.toInt ≤ 32 := by rw [et11]; exact shl1_rng (by omega) (by omega)
          refine lv_ior hx hb dX1_fittingCoats_28 ?_
          refine lv_topi (fun t12 et12 => ?_)
          refine lv_istore_n (lv' := [(2, .int t12), (3, .int l3_1), (0, .ref (x 21)), (1, .int p1)]) hx hb dX1_fittingCoats_29 rfl hl (by decide) rfl (fun ls hl => ?_)
          obtain ⟨t13, et13⟩ : ∃ y : Int32, y = l3_1 + 1 := ⟨_, rfl⟩
          have zt13 : t13.toInt = l3_1.toInt + 1 := by rw [et13]; exact add_i rfl (by decide) (by omega) (by omega)
          refine lv_iinc (v := t13) (lv' := [(3, .int t13), (2, .int t12), (0, .ref (x 21)), (1, .int p1)]) hx hb dX1_fittingCoats_30 hl (k := 1) rfl (by rw [et13]; rfl) (by decide) rfl (fun ls hl => ?_)
          refine lv_goto (tgt := 4) hx hb dX1_fittingCoats_33 (by decide) ?_
          have rg14 := fb_rng t13
          exact ih1 t12 t13 v8 f9 hIv8 hq0_v8 hq1_v8 hq9_v8 hq10_v8 hq31_v8 hq32_v8 ⟨show (0 : Int) ≤ t13.toInt by omega, show t13.toInt ≤ (2147483647 : Int) by omega⟩ (by show (2147483647 - t13.toInt).toNat < n1; omega) _ _ _ hP hD hS (lv_sub hl [0, 1, 2, 3] rfl)
        · skip
          subst g10
          refine lv_if_eq (tgt := 30) hx hb dX1_fittingCoats_21 (by decide) (fun _ => ?_) (fun c0 => absurd (by decide) c0)
          obtain ⟨t15, et15⟩ : ∃ y : Int32, y = l3_1 + 1 := ⟨_, rfl⟩
          have zt15 : t15.toInt = l3_1.toInt + 1 := by rw [et15]; exact add_i rfl (by decide) (by omega) (by omega)
          refine lv_iinc (v := t15) (lv' := [(3, .int t15), (2, .int l2_1), (0, .ref (x 21)), (1, .int p1)]) hx hb dX1_fittingCoats_30 hl (k := 0) rfl (by rw [et15]; rfl) (by decide) rfl (fun ls hl => ?_)
          refine lv_goto (tgt := 4) hx hb dX1_fittingCoats_33 (by decide) ?_
          have rg16 := fb_rng t15
          exact ih1 l2_1 t15 v8 f9 hIv8 hq0_v8 hq1_v8 hq9_v8 hq10_v8 hq31_v8 hq32_v8 ⟨show (0 : Int) ≤ t15.toInt by omega, show t15.toInt ≤ (2147483647 : Int) by omega⟩ (by show (2147483647 - t15.toInt).toNat < n1; omega) _ _ _ hP hD hS (lv_sub hl [0, 1, 2, 3] rfl)
  exact lp1 _ 0 0 v f hIv rfl rfl rfl rfl rfl rfl ⟨by decide, by decide⟩ (Nat.lt_succ_self _) _ _ _ hP hD hS (lv_sub hl [0, 1, 2, 3] rfl)
set_option maxHeartbeats 4000000 in
set_option maxRecDepth 100000 in
theorem sX_X10_man_1 (l : Launch) (dC : Nat → ClassId) (dI : Nat → Nat → Nat) (cy : Nat → ClassId) (x0 : Nat) (x : Nat → Nat) (p1 : Int32) (p2 : Int32) (v : Nat → Int32) (f : Nat → Nat → Int32) (hIv : XI v)  : ctI l (dC, dI) cy yX10_man cX10_man 3 .int 6 178 0 0 ((Nat → Int32) × (Nat → Nat → Int32)) [.ref x0, .int p1, .int p2] (XW cy x0 x v f) (fun r u => XI u.1 ∧ u.1 0 = v 0 ∧ u.1 1 = v 1 ∧ u.1 9 = v 9 ∧ u.1 10 = v 10 ∧ u.1 31 = v 31 ∧ u.1 32 = v 32) (fun u => XW cy x0 x u.1 u.2) := by
  refine ctI_of (by decide) (Nat.le_of_ble_eq_true rfl) (fun p e s m below meth c A ls Q hx hb hml hts hown hE hP hD hA hl ret => ?_)
  have hown : s.vm.findClass RX10 = some m.cls := hown
  have hS : va_S A s.heap s.heap [] := va_S.rf
  have hl : lv_has ls 3 [(0, .ref x0), (1, .int p1), (2, .int p2)] := hl
  refine lv_aload_n hx hb dX10_man_0 rfl (lv_at hl 0 rfl) ?_
  refine va_get (D := (dC, dI)) (ci := 10) (v := .ref (x 26)) (C := RX10) (T := TX10) (N := 10) hx hb hts inB_10 hown hE.1 hP 0 rfl rfl 2 (by decide) (hts _ k_493) (fun _ h9 => h9) rfl dX10_man_1 ?_
  refine lv_iload_n hx hb dX10_man_4 rfl (lv_at hl 1 rfl) ?_
  refine cbVi (n := 1) (rest := []) hx hb hml hown hts hE hP hD hS hA (sX_X7_hasMan_1 l dC dI cy x0 x p1 v f hIv ) k_802 k_307 k_308 k_104 k_309 (by decide +kernel) ⟨Nat.le_of_ble_eq_true rfl, Nat.le_of_ble_eq_true rfl⟩ 27 7 rfl rfl (rfl) hl.1 rfl (Nat.le_of_ble_eq_true rfl) dX10_man_5 (fun r1 u H locs hw hP hD hS => ?_)
  rcases hw with ⟨g2, g2_0, g2_1, g2_2⟩ | ⟨g2⟩
  · skip
    subst g2
    refine lv_if_ne (tgt := 14) hx hb dX10_man_8 (by decide) (fun _ => ?_) (fun c0 => absurd c0 (by decide))
    refine lv_iload_n hx hb dX10_man_14 rfl (lv_at hl 2 rfl) ?_
    by_cases c3 : p2 = 0
    · skip
      refine lv_tableIn (off := 33) (tgt := 48) hx hb dX10_man_15 (by rw [c3]; decide) (by rw [c3]; decide) (by rw [c3]; decide) (by decide) ?_
      have zc3 : p2.toInt = 0 := by rw [fa_eq, show (0 : Int32).toInt = 0 from by decide] at c3; exact c3
      refine lv_aload_n hx hb dX10_man_48 rfl (lv_at hl 0 rfl) ?_
      refine va_get (D := (dC, dI)) (ci := 10) (v := .ref (x 26)) (C := RX10) (T := TX10) (N := 10) hx hb hts inB_10 hown hE.1 hP 0 rfl rfl 2 (by decide) (hts _ k_493) (fun _ h9 => h9) rfl dX10_man_49 ?_
      refine lv_iconst (v := 0) hx hb dX10_man_52 (by decide) ?_
      refine lv_iload_n hx hb dX10_man_53 rfl (lv_at hl 1 rfl) ?_
      refine cbVi (n := 2) (rest := []) hx hb hml hown hts hE hP hD hS hA (sX_X7_manPart_1 l dC dI cy x0 x 0 p1 v f hIv ) k_803 k_303 k_304 k_104 k_305 (by decide +kernel) ⟨Nat.le_of_ble_eq_true rfl, Nat.le_of_ble_eq_true rfl⟩ 27 7 rfl rfl (rfl) hl.1 rfl (Nat.le_of_ble_eq_true rfl) dX10_man_54 (fun r4 u H locs hw hP hD hS => ?_)
      exact ret r4 (v, f) _ _ _ _ _ _ rfl ⟨hIv, rfl, rfl, rfl, rfl, rfl, rfl⟩ hP hD hS dX10_man_57 (Nat.le_refl _) (Nat.le_refl _)
    · skip
      have zc3 : ¬ (p2.toInt = 0) := by rw [fa_eq, show (0 : Int32).toInt = 0 from by decide] at c3; exact c3
      by_cases c5 : p2 = 1
      · skip
        refine lv_tableIn (off := 43) (tgt := 58) hx hb dX10_man_15 (by rw [c5]; decide) (by rw [c5]; decide) (by rw [c5]; decide) (by decide) ?_
        have zc5 : p2.toInt = 1 := by rw [fa_eq, show (1 : Int32).toInt = 1 from by decide] at c5; exact c5
        refine lv_aload_n hx hb dX10_man_58 rfl (lv_at hl 0 rfl) ?_
        refine va_get (D := (dC, dI)) (ci := 10) (v := .ref (x 21)) (C := RX10) (T := TX10) (N := 10) hx hb hts inB_10 hown hE.1 hP 0 rfl rfl 3 (by decide) (hts _ k_494) (fun _ h9 => h9) rfl dX10_man_59 ?_
        refine lv_iload_n hx hb dX10_man_62 rfl (lv_at hl 1 rfl) ?_
        refine cbVi (n := 1) (rest := []) hx hb hml hown hts hE hP hD hS hA (sX_X1_manWide_1 l dC dI cy x0 x p1 v f hIv ) k_804 k_805 k_806 k_106 k_807 (by decide +kernel) ⟨Nat.le_of_ble_eq_true rfl, Nat.le_of_ble_eq_true rfl⟩ 22 1 rfl rfl (rfl) hl.1 rfl (Nat.le_of_ble_eq_true rfl) dX10_man_63 (fun r6 u H locs hw hP hD hS => ?_)
        exact ret r6 (v, f) _ _ _ _ _ _ rfl ⟨hIv, rfl, rfl, rfl, rfl, rfl, rfl⟩ hP hD hS dX10_man_66 (Nat.le_refl _) (Nat.le_refl _)
      · skip
        have zc5 : ¬ (p2.toInt = 1) := by rw [fa_eq, show (1 : Int32).toInt = 1 from by decide] at c5; exact c5
        by_cases c7 : p2 = 2
        · skip
          refine lv_tableIn (off := 52) (tgt := 67) hx hb dX10_man_15 (by rw [c7]; decide) (by rw [c7]; decide) (by rw [c7]; decide) (by decide) ?_
          have zc7 : p2.toInt = 2 := by rw [fa_eq, show (2 : Int32).toInt = 2 from by decide] at c7; exact c7
          refine lv_aload_n hx hb dX10_man_67 rfl (lv_at hl 0 rfl) ?_
          refine va_get (D := (dC, dI)) (ci := 10) (v := .ref (x 26)) (C := RX10) (T := TX10) (N := 10) hx hb hts inB_10 hown hE.1 hP 0 rfl rfl 2 (by decide) (hts _ k_493) (fun _ h9 => h9) rfl dX10_man_68 ?_
          refine lv_iconst (v := 2) hx hb dX10_man_71 (by decide) ?_
          refine lv_iload_n hx hb dX10_man_72 rfl (lv_at hl 1 rfl) ?_
          refine cbVi (n := 2) (rest := []) hx hb hml hown hts hE hP hD hS hA (sX_X7_manPart_1 l dC dI cy x0 x 2 p1 v f hIv ) k_803 k_303 k_304 k_104 k_305 (by decide +kernel) ⟨Nat.le_of_ble_eq_true rfl, Nat.le_of_ble_eq_true rfl⟩ 27 7 rfl rfl (rfl) hl.1 rfl (Nat.le_of_ble_eq_true rfl) dX10_man_73 (fun r8 u H locs hw hP hD hS => ?_)
          exact ret r8 (v, f) _ _ _ _ _ _ rfl ⟨hIv, rfl, rfl, rfl, rfl, rfl, rfl⟩ hP hD hS dX10_man_76 (Nat.le_refl _) (Nat.le_refl _)
        · skip
          have zc7 : ¬ (p2.toInt = 2) := by rw [fa_eq, show (2 : Int32).toInt = 2 from by decide] at c7; exact c7
          by_cases c9 : p2 = 3
          · skip
            refine lv_tableIn (off := 62) (tgt := 77) hx hb dX10_man_15 (by rw [c9]; decide) (by rw [c9]; decide) (by rw [c9]; decide) (by decide) ?_
            have zc9 : p2.toInt = 3 := by rw [fa_eq, show (3 : Int32).toInt = 3 from by decide] at c9; exact c9
            refine lv_aload_n hx hb dX10_man_77 rfl (lv_at hl 0 rfl) ?_
            refine va_get (D := (dC, dI)) (ci := 10) (v := .ref (x 21)) (C := RX10) (T := TX10) (N := 10) hx hb hts inB_10 hown hE.1 hP 0 rfl rfl 3 (by decide) (hts _ k_494) (fun _ h9 => h9) rfl dX10_man_78 ?_
            refine lv_iload_n hx hb dX10_man_81 rfl (lv_at hl 1 rfl) ?_
            refine cbVi (n := 1) (rest := []) hx hb hml hown hts hE hP hD hS hA (sX_X1_wears_1 l dC dI cy x0 x p1 v f hIv ) k_809 k_810 k_811 k_106 k_812 (by decide +kernel) ⟨Nat.le_of_ble_eq_true rfl, Nat.le_of_ble_eq_true rfl⟩ 22 1 rfl rfl (rfl) hl.1 rfl (Nat.le_of_ble_eq_true rfl) dX10_man_82 (fun r10 u H locs hw hP hD hS => ?_)
            exact ret r10 (v, f) _ _ _ _ _ _ rfl ⟨hIv, rfl, rfl, rfl, rfl, rfl, rfl⟩ hP hD hS dX10_man_85 (Nat.le_refl _) (Nat.le_refl _)
          · skip
            have zc9 : ¬ (p2.toInt = 3) := by rw [fa_eq, show (3 : Int32).toInt = 3 from by decide] at c9; exact c9
            by_cases c11 : p2 = 4
            · skip
              refine lv_tableIn (off := 71) (tgt := 86) hx hb dX10_man_15 (by rw [c11]; decide) (by rw [c11]; decide) (by rw [c11]; decide) (by decide) ?_
              have zc11 : p2.toInt = 4 := by rw [fa_eq, show (4 : Int32).toInt = 4 from by decide] at c11; exact c11
              refine lv_aload_n hx hb dX10_man_86 rfl (lv_at hl 0 rfl) ?_
              refine va_get (D := (dC, dI)) (ci := 10) (v := .ref (x 21)) (C := RX10) (T := TX10) (N := 10) hx hb hts inB_10 hown hE.1 hP 0 rfl rfl 3 (by decide) (hts _ k_494) (fun _ h9 => h9) rfl dX10_man_87 ?_
              refine lv_iload_n hx hb dX10_man_90 rfl (lv_at hl 1 rfl) ?_
              refine cbVi (n := 1) (rest := []) hx hb hml hown hts hE hP hD hS hA (sX_X1_fittingCoats_1 l dC dI cy x0 x p1 v f hIv ) k_813 k_814 k_815 k_106 k_816 (by decide +kernel) ⟨Nat.le_of_ble_eq_true rfl, Nat.le_of_ble_eq_true rfl⟩ 22 1 rfl rfl (rfl) hl.1 rfl (Nat.le_of_ble_eq_true rfl) dX10_man_91 (fun r12 u H locs hw hP hD hS => ?_)
              obtain ⟨v13, f14⟩ := u
              obtain ⟨hIv13, hk0_v13, hk1_v13, hk9_v13, hk10_v13, hk31_v13, hk32_v13⟩ := hw
              have hP : va_P (dC, dI) vwCl (XW cy x0 x v13 f14) H := hP
              have hD : va_D A (XW cy x0 x v13 f14) := hD
              have hq0_v13 : v13 0 = (v 0) := hk0_v13
              have hq1_v13 : v13 1 = (v 1) := hk1_v13
              have hq9_v13 : v13 9 = (v 9) := hk9_v13
              have hq10_v13 : v13 10 = (v 10) := hk10_v13
              have hq31_v13 : v13 31 = (v 31) := hk31_v13
              have hq32_v13 : v13 32 = (v 32) := hk32_v13
              exact ret r12 (v13, f14) _ _ _ _ _ _ rfl ⟨hIv13, hk0_v13, hk1_v13, hk9_v13, hk10_v13, hk31_v13, hk32_v13⟩ hP hD hS dX10_man_94 (Nat.le_refl _) (Nat.le_refl _)
            · skip
              have zc11 : ¬ (p2.toInt = 4) := by rw [fa_eq, show (4 : Int32).toInt = 4 from by decide] at c11; exact c11
              refine lv_tableOut (tgt := 95) hx hb dX10_man_15 (by omega) (by decide) ?_
              refine lv_bipush (v := (-2)) hx hb dX10_man_95 (by decide) ?_
              exact ret (-2) (v, f) _ _ _ _ _ _ rfl ⟨hIv, rfl, rfl, rfl, rfl, rfl, rfl⟩ hP hD hS dX10_man_97 (Nat.le_refl _) (Nat.le_refl _)
  · skip
    subst g2
    refine lv_if_ne (tgt := 14) hx hb dX10_man_8 (by decide) (fun c0 => absurd (by decide) c0) (fun _ => ?_)
    refine lv_bipush (v := (-2)) hx hb dX10_man_11 (by decide) ?_
    exact ret (-2) (v, f) _ _ _ _ _ _ rfl ⟨hIv, rfl, rfl, rfl, rfl, rfl, rfl⟩ hP hD hS dX10_man_13 (Nat.le_refl _) (Nat.le_refl _)
set_option maxHeartbeats 4000000 in
set_option maxRecDepth 100000 in
theorem sX_X1_wearer_1 (l : Launch) (dC : Nat → ClassId) (dI : Nat → Nat → Nat) (cy : Nat → ClassId) (x0 : Nat) (x : Nat → Nat) (p1 : Int32) (v : Nat → Int32) (f : Nat → Nat → Int32) (hIv : XI v)  : ctI l (dC, dI) cy yX1_wearer cX1_wearer 3 .int 3 102 0 0 Unit [.ref (x 21), .int p1] (XW cy x0 x v f) (fun r u => True) (fun u => XW cy x0 x v f) := by
  refine ctI_of (by decide) (Nat.le_of_ble_eq_true rfl) (fun p e s m below meth c A ls Q hx hb hml hts hown hE hP hD hA hl ret => ?_)
  have hown : s.vm.findClass RX1 = some m.cls := hown
  have hS : va_S A s.heap s.heap [] := va_S.rf
  have hl : lv_has ls 3 [(0, .ref (x 21)), (1, .int p1)] := hl
  refine lv_iconst (v := 0) hx hb dX1_wearer_0 (by decide) ?_
  refine lv_istore_n (lv' := [(2, .int 0), (0, .ref (x 21)), (1, .int p1)]) hx hb dX1_wearer_1 rfl hl (by decide) rfl (fun ls hl => ?_)
  have lp1 : ∀ (n1 : Nat) (l2_1 : Int32), ((0 : Int) ≤ l2_1.toInt ∧ l2_1.toInt ≤ 2147483647) → (2147483647 - l2_1.toInt).toNat < n1 → ∀ (H : Heap) (locs : List Loc) (ls : Array Slot), va_P (dC, dI) vwCl (XW cy x0 x v f) H → va_D A (XW cy x0 x v f) → va_S A s.heap H locs → lv_has ls 3 [(2, .int l2_1), (0, .ref (x 21)), (1, .int p1)] → W p l e { frames := 3, cells := 0, slots := 0, locals := 102 } s m ([.ref (x 21), .int p1] : List Value).toArray below meth c H locs 0 0 Q (F0 m 2 ls []) := by
    intro n1
    induction n1 with
    | zero => intro l2_1 hr2_1 hm; exact absurd hm (Nat.not_lt_zero _)
    | succ n1 ih1 =>
      intro l2_1 hr2_1 hm1 H locs ls hP hD hS hl
      refine lv_iload_n hx hb dX1_wearer_2 rfl (lv_at hl 0 rfl) ?_
      refine lv_aload_n hx hb dX1_wearer_3 rfl (lv_at hl 1 rfl) ?_
      refine va_get (D := (dC, dI)) (ci := 1) (v := .ref (x 26)) (C := RX1) (T := TX1) (N := 2) hx hb hts inB_1 hown hE.1 hP 22 rfl rfl 0 (by decide) (hts _ k_318) (fun _ h9 => h9) rfl dX1_wearer_4 ?_
      refine va_getN (D := (dC, dI)) (ci := 7) (v := .int (v 31)) (C := RX7) (T := TX7) (N := 10) hx hb hts inB_7 hown hE.1 hP 27 rfl rfl 3 (by decide) (va_Nw.use rfl (hE.2 _ k_219)) (fun _ h9 => h9) rfl dX1_wearer_7 ?_
      have b31_v : 0 ≤ (v 31).toInt ∧ (v 31).toInt ≤ 6 := XI.b hIv 31 (by decide)
      refine lv_icmp_ge (tgt := 30) hx hb dX1_wearer_10 (by decide) (fun c2 => ?_) (fun c2 => ?_)
      · skip
        have zc2 : (v 31).toInt ≤ l2_1.toInt := by rw [fa_le] at c2; exact c2
        have rg3 := fb_rng l2_1
        have rg4 := fb_rng (v 31)
        refine lv_iconst (v := (-1)) hx hb dX1_wearer_30 (by decide) ?_
        exact ret (-1) () _ _ _ _ _ _ rfl trivial hP hD hS dX1_wearer_31 (Nat.le_refl _) (Nat.le_refl _)
      · skip
        have zc2 : ¬ ((v 31).toInt ≤ l2_1.toInt) := by rw [fa_le] at c2; exact c2
        have rg5 := fb_rng l2_1
        have rg6 := fb_rng (v 31)
        refine lv_aload_n hx hb dX1_wearer_13 rfl (lv_at hl 1 rfl) ?_
        refine lv_iload_n hx hb dX1_wearer_14 rfl (lv_at hl 0 rfl) ?_
        refine cbVi (n := 1) (rest := []) hx hb hml hown hts hE hP hD hS hA (sX_X1_wears_1 l dC dI cy x0 x l2_1 v f hIv ) k_853 k_810 k_811 k_106 k_812 (by decide +kernel) ⟨Nat.le_of_ble_eq_true rfl, Nat.le_of_ble_eq_true rfl⟩ 22 1 rfl rfl (rfl) hl.1 rfl (Nat.le_of_ble_eq_true rfl) dX1_wearer_15 (fun r7 u H locs hw hP hD hS => ?_)
        refine lv_iload_n hx hb dX1_wearer_18 rfl (lv_at hl 2 rfl) ?_
        refine lv_icmp_ne (tgt := 24) hx hb dX1_wearer_19 (by decide) (fun c8 => ?_) (fun c8 => ?_)
        · skip
          have zc8 : ¬ (r7.toInt = p1.toInt) := by rw [fa_eq] at c8; exact c8
          have rg9 := fb_rng r7
          have rg10 := fb_rng p1
          obtain ⟨t11, et11⟩ : ∃ y : Int32, y = l2_1 + 1 := ⟨_, rfl⟩
          have zt11 : t11.toInt = l2_1.toInt + 1 := by rw [et11]; exact add_i rfl (by decide) (by omega) (by omega)
          refine lv_iinc (v := t11) (lv' := [(2, .int t11), (0, .ref (x 21)), (1, .int p1)]) hx hb dX1_wearer_24 hl (k := 0) rfl (by rw [et11]; rfl) (by decide) rfl (fun ls hl => ?_)
          refine lv_goto (tgt := 2) hx hb dX1_wearer_27 (by decide) ?_
          have rg12 := fb_rng t11
          exact ih1 t11 ⟨show (0 : Int) ≤ t11.toInt by omega, show t11.toInt ≤ (2147483647 : Int) by omega⟩ (by show (2147483647 - t11.toInt).toNat < n1; omega) _ _ _ hP hD hS (lv_sub hl [0, 1, 2] rfl)
        · skip
          have zc8 : r7.toInt = p1.toInt := by rw [fa_eq] at c8; exact c8
          have rg13 := fb_rng r7
          have rg14 := fb_rng p1
          refine lv_iload_n hx hb dX1_wearer_22 rfl (lv_at hl 0 rfl) ?_
          exact ret l2_1 () _ _ _ _ _ _ rfl trivial hP hD hS dX1_wearer_23 (Nat.le_refl _) (Nat.le_refl _)
  exact lp1 _ 0 ⟨by decide, by decide⟩ (Nat.lt_succ_self _) _ _ _ hP hD hS (lv_sub hl [0, 1, 2] rfl)
set_option maxHeartbeats 4000000 in
set_option maxRecDepth 100000 in
theorem sX_X10_coat_1 (l : Launch) (dC : Nat → ClassId) (dI : Nat → Nat → Nat) (cy : Nat → ClassId) (x0 : Nat) (x : Nat → Nat) (p1 : Int32) (p2 : Int32) (v : Nat → Int32) (f : Nat → Nat → Int32) (hIv : XI v)  : ctI l (dC, dI) cy yX10_coat cX10_coat 3 .int 4 124 0 0 Unit [.ref x0, .int p1, .int p2] (XW cy x0 x v f) (fun r u => True) (fun u => XW cy x0 x v f) := by
  refine ctI_of (by decide) (Nat.le_of_ble_eq_true rfl) (fun p e s m below meth c A ls Q hx hb hml hts hown hE hP hD hA hl ret => ?_)
  have hown : s.vm.findClass RX10 = some m.cls := hown
  have hS : va_S A s.heap s.heap [] := va_S.rf
  have hl : lv_has ls 3 [(0, .ref x0), (1, .int p1), (2, .int p2)] := hl
  refine lv_aload_n hx hb dX10_coat_0 rfl (lv_at hl 0 rfl) ?_
  refine va_get (D := (dC, dI)) (ci := 10) (v := .ref (x 26)) (C := RX10) (T := TX10) (N := 10) hx hb hts inB_10 hown hE.1 hP 0 rfl rfl 2 (by decide) (hts _ k_493) (fun _ h9 => h9) rfl dX10_coat_1 ?_
  refine lv_iload_n hx hb dX10_coat_4 rfl (lv_at hl 1 rfl) ?_
  refine cbVi (n := 1) (rest := []) hx hb hml hown hts hE hP hD hS hA (sX_X7_hasCoat_1 l dC dI cy x0 x p1 v f hIv ) k_848 k_315 k_316 k_104 k_317 (by decide +kernel) ⟨Nat.le_of_ble_eq_true rfl, Nat.le_of_ble_eq_true rfl⟩ 27 7 rfl rfl (rfl) hl.1 rfl (Nat.le_of_ble_eq_true rfl) dX10_coat_5 (fun r1 u H locs hw hP hD hS => ?_)
  rcases hw with ⟨g2, g2_0, g2_1, g2_2⟩ | ⟨g2⟩
  · skip
    subst g2
    refine lv_if_eq (tgt := 20) hx hb dX10_coat_8 (by decide) (fun c0 => absurd c0 (by decide)) (fun _ => ?_)
    refine lv_iload_n hx hb dX10_coat_11 rfl (lv_at hl 2 rfl) ?_
    refine lv_if_lt (tgt := 20) hx hb dX10_coat_12 (by decide) (fun c3 => ?_) (fun c3 => ?_)
    · skip
      have zc3 : p2.toInt < 0 := by rw [fa_lt, show (0 : Int32).toInt = 0 from by decide] at c3; exact c3
      refine lv_bipush (v := (-2)) hx hb dX10_coat_20 (by decide) ?_
      exact ret (-2) () _ _ _ _ _ _ rfl trivial hP hD hS dX10_coat_22 (Nat.le_refl _) (Nat.le_refl _)
    · skip
      have zc3 : ¬ (p2.toInt < 0) := by rw [fa_lt, show (0 : Int32).toInt = 0 from by decide] at c3; exact c3
      refine lv_iload_n hx hb dX10_coat_15 rfl (lv_at hl 2 rfl) ?_
      refine lv_iconst (v := 5) hx hb dX10_coat_16 (by decide) ?_
      refine lv_icmp_le (tgt := 23) hx hb dX10_coat_17 (by decide) (fun c4 => ?_) (fun c4 => ?_)
      · skip
        have zc4 : p2.toInt ≤ 5 := by rw [fa_le, show (5 : Int32).toInt = 5 from by decide] at c4; exact c4
        refine lv_iload_n hx hb dX10_coat_23 rfl (lv_at hl 2 rfl) ?_
        refine lv_iconst (v := 5) hx hb dX10_coat_24 (by decide) ?_
        refine lv_icmp_ne (tgt := 39) hx hb dX10_coat_25 (by decide) (fun c5 => ?_) (fun c5 => ?_)
        · skip
          have zc5 : ¬ (p2.toInt = 5) := by rw [fa_eq, show (5 : Int32).toInt = 5 from by decide] at c5; exact c5
          refine lv_aload_n hx hb dX10_coat_39 rfl (lv_at hl 0 rfl) ?_
          refine va_get (D := (dC, dI)) (ci := 10) (v := .ref (x 21)) (C := RX10) (T := TX10) (N := 10) hx hb hts inB_10 hown hE.1 hP 0 rfl rfl 3 (by decide) (hts _ k_494) (fun _ h9 => h9) rfl dX10_coat_40 ?_
          refine lv_iload_n hx hb dX10_coat_43 rfl (lv_at hl 2 rfl) ?_
          refine lv_iload_n hx hb dX10_coat_44 rfl (lv_at hl 1 rfl) ?_
          refine cbVi (n := 2) (rest := []) hx hb hml hown hts hE hP hD hS hA (sX_X1_part_1 l dC dI cy x0 x p2 p1 v f hIv ) k_854 k_828 k_829 k_106 k_830 (by decide +kernel) ⟨Nat.le_of_ble_eq_true rfl, Nat.le_of_ble_eq_true rfl⟩ 22 1 rfl rfl (rfl) hl.1 rfl (Nat.le_of_ble_eq_true rfl) dX10_coat_45 (fun r6 u H locs hw hP hD hS => ?_)
          exact ret r6 () _ _ _ _ _ _ rfl trivial hP hD hS dX10_coat_48 (Nat.le_refl _) (Nat.le_refl _)
        · skip
          have zc5 : p2.toInt = 5 := by rw [fa_eq, show (5 : Int32).toInt = 5 from by decide] at c5; exact c5
          refine lv_aload_n hx hb dX10_coat_28 rfl (lv_at hl 0 rfl) ?_
          refine va_get (D := (dC, dI)) (ci := 10) (v := .ref (x 21)) (C := RX10) (T := TX10) (N := 10) hx hb hts inB_10 hown hE.1 hP 0 rfl rfl 3 (by decide) (hts _ k_494) (fun _ h9 => h9) rfl dX10_coat_29 ?_
          refine lv_iload_n hx hb dX10_coat_32 rfl (lv_at hl 1 rfl) ?_
          refine cbVi (n := 1) (rest := []) hx hb hml hown hts hE hP hD hS hA (sX_X1_wearer_1 l dC dI cy x0 x p1 v f hIv ) k_849 k_850 k_851 k_106 k_852 (by decide +kernel) ⟨Nat.le_of_ble_eq_true rfl, Nat.le_of_ble_eq_true rfl⟩ 22 1 rfl rfl (rfl) hl.1 rfl (Nat.le_of_ble_eq_true rfl) dX10_coat_33 (fun r7 u H locs hw hP hD hS => ?_)
          refine lv_goto (tgt := 48) hx hb dX10_coat_36 (by decide) ?_
          exact ret r7 () _ _ _ _ _ _ rfl trivial hP hD hS dX10_coat_48 (Nat.le_refl _) (Nat.le_refl _)
      · skip
        have zc4 : ¬ (p2.toInt ≤ 5) := by rw [fa_le, show (5 : Int32).toInt = 5 from by decide] at c4; exact c4
        refine lv_bipush (v := (-2)) hx hb dX10_coat_20 (by decide) ?_
        exact ret (-2) () _ _ _ _ _ _ rfl trivial hP hD hS dX10_coat_22 (Nat.le_refl _) (Nat.le_refl _)
  · skip
    subst g2
    refine lv_if_eq (tgt := 20) hx hb dX10_coat_8 (by decide) (fun _ => ?_) (fun c0 => absurd (by decide) c0)
    refine lv_bipush (v := (-2)) hx hb dX10_coat_20 (by decide) ?_
    exact ret (-2) () _ _ _ _ _ _ rfl trivial hP hD hS dX10_coat_22 (Nat.le_refl _) (Nat.le_refl _)
set_option maxHeartbeats 4000000 in
set_option maxRecDepth 100000 in
theorem sX_X10_misfit_1 (l : Launch) (dC : Nat → ClassId) (dI : Nat → Nat → Nat) (cy : Nat → ClassId) (x0 : Nat) (x : Nat → Nat) (p1 : Int32) (p2 : Int32) (v : Nat → Int32) (f : Nat → Nat → Int32) (hIv : XI v)  : ctI l (dC, dI) cy yX10_misfit cX10_misfit 3 .int 4 133 0 0 ((Nat → Int32) × (Nat → Nat → Int32)) [.ref x0, .int p1, .int p2] (XW cy x0 x v f) (fun r u => XI u.1 ∧ u.1 0 = v 0 ∧ u.1 1 = v 1 ∧ u.1 9 = v 9 ∧ u.1 10 = v 10 ∧ u.1 31 = v 31 ∧ u.1 32 = v 32) (fun u => XW cy x0 x u.1 u.2) := by
  refine ctI_of (by decide) (Nat.le_of_ble_eq_true rfl) (fun p e s m below meth c A ls Q hx hb hml hts hown hE hP hD hA hl ret => ?_)
  have hown : s.vm.findClass RX10 = some m.cls := hown
  have hS : va_S A s.heap s.heap [] := va_S.rf
  have hl : lv_has ls 3 [(0, .ref x0), (1, .int p1), (2, .int p2)] := hl
  refine lv_aload_n hx hb dX10_misfit_0 rfl (lv_at hl 0 rfl) ?_
  refine va_get (D := (dC, dI)) (ci := 10) (v := .ref (x 26)) (C := RX10) (T := TX10) (N := 10) hx hb hts inB_10 hown hE.1 hP 0 rfl rfl 2 (by decide) (hts _ k_493) (fun _ h9 => h9) rfl dX10_misfit_1 ?_
  refine lv_iload_n hx hb dX10_misfit_4 rfl (lv_at hl 1 rfl) ?_
  refine cbVi (n := 1) (rest := []) hx hb hml hown hts hE hP hD hS hA (sX_X7_hasMan_1 l dC dI cy x0 x p1 v f hIv ) k_802 k_307 k_308 k_104 k_309 (by decide +kernel) ⟨Nat.le_of_ble_eq_true rfl, Nat.le_of_ble_eq_true rfl⟩ 27 7 rfl rfl (rfl) hl.1 rfl (Nat.le_of_ble_eq_true rfl) dX10_misfit_5 (fun r1 u H locs hw hP hD hS => ?_)
  rcases hw with ⟨g2, g2_0, g2_1, g2_2⟩ | ⟨g2⟩
  · skip
    subst g2
    refine lv_if_eq (tgt := 34) hx hb dX10_misfit_8 (by decide) (fun c0 => absurd c0 (by decide)) (fun _ => ?_)
    refine lv_aload_n hx hb dX10_misfit_11 rfl (lv_at hl 0 rfl) ?_
    refine va_get (D := (dC, dI)) (ci := 10) (v := .ref (x 26)) (C := RX10) (T := TX10) (N := 10) hx hb hts inB_10 hown hE.1 hP 0 rfl rfl 2 (by decide) (hts _ k_493) (fun _ h9 => h9) rfl dX10_misfit_12 ?_
    refine lv_iload_n hx hb dX10_misfit_15 rfl (lv_at hl 2 rfl) ?_
    refine cbVi (n := 1) (rest := []) hx hb hml hown hts hE hP hD hS hA (sX_X7_hasCoat_1 l dC dI cy x0 x p2 v f hIv ) k_848 k_315 k_316 k_104 k_317 (by decide +kernel) ⟨Nat.le_of_ble_eq_true rfl, Nat.le_of_ble_eq_true rfl⟩ 27 7 rfl rfl (rfl) hl.1 rfl (Nat.le_of_ble_eq_true rfl) dX10_misfit_16 (fun r3 u H locs hw hP hD hS => ?_)
    rcases hw with ⟨g4, g4_0, g4_1, g4_2⟩ | ⟨g4⟩
    · skip
      subst g4
      refine lv_if_eq (tgt := 34) hx hb dX10_misfit_19 (by decide) (fun c0 => absurd c0 (by decide)) (fun _ => ?_)
      refine lv_aload_n hx hb dX10_misfit_22 rfl (lv_at hl 0 rfl) ?_
      refine va_get (D := (dC, dI)) (ci := 10) (v := .ref (x 21)) (C := RX10) (T := TX10) (N := 10) hx hb hts inB_10 hown hE.1 hP 0 rfl rfl 3 (by decide) (hts _ k_494) (fun _ h9 => h9) rfl dX10_misfit_23 ?_
      refine lv_iload_n hx hb dX10_misfit_26 rfl (lv_at hl 1 rfl) ?_
      refine lv_iload_n hx hb dX10_misfit_27 rfl (lv_at hl 2 rfl) ?_
      refine cbVi (n := 2) (rest := []) hx hb hml hown hts hE hP hD hS hA (sX_X1_illness_1 l dC dI cy x0 x p1 p2 v f hIv ) k_859 k_823 k_824 k_106 k_825 (by decide +kernel) ⟨Nat.le_of_ble_eq_true rfl, Nat.le_of_ble_eq_true rfl⟩ 22 1 rfl rfl (rfl) hl.1 rfl (Nat.le_of_ble_eq_true rfl) dX10_misfit_28 (fun r5 u H locs hw hP hD hS => ?_)
      obtain ⟨v6, f7⟩ := u
      obtain ⟨hIv6, hk0_v6, hk1_v6, hk9_v6, hk10_v6, hk31_v6, hk32_v6⟩ := hw
      have hP : va_P (dC, dI) vwCl (XW cy x0 x v6 f7) H := hP
      have hD : va_D A (XW cy x0 x v6 f7) := hD
      have hq0_v6 : v6 0 = (v 0) := hk0_v6
      have hq1_v6 : v6 1 = (v 1) := hk1_v6
      have hq9_v6 : v6 9 = (v 9) := hk9_v6
      have hq10_v6 : v6 10 = (v 10) := hk10_v6
      have hq31_v6 : v6 31 = (v 31) := hk31_v6
      have hq32_v6 : v6 32 = (v 32) := hk32_v6
      refine lv_goto (tgt := 35) hx hb dX10_misfit_31 (by decide) ?_
      exact ret r5 (v6, f7) _ _ _ _ _ _ rfl ⟨hIv6, hk0_v6, hk1_v6, hk9_v6, hk10_v6, hk31_v6, hk32_v6⟩ hP hD hS dX10_misfit_35 (Nat.le_refl _) (Nat.le_refl _)
    · skip
      subst g4
      refine lv_if_eq (tgt := 34) hx hb dX10_misfit_19 (by decide) (fun _ => ?_) (fun c0 => absurd (by decide) c0)
      refine lv_iconst (v := (-1)) hx hb dX10_misfit_34 (by decide) ?_
      exact ret (-1) (v, f) _ _ _ _ _ _ rfl ⟨hIv, rfl, rfl, rfl, rfl, rfl, rfl⟩ hP hD hS dX10_misfit_35 (Nat.le_refl _) (Nat.le_refl _)
  · skip
    subst g2
    refine lv_if_eq (tgt := 34) hx hb dX10_misfit_8 (by decide) (fun _ => ?_) (fun c0 => absurd (by decide) c0)
    refine lv_iconst (v := (-1)) hx hb dX10_misfit_34 (by decide) ?_
    exact ret (-1) (v, f) _ _ _ _ _ _ rfl ⟨hIv, rfl, rfl, rfl, rfl, rfl, rfl⟩ hP hD hS dX10_misfit_35 (Nat.le_refl _) (Nat.le_refl _)
set_option maxHeartbeats 4000000 in
set_option maxRecDepth 100000 in
theorem sX_X1_setWears_1 (l : Launch) (dC : Nat → ClassId) (dI : Nat → Nat → Nat) (cy : Nat → ClassId) (x0 : Nat) (x : Nat → Nat) (p1 : Int32) (p2 : Int32) (v : Nat → Int32) (f : Nat → Nat → Int32) (hIv : XI v)  : ctV l (dC, dI) cy yX1_setWears cX1_setWears 3 2 81 0 0 ((Nat → Int32) × (Nat → Nat → Int32)) [.ref (x 21), .int p1, .int p2] (XW cy x0 x v f) (fun u => XI u.1 ∧ u.1 0 = v 0 ∧ u.1 1 = v 1 ∧ u.1 9 = v 9 ∧ u.1 10 = v 10 ∧ u.1 31 = v 31 ∧ u.1 32 = v 32) (fun u => XW cy x0 x u.1 u.2) := by
  refine ctV_of (by decide) (Nat.le_of_ble_eq_true rfl) (fun p e s m below meth c A ls Q hx hb hml hts hown hnm hE hP hD hA hl ret => ?_)
  have hown : s.vm.findClass RX1 = some m.cls := hown
  have hS : va_S A s.heap s.heap [] := va_S.rf
  have hl : lv_has ls 3 [(0, .ref (x 21)), (1, .int p1), (2, .int p2)] := hl
  refine lv_aload_n hx hb dX1_setWears_0 rfl (lv_at hl 0 rfl) ?_
  refine va_get (D := (dC, dI)) (ci := 1) (v := .ref (x 26)) (C := RX1) (T := TX1) (N := 2) hx hb hts inB_1 hown hE.1 hP 22 rfl rfl 0 (by decide) (hts _ k_318) (fun _ h9 => h9) rfl dX1_setWears_1 ?_
  refine lv_iload_n hx hb dX1_setWears_4 rfl (lv_at hl 1 rfl) ?_
  refine cbVi (n := 1) (rest := []) hx hb hml hown hts hE hP hD hS hA (sX_X7_hasMan_1 l dC dI cy x0 x p1 v f hIv ) k_808 k_307 k_308 k_104 k_309 (by decide +kernel) ⟨Nat.le_of_ble_eq_true rfl, Nat.le_of_ble_eq_true rfl⟩ 27 7 rfl rfl (rfl) hl.1 rfl (Nat.le_of_ble_eq_true rfl) dX1_setWears_5 (fun r1 u H locs hw hP hD hS => ?_)
  rcases hw with ⟨g2, g2_0, g2_1, g2_2⟩ | ⟨g2⟩
  · skip
    subst g2
    refine lv_if_eq (tgt := 21) hx hb dX1_setWears_8 (by decide) (fun c0 => absurd c0 (by decide)) (fun _ => ?_)
    refine lv_aload_n hx hb dX1_setWears_11 rfl (lv_at hl 0 rfl) ?_
    refine va_get (D := (dC, dI)) (ci := 1) (v := .ref (x 22)) (C := RX1) (T := TX1) (N := 2) hx hb hts inB_1 hown hE.1 hP 22 rfl rfl 1 (by decide) (hts _ k_319) (fun _ h9 => h9) rfl dX1_setWears_12 ?_
    refine lv_bipush (v := 6) hx hb dX1_setWears_15 (by decide) ?_
    refine lv_iload_n hx hb dX1_setWears_17 rfl (lv_at hl 1 rfl) ?_
    refine lv_iadd hx hb dX1_setWears_18 ?_
    refine lv_topi (fun t3 et3 => ?_)
    have rg4 := fb_rng p1
    have zt3 : t3.toInt = 6 + p1.toInt := by rw [et3]; exact add_i (by decide) rfl (by omega) (by omega)
    refine lv_iload_n hx hb dX1_setWears_19 rfl (lv_at hl 2 rfl) ?_
    refine stI hx hb hE hP hD hS 23 rfl (vp_in_iff.mpr ⟨by omega, by omega⟩) rfl dX1_setWears_20 (fun H locs hP hD hS => ?_)
    obtain ⟨f5, hP, hD⟩ : ∃ fz9, va_P (dC, dI) vwCl (XW cy x0 x v fz9) H ∧ va_D A (XW cy x0 x v fz9) := ⟨upd2 f 15 (upd (f 15) t3.toNatClampNeg p2), hP, hD⟩
    exact ret (v, f5) _ _ _ _ _ _ ⟨hIv, rfl, rfl, rfl, rfl, rfl, rfl⟩ hP hD hS dX1_setWears_21 (Nat.le_refl _) (Nat.le_refl _)
  · skip
    subst g2
    refine lv_if_eq (tgt := 21) hx hb dX1_setWears_8 (by decide) (fun _ => ?_) (fun c0 => absurd (by decide) c0)
    exact ret (v, f) _ _ _ _ _ _ ⟨hIv, rfl, rfl, rfl, rfl, rfl, rfl⟩ hP hD hS dX1_setWears_21 (Nat.le_refl _) (Nat.le_refl _)
set_option maxHeartbeats 4000000 in
set_option maxRecDepth 100000 in
theorem sX_X1_setPart_1 (l : Launch) (dC : Nat → ClassId) (dI : Nat → Nat → Nat) (cy : Nat → ClassId) (x0 : Nat) (x : Nat → Nat) (p1 : Int32) (p2 : Int32) (p3 : Int32) (v : Nat → Int32) (f : Nat → Nat → Int32) (hIv : XI v)  : ctV l (dC, dI) cy yX1_setPart cX1_setPart 4 2 81 0 0 ((Nat → Int32) × (Nat → Nat → Int32)) [.ref (x 21), .int p1, .int p2, .int p3] (XW cy x0 x v f) (fun u => XI u.1 ∧ u.1 0 = v 0 ∧ u.1 1 = v 1 ∧ u.1 9 = v 9 ∧ u.1 10 = v 10 ∧ u.1 31 = v 31 ∧ u.1 32 = v 32) (fun u => XW cy x0 x u.1 u.2) := by
  refine ctV_of (by decide) (Nat.le_of_ble_eq_true rfl) (fun p e s m below meth c A ls Q hx hb hml hts hown hnm hE hP hD hA hl ret => ?_)
  have hown : s.vm.findClass RX1 = some m.cls := hown
  have hS : va_S A s.heap s.heap [] := va_S.rf
  have hl : lv_has ls 4 [(0, .ref (x 21)), (1, .int p1), (2, .int p2), (3, .int p3)] := hl
  refine lv_aload_n hx hb dX1_setPart_0 rfl (lv_at hl 0 rfl) ?_
  refine va_get (D := (dC, dI)) (ci := 1) (v := .ref (x 26)) (C := RX1) (T := TX1) (N := 2) hx hb hts inB_1 hown hE.1 hP 22 rfl rfl 0 (by decide) (hts _ k_318) (fun _ h9 => h9) rfl dX1_setPart_1 ?_
  refine lv_iload_n hx hb dX1_setPart_4 rfl (lv_at hl 2 rfl) ?_
  refine cbVi (n := 1) (rest := []) hx hb hml hown hts hE hP hD hS hA (sX_X7_hasCoat_1 l dC dI cy x0 x p2 v f hIv ) k_821 k_315 k_316 k_104 k_317 (by decide +kernel) ⟨Nat.le_of_ble_eq_true rfl, Nat.le_of_ble_eq_true rfl⟩ 27 7 rfl rfl (rfl) hl.1 rfl (Nat.le_of_ble_eq_true rfl) dX1_setPart_5 (fun r1 u H locs hw hP hD hS => ?_)
  rcases hw with ⟨g2, g2_0, g2_1, g2_2⟩ | ⟨g2⟩
  · skip
    subst g2
    refine lv_if_eq (tgt := 35) hx hb dX1_setPart_8 (by decide) (fun c0 => absurd c0 (by decide)) (fun _ => ?_)
    refine lv_iload_n hx hb dX1_setPart_11 rfl (lv_at hl 1 rfl) ?_
    refine lv_if_lt (tgt := 35) hx hb dX1_setPart_12 (by decide) (fun c3 => ?_) (fun c3 => ?_)
    · skip
      have zc3 : p1.toInt < 0 := by rw [fa_lt, show (0 : Int32).toInt = 0 from by decide] at c3; exact c3
      exact ret (v, f) _ _ _ _ _ _ ⟨hIv, rfl, rfl, rfl, rfl, rfl, rfl⟩ hP hD hS dX1_setPart_35 (Nat.le_refl _) (Nat.le_refl _)
    · skip
      have zc3 : ¬ (p1.toInt < 0) := by rw [fa_lt, show (0 : Int32).toInt = 0 from by decide] at c3; exact c3
      refine lv_iload_n hx hb dX1_setPart_15 rfl (lv_at hl 1 rfl) ?_
      refine lv_iconst (v := 5) hx hb dX1_setPart_16 (by decide) ?_
      refine lv_icmp_ge (tgt := 35) hx hb dX1_setPart_17 (by decide) (fun c4 => ?_) (fun c4 => ?_)
      · skip
        have zc4 : 5 ≤ p1.toInt := by rw [fa_le, show (5 : Int32).toInt = 5 from by decide] at c4; exact c4
        exact ret (v, f) _ _ _ _ _ _ ⟨hIv, rfl, rfl, rfl, rfl, rfl, rfl⟩ hP hD hS dX1_setPart_35 (Nat.le_refl _) (Nat.le_refl _)
      · skip
        have zc4 : ¬ (5 ≤ p1.toInt) := by rw [fa_le, show (5 : Int32).toInt = 5 from by decide] at c4; exact c4
        refine lv_aload_n hx hb dX1_setPart_20 rfl (lv_at hl 0 rfl) ?_
        refine va_get (D := (dC, dI)) (ci := 1) (v := .ref (x 22)) (C := RX1) (T := TX1) (N := 2) hx hb hts inB_1 hown hE.1 hP 22 rfl rfl 1 (by decide) (hts _ k_319) (fun _ h9 => h9) rfl dX1_setPart_21 ?_
        refine lv_bipush (v := 12) hx hb dX1_setPart_24 (by decide) ?_
        refine lv_iload_n hx hb dX1_setPart_26 rfl (lv_at hl 1 rfl) ?_
        refine lv_bipush (v := 6) hx hb dX1_setPart_27 (by decide) ?_
        refine lv_imul hx hb dX1_setPart_29 ?_
        refine lv_topi (fun t5 et5 => ?_)
        have rg6 := fb_rng p1
        have zt5 : t5.toInt = p1.toInt * 6 := by rw [et5]; exact mul_i rfl (by decide) (by omega) (by omega)
        refine lv_iadd hx hb dX1_setPart_30 ?_
        refine lv_topi (fun t7 et7 => ?_)
        have rg8 := fb_rng t5
        have zt7 : t7.toInt = 12 + t5.toInt := by rw [et7]; exact add_i (by decide) rfl (by omega) (by omega)
        refine lv_iload_n hx hb dX1_setPart_31 rfl (lv_at hl 2 rfl) ?_
        refine lv_iadd hx hb dX1_setPart_32 ?_
        refine lv_topi (fun t9 et9 => ?_)
        have rg10 := fb_rng t7
        have rg11 := fb_rng p2
        have zt9 : t9.toInt = t7.toInt + p2.toInt := by rw [et9]; exact add_i rfl rfl (by omega) (by omega)
        refine lv_iload_n hx hb dX1_setPart_33 rfl (lv_at hl 3 rfl) ?_
        refine stI hx hb hE hP hD hS 23 rfl (vp_in_iff.mpr ⟨by omega, by omega⟩) rfl dX1_setPart_34 (fun H locs hP hD hS => ?_)
        obtain ⟨f12, hP, hD⟩ : ∃ fz9, va_P (dC, dI) vwCl (XW cy x0 x v fz9) H ∧ va_D A (XW cy x0 x v fz9) := ⟨upd2 f 15 (upd (f 15) t9.toNatClampNeg p3), hP, hD⟩
        exact ret (v, f12) _ _ _ _ _ _ ⟨hIv, rfl, rfl, rfl, rfl, rfl, rfl⟩ hP hD hS dX1_setPart_35 (Nat.le_refl _) (Nat.le_refl _)
  · skip
    subst g2
    refine lv_if_eq (tgt := 35) hx hb dX1_setPart_8 (by decide) (fun _ => ?_) (fun c0 => absurd (by decide) c0)
    exact ret (v, f) _ _ _ _ _ _ ⟨hIv, rfl, rfl, rfl, rfl, rfl, rfl⟩ hP hD hS dX1_setPart_35 (Nat.le_refl _) (Nat.le_refl _)
set_option maxHeartbeats 4000000 in
set_option maxRecDepth 100000 in
theorem sX_X1_weather_1 (l : Launch) (dC : Nat → ClassId) (dI : Nat → Nat → Nat) (cy : Nat → ClassId) (x0 : Nat) (x : Nat → Nat) (p1 : Int32) (p2 : Int32) (v : Nat → Int32) (f : Nat → Nat → Int32) (hIv : XI v)  : ctV l (dC, dI) cy yX1_weather cX1_weather 3 3 104 0 0 ((Nat → Int32) × (Nat → Nat → Int32)) [.ref (x 21), .int p1, .int p2] (XW cy x0 x v f) (fun u => XI u.1 ∧ u.1 0 = v 0 ∧ u.1 1 = v 1 ∧ u.1 9 = v 9 ∧ u.1 10 = v 10 ∧ u.1 31 = v 31 ∧ u.1 32 = v 32) (fun u => XW cy x0 x u.1 u.2) := by
  refine ctV_of (by decide) (Nat.le_of_ble_eq_true rfl) (fun p e s m below meth c A ls Q hx hb hml hts hown hnm hE hP hD hA hl ret => ?_)
  have hown : s.vm.findClass RX1 = some m.cls := hown
  have hS : va_S A s.heap s.heap [] := va_S.rf
  have hl : lv_has ls 3 [(0, .ref (x 21)), (1, .int p1), (2, .int p2)] := hl
  refine lv_aload_n hx hb dX1_weather_0 rfl (lv_at hl 0 rfl) ?_
  refine lv_iconst (v := 3) hx hb dX1_weather_1 (by decide) ?_
  refine lv_iload_n hx hb dX1_weather_2 rfl (lv_at hl 1 rfl) ?_
  refine lv_bipush (v := 99) hx hb dX1_weather_3 (by decide) ?_
  refine lv_aload_n hx hb dX1_weather_5 rfl (lv_at hl 0 rfl) ?_
  refine lv_iconst (v := 3) hx hb dX1_weather_6 (by decide) ?_
  refine lv_iload_n hx hb dX1_weather_7 rfl (lv_at hl 1 rfl) ?_
  refine cbVi (n := 2) (rest := [.int 99, .int p1, .int 3, .ref (x 21)]) hx hb hml hown hts hE hP hD hS hA (sX_X1_part_1 l dC dI cy x0 x 3 p1 v f hIv ) k_827 k_828 k_829 k_106 k_830 (by decide +kernel) ⟨Nat.le_of_ble_eq_true rfl, Nat.le_of_ble_eq_true rfl⟩ 22 1 rfl rfl (rfl) hl.1 rfl (Nat.le_of_ble_eq_true rfl) dX1_weather_8 (fun r1 u H locs hw hP hD hS => ?_)
  refine lv_iconst (v := 1) hx hb dX1_weather_11 (by decide) ?_
  refine lv_iadd hx hb dX1_weather_12 ?_
  refine lv_topi (fun t2 et2 => ?_)
  refine va_mmin hx hb (by rw [hml]; exact hl.1.symm) hown (hts _ k_869) (hts _ k_643) (hts _ k_119) (hts _ k_644) (Nat.le_of_ble_eq_true rfl) (Nat.le_of_ble_eq_true rfl) (Nat.le_of_ble_eq_true rfl) (Nat.le_of_ble_eq_true rfl) dX1_weather_13 ?_
  refine lv_topi (fun t3 et3 => ?_)
  have zt3 : t3.toInt = min (99) (t2.toInt) := by rw [et3]; exact mmin_i (by decide) rfl
  refine cbVv (n := 3) (rest := []) hx hb hml hown hts hE hP hD hS hA (sX_X1_setPart_1 l dC dI cy x0 x 3 p1 t3 v f hIv ) k_874 k_875 k_876 k_106 k_877 (by decide +kernel) ⟨Nat.le_of_ble_eq_true rfl, Nat.le_of_ble_eq_true rfl⟩ 22 1 rfl rfl (rfl) hl.1 rfl (Nat.le_of_ble_eq_true rfl) dX1_weather_16 (fun u H locs hw hP hD hS => ?_)
  obtain ⟨v4, f5⟩ := u
  obtain ⟨hIv4, hk0_v4, hk1_v4, hk9_v4, hk10_v4, hk31_v4, hk32_v4⟩ := hw
  have hP : va_P (dC, dI) vwCl (XW cy x0 x v4 f5) H := hP
  have hD : va_D A (XW cy x0 x v4 f5) := hD
  have hq0_v4 : v4 0 = (v 0) := hk0_v4
  have hq1_v4 : v4 1 = (v 1) := hk1_v4
  have hq9_v4 : v4 9 = (v 9) := hk9_v4
  have hq10_v4 : v4 10 = (v 10) := hk10_v4
  have hq31_v4 : v4 31 = (v 31) := hk31_v4
  have hq32_v4 : v4 32 = (v 32) := hk32_v4
  refine lv_aload_n hx hb dX1_weather_19 rfl (lv_at hl 0 rfl) ?_
  refine lv_iconst (v := 1) hx hb dX1_weather_20 (by decide) ?_
  refine lv_iload_n hx hb dX1_weather_21 rfl (lv_at hl 1 rfl) ?_
  refine lv_iconst (v := 0) hx hb dX1_weather_22 (by decide) ?_
  refine lv_aload_n hx hb dX1_weather_23 rfl (lv_at hl 0 rfl) ?_
  refine lv_iconst (v := 1) hx hb dX1_weather_24 (by decide) ?_
  refine lv_iload_n hx hb dX1_weather_25 rfl (lv_at hl 1 rfl) ?_
  refine cbVi (n := 2) (rest := [.int 0, .int p1, .int 1, .ref (x 21)]) hx hb hml hown hts hE hP hD hS hA (sX_X1_part_1 l dC dI cy x0 x 1 p1 v4 f5 hIv4 ) k_827 k_828 k_829 k_106 k_830 (by decide +kernel) ⟨Nat.le_of_ble_eq_true rfl, Nat.le_of_ble_eq_true rfl⟩ 22 1 rfl rfl (rfl) hl.1 rfl (Nat.le_of_ble_eq_true rfl) dX1_weather_26 (fun r6 u H locs hw hP hD hS => ?_)
  refine lv_iload_n hx hb dX1_weather_29 rfl (lv_at hl 2 rfl) ?_
  refine lv_isub hx hb dX1_weather_30 ?_
  refine lv_topi (fun t7 et7 => ?_)
  refine va_mmax hx hb (by rw [hml]; exact hl.1.symm) hown (hts _ k_878) (hts _ k_640) (hts _ k_119) (hts _ k_641) (Nat.le_of_ble_eq_true rfl) (Nat.le_of_ble_eq_true rfl) (Nat.le_of_ble_eq_true rfl) (Nat.le_of_ble_eq_true rfl) dX1_weather_31 ?_
  refine lv_topi (fun t8 et8 => ?_)
  have zt8 : t8.toInt = max (0) (t7.toInt) := by rw [et8]; exact mmax_i (by decide) rfl
  refine cbVv (n := 3) (rest := []) hx hb hml hown hts hE hP hD hS hA (sX_X1_setPart_1 l dC dI cy x0 x 1 p1 t8 v4 f5 hIv4 ) k_874 k_875 k_876 k_106 k_877 (by decide +kernel) ⟨Nat.le_of_ble_eq_true rfl, Nat.le_of_ble_eq_true rfl⟩ 22 1 rfl rfl (rfl) hl.1 rfl (Nat.le_of_ble_eq_true rfl) dX1_weather_34 (fun u H locs hw hP hD hS => ?_)
  obtain ⟨v9, f10⟩ := u
  obtain ⟨hIv9, hk0_v9, hk1_v9, hk9_v9, hk10_v9, hk31_v9, hk32_v9⟩ := hw
  have hP : va_P (dC, dI) vwCl (XW cy x0 x v9 f10) H := hP
  have hD : va_D A (XW cy x0 x v9 f10) := hD
  have hq0_v9 : v9 0 = (v 0) := hk0_v9.trans hq0_v4
  have hq1_v9 : v9 1 = (v 1) := hk1_v9.trans hq1_v4
  have hq9_v9 : v9 9 = (v 9) := hk9_v9.trans hq9_v4
  have hq10_v9 : v9 10 = (v 10) := hk10_v9.trans hq10_v4
  have hq31_v9 : v9 31 = (v 31) := hk31_v9.trans hq31_v4
  have hq32_v9 : v9 32 = (v 32) := hk32_v9.trans hq32_v4
  refine lv_aload_n hx hb dX1_weather_37 rfl (lv_at hl 0 rfl) ?_
  refine lv_iconst (v := 0) hx hb dX1_weather_38 (by decide) ?_
  refine lv_iload_n hx hb dX1_weather_39 rfl (lv_at hl 1 rfl) ?_
  refine lv_iconst (v := 0) hx hb dX1_weather_40 (by decide) ?_
  refine lv_aload_n hx hb dX1_weather_41 rfl (lv_at hl 0 rfl) ?_
  refine lv_iconst (v := 0) hx hb dX1_weather_42 (by decide) ?_
  refine lv_iload_n hx hb dX1_weather_43 rfl (lv_at hl 1 rfl) ?_
  refine cbVi (n := 2) (rest := [.int 0, .int p1, .int 0, .ref (x 21)]) hx hb hml hown hts hE hP hD hS hA (sX_X1_part_1 l dC dI cy x0 x 0 p1 v9 f10 hIv9 ) k_827 k_828 k_829 k_106 k_830 (by decide +kernel) ⟨Nat.le_of_ble_eq_true rfl, Nat.le_of_ble_eq_true rfl⟩ 22 1 rfl rfl (rfl) hl.1 rfl (Nat.le_of_ble_eq_true rfl) dX1_weather_44 (fun r11 u H locs hw hP hD hS => ?_)
  refine lv_iload_n hx hb dX1_weather_47 rfl (lv_at hl 2 rfl) ?_
  refine lv_isub hx hb dX1_weather_48 ?_
  refine lv_topi (fun t12 et12 => ?_)
  refine va_mmax hx hb (by rw [hml]; exact hl.1.symm) hown (hts _ k_878) (hts _ k_640) (hts _ k_119) (hts _ k_641) (Nat.le_of_ble_eq_true rfl) (Nat.le_of_ble_eq_true rfl) (Nat.le_of_ble_eq_true rfl) (Nat.le_of_ble_eq_true rfl) dX1_weather_49 ?_
  refine lv_topi (fun t13 et13 => ?_)
  have zt13 : t13.toInt = max (0) (t12.toInt) := by rw [et13]; exact mmax_i (by decide) rfl
  refine cbVv (n := 3) (rest := []) hx hb hml hown hts hE hP hD hS hA (sX_X1_setPart_1 l dC dI cy x0 x 0 p1 t13 v9 f10 hIv9 ) k_874 k_875 k_876 k_106 k_877 (by decide +kernel) ⟨Nat.le_of_ble_eq_true rfl, Nat.le_of_ble_eq_true rfl⟩ 22 1 rfl rfl (rfl) hl.1 rfl (Nat.le_of_ble_eq_true rfl) dX1_weather_52 (fun u H locs hw hP hD hS => ?_)
  obtain ⟨v14, f15⟩ := u
  obtain ⟨hIv14, hk0_v14, hk1_v14, hk9_v14, hk10_v14, hk31_v14, hk32_v14⟩ := hw
  have hP : va_P (dC, dI) vwCl (XW cy x0 x v14 f15) H := hP
  have hD : va_D A (XW cy x0 x v14 f15) := hD
  have hq0_v14 : v14 0 = (v 0) := hk0_v14.trans hq0_v9
  have hq1_v14 : v14 1 = (v 1) := hk1_v14.trans hq1_v9
  have hq9_v14 : v14 9 = (v 9) := hk9_v14.trans hq9_v9
  have hq10_v14 : v14 10 = (v 10) := hk10_v14.trans hq10_v9
  have hq31_v14 : v14 31 = (v 31) := hk31_v14.trans hq31_v9
  have hq32_v14 : v14 32 = (v 32) := hk32_v14.trans hq32_v9
  exact ret (v14, f15) _ _ _ _ _ _ ⟨hIv14, (hk0_v14.trans (hk0_v9.trans hk0_v4)), (hk1_v14.trans (hk1_v9.trans hk1_v4)), (hk9_v14.trans (hk9_v9.trans hk9_v4)), (hk10_v14.trans (hk10_v9.trans hk10_v4)), (hk31_v14.trans (hk31_v9.trans hk31_v4)), (hk32_v14.trans (hk32_v9.trans hk32_v4))⟩ hP hD hS dX1_weather_55 (Nat.le_refl _) (Nat.le_refl _)
set_option maxHeartbeats 4000000 in
set_option maxRecDepth 100000 in
theorem sX_X1_passDay_1 (l : Launch) (dC : Nat → ClassId) (dI : Nat → Nat → Nat) (cy : Nat → ClassId) (x0 : Nat) (x : Nat → Nat) (p1 : Int32) (v : Nat → Int32) (f : Nat → Nat → Int32) (hIv : XI v)  : ctI l (dC, dI) cy yX1_passDay cX1_passDay 5 .int 5 155 0 0 ((Nat → Int32) × (Nat → Nat → Int32)) [.ref (x 21), .int p1] (XW cy x0 x v f) (fun r u => XI u.1 ∧ u.1 0 = v 0 ∧ u.1 1 = v 1 ∧ u.1 9 = v 9 ∧ u.1 10 = v 10 ∧ u.1 31 = v 31 ∧ u.1 32 = v 32) (fun u => XW cy x0 x u.1 u.2) := by
  refine ctI_of (by decide) (Nat.le_of_ble_eq_true rfl) (fun p e s m below meth c A ls Q hx hb hml hts hown hE hP hD hA hl ret => ?_)
  have hown : s.vm.findClass RX1 = some m.cls := hown
  have hS : va_S A s.heap s.heap [] := va_S.rf
  have hl : lv_has ls 5 [(0, .ref (x 21)), (1, .int p1)] := hl
  refine lv_iconst (v := 0) hx hb dX1_passDay_0 (by decide) ?_
  refine lv_istore_n (lv' := [(2, .int 0), (0, .ref (x 21)), (1, .int p1)]) hx hb dX1_passDay_1 rfl hl (by decide) rfl (fun ls hl => ?_)
  have lp1 : ∀ (n1 : Nat) (l2_1 : Int32) (v1 : Nat → Int32) (f1 : Nat → Nat → Int32), XI v1 → v1 0 = (v 0) → v1 1 = (v 1) → v1 9 = (v 9) → v1 10 = (v 10) → v1 31 = (v 31) → v1 32 = (v 32) → ((0 : Int) ≤ l2_1.toInt ∧ l2_1.toInt ≤ 2147483647) → (2147483647 - l2_1.toInt).toNat < n1 → ∀ (H : Heap) (locs : List Loc) (ls : Array Slot), va_P (dC, dI) vwCl (XW cy x0 x v1 f1) H → va_D A (XW cy x0 x v1 f1) → va_S A s.heap H locs → lv_has ls 5 [(2, .int l2_1), (0, .ref (x 21)), (1, .int p1)] → W p l e { frames := 5, cells := 0, slots := 0, locals := 155 } s m ([.ref (x 21), .int p1] : List Value).toArray below meth c H locs 0 0 Q (F0 m 2 ls []) := by
    intro n1
    induction n1 with
    | zero => intro l2_1 v1 f1 hIv1 hq0_v1 hq1_v1 hq9_v1 hq10_v1 hq31_v1 hq32_v1 hr2_1 hm; exact absurd hm (Nat.not_lt_zero _)
    | succ n1 ih1 =>
      intro l2_1 v1 f1 hIv1 hq0_v1 hq1_v1 hq9_v1 hq10_v1 hq31_v1 hq32_v1 hr2_1 hm1 H locs ls hP hD hS hl
      refine lv_iload_n hx hb dX1_passDay_2 rfl (lv_at hl 0 rfl) ?_
      refine lv_aload_n hx hb dX1_passDay_3 rfl (lv_at hl 1 rfl) ?_
      refine va_get (D := (dC, dI)) (ci := 1) (v := .ref (x 26)) (C := RX1) (T := TX1) (N := 2) hx hb hts inB_1 hown hE.1 hP 22 rfl rfl 0 (by decide) (hts _ k_318) (fun _ h9 => h9) rfl dX1_passDay_4 ?_
      refine va_getN (D := (dC, dI)) (ci := 7) (v := .int (v1 31)) (C := RX7) (T := TX7) (N := 10) hx hb hts inB_7 hown hE.1 hP 27 rfl rfl 3 (by decide) (va_Nw.use rfl (hE.2 _ k_219)) (fun _ h9 => h9) rfl dX1_passDay_7 ?_
      refine tI (y := (v 31)) hq31_v1 ?_
      have b31_v : 0 ≤ (v 31).toInt ∧ (v 31).toInt ≤ 6 := XI.b hIv 31 (by decide)
      refine lv_icmp_ge (tgt := 46) hx hb dX1_passDay_10 (by decide) (fun c2 => ?_) (fun c2 => ?_)
      · skip
        have zc2 : (v 31).toInt ≤ l2_1.toInt := by rw [fa_le] at c2; exact c2
        have rg3 := fb_rng l2_1
        have rg4 := fb_rng (v 31)
        refine lv_aload_n hx hb dX1_passDay_46 rfl (lv_at hl 1 rfl) ?_
        refine va_get (D := (dC, dI)) (ci := 1) (v := .ref (x 22)) (C := RX1) (T := TX1) (N := 2) hx hb hts inB_1 hown hE.1 hP 22 rfl rfl 1 (by decide) (hts _ k_319) (fun _ h9 => h9) rfl dX1_passDay_47 ?_
        refine lv_bipush (v := 43) hx hb dX1_passDay_50 (by decide) ?_
        refine lv_aload_n hx hb dX1_passDay_52 rfl (lv_at hl 1 rfl) ?_
        refine va_get (D := (dC, dI)) (ci := 1) (v := .ref (x 22)) (C := RX1) (T := TX1) (N := 2) hx hb hts inB_1 hown hE.1 hP 22 rfl rfl 1 (by decide) (hts _ k_319) (fun _ h9 => h9) rfl dX1_passDay_53 ?_
        refine lv_bipush (v := 43) hx hb dX1_passDay_56 (by decide) ?_
        refine ldI hx hb hE hP 23 rfl (vp_in_nI (n := 43) (by decide) (by decide)) rfl rfl dX1_passDay_58 ?_
        refine lv_topi (fun t5 et5 => ?_)
        refine lv_sipush (v := 137) hx hb dX1_passDay_59 (by decide) ?_
        refine lv_imul hx hb dX1_passDay_62 ?_
        refine lv_topi (fun t6 et6 => ?_)
        refine lv_bipush (v := 71) hx hb dX1_passDay_63 (by decide) ?_
        refine lv_iadd hx hb dX1_passDay_65 ?_
        refine lv_topi (fun t7 et7 => ?_)
        refine lv_sipush (v := 1000) hx hb dX1_passDay_66 (by decide) ?_
        refine lv_irem hx hb dX1_passDay_69 (by decide) ?_
        refine lv_topi (fun t8 et8 => ?_)
        refine stI hx hb hE hP hD hS 23 rfl (vp_in_nI (n := 43) (by decide) (by decide)) rfl dX1_passDay_70 (fun H locs hP hD hS => ?_)
        obtain ⟨f9, hP, hD⟩ : ∃ fz9, va_P (dC, dI) vwCl (XW cy x0 x v1 fz9) H ∧ va_D A (XW cy x0 x v1 fz9) := ⟨upd2 f1 15 (upd (f1 15) (43 : Int32).toNatClampNeg t8), hP, hD⟩
        refine lv_aload_n hx hb dX1_passDay_71 rfl (lv_at hl 1 rfl) ?_
        refine va_get (D := (dC, dI)) (ci := 1) (v := .ref (x 22)) (C := RX1) (T := TX1) (N := 2) hx hb hts inB_1 hown hE.1 hP 22 rfl rfl 1 (by decide) (hts _ k_319) (fun _ h9 => h9) rfl dX1_passDay_72 ?_
        refine lv_bipush (v := 43) hx hb dX1_passDay_75 (by decide) ?_
        refine ldI hx hb hE hP 23 rfl (vp_in_nI (n := 43) (by decide) (by decide)) rfl rfl dX1_passDay_77 ?_
        refine lv_topi (fun t10 et10 => ?_)
        refine lv_bipush (v := 100) hx hb dX1_passDay_78 (by decide) ?_
        refine lv_irem hx hb dX1_passDay_80 (by decide) ?_
        refine lv_topi (fun t11 et11 => ?_)
        refine lv_iload_n hx hb dX1_passDay_81 rfl (lv_at hl 2 rfl) ?_
        refine lv_icmp_ge (tgt := 89) hx hb dX1_passDay_82 (by decide) (fun c12 => ?_) (fun c12 => ?_)
        · skip
          have zc12 : p1.toInt ≤ t11.toInt := by rw [fa_le] at c12; exact c12
          have rg13 := fb_rng t11
          have rg14 := fb_rng p1
          refine lv_iconst (v := 0) hx hb dX1_passDay_89 (by decide) ?_
          refine lv_istore_n (lv' := [(2, .int 0), (0, .ref (x 21)), (1, .int p1)]) hx hb dX1_passDay_90 rfl hl (by decide) rfl (fun ls hl => ?_)
          refine lv_iconst (v := 0) hx hb dX1_passDay_91 (by decide) ?_
          refine lv_istore_n (lv' := [(3, .int 0), (2, .int 0), (0, .ref (x 21)), (1, .int p1)]) hx hb dX1_passDay_92 rfl hl (by decide) rfl (fun ls hl => ?_)
          have lp15 : ∀ (n15 : Nat) (l3_15 : Int32) (v15 : Nat → Int32) (f15 : Nat → Nat → Int32), XI v15 → v15 0 = (v 0) → v15 1 = (v 1) → v15 9 = (v 9) → v15 10 = (v 10) → v15 31 = (v 31) → v15 32 = (v 32) → ((0 : Int) ≤ l3_15.toInt ∧ l3_15.toInt ≤ 2147483647) → (2147483647 - l3_15.toInt).toNat < n15 → ∀ (H : Heap) (locs : List Loc) (ls : Array Slot), va_P (dC, dI) vwCl (XW cy x0 x v15 f15) H → va_D A (XW cy x0 x v15 f15) → va_S A s.heap H locs → lv_has ls 5 [(3, .int l3_15), (2, .int 0), (0, .ref (x 21)), (1, .int p1)] → W p l e { frames := 5, cells := 0, slots := 0, locals := 155 } s m ([.ref (x 21), .int p1] : List Value).toArray below meth c H locs 0 0 Q (F0 m 93 ls []) := by
            intro n15
            induction n15 with
            | zero => intro l3_15 v15 f15 hIv15 hq0_v15 hq1_v15 hq9_v15 hq10_v15 hq31_v15 hq32_v15 hr3_15 hm; exact absurd hm (Nat.not_lt_zero _)
            | succ n15 ih15 =>
              intro l3_15 v15 f15 hIv15 hq0_v15 hq1_v15 hq9_v15 hq10_v15 hq31_v15 hq32_v15 hr3_15 hm15 H locs ls hP hD hS hl
              refine lv_iload_n hx hb dX1_passDay_93 rfl (lv_at hl 0 rfl) ?_
              refine lv_aload_n hx hb dX1_passDay_94 rfl (lv_at hl 2 rfl) ?_
              refine va_get (D := (dC, dI)) (ci := 1) (v := .ref (x 26)) (C := RX1) (T := TX1) (N := 2) hx hb hts inB_1 hown hE.1 hP 22 rfl rfl 0 (by decide) (hts _ k_318) (fun _ h9 => h9) rfl dX1_passDay_95 ?_
              refine va_getN (D := (dC, dI)) (ci := 7) (v := .int (v15 31)) (C := RX7) (T := TX7) (N := 10) hx hb hts inB_7 hown hE.1 hP 27 rfl rfl 3 (by decide) (va_Nw.use rfl (hE.2 _ k_219)) (fun _ h9 => h9) rfl dX1_passDay_98 ?_
              refine tI (y := (v 31)) hq31_v15 ?_
              have b31_v : 0 ≤ (v 31).toInt ∧ (v 31).toInt ≤ 6 := XI.b hIv 31 (by decide)
              refine lv_icmp_ge (tgt := 120) hx hb dX1_passDay_101 (by decide) (fun c16 => ?_) (fun c16 => ?_)
              · skip
                have zc16 : (v 31).toInt ≤ l3_15.toInt := by rw [fa_le] at c16; exact c16
                have rg17 := fb_rng l3_15
                refine lv_aload_n hx hb dX1_passDay_120 rfl (lv_at hl 2 rfl) ?_
                refine va_get (D := (dC, dI)) (ci := 1) (v := .ref (x 22)) (C := RX1) (T := TX1) (N := 2) hx hb hts inB_1 hown hE.1 hP 22 rfl rfl 1 (by decide) (hts _ k_319) (fun _ h9 => h9) rfl dX1_passDay_121 ?_
                refine lv_bipush (v := 42) hx hb dX1_passDay_124 (by decide) ?_
                refine lv_dup2_11 hx hb dX1_passDay_126 rfl rfl ?_
                refine ldI hx hb hE hP 23 rfl (vp_in_nI (n := 42) (by decide) (by decide)) rfl rfl dX1_passDay_127 ?_
                refine lv_topi (fun t18 et18 => ?_)
                refine lv_iconst (v := 1) hx hb dX1_passDay_128 (by decide) ?_
                refine lv_iadd hx hb dX1_passDay_129 ?_
                refine lv_topi (fun t19 et19 => ?_)
                refine stI hx hb hE hP hD hS 23 rfl (vp_in_nI (n := 42) (by decide) (by decide)) rfl dX1_passDay_130 (fun H locs hP hD hS => ?_)
                obtain ⟨f20, hP, hD⟩ : ∃ fz9, va_P (dC, dI) vwCl (XW cy x0 x v15 fz9) H ∧ va_D A (XW cy x0 x v15 fz9) := ⟨upd2 f15 15 (upd (f15 15) (42 : Int32).toNatClampNeg t19), hP, hD⟩
                refine lv_iconst (v := 0) hx hb dX1_passDay_131 (by decide) ?_
                refine lv_istore_n (lv' := [(3, .int 0), (2, .int 0), (0, .ref (x 21)), (1, .int p1)]) hx hb dX1_passDay_132 rfl hl (by decide) rfl (fun ls hl => ?_)
                refine lv_iconst (v := 0) hx hb dX1_passDay_133 (by decide) ?_
                refine lv_istore (lv' := [(4, .int 0), (3, .int 0), (2, .int 0), (0, .ref (x 21)), (1, .int p1)]) hx hb dX1_passDay_134 hl (by decide) rfl (fun ls hl => ?_)
                have lp21 : ∀ (n21 : Nat) (l3_21 : Int32) (l4_21 : Int32) (v21 : Nat → Int32) (f21 : Nat → Nat → Int32), XI v21 → v21 0 = (v 0) → v21 1 = (v 1) → v21 9 = (v 9) → v21 10 = (v 10) → v21 31 = (v 31) → v21 32 = (v 32) → ((0 : Int) ≤ l4_21.toInt ∧ l4_21.toInt ≤ 2147483647) → (2147483647 - l4_21.toInt).toNat < n21 → ∀ (H : Heap) (locs : List Loc) (ls : Array Slot), va_P (dC, dI) vwCl (XW cy x0 x v21 f21) H → va_D A (XW cy x0 x v21 f21) → va_S A s.heap H locs → lv_has ls 5 [(4, .int l4_21), (3, .int l3_21), (2, .int 0), (0, .ref (x 21)), (1, .int p1)] → W p l e { frames := 5, cells := 0, slots := 0, locals := 155 } s m ([.ref (x 21), .int p1] : List Value).toArray below meth c H locs 0 0 Q (F0 m 136 ls []) := by
                  intro n21
                  induction n21 with
                  | zero => intro l3_21 l4_21 v21 f21 hIv21 hq0_v21 hq1_v21 hq9_v21 hq10_v21 hq31_v21 hq32_v21 hr4_21 hm; exact absurd hm (Nat.not_lt_zero _)
                  | succ n21 ih21 =>
                    intro l3_21 l4_21 v21 f21 hIv21 hq0_v21 hq1_v21 hq9_v21 hq10_v21 hq31_v21 hq32_v21 hr4_21 hm21 H locs ls hP hD hS hl
                    refine lv_iload hx hb dX1_passDay_136 (lv_at hl 0 rfl) ?_
                    refine lv_aload_n hx hb dX1_passDay_138 rfl (lv_at hl 3 rfl) ?_
                    refine va_get (D := (dC, dI)) (ci := 1) (v := .ref (x 26)) (C := RX1) (T := TX1) (N := 2) hx hb hts inB_1 hown hE.1 hP 22 rfl rfl 0 (by decide) (hts _ k_318) (fun _ h9 => h9) rfl dX1_passDay_139 ?_
                    refine va_getN (D := (dC, dI)) (ci := 7) (v := .int (v21 31)) (C := RX7) (T := TX7) (N := 10) hx hb hts inB_7 hown hE.1 hP 27 rfl rfl 3 (by decide) (va_Nw.use rfl (hE.2 _ k_219)) (fun _ h9 => h9) rfl dX1_passDay_142 ?_
                    refine tI (y := (v 31)) hq31_v21 ?_
                    have b31_v : 0 ≤ (v 31).toInt ∧ (v 31).toInt ≤ 6 := XI.b hIv 31 (by decide)
                    refine lv_icmp_ge (tgt := 193) hx hb dX1_passDay_145 (by decide) (fun c22 => ?_) (fun c22 => ?_)
                    · skip
                      have zc22 : (v 31).toInt ≤ l4_21.toInt := by rw [fa_le] at c22; exact c22
                      have rg23 := fb_rng l4_21
                      refine lv_iload_n hx hb dX1_passDay_193 rfl (lv_at hl 1 rfl) ?_
                      exact ret l3_21 (v21, f21) _ _ _ _ _ _ rfl ⟨hIv21, hq0_v21, hq1_v21, hq9_v21, hq10_v21, hq31_v21, hq32_v21⟩ hP hD hS dX1_passDay_194 (Nat.le_refl _) (Nat.le_refl _)
                    · skip
                      have zc22 : ¬ ((v 31).toInt ≤ l4_21.toInt) := by rw [fa_le] at c22; exact c22
                      have rg24 := fb_rng l4_21
                      refine lv_aload_n hx hb dX1_passDay_148 rfl (lv_at hl 3 rfl) ?_
                      refine lv_iload hx hb dX1_passDay_149 (lv_at hl 0 rfl) ?_
                      refine cbVi (n := 1) (rest := []) hx hb hml hown hts hE hP hD hS hA (sX_X1_wears_1 l dC dI cy x0 x l4_21 v21 f21 hIv21 ) k_853 k_810 k_811 k_106 k_812 (by decide +kernel) ⟨Nat.le_of_ble_eq_true rfl, Nat.le_of_ble_eq_true rfl⟩ 22 1 rfl rfl (rfl) hl.1 rfl (Nat.le_of_ble_eq_true rfl) dX1_passDay_151 (fun r25 u H locs hw hP hD hS => ?_)
                      refine lv_iconst (v := (-1)) hx hb dX1_passDay_154 (by decide) ?_
                      refine lv_icmp_eq (tgt := 187) hx hb dX1_passDay_155 (by decide) (fun c26 => ?_) (fun c26 => ?_)
                      · skip
                        have zc26 : r25.toInt = (-1) := by rw [fa_eq, show ((-1) : Int32).toInt = -1 from by decide] at c26; exact c26
                        obtain ⟨t27, et27⟩ : ∃ y : Int32, y = l4_21 + 1 := ⟨_, rfl⟩
                        have zt27 : t27.toInt = l4_21.toInt + 1 := by rw [et27]; exact add_i rfl (by decide) (by omega) (by omega)
                        refine lv_iinc (v := t27) (lv' := [(4, .int t27), (3, .int l3_21), (2, .int 0), (0, .ref (x 21)), (1, .int p1)]) hx hb dX1_passDay_187 hl (k := 0) rfl (by rw [et27]; rfl) (by decide) rfl (fun ls hl => ?_)
                        refine lv_goto (tgt := 136) hx hb dX1_passDay_190 (by decide) ?_
                        have rg28 := fb_rng t27
                        exact ih21 l3_21 t27 v21 f21 hIv21 hq0_v21 hq1_v21 hq9_v21 hq10_v21 hq31_v21 hq32_v21 ⟨show (0 : Int) ≤ t27.toInt by omega, show t27.toInt ≤ (2147483647 : Int) by omega⟩ (by show (2147483647 - t27.toInt).toNat < n21; omega) _ _ _ hP hD hS (lv_sub hl [0, 1, 2, 3, 4] rfl)
                      · skip
                        have zc26 : ¬ (r25.toInt = (-1)) := by rw [fa_eq, show ((-1) : Int32).toInt = -1 from by decide] at c26; exact c26
                        refine lv_aload_n hx hb dX1_passDay_158 rfl (lv_at hl 3 rfl) ?_
                        refine lv_iload hx hb dX1_passDay_159 (lv_at hl 0 rfl) ?_
                        refine lv_aload_n hx hb dX1_passDay_161 rfl (lv_at hl 3 rfl) ?_
                        refine lv_iload hx hb dX1_passDay_162 (lv_at hl 0 rfl) ?_
                        refine cbVi (n := 1) (rest := [.int l4_21, .ref (x 21)]) hx hb hml hown hts hE hP hD hS hA (sX_X1_wears_1 l dC dI cy x0 x l4_21 v21 f21 hIv21 ) k_853 k_810 k_811 k_106 k_812 (by decide +kernel) ⟨Nat.le_of_ble_eq_true rfl, Nat.le_of_ble_eq_true rfl⟩ 22 1 rfl rfl (rfl) hl.1 rfl (Nat.le_of_ble_eq_true rfl) dX1_passDay_164 (fun r29 u H locs hw hP hD hS => ?_)
                        refine cbVi (n := 2) (rest := []) hx hb hml hown hts hE hP hD hS hA (sX_X1_fits_1 l dC dI cy x0 x l4_21 r29 v21 f21 hIv21 ) k_817 k_818 k_819 k_106 k_820 (by decide +kernel) ⟨Nat.le_of_ble_eq_true rfl, Nat.le_of_ble_eq_true rfl⟩ 22 1 rfl rfl (rfl) hl.1 rfl (Nat.le_of_ble_eq_true rfl) dX1_passDay_167 (fun r30 u H locs hw hP hD hS => ?_)
                        obtain ⟨v31, f32⟩ := u
                        obtain ⟨hIv31, hk0_v31, hk1_v31, hk9_v31, hk10_v31, hk31_v31, hk32_v31, hw⟩ := hw
                        have hP : va_P (dC, dI) vwCl (XW cy x0 x v31 f32) H := hP
                        have hD : va_D A (XW cy x0 x v31 f32) := hD
                        have hq0_v31 : v31 0 = (v 0) := hk0_v31.trans hq0_v21
                        have hq1_v31 : v31 1 = (v 1) := hk1_v31.trans hq1_v21
                        have hq9_v31 : v31 9 = (v 9) := hk9_v31.trans hq9_v21
                        have hq10_v31 : v31 10 = (v 10) := hk10_v31.trans hq10_v21
                        have hq31_v31 : v31 31 = (v 31) := hk31_v31.trans hq31_v21
                        have hq32_v31 : v31 32 = (v 32) := hk32_v31.trans hq32_v21
                        rcases hw with ⟨g33⟩ | ⟨g33⟩
                        · skip
                          subst g33
                          refine lv_if_ne (tgt := 187) hx hb dX1_passDay_170 (by decide) (fun _ => ?_) (fun c0 => absurd c0 (by decide))
                          obtain ⟨t34, et34⟩ : ∃ y : Int32, y = l4_21 + 1 := ⟨_, rfl⟩
                          have zt34 : t34.toInt = l4_21.toInt + 1 := by rw [et34]; exact add_i rfl (by decide) (by omega) (by omega)
                          refine lv_iinc (v := t34) (lv' := [(4, .int t34), (3, .int l3_21), (2, .int 0), (0, .ref (x 21)), (1, .int p1)]) hx hb dX1_passDay_187 hl (k := 0) rfl (by rw [et34]; rfl) (by decide) rfl (fun ls hl => ?_)
                          refine lv_goto (tgt := 136) hx hb dX1_passDay_190 (by decide) ?_
                          have rg35 := fb_rng t34
                          exact ih21 l3_21 t34 v31 f32 hIv31 hq0_v31 hq1_v31 hq9_v31 hq10_v31 hq31_v31 hq32_v31 ⟨show (0 : Int) ≤ t34.toInt by omega, show t34.toInt ≤ (2147483647 : Int) by omega⟩ (by show (2147483647 - t34.toInt).toNat < n21; omega) _ _ _ hP hD hS (lv_sub hl [0, 1, 2, 3, 4] rfl)
                        · skip
                          subst g33
                          refine lv_if_ne (tgt := 187) hx hb dX1_passDay_170 (by decide) (fun c0 => absurd (by decide) c0) (fun _ => ?_)
                          refine lv_aload_n hx hb dX1_passDay_173 rfl (lv_at hl 3 rfl) ?_
                          refine lv_iload hx hb dX1_passDay_174 (lv_at hl 0 rfl) ?_
                          refine lv_iconst (v := (-1)) hx hb dX1_passDay_176 (by decide) ?_
                          refine cbVv (n := 2) (rest := []) hx hb hml hown hts hE hP hD hS hA (sX_X1_setWears_1 l dC dI cy x0 x l4_21 (-1) v31 f32 hIv31 ) k_879 k_880 k_881 k_106 k_882 (by decide +kernel) ⟨Nat.le_of_ble_eq_true rfl, Nat.le_of_ble_eq_true rfl⟩ 22 1 rfl rfl (rfl) hl.1 rfl (Nat.le_of_ble_eq_true rfl) dX1_passDay_177 (fun u H locs hw hP hD hS => ?_)
                          obtain ⟨v36, f37⟩ := u
                          obtain ⟨hIv36, hk0_v36, hk1_v36, hk9_v36, hk10_v36, hk31_v36, hk32_v36⟩ := hw
                          have hP : va_P (dC, dI) vwCl (XW cy x0 x v36 f37) H := hP
                          have hD : va_D A (XW cy x0 x v36 f37) := hD
                          have hq0_v36 : v36 0 = (v 0) := hk0_v36.trans hq0_v31
                          have hq1_v36 : v36 1 = (v 1) := hk1_v36.trans hq1_v31
                          have hq9_v36 : v36 9 = (v 9) := hk9_v36.trans hq9_v31
                          have hq10_v36 : v36 10 = (v 10) := hk10_v36.trans hq10_v31
                          have hq31_v36 : v36 31 = (v 31) := hk31_v36.trans hq31_v31
                          have hq32_v36 : v36 32 = (v 32) := hk32_v36.trans hq32_v31
                          refine lv_iload_n hx hb dX1_passDay_180 rfl (lv_at hl 1 rfl) ?_
                          refine lv_iconst (v := 1) hx hb dX1_passDay_181 (by decide) ?_
                          refine lv_iload hx hb dX1_passDay_182 (lv_at hl 0 rfl) ?_
                          refine lv_ishl hx hb dX1_passDay_184 ?_
                          refine lv_topi (fun t38 et38 => ?_)
                          have zt38 : 1 ≤ t38.toInt ∧ t38.toInt ≤ 32 := by rw [et38]; exact shl1_rng (by omega) (by omega)
                          refine lv_ior hx hb dX1_passDay_185 ?_
                          refine lv_topi (fun t39 et39 => ?_)
                          refine lv_istore_n (lv' := [(3, .int t39), (4, .int l4_21), (2, .int 0), (0, .ref (x 21)), (1, .int p1)]) hx hb dX1_passDay_186 rfl hl (by decide) rfl (fun ls hl => ?_)
                          obtain ⟨t40, et40⟩ : ∃ y : Int32, y = l4_21 + 1 := ⟨_, rfl⟩
                          have zt40 : t40.toInt = l4_21.toInt + 1 := by rw [et40]; exact add_i rfl (by decide) (by omega) (by omega)
                          refine lv_iinc (v := t40) (lv' := [(4, .int t40), (3, .int t39), (2, .int 0), (0, .ref (x 21)), (1, .int p1)]) hx hb dX1_passDay_187 hl (k := 1) rfl (by rw [et40]; rfl) (by decide) rfl (fun ls hl => ?_)
                          refine lv_goto (tgt := 136) hx hb dX1_passDay_190 (by decide) ?_
                          have rg41 := fb_rng t40
                          exact ih21 t39 t40 v36 f37 hIv36 hq0_v36 hq1_v36 hq9_v36 hq10_v36 hq31_v36 hq32_v36 ⟨show (0 : Int) ≤ t40.toInt by omega, show t40.toInt ≤ (2147483647 : Int) by omega⟩ (by show (2147483647 - t40.toInt).toNat < n21; omega) _ _ _ hP hD hS (lv_sub hl [0, 1, 2, 3, 4] rfl)
                exact lp21 _ 0 0 v15 f20 hIv15 hq0_v15 hq1_v15 hq9_v15 hq10_v15 hq31_v15 hq32_v15 ⟨by decide, by decide⟩ (Nat.lt_succ_self _) _ _ _ hP hD hS (lv_sub hl [0, 1, 2, 3, 4] rfl)
              · skip
                have zc16 : ¬ ((v 31).toInt ≤ l3_15.toInt) := by rw [fa_le] at c16; exact c16
                have rg42 := fb_rng l3_15
                refine lv_aload_n hx hb dX1_passDay_104 rfl (lv_at hl 2 rfl) ?_
                refine lv_aload_n hx hb dX1_passDay_105 rfl (lv_at hl 2 rfl) ?_
                refine lv_iload_n hx hb dX1_passDay_106 rfl (lv_at hl 0 rfl) ?_
                refine cbVi (n := 1) (rest := [.ref (x 21)]) hx hb hml hown hts hE hP hD hS hA (sX_X1_wears_1 l dC dI cy x0 x l3_15 v15 f15 hIv15 ) k_853 k_810 k_811 k_106 k_812 (by decide +kernel) ⟨Nat.le_of_ble_eq_true rfl, Nat.le_of_ble_eq_true rfl⟩ 22 1 rfl rfl (rfl) hl.1 rfl (Nat.le_of_ble_eq_true rfl) dX1_passDay_107 (fun r43 u H locs hw hP hD hS => ?_)
                refine lv_iload_n hx hb dX1_passDay_110 rfl (lv_at hl 1 rfl) ?_
                refine cbVv (n := 2) (rest := []) hx hb hml hown hts hE hP hD hS hA (sX_X1_weather_1 l dC dI cy x0 x r43 0 v15 f15 hIv15 ) k_870 k_872 k_20 k_106 k_873 (by decide +kernel) ⟨Nat.le_of_ble_eq_true rfl, Nat.le_of_ble_eq_true rfl⟩ 22 1 rfl rfl (rfl) hl.1 rfl (Nat.le_of_ble_eq_true rfl) dX1_passDay_111 (fun u H locs hw hP hD hS => ?_)
                obtain ⟨v44, f45⟩ := u
                obtain ⟨hIv44, hk0_v44, hk1_v44, hk9_v44, hk10_v44, hk31_v44, hk32_v44⟩ := hw
                have hP : va_P (dC, dI) vwCl (XW cy x0 x v44 f45) H := hP
                have hD : va_D A (XW cy x0 x v44 f45) := hD
                have hq0_v44 : v44 0 = (v 0) := hk0_v44.trans hq0_v15
                have hq1_v44 : v44 1 = (v 1) := hk1_v44.trans hq1_v15
                have hq9_v44 : v44 9 = (v 9) := hk9_v44.trans hq9_v15
                have hq10_v44 : v44 10 = (v 10) := hk10_v44.trans hq10_v15
                have hq31_v44 : v44 31 = (v 31) := hk31_v44.trans hq31_v15
                have hq32_v44 : v44 32 = (v 32) := hk32_v44.trans hq32_v15
                obtain ⟨t46, et46⟩ : ∃ y : Int32, y = l3_15 + 1 := ⟨_, rfl⟩
                have zt46 : t46.toInt = l3_15.toInt + 1 := by rw [et46]; exact add_i rfl (by decide) (by omega) (by omega)
                refine lv_iinc (v := t46) (lv' := [(3, .int t46), (2, .int 0), (0, .ref (x 21)), (1, .int p1)]) hx hb dX1_passDay_114 hl (k := 0) rfl (by rw [et46]; rfl) (by decide) rfl (fun ls hl => ?_)
                refine lv_goto (tgt := 93) hx hb dX1_passDay_117 (by decide) ?_
                have rg47 := fb_rng t46
                exact ih15 t46 v44 f45 hIv44 hq0_v44 hq1_v44 hq9_v44 hq10_v44 hq31_v44 hq32_v44 ⟨show (0 : Int) ≤ t46.toInt by omega, show t46.toInt ≤ (2147483647 : Int) by omega⟩ (by show (2147483647 - t46.toInt).toNat < n15; omega) _ _ _ hP hD hS (lv_sub hl [0, 1, 2, 3] rfl)
          exact lp15 _ 0 v1 f9 hIv1 hq0_v1 hq1_v1 hq9_v1 hq10_v1 hq31_v1 hq32_v1 ⟨by decide, by decide⟩ (Nat.lt_succ_self _) _ _ _ hP hD hS (lv_sub hl [0, 1, 2, 3] rfl)
        · skip
          have zc12 : ¬ (p1.toInt ≤ t11.toInt) := by rw [fa_le] at c12; exact c12
          have rg48 := fb_rng t11
          have rg49 := fb_rng p1
          refine lv_iconst (v := 1) hx hb dX1_passDay_85 (by decide) ?_
          refine lv_goto (tgt := 90) hx hb dX1_passDay_86 (by decide) ?_
          refine lv_istore_n (lv' := [(2, .int 1), (0, .ref (x 21)), (1, .int p1)]) hx hb dX1_passDay_90 rfl hl (by decide) rfl (fun ls hl => ?_)
          refine lv_iconst (v := 0) hx hb dX1_passDay_91 (by decide) ?_
          refine lv_istore_n (lv' := [(3, .int 0), (2, .int 1), (0, .ref (x 21)), (1, .int p1)]) hx hb dX1_passDay_92 rfl hl (by decide) rfl (fun ls hl => ?_)
          have lp50 : ∀ (n50 : Nat) (l3_50 : Int32) (v50 : Nat → Int32) (f50 : Nat → Nat → Int32), XI v50 → v50 0 = (v 0) → v50 1 = (v 1) → v50 9 = (v 9) → v50 10 = (v 10) → v50 31 = (v 31) → v50 32 = (v 32) → ((0 : Int) ≤ l3_50.toInt ∧ l3_50.toInt ≤ 2147483647) → (2147483647 - l3_50.toInt).toNat < n50 → ∀ (H : Heap) (locs : List Loc) (ls : Array Slot), va_P (dC, dI) vwCl (XW cy x0 x v50 f50) H → va_D A (XW cy x0 x v50 f50) → va_S A s.heap H locs → lv_has ls 5 [(3, .int l3_50), (2, .int 1), (0, .ref (x 21)), (1, .int p1)] → W p l e { frames := 5, cells := 0, slots := 0, locals := 155 } s m ([.ref (x 21), .int p1] : List Value).toArray below meth c H locs 0 0 Q (F0 m 93 ls []) := by
            intro n50
            induction n50 with
            | zero => intro l3_50 v50 f50 hIv50 hq0_v50 hq1_v50 hq9_v50 hq10_v50 hq31_v50 hq32_v50 hr3_50 hm; exact absurd hm (Nat.not_lt_zero _)
            | succ n50 ih50 =>
              intro l3_50 v50 f50 hIv50 hq0_v50 hq1_v50 hq9_v50 hq10_v50 hq31_v50 hq32_v50 hr3_50 hm50 H locs ls hP hD hS hl
              refine lv_iload_n hx hb dX1_passDay_93 rfl (lv_at hl 0 rfl) ?_
              refine lv_aload_n hx hb dX1_passDay_94 rfl (lv_at hl 2 rfl) ?_
              refine va_get (D := (dC, dI)) (ci := 1) (v := .ref (x 26)) (C := RX1) (T := TX1) (N := 2) hx hb hts inB_1 hown hE.1 hP 22 rfl rfl 0 (by decide) (hts _ k_318) (fun _ h9 => h9) rfl dX1_passDay_95 ?_
              refine va_getN (D := (dC, dI)) (ci := 7) (v := .int (v50 31)) (C := RX7) (T := TX7) (N := 10) hx hb hts inB_7 hown hE.1 hP 27 rfl rfl 3 (by decide) (va_Nw.use rfl (hE.2 _ k_219)) (fun _ h9 => h9) rfl dX1_passDay_98 ?_
              refine tI (y := (v 31)) hq31_v50 ?_
              have b31_v : 0 ≤ (v 31).toInt ∧ (v 31).toInt ≤ 6 := XI.b hIv 31 (by decide)
              refine lv_icmp_ge (tgt := 120) hx hb dX1_passDay_101 (by decide) (fun c51 => ?_) (fun c51 => ?_)
              · skip
                have zc51 : (v 31).toInt ≤ l3_50.toInt := by rw [fa_le] at c51; exact c51
                have rg52 := fb_rng l3_50
                refine lv_aload_n hx hb dX1_passDay_120 rfl (lv_at hl 2 rfl) ?_
                refine va_get (D := (dC, dI)) (ci := 1) (v := .ref (x 22)) (C := RX1) (T := TX1) (N := 2) hx hb hts inB_1 hown hE.1 hP 22 rfl rfl 1 (by decide) (hts _ k_319) (fun _ h9 => h9) rfl dX1_passDay_121 ?_
                refine lv_bipush (v := 42) hx hb dX1_passDay_124 (by decide) ?_
                refine lv_dup2_11 hx hb dX1_passDay_126 rfl rfl ?_
                refine ldI hx hb hE hP 23 rfl (vp_in_nI (n := 42) (by decide) (by decide)) rfl rfl dX1_passDay_127 ?_
                refine lv_topi (fun t53 et53 => ?_)
                refine lv_iconst (v := 1) hx hb dX1_passDay_128 (by decide) ?_
                refine lv_iadd hx hb dX1_passDay_129 ?_
                refine lv_topi (fun t54 et54 => ?_)
                refine stI hx hb hE hP hD hS 23 rfl (vp_in_nI (n := 42) (by decide) (by decide)) rfl dX1_passDay_130 (fun H locs hP hD hS => ?_)
                obtain ⟨f55, hP, hD⟩ : ∃ fz9, va_P (dC, dI) vwCl (XW cy x0 x v50 fz9) H ∧ va_D A (XW cy x0 x v50 fz9) := ⟨upd2 f50 15 (upd (f50 15) (42 : Int32).toNatClampNeg t54), hP, hD⟩
                refine lv_iconst (v := 0) hx hb dX1_passDay_131 (by decide) ?_
                refine lv_istore_n (lv' := [(3, .int 0), (2, .int 1), (0, .ref (x 21)), (1, .int p1)]) hx hb dX1_passDay_132 rfl hl (by decide) rfl (fun ls hl => ?_)
                refine lv_iconst (v := 0) hx hb dX1_passDay_133 (by decide) ?_
                refine lv_istore (lv' := [(4, .int 0), (3, .int 0), (2, .int 1), (0, .ref (x 21)), (1, .int p1)]) hx hb dX1_passDay_134 hl (by decide) rfl (fun ls hl => ?_)
                have lp56 : ∀ (n56 : Nat) (l3_56 : Int32) (l4_56 : Int32) (v56 : Nat → Int32) (f56 : Nat → Nat → Int32), XI v56 → v56 0 = (v 0) → v56 1 = (v 1) → v56 9 = (v 9) → v56 10 = (v 10) → v56 31 = (v 31) → v56 32 = (v 32) → ((0 : Int) ≤ l4_56.toInt ∧ l4_56.toInt ≤ 2147483647) → (2147483647 - l4_56.toInt).toNat < n56 → ∀ (H : Heap) (locs : List Loc) (ls : Array Slot), va_P (dC, dI) vwCl (XW cy x0 x v56 f56) H → va_D A (XW cy x0 x v56 f56) → va_S A s.heap H locs → lv_has ls 5 [(4, .int l4_56), (3, .int l3_56), (2, .int 1), (0, .ref (x 21)), (1, .int p1)] → W p l e { frames := 5, cells := 0, slots := 0, locals := 155 } s m ([.ref (x 21), .int p1] : List Value).toArray below meth c H locs 0 0 Q (F0 m 136 ls []) := by
                  intro n56
                  induction n56 with
                  | zero => intro l3_56 l4_56 v56 f56 hIv56 hq0_v56 hq1_v56 hq9_v56 hq10_v56 hq31_v56 hq32_v56 hr4_56 hm; exact absurd hm (Nat.not_lt_zero _)
                  | succ n56 ih56 =>
                    intro l3_56 l4_56 v56 f56 hIv56 hq0_v56 hq1_v56 hq9_v56 hq10_v56 hq31_v56 hq32_v56 hr4_56 hm56 H locs ls hP hD hS hl
                    refine lv_iload hx hb dX1_passDay_136 (lv_at hl 0 rfl) ?_
                    refine lv_aload_n hx hb dX1_passDay_138 rfl (lv_at hl 3 rfl) ?_
                    refine va_get (D := (dC, dI)) (ci := 1) (v := .ref (x 26)) (C := RX1) (T := TX1) (N := 2) hx hb hts inB_1 hown hE.1 hP 22 rfl rfl 0 (by decide) (hts _ k_318) (fun _ h9 => h9) rfl dX1_passDay_139 ?_
                    refine va_getN (D := (dC, dI)) (ci := 7) (v := .int (v56 31)) (C := RX7) (T := TX7) (N := 10) hx hb hts inB_7 hown hE.1 hP 27 rfl rfl 3 (by decide) (va_Nw.use rfl (hE.2 _ k_219)) (fun _ h9 => h9) rfl dX1_passDay_142 ?_
                    refine tI (y := (v 31)) hq31_v56 ?_
                    have b31_v : 0 ≤ (v 31).toInt ∧ (v 31).toInt ≤ 6 := XI.b hIv 31 (by decide)
                    refine lv_icmp_ge (tgt := 193) hx hb dX1_passDay_145 (by decide) (fun c57 => ?_) (fun c57 => ?_)
                    · skip
                      have zc57 : (v 31).toInt ≤ l4_56.toInt := by rw [fa_le] at c57; exact c57
                      have rg58 := fb_rng l4_56
                      refine lv_iload_n hx hb dX1_passDay_193 rfl (lv_at hl 1 rfl) ?_
                      exact ret l3_56 (v56, f56) _ _ _ _ _ _ rfl ⟨hIv56, hq0_v56, hq1_v56, hq9_v56, hq10_v56, hq31_v56, hq32_v56⟩ hP hD hS dX1_passDay_194 (Nat.le_refl _) (Nat.le_refl _)
                    · skip
                      have zc57 : ¬ ((v 31).toInt ≤ l4_56.toInt) := by rw [fa_le] at c57; exact c57
                      have rg59 := fb_rng l4_56
                      refine lv_aload_n hx hb dX1_passDay_148 rfl (lv_at hl 3 rfl) ?_
                      refine lv_iload hx hb dX1_passDay_149 (lv_at hl 0 rfl) ?_
                      refine cbVi (n := 1) (rest := []) hx hb hml hown hts hE hP hD hS hA (sX_X1_wears_1 l dC dI cy x0 x l4_56 v56 f56 hIv56 ) k_853 k_810 k_811 k_106 k_812 (by decide +kernel) ⟨Nat.le_of_ble_eq_true rfl, Nat.le_of_ble_eq_true rfl⟩ 22 1 rfl rfl (rfl) hl.1 rfl (Nat.le_of_ble_eq_true rfl) dX1_passDay_151 (fun r60 u H locs hw hP hD hS => ?_)
                      refine lv_iconst (v := (-1)) hx hb dX1_passDay_154 (by decide) ?_
                      refine lv_icmp_eq (tgt := 187) hx hb dX1_passDay_155 (by decide) (fun c61 => ?_) (fun c61 => ?_)
                      · skip
                        have zc61 : r60.toInt = (-1) := by rw [fa_eq, show ((-1) : Int32).toInt = -1 from by decide] at c61; exact c61
                        obtain ⟨t62, et62⟩ : ∃ y : Int32, y = l4_56 + 1 := ⟨_, rfl⟩
                        have zt62 : t62.toInt = l4_56.toInt + 1 := by rw [et62]; exact add_i rfl (by decide) (by omega) (by omega)
                        refine lv_iinc (v := t62) (lv' := [(4, .int t62), (3, .int l3_56), (2, .int 1), (0, .ref (x 21)), (1, .int p1)]) hx hb dX1_passDay_187 hl (k := 0) rfl (by rw [et62]; rfl) (by decide) rfl (fun ls hl => ?_)
                        refine lv_goto (tgt := 136) hx hb dX1_passDay_190 (by decide) ?_
                        have rg63 := fb_rng t62
                        exact ih56 l3_56 t62 v56 f56 hIv56 hq0_v56 hq1_v56 hq9_v56 hq10_v56 hq31_v56 hq32_v56 ⟨show (0 : Int) ≤ t62.toInt by omega, show t62.toInt ≤ (2147483647 : Int) by omega⟩ (by show (2147483647 - t62.toInt).toNat < n56; omega) _ _ _ hP hD hS (lv_sub hl [0, 1, 2, 3, 4] rfl)
                      · skip
                        have zc61 : ¬ (r60.toInt = (-1)) := by rw [fa_eq, show ((-1) : Int32).toInt = -1 from by decide] at c61; exact c61
                        refine lv_aload_n hx hb dX1_passDay_158 rfl (lv_at hl 3 rfl) ?_
                        refine lv_iload hx hb dX1_passDay_159 (lv_at hl 0 rfl) ?_
                        refine lv_aload_n hx hb dX1_passDay_161 rfl (lv_at hl 3 rfl) ?_
                        refine lv_iload hx hb dX1_passDay_162 (lv_at hl 0 rfl) ?_
                        refine cbVi (n := 1) (rest := [.int l4_56, .ref (x 21)]) hx hb hml hown hts hE hP hD hS hA (sX_X1_wears_1 l dC dI cy x0 x l4_56 v56 f56 hIv56 ) k_853 k_810 k_811 k_106 k_812 (by decide +kernel) ⟨Nat.le_of_ble_eq_true rfl, Nat.le_of_ble_eq_true rfl⟩ 22 1 rfl rfl (rfl) hl.1 rfl (Nat.le_of_ble_eq_true rfl) dX1_passDay_164 (fun r64 u H locs hw hP hD hS => ?_)
                        refine cbVi (n := 2) (rest := []) hx hb hml hown hts hE hP hD hS hA (sX_X1_fits_1 l dC dI cy x0 x l4_56 r64 v56 f56 hIv56 ) k_817 k_818 k_819 k_106 k_820 (by decide +kernel) ⟨Nat.le_of_ble_eq_true rfl, Nat.le_of_ble_eq_true rfl⟩ 22 1 rfl rfl (rfl) hl.1 rfl (Nat.le_of_ble_eq_true rfl) dX1_passDay_167 (fun r65 u H locs hw hP hD hS => ?_)
                        obtain ⟨v66, f67⟩ := u
                        obtain ⟨hIv66, hk0_v66, hk1_v66, hk9_v66, hk10_v66, hk31_v66, hk32_v66, hw⟩ := hw
                        have hP : va_P (dC, dI) vwCl (XW cy x0 x v66 f67) H := hP
                        have hD : va_D A (XW cy x0 x v66 f67) := hD
                        have hq0_v66 : v66 0 = (v 0) := hk0_v66.trans hq0_v56
                        have hq1_v66 : v66 1 = (v 1) := hk1_v66.trans hq1_v56
                        have hq9_v66 : v66 9 = (v 9) := hk9_v66.trans hq9_v56
                        have hq10_v66 : v66 10 = (v 10) := hk10_v66.trans hq10_v56
                        have hq31_v66 : v66 31 = (v 31) := hk31_v66.trans hq31_v56
                        have hq32_v66 : v66 32 = (v 32) := hk32_v66.trans hq32_v56
                        rcases hw with ⟨g68⟩ | ⟨g68⟩
                        · skip
                          subst g68
                          refine lv_if_ne (tgt := 187) hx hb dX1_passDay_170 (by decide) (fun _ => ?_) (fun c0 => absurd c0 (by decide))
                          obtain ⟨t69, et69⟩ : ∃ y : Int32, y = l4_56 + 1 := ⟨_, rfl⟩
                          have zt69 : t69.toInt = l4_56.toInt + 1 := by rw [et69]; exact add_i rfl (by decide) (by omega) (by omega)
                          refine lv_iinc (v := t69) (lv' := [(4, .int t69), (3, .int l3_56), (2, .int 1), (0, .ref (x 21)), (1, .int p1)]) hx hb dX1_passDay_187 hl (k := 0) rfl (by rw [et69]; rfl) (by decide) rfl (fun ls hl => ?_)
                          refine lv_goto (tgt := 136) hx hb dX1_passDay_190 (by decide) ?_
                          have rg70 := fb_rng t69
                          exact ih56 l3_56 t69 v66 f67 hIv66 hq0_v66 hq1_v66 hq9_v66 hq10_v66 hq31_v66 hq32_v66 ⟨show (0 : Int) ≤ t69.toInt by omega, show t69.toInt ≤ (2147483647 : Int) by omega⟩ (by show (2147483647 - t69.toInt).toNat < n56; omega) _ _ _ hP hD hS (lv_sub hl [0, 1, 2, 3, 4] rfl)
                        · skip
                          subst g68
                          refine lv_if_ne (tgt := 187) hx hb dX1_passDay_170 (by decide) (fun c0 => absurd (by decide) c0) (fun _ => ?_)
                          refine lv_aload_n hx hb dX1_passDay_173 rfl (lv_at hl 3 rfl) ?_
                          refine lv_iload hx hb dX1_passDay_174 (lv_at hl 0 rfl) ?_
                          refine lv_iconst (v := (-1)) hx hb dX1_passDay_176 (by decide) ?_
                          refine cbVv (n := 2) (rest := []) hx hb hml hown hts hE hP hD hS hA (sX_X1_setWears_1 l dC dI cy x0 x l4_56 (-1) v66 f67 hIv66 ) k_879 k_880 k_881 k_106 k_882 (by decide +kernel) ⟨Nat.le_of_ble_eq_true rfl, Nat.le_of_ble_eq_true rfl⟩ 22 1 rfl rfl (rfl) hl.1 rfl (Nat.le_of_ble_eq_true rfl) dX1_passDay_177 (fun u H locs hw hP hD hS => ?_)
                          obtain ⟨v71, f72⟩ := u
                          obtain ⟨hIv71, hk0_v71, hk1_v71, hk9_v71, hk10_v71, hk31_v71, hk32_v71⟩ := hw
                          have hP : va_P (dC, dI) vwCl (XW cy x0 x v71 f72) H := hP
                          have hD : va_D A (XW cy x0 x v71 f72) := hD
                          have hq0_v71 : v71 0 = (v 0) := hk0_v71.trans hq0_v66
                          have hq1_v71 : v71 1 = (v 1) := hk1_v71.trans hq1_v66
                          have hq9_v71 : v71 9 = (v 9) := hk9_v71.trans hq9_v66
                          have hq10_v71 : v71 10 = (v 10) := hk10_v71.trans hq10_v66
                          have hq31_v71 : v71 31 = (v 31) := hk31_v71.trans hq31_v66
                          have hq32_v71 : v71 32 = (v 32) := hk32_v71.trans hq32_v66
                          refine lv_iload_n hx hb dX1_passDay_180 rfl (lv_at hl 1 rfl) ?_
                          refine lv_iconst (v := 1) hx hb dX1_passDay_181 (by decide) ?_
                          refine lv_iload hx hb dX1_passDay_182 (lv_at hl 0 rfl) ?_
                          refine lv_ishl hx hb dX1_passDay_184 ?_
                          refine lv_topi (fun t73 et73 => ?_)
                          have zt73 : 1 ≤ t73.toInt ∧ t73.toInt ≤ 32 := by rw [et73]; exact shl1_rng (by omega) (by omega)
                          refine lv_ior hx hb dX1_passDay_185 ?_
                          refine lv_topi (fun t74 et74 => ?_)
                          refine lv_istore_n (lv' := [(3, .int t74), (4, .int l4_56), (2, .int 1), (0, .ref (x 21)), (1, .int p1)]) hx hb dX1_passDay_186 rfl hl (by decide) rfl (fun ls hl => ?_)
                          obtain ⟨t75, et75⟩ : ∃ y : Int32, y = l4_56 + 1 := ⟨_, rfl⟩
                          have zt75 : t75.toInt = l4_56.toInt + 1 := by rw [et75]; exact add_i rfl (by decide) (by omega) (by omega)
                          refine lv_iinc (v := t75) (lv' := [(4, .int t75), (3, .int t74), (2, .int 1), (0, .ref (x 21)), (1, .int p1)]) hx hb dX1_passDay_187 hl (k := 1) rfl (by rw [et75]; rfl) (by decide) rfl (fun ls hl => ?_)
                          refine lv_goto (tgt := 136) hx hb dX1_passDay_190 (by decide) ?_
                          have rg76 := fb_rng t75
                          exact ih56 t74 t75 v71 f72 hIv71 hq0_v71 hq1_v71 hq9_v71 hq10_v71 hq31_v71 hq32_v71 ⟨show (0 : Int) ≤ t75.toInt by omega, show t75.toInt ≤ (2147483647 : Int) by omega⟩ (by show (2147483647 - t75.toInt).toNat < n56; omega) _ _ _ hP hD hS (lv_sub hl [0, 1, 2, 3, 4] rfl)
                exact lp56 _ 0 0 v50 f55 hIv50 hq0_v50 hq1_v50 hq9_v50 hq10_v50 hq31_v50 hq32_v50 ⟨by decide, by decide⟩ (Nat.lt_succ_self _) _ _ _ hP hD hS (lv_sub hl [0, 1, 2, 3, 4] rfl)
              · skip
                have zc51 : ¬ ((v 31).toInt ≤ l3_50.toInt) := by rw [fa_le] at c51; exact c51
                have rg77 := fb_rng l3_50
                refine lv_aload_n hx hb dX1_passDay_104 rfl (lv_at hl 2 rfl) ?_
                refine lv_aload_n hx hb dX1_passDay_105 rfl (lv_at hl 2 rfl) ?_
                refine lv_iload_n hx hb dX1_passDay_106 rfl (lv_at hl 0 rfl) ?_
                refine cbVi (n := 1) (rest := [.ref (x 21)]) hx hb hml hown hts hE hP hD hS hA (sX_X1_wears_1 l dC dI cy x0 x l3_50 v50 f50 hIv50 ) k_853 k_810 k_811 k_106 k_812 (by decide +kernel) ⟨Nat.le_of_ble_eq_true rfl, Nat.le_of_ble_eq_true rfl⟩ 22 1 rfl rfl (rfl) hl.1 rfl (Nat.le_of_ble_eq_true rfl) dX1_passDay_107 (fun r78 u H locs hw hP hD hS => ?_)
                refine lv_iload_n hx hb dX1_passDay_110 rfl (lv_at hl 1 rfl) ?_
                refine cbVv (n := 2) (rest := []) hx hb hml hown hts hE hP hD hS hA (sX_X1_weather_1 l dC dI cy x0 x r78 1 v50 f50 hIv50 ) k_870 k_872 k_20 k_106 k_873 (by decide +kernel) ⟨Nat.le_of_ble_eq_true rfl, Nat.le_of_ble_eq_true rfl⟩ 22 1 rfl rfl (rfl) hl.1 rfl (Nat.le_of_ble_eq_true rfl) dX1_passDay_111 (fun u H locs hw hP hD hS => ?_)
                obtain ⟨v79, f80⟩ := u
                obtain ⟨hIv79, hk0_v79, hk1_v79, hk9_v79, hk10_v79, hk31_v79, hk32_v79⟩ := hw
                have hP : va_P (dC, dI) vwCl (XW cy x0 x v79 f80) H := hP
                have hD : va_D A (XW cy x0 x v79 f80) := hD
                have hq0_v79 : v79 0 = (v 0) := hk0_v79.trans hq0_v50
                have hq1_v79 : v79 1 = (v 1) := hk1_v79.trans hq1_v50
                have hq9_v79 : v79 9 = (v 9) := hk9_v79.trans hq9_v50
                have hq10_v79 : v79 10 = (v 10) := hk10_v79.trans hq10_v50
                have hq31_v79 : v79 31 = (v 31) := hk31_v79.trans hq31_v50
                have hq32_v79 : v79 32 = (v 32) := hk32_v79.trans hq32_v50
                obtain ⟨t81, et81⟩ : ∃ y : Int32, y = l3_50 + 1 := ⟨_, rfl⟩
                have zt81 : t81.toInt = l3_50.toInt + 1 := by rw [et81]; exact add_i rfl (by decide) (by omega) (by omega)
                refine lv_iinc (v := t81) (lv' := [(3, .int t81), (2, .int 1), (0, .ref (x 21)), (1, .int p1)]) hx hb dX1_passDay_114 hl (k := 0) rfl (by rw [et81]; rfl) (by decide) rfl (fun ls hl => ?_)
                refine lv_goto (tgt := 93) hx hb dX1_passDay_117 (by decide) ?_
                have rg82 := fb_rng t81
                exact ih50 t81 v79 f80 hIv79 hq0_v79 hq1_v79 hq9_v79 hq10_v79 hq31_v79 hq32_v79 ⟨show (0 : Int) ≤ t81.toInt by omega, show t81.toInt ≤ (2147483647 : Int) by omega⟩ (by show (2147483647 - t81.toInt).toNat < n50; omega) _ _ _ hP hD hS (lv_sub hl [0, 1, 2, 3] rfl)
          exact lp50 _ 0 v1 f9 hIv1 hq0_v1 hq1_v1 hq9_v1 hq10_v1 hq31_v1 hq32_v1 ⟨by decide, by decide⟩ (Nat.lt_succ_self _) _ _ _ hP hD hS (lv_sub hl [0, 1, 2, 3] rfl)
      · skip
        have zc2 : ¬ ((v 31).toInt ≤ l2_1.toInt) := by rw [fa_le] at c2; exact c2
        have rg83 := fb_rng l2_1
        have rg84 := fb_rng (v 31)
        refine lv_aload_n hx hb dX1_passDay_13 rfl (lv_at hl 1 rfl) ?_
        refine va_get (D := (dC, dI)) (ci := 1) (v := .ref (x 22)) (C := RX1) (T := TX1) (N := 2) hx hb hts inB_1 hown hE.1 hP 22 rfl rfl 1 (by decide) (hts _ k_319) (fun _ h9 => h9) rfl dX1_passDay_14 ?_
        refine lv_iload_n hx hb dX1_passDay_17 rfl (lv_at hl 0 rfl) ?_
        refine lv_bipush (v := 99) hx hb dX1_passDay_18 (by decide) ?_
        refine lv_aload_n hx hb dX1_passDay_20 rfl (lv_at hl 1 rfl) ?_
        refine va_get (D := (dC, dI)) (ci := 1) (v := .ref (x 22)) (C := RX1) (T := TX1) (N := 2) hx hb hts inB_1 hown hE.1 hP 22 rfl rfl 1 (by decide) (hts _ k_319) (fun _ h9 => h9) rfl dX1_passDay_21 ?_
        refine lv_iload_n hx hb dX1_passDay_24 rfl (lv_at hl 0 rfl) ?_
        refine ldI hx hb hE hP 23 rfl (vp_in_iff.mpr ⟨by omega, by omega⟩) rfl rfl dX1_passDay_25 ?_
        refine lv_topi (fun t85 et85 => ?_)
        refine lv_aload_n hx hb dX1_passDay_26 rfl (lv_at hl 1 rfl) ?_
        refine va_get (D := (dC, dI)) (ci := 1) (v := .ref (x 26)) (C := RX1) (T := TX1) (N := 2) hx hb hts inB_1 hown hE.1 hP 22 rfl rfl 0 (by decide) (hts _ k_318) (fun _ h9 => h9) rfl dX1_passDay_27 ?_
        refine lv_iconst (v := 2) hx hb dX1_passDay_30 (by decide) ?_
        refine lv_iload_n hx hb dX1_passDay_31 rfl (lv_at hl 0 rfl) ?_
        refine cbVi (n := 2) (rest := [.int t85, .int 99, .int l2_1, .ref (x 22)]) hx hb hml hown hts hE hP hD hS hA (sX_X7_manPart_1 l dC dI cy x0 x 2 l2_1 v1 f1 hIv1 ) k_302 k_303 k_304 k_104 k_305 (by decide +kernel) ⟨Nat.le_of_ble_eq_true rfl, Nat.le_of_ble_eq_true rfl⟩ 27 7 rfl rfl (rfl) hl.1 rfl (Nat.le_of_ble_eq_true rfl) dX1_passDay_32 (fun r86 u H locs hw hP hD hS => ?_)
        refine lv_iadd hx hb dX1_passDay_35 ?_
        refine lv_topi (fun t87 et87 => ?_)
        refine va_mmin hx hb (by rw [hml]; exact hl.1.symm) hown (hts _ k_869) (hts _ k_643) (hts _ k_119) (hts _ k_644) (Nat.le_of_ble_eq_true rfl) (Nat.le_of_ble_eq_true rfl) (Nat.le_of_ble_eq_true rfl) (Nat.le_of_ble_eq_true rfl) dX1_passDay_36 ?_
        refine lv_topi (fun t88 et88 => ?_)
        have zt88 : t88.toInt = min (99) (t87.toInt) := by rw [et88]; exact mmin_i (by decide) rfl
        refine stI hx hb hE hP hD hS 23 rfl (vp_in_iff.mpr ⟨by omega, by omega⟩) rfl dX1_passDay_39 (fun H locs hP hD hS => ?_)
        obtain ⟨f89, hP, hD⟩ : ∃ fz9, va_P (dC, dI) vwCl (XW cy x0 x v1 fz9) H ∧ va_D A (XW cy x0 x v1 fz9) := ⟨upd2 f1 15 (upd (f1 15) l2_1.toNatClampNeg t88), hP, hD⟩
        obtain ⟨t90, et90⟩ : ∃ y : Int32, y = l2_1 + 1 := ⟨_, rfl⟩
        have zt90 : t90.toInt = l2_1.toInt + 1 := by rw [et90]; exact add_i rfl (by decide) (by omega) (by omega)
        refine lv_iinc (v := t90) (lv' := [(2, .int t90), (0, .ref (x 21)), (1, .int p1)]) hx hb dX1_passDay_40 hl (k := 0) rfl (by rw [et90]; rfl) (by decide) rfl (fun ls hl => ?_)
        refine lv_goto (tgt := 2) hx hb dX1_passDay_43 (by decide) ?_
        have rg91 := fb_rng t90
        exact ih1 t90 v1 f89 hIv1 hq0_v1 hq1_v1 hq9_v1 hq10_v1 hq31_v1 hq32_v1 ⟨show (0 : Int) ≤ t90.toInt by omega, show t90.toInt ≤ (2147483647 : Int) by omega⟩ (by show (2147483647 - t90.toInt).toNat < n1; omega) _ _ _ hP hD hS (lv_sub hl [0, 1, 2] rfl)
  exact lp1 _ 0 v f hIv rfl rfl rfl rfl rfl rfl ⟨by decide, by decide⟩ (Nat.lt_succ_self _) _ _ _ hP hD hS (lv_sub hl [0, 1, 2] rfl)
set_option maxHeartbeats 4000000 in
set_option maxRecDepth 100000 in
theorem sX_X1_saveTo_1 (l : Launch) (dC : Nat → ClassId) (dI : Nat → Nat → Nat) (cy : Nat → ClassId) (x0 : Nat) (x : Nat → Nat) (p2 : Int32) (v : Nat → Int32) (f : Nat → Nat → Int32) (hIv : XI v)  : ctV l (dC, dI) cy yX1_saveTo cX1_saveTo 3 1 100 0 0 ((Nat → Int32) × (Nat → Nat → Int32)) [.ref (x 21), .ref (x 24), .int p2] (XW cy x0 x v f) (fun u => XI u.1 ∧ u.1 0 = v 0 ∧ u.1 1 = v 1 ∧ u.1 9 = v 9 ∧ u.1 10 = v 10 ∧ u.1 31 = v 31 ∧ u.1 32 = v 32) (fun u => XW cy x0 x u.1 u.2) := by
  refine ctV_of (by decide) (Nat.le_of_ble_eq_true rfl) (fun p e s m below meth c A ls Q hx hb hml hts hown hnm hE hP hD hA hl ret => ?_)
  have hown : s.vm.findClass RX1 = some m.cls := hown
  have hS : va_S A s.heap s.heap [] := va_S.rf
  have hl : lv_has ls 3 [(0, .ref (x 21)), (1, .ref (x 24)), (2, .int p2)] := hl
  refine lv_iload_n hx hb dX1_saveTo_0 rfl (lv_at hl 2 rfl) ?_
  refine lv_if_lt (tgt := 28) hx hb dX1_saveTo_1 (by decide) (fun c1 => ?_) (fun c1 => ?_)
  · skip
    have zc1 : p2.toInt < 0 := by rw [fa_lt, show (0 : Int32).toInt = 0 from by decide] at c1; exact c1
    exact ret (v, f) _ _ _ _ _ _ ⟨hIv, rfl, rfl, rfl, rfl, rfl, rfl⟩ hP hD hS dX1_saveTo_28 (Nat.le_refl _) (Nat.le_refl _)
  · skip
    have zc1 : ¬ (p2.toInt < 0) := by rw [fa_lt, show (0 : Int32).toInt = 0 from by decide] at c1; exact c1
    refine lv_iload_n hx hb dX1_saveTo_4 rfl (lv_at hl 2 rfl) ?_
    refine lv_aload_n hx hb dX1_saveTo_5 rfl (lv_at hl 1 rfl) ?_
    refine va_alen (v := 1804) hx hb hE.1 hP 25 1 rfl rfl rfl dX1_saveTo_6 ?_
    refine lv_bipush (v := 44) hx hb dX1_saveTo_7 (by decide) ?_
    refine lv_idiv hx hb dX1_saveTo_9 (by decide) ?_
    refine tI (y := 41) (by decide) ?_
    refine lv_icmp_ge (tgt := 28) hx hb dX1_saveTo_10 (by decide) (fun c2 => ?_) (fun c2 => ?_)
    · skip
      have zc2 : 41 ≤ p2.toInt := by rw [fa_le, show (41 : Int32).toInt = 41 from by decide] at c2; exact c2
      exact ret (v, f) _ _ _ _ _ _ ⟨hIv, rfl, rfl, rfl, rfl, rfl, rfl⟩ hP hD hS dX1_saveTo_28 (Nat.le_refl _) (Nat.le_refl _)
    · skip
      have zc2 : ¬ (41 ≤ p2.toInt) := by rw [fa_le, show (41 : Int32).toInt = 41 from by decide] at c2; exact c2
      refine lv_aload_n hx hb dX1_saveTo_13 rfl (lv_at hl 0 rfl) ?_
      refine va_get (D := (dC, dI)) (ci := 1) (v := .ref (x 22)) (C := RX1) (T := TX1) (N := 2) hx hb hts inB_1 hown hE.1 hP 22 rfl rfl 1 (by decide) (hts _ k_319) (fun _ h9 => h9) rfl dX1_saveTo_14 ?_
      refine lv_iconst (v := 0) hx hb dX1_saveTo_17 (by decide) ?_
      refine lv_aload_n hx hb dX1_saveTo_18 rfl (lv_at hl 1 rfl) ?_
      refine lv_iload_n hx hb dX1_saveTo_19 rfl (lv_at hl 2 rfl) ?_
      refine lv_bipush (v := 44) hx hb dX1_saveTo_20 (by decide) ?_
      refine lv_imul hx hb dX1_saveTo_22 ?_
      refine lv_topi (fun t3 et3 => ?_)
      have rg4 := fb_rng p2
      have zt3 : t3.toInt = p2.toInt * 44 := by rw [et3]; exact mul_i rfl (by decide) (by omega) (by omega)
      refine lv_bipush (v := 44) hx hb dX1_saveTo_23 (by decide) ?_
      refine cpG (zs := 0) (zd := t3.toInt) (zn := 44) hx hb (by rw [hml]; exact hl.1.symm) hown (hts _ k_335) (hts _ k_337) (hts _ k_336) (hts _ k_108) hE hP hD hS 23 25 rfl rfl (by decide) rfl (by decide) (by omega) (by omega) (by omega) (by omega) (by omega) (Nat.le_of_ble_eq_true rfl) (Nat.le_of_ble_eq_true rfl) dX1_saveTo_25 (fun g9 H locs hP hD hS => ?_)
      obtain ⟨f5, hP, hD⟩ : ∃ fz9, va_P (dC, dI) vwCl (XW cy x0 x v fz9) H ∧ va_D A (XW cy x0 x v fz9) := ⟨upd2 f 17 g9, hP, hD⟩
      exact ret (v, f5) _ _ _ _ _ _ ⟨hIv, rfl, rfl, rfl, rfl, rfl, rfl⟩ hP hD hS dX1_saveTo_28 (Nat.le_refl _) (Nat.le_refl _)
set_option maxHeartbeats 4000000 in
set_option maxRecDepth 100000 in
theorem sX_X5_keepAct_1 (l : Launch) (dC : Nat → ClassId) (dI : Nat → Nat → Nat) (cy : Nat → ClassId) (x0 : Nat) (x : Nat → Nat)  (v : Nat → Int32) (f : Nat → Nat → Int32) (hIv : XI v)  : ctV l (dC, dI) cy yX5_keepAct cX5_keepAct 1 2 122 0 0 ((Nat → Int32) × (Nat → Nat → Int32)) [.ref (x 20)] (XW cy x0 x v f) (fun u => XI u.1 ∧ u.1 0 = v 0 ∧ u.1 1 = v 1 ∧ u.1 9 = v 9 ∧ u.1 10 = v 10 ∧ u.1 31 = v 31 ∧ u.1 32 = v 32) (fun u => XW cy x0 x u.1 u.2) := by
  refine ctV_of (by decide) (Nat.le_of_ble_eq_true rfl) (fun p e s m below meth c A ls Q hx hb hml hts hown hnm hE hP hD hA hl ret => ?_)
  have hown : s.vm.findClass RX5 = some m.cls := hown
  have hS : va_S A s.heap s.heap [] := va_S.rf
  have hl : lv_has ls 1 [(0, .ref (x 20))] := hl
  refine lv_aload_n hx hb dX5_keepAct_0 rfl (lv_at hl 0 rfl) ?_
  refine lv_iconst (v := 0) hx hb dX5_keepAct_1 (by decide) ?_
  refine va_put (D := (dC, dI)) (ci := 5) (v := .int 0) (ty := tyX5 6) (C := RX5) (T := TX5) (N := 7) hx hb hts inB_5 tyX5 tyX5_ok nmX5 hown hE.1 hP hD hS 21 rfl rfl 6 (by decide) (hts _ k_345) (fun _ h9 => h9) rfl (tyX5_ok 6 (by decide)) rfl rfl (Nat.le_of_ble_eq_true rfl) dX5_keepAct_2 (fun H locs hP hD hS => ?_)
  have hP : va_P (dC, dI) vwCl (XW cy x0 x (upd v 23 0) f) H := hP
  have hD : va_D A (XW cy x0 x (upd v 23 0) f) := hD
  refine lv_aload_n hx hb dX5_keepAct_5 rfl (lv_at hl 0 rfl) ?_
  refine va_get (D := (dC, dI)) (ci := 5) (v := .int (v 22)) (C := RX5) (T := TX5) (N := 7) hx hb hts inB_5 hown hE.1 hP 21 rfl rfl 5 (by decide) (hts _ k_343) (fun _ h9 => h9) rfl dX5_keepAct_6 ?_
  refine lv_bipush (v := 40) hx hb dX5_keepAct_9 (by decide) ?_
  refine lv_icmp_ge (tgt := 27) hx hb dX5_keepAct_11 (by decide) (fun c1 => ?_) (fun c1 => ?_)
  · skip
    have zc1 : 40 ≤ (v 22).toInt := by rw [fa_le, show (40 : Int32).toInt = 40 from by decide] at c1; exact c1
    refine lv_aload_n hx hb dX5_keepAct_27 rfl (lv_at hl 0 rfl) ?_
    refine lv_aload_n hx hb dX5_keepAct_28 rfl (lv_at hl 0 rfl) ?_
    refine va_get (D := (dC, dI)) (ci := 5) (v := .int (v 21)) (C := RX5) (T := TX5) (N := 7) hx hb hts inB_5 hown hE.1 hP 21 rfl rfl 4 (by decide) (hts _ k_342) (fun _ h9 => h9) rfl dX5_keepAct_29 ?_
    refine lv_iconst (v := 1) hx hb dX5_keepAct_32 (by decide) ?_
    refine lv_iadd hx hb dX5_keepAct_33 ?_
    refine lv_topi (fun t2 et2 => ?_)
    refine lv_bipush (v := 41) hx hb dX5_keepAct_34 (by decide) ?_
    refine lv_irem hx hb dX5_keepAct_36 (by decide) ?_
    refine lv_topi (fun t3 et3 => ?_)
    refine va_put (D := (dC, dI)) (ci := 5) (v := .int t3) (ty := tyX5 4) (C := RX5) (T := TX5) (N := 7) hx hb hts inB_5 tyX5 tyX5_ok nmX5 hown hE.1 hP hD hS 21 rfl rfl 4 (by decide) (hts _ k_342) (fun _ h9 => h9) rfl (tyX5_ok 4 (by decide)) rfl rfl (Nat.le_of_ble_eq_true rfl) dX5_keepAct_37 (fun H locs hP hD hS => ?_)
    have hP : va_P (dC, dI) vwCl (XW cy x0 x (upd (upd v 23 0) 21 t3) f) H := hP
    have hD : va_D A (XW cy x0 x (upd (upd v 23 0) 21 t3) f) := hD
    refine lv_aload_n hx hb dX5_keepAct_40 rfl (lv_at hl 0 rfl) ?_
    refine va_get (D := (dC, dI)) (ci := 5) (v := .ref (x 21)) (C := RX5) (T := TX5) (N := 7) hx hb hts inB_5 hown hE.1 hP 21 rfl rfl 0 (by decide) (hts _ k_338) (fun _ h9 => h9) rfl dX5_keepAct_41 ?_
    refine lv_aload_n hx hb dX5_keepAct_44 rfl (lv_at hl 0 rfl) ?_
    refine va_get (D := (dC, dI)) (ci := 5) (v := .ref (x 24)) (C := RX5) (T := TX5) (N := 7) hx hb hts inB_5 hown hE.1 hP 21 rfl rfl 1 (by decide) (hts _ k_339) (fun _ h9 => h9) rfl dX5_keepAct_45 ?_
    refine lv_aload_n hx hb dX5_keepAct_48 rfl (lv_at hl 0 rfl) ?_
    refine va_get (D := (dC, dI)) (ci := 5) (v := .int t3) (C := RX5) (T := TX5) (N := 7) hx hb hts inB_5 hown hE.1 hP 21 rfl rfl 4 (by decide) (hts _ k_342) (fun _ h9 => h9) rfl dX5_keepAct_49 ?_
    refine lv_aload_n hx hb dX5_keepAct_52 rfl (lv_at hl 0 rfl) ?_
    refine va_get (D := (dC, dI)) (ci := 5) (v := .int (v 22)) (C := RX5) (T := TX5) (N := 7) hx hb hts inB_5 hown hE.1 hP 21 rfl rfl 5 (by decide) (hts _ k_343) (fun _ h9 => h9) rfl dX5_keepAct_53 ?_
    refine lv_iadd hx hb dX5_keepAct_56 ?_
    refine lv_topi (fun t4 et4 => ?_)
    refine lv_bipush (v := 41) hx hb dX5_keepAct_57 (by decide) ?_
    refine lv_irem hx hb dX5_keepAct_59 (by decide) ?_
    refine lv_topi (fun t5 et5 => ?_)
    refine cbVv (n := 2) (rest := []) hx hb hml hown hts hE hP hD hS hA (sX_X1_saveTo_1 l dC dI cy x0 x t5 (upd (upd v 23 0) 21 t3) f (XI.upd (j := 21) (x := t3) (XI.upd (j := 23) (x := 0) hIv (rlo _) (rhi _)) (rlo _) (rhi _)) ) k_331 k_332 k_333 k_106 k_334 (by decide +kernel) ⟨Nat.le_of_ble_eq_true rfl, Nat.le_of_ble_eq_true rfl⟩ 22 1 rfl rfl (rfl) hl.1 rfl (Nat.le_of_ble_eq_true rfl) dX5_keepAct_60 (fun u H locs hw hP hD hS => ?_)
    obtain ⟨v6, f7⟩ := u
    obtain ⟨hIv6, hk0_v6, hk1_v6, hk9_v6, hk10_v6, hk31_v6, hk32_v6⟩ := hw
    have hP : va_P (dC, dI) vwCl (XW cy x0 x v6 f7) H := hP
    have hD : va_D A (XW cy x0 x v6 f7) := hD
    have hq0_v6 : v6 0 = (v 0) := hk0_v6
    have hq1_v6 : v6 1 = (v 1) := hk1_v6
    have hq9_v6 : v6 9 = (v 9) := hk9_v6
    have hq10_v6 : v6 10 = (v 10) := hk10_v6
    have hq31_v6 : v6 31 = (v 31) := hk31_v6
    have hq32_v6 : v6 32 = (v 32) := hk32_v6
    exact ret (v6, f7) _ _ _ _ _ _ ⟨hIv6, hk0_v6, hk1_v6, hk9_v6, hk10_v6, hk31_v6, hk32_v6⟩ hP hD hS dX5_keepAct_63 (Nat.le_refl _) (Nat.le_refl _)
  · skip
    have zc1 : ¬ (40 ≤ (v 22).toInt) := by rw [fa_le, show (40 : Int32).toInt = 40 from by decide] at c1; exact c1
    refine lv_aload_n hx hb dX5_keepAct_14 rfl (lv_at hl 0 rfl) ?_
    refine lv_dup hx hb dX5_keepAct_15 rfl ?_
    refine va_get (D := (dC, dI)) (ci := 5) (v := .int (v 22)) (C := RX5) (T := TX5) (N := 7) hx hb hts inB_5 hown hE.1 hP 21 rfl rfl 5 (by decide) (hts _ k_343) (fun _ h9 => h9) rfl dX5_keepAct_16 ?_
    refine lv_iconst (v := 1) hx hb dX5_keepAct_19 (by decide) ?_
    refine lv_iadd hx hb dX5_keepAct_20 ?_
    refine lv_topi (fun t8 et8 => ?_)
    have rg9 := fb_rng (v 22)
    have zt8 : t8.toInt = (v 22).toInt + 1 := by rw [et8]; exact add_i rfl (by decide) (by omega) (by omega)
    refine va_put (D := (dC, dI)) (ci := 5) (v := .int t8) (ty := tyX5 5) (C := RX5) (T := TX5) (N := 7) hx hb hts inB_5 tyX5 tyX5_ok nmX5 hown hE.1 hP hD hS 21 rfl rfl 5 (by decide) (hts _ k_343) (fun _ h9 => h9) rfl (tyX5_ok 5 (by decide)) rfl rfl (Nat.le_of_ble_eq_true rfl) dX5_keepAct_21 (fun H locs hP hD hS => ?_)
    have hP : va_P (dC, dI) vwCl (XW cy x0 x (upd (upd v 23 0) 22 t8) f) H := hP
    have hD : va_D A (XW cy x0 x (upd (upd v 23 0) 22 t8) f) := hD
    refine lv_goto (tgt := 40) hx hb dX5_keepAct_24 (by decide) ?_
    refine lv_aload_n hx hb dX5_keepAct_40 rfl (lv_at hl 0 rfl) ?_
    refine va_get (D := (dC, dI)) (ci := 5) (v := .ref (x 21)) (C := RX5) (T := TX5) (N := 7) hx hb hts inB_5 hown hE.1 hP 21 rfl rfl 0 (by decide) (hts _ k_338) (fun _ h9 => h9) rfl dX5_keepAct_41 ?_
    refine lv_aload_n hx hb dX5_keepAct_44 rfl (lv_at hl 0 rfl) ?_
    refine va_get (D := (dC, dI)) (ci := 5) (v := .ref (x 24)) (C := RX5) (T := TX5) (N := 7) hx hb hts inB_5 hown hE.1 hP 21 rfl rfl 1 (by decide) (hts _ k_339) (fun _ h9 => h9) rfl dX5_keepAct_45 ?_
    refine lv_aload_n hx hb dX5_keepAct_48 rfl (lv_at hl 0 rfl) ?_
    refine va_get (D := (dC, dI)) (ci := 5) (v := .int (v 21)) (C := RX5) (T := TX5) (N := 7) hx hb hts inB_5 hown hE.1 hP 21 rfl rfl 4 (by decide) (hts _ k_342) (fun _ h9 => h9) rfl dX5_keepAct_49 ?_
    refine lv_aload_n hx hb dX5_keepAct_52 rfl (lv_at hl 0 rfl) ?_
    refine va_get (D := (dC, dI)) (ci := 5) (v := .int t8) (C := RX5) (T := TX5) (N := 7) hx hb hts inB_5 hown hE.1 hP 21 rfl rfl 5 (by decide) (hts _ k_343) (fun _ h9 => h9) rfl dX5_keepAct_53 ?_
    refine lv_iadd hx hb dX5_keepAct_56 ?_
    refine lv_topi (fun t10 et10 => ?_)
    refine lv_bipush (v := 41) hx hb dX5_keepAct_57 (by decide) ?_
    refine lv_irem hx hb dX5_keepAct_59 (by decide) ?_
    refine lv_topi (fun t11 et11 => ?_)
    refine cbVv (n := 2) (rest := []) hx hb hml hown hts hE hP hD hS hA (sX_X1_saveTo_1 l dC dI cy x0 x t11 (upd (upd v 23 0) 22 t8) f (XI.upd (j := 22) (x := t8) (XI.upd (j := 23) (x := 0) hIv (rlo _) (rhi _)) (rlo _) (rhi _)) ) k_331 k_332 k_333 k_106 k_334 (by decide +kernel) ⟨Nat.le_of_ble_eq_true rfl, Nat.le_of_ble_eq_true rfl⟩ 22 1 rfl rfl (rfl) hl.1 rfl (Nat.le_of_ble_eq_true rfl) dX5_keepAct_60 (fun u H locs hw hP hD hS => ?_)
    obtain ⟨v12, f13⟩ := u
    obtain ⟨hIv12, hk0_v12, hk1_v12, hk9_v12, hk10_v12, hk31_v12, hk32_v12⟩ := hw
    have hP : va_P (dC, dI) vwCl (XW cy x0 x v12 f13) H := hP
    have hD : va_D A (XW cy x0 x v12 f13) := hD
    have hq0_v12 : v12 0 = (v 0) := hk0_v12
    have hq1_v12 : v12 1 = (v 1) := hk1_v12
    have hq9_v12 : v12 9 = (v 9) := hk9_v12
    have hq10_v12 : v12 10 = (v 10) := hk10_v12
    have hq31_v12 : v12 31 = (v 31) := hk31_v12
    have hq32_v12 : v12 32 = (v 32) := hk32_v12
    exact ret (v12, f13) _ _ _ _ _ _ ⟨hIv12, hk0_v12, hk1_v12, hk9_v12, hk10_v12, hk31_v12, hk32_v12⟩ hP hD hS dX5_keepAct_63 (Nat.le_refl _) (Nat.le_refl _)
set_option maxHeartbeats 4000000 in
set_option maxRecDepth 100000 in
theorem sX_X10_day_1 (l : Launch) (dC : Nat → ClassId) (dI : Nat → Nat → Nat) (cy : Nat → ClassId) (x0 : Nat) (x : Nat → Nat)  (v : Nat → Int32) (f : Nat → Nat → Int32) (hIv : XI v)  : ctI l (dC, dI) cy yX10_day cX10_day 2 .int 6 179 0 0 ((Nat → Int32) × (Nat → Nat → Int32)) [.ref x0] (XW cy x0 x v f) (fun r u => XI u.1 ∧ u.1 0 = v 0 ∧ u.1 1 = v 1 ∧ u.1 9 = v 9 ∧ u.1 10 = v 10 ∧ u.1 31 = v 31 ∧ u.1 32 = v 32) (fun u => XW cy x0 x u.1 u.2) := by
  refine ctI_of (by decide) (Nat.le_of_ble_eq_true rfl) (fun p e s m below meth c A ls Q hx hb hml hts hown hE hP hD hA hl ret => ?_)
  have hown : s.vm.findClass RX10 = some m.cls := hown
  have hS : va_S A s.heap s.heap [] := va_S.rf
  have hl : lv_has ls 2 [(0, .ref x0)] := hl
  refine lv_aload_n hx hb dX10_day_0 rfl (lv_at hl 0 rfl) ?_
  refine va_get (D := (dC, dI)) (ci := 10) (v := .ref (x 21)) (C := RX10) (T := TX10) (N := 10) hx hb hts inB_10 hown hE.1 hP 0 rfl rfl 3 (by decide) (hts _ k_494) (fun _ h9 => h9) rfl dX10_day_1 ?_
  refine cbVi (n := 0) (rest := []) hx hb hml hown hts hE hP hD hS hA (sX_X1_today_1 l dC dI cy x0 x  v f hIv ) k_864 k_832 k_833 k_106 k_834 (by decide +kernel) ⟨Nat.le_of_ble_eq_true rfl, Nat.le_of_ble_eq_true rfl⟩ 22 1 rfl rfl (rfl) hl.1 rfl (Nat.le_of_ble_eq_true rfl) dX10_day_4 (fun r1 u H locs hw hP hD hS => ?_)
  refine lv_sipush (v := 999) hx hb dX10_day_7 (by decide) ?_
  refine lv_icmp_lt (tgt := 15) hx hb dX10_day_10 (by decide) (fun c2 => ?_) (fun c2 => ?_)
  · skip
    have zc2 : r1.toInt < 999 := by rw [fa_lt, show (999 : Int32).toInt = 999 from by decide] at c2; exact c2
    refine lv_aload_n hx hb dX10_day_15 rfl (lv_at hl 0 rfl) ?_
    refine va_get (D := (dC, dI)) (ci := 10) (v := .ref (x 21)) (C := RX10) (T := TX10) (N := 10) hx hb hts inB_10 hown hE.1 hP 0 rfl rfl 3 (by decide) (hts _ k_494) (fun _ h9 => h9) rfl dX10_day_16 ?_
    refine lv_aload_n hx hb dX10_day_19 rfl (lv_at hl 0 rfl) ?_
    refine va_get (D := (dC, dI)) (ci := 10) (v := .ref (x 26)) (C := RX10) (T := TX10) (N := 10) hx hb hts inB_10 hown hE.1 hP 0 rfl rfl 2 (by decide) (hts _ k_493) (fun _ h9 => h9) rfl dX10_day_20 ?_
    refine va_getN (D := (dC, dI)) (ci := 7) (v := .int (v 36)) (C := RX7) (T := TX7) (N := 10) hx hb hts inB_7 hown hE.1 hP 27 rfl rfl 8 (by decide) (va_Nw.use rfl (hE.2 _ k_241)) (fun _ h9 => h9) rfl dX10_day_23 ?_
    refine cbVi (n := 1) (rest := []) hx hb hml hown hts hE hP hD hS hA (sX_X1_passDay_1 l dC dI cy x0 x (v 36) v f hIv ) k_865 k_866 k_867 k_106 k_868 (by decide +kernel) ⟨Nat.le_of_ble_eq_true rfl, Nat.le_of_ble_eq_true rfl⟩ 22 1 rfl rfl (rfl) hl.1 rfl (Nat.le_of_ble_eq_true rfl) dX10_day_26 (fun r3 u H locs hw hP hD hS => ?_)
    obtain ⟨v4, f5⟩ := u
    obtain ⟨hIv4, hk0_v4, hk1_v4, hk9_v4, hk10_v4, hk31_v4, hk32_v4⟩ := hw
    have hP : va_P (dC, dI) vwCl (XW cy x0 x v4 f5) H := hP
    have hD : va_D A (XW cy x0 x v4 f5) := hD
    have hq0_v4 : v4 0 = (v 0) := hk0_v4
    have hq1_v4 : v4 1 = (v 1) := hk1_v4
    have hq9_v4 : v4 9 = (v 9) := hk9_v4
    have hq10_v4 : v4 10 = (v 10) := hk10_v4
    have hq31_v4 : v4 31 = (v 31) := hk31_v4
    have hq32_v4 : v4 32 = (v 32) := hk32_v4
    refine lv_istore_n (lv' := [(1, .int r3), (0, .ref x0)]) hx hb dX10_day_29 rfl hl (by decide) rfl (fun ls hl => ?_)
    refine lv_aload_n hx hb dX10_day_30 rfl (lv_at hl 1 rfl) ?_
    refine va_get (D := (dC, dI)) (ci := 10) (v := .ref (x 20)) (C := RX10) (T := TX10) (N := 10) hx hb hts inB_10 hown hE.1 hP 0 rfl rfl 4 (by decide) (hts _ k_495) (fun _ h9 => h9) rfl dX10_day_31 ?_
    refine cbVv (n := 0) (rest := []) hx hb hml hown hts hE hP hD hS hA (sX_X5_keepAct_1 l dC dI cy x0 x  v4 f5 hIv4 ) k_883 k_884 k_885 k_107 k_886 (by decide +kernel) ⟨Nat.le_of_ble_eq_true rfl, Nat.le_of_ble_eq_true rfl⟩ 21 5 rfl rfl (rfl) hl.1 rfl (Nat.le_of_ble_eq_true rfl) dX10_day_34 (fun u H locs hw hP hD hS => ?_)
    obtain ⟨v6, f7⟩ := u
    obtain ⟨hIv6, hk0_v6, hk1_v6, hk9_v6, hk10_v6, hk31_v6, hk32_v6⟩ := hw
    have hP : va_P (dC, dI) vwCl (XW cy x0 x v6 f7) H := hP
    have hD : va_D A (XW cy x0 x v6 f7) := hD
    have hq0_v6 : v6 0 = (v 0) := hk0_v6.trans hq0_v4
    have hq1_v6 : v6 1 = (v 1) := hk1_v6.trans hq1_v4
    have hq9_v6 : v6 9 = (v 9) := hk9_v6.trans hq9_v4
    have hq10_v6 : v6 10 = (v 10) := hk10_v6.trans hq10_v4
    have hq31_v6 : v6 31 = (v 31) := hk31_v6.trans hq31_v4
    have hq32_v6 : v6 32 = (v 32) := hk32_v6.trans hq32_v4
    refine lv_iload_n hx hb dX10_day_37 rfl (lv_at hl 0 rfl) ?_
    exact ret r3 (v6, f7) _ _ _ _ _ _ rfl ⟨hIv6, (hk0_v6.trans hk0_v4), (hk1_v6.trans hk1_v4), (hk9_v6.trans hk9_v4), (hk10_v6.trans hk10_v4), (hk31_v6.trans hk31_v4), (hk32_v6.trans hk32_v4)⟩ hP hD hS dX10_day_38 (Nat.le_refl _) (Nat.le_refl _)
  · skip
    have zc2 : ¬ (r1.toInt < 999) := by rw [fa_lt, show (999 : Int32).toInt = 999 from by decide] at c2; exact c2
    refine lv_iconst (v := (-1)) hx hb dX10_day_13 (by decide) ?_
    exact ret (-1) (v, f) _ _ _ _ _ _ rfl ⟨hIv, rfl, rfl, rfl, rfl, rfl, rfl⟩ hP hD hS dX10_day_14 (Nat.le_refl _) (Nat.le_refl _)
