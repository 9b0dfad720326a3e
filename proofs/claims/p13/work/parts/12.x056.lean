set_option maxHeartbeats 4000000 in
set_option maxRecDepth 100000 in
theorem sX_X3_changedCount_1 (l : Launch) (dC : Nat → ClassId) (dI : Nat → Nat → Nat) (cy : Nat → ClassId) (x0 : Nat) (x : Nat → Nat) (p1 : Int32) (p2 : Int32) (v : Nat → Int32) (f : Nat → Nat → Int32) (hIv : XI v)  : ctI l (dC, dI) cy yX3_changedCount cX3_changedCount 6 .int 5 155 0 0 ((Nat → Int32) × (Nat → Nat → Int32)) [.ref (x 25), .int p1, .int p2] (XW cy x0 x v f) (fun r u => KV [] u.1 v ∧ KF [13, 14] u.2 f ∧ XI u.1 ∧ u.1 0 = v 0 ∧ u.1 1 = v 1 ∧ u.1 7 = v 7 ∧ u.1 8 = v 8 ∧ u.1 9 = v 9 ∧ u.1 10 = v 10 ∧ u.1 31 = v 31 ∧ u.1 32 = v 32) (fun u => XW cy x0 x u.1 u.2) := by
  refine ctI_of (by decide) (Nat.le_of_ble_eq_true rfl) (fun p e s m below meth c A ls Q hx hb hml hts hown hE hP hD hA hl ret => ?_)
  have hM_v : KV [] v v := fun _ _ => rfl
  have hA_f : KF [13, 14] f f := fun _ _ => rfl
  have hown : s.vm.findClass RX3 = some m.cls := hown
  have hS : va_S A s.heap s.heap [] := va_S.rf
  have hl : lv_has ls 6 [(0, .ref (x 25)), (1, .int p1), (2, .int p2)] := hl
  refine lv_iconst (v := 0) hx hb dX3_changedCount_0 (by decide) ?_
  refine lv_istore_n (lv' := [(3, .int 0), (0, .ref (x 25)), (1, .int p1), (2, .int p2)]) hx hb dX3_changedCount_1 rfl hl (by decide) rfl (fun ls hl => ?_)
  refine lv_iconst (v := 0) hx hb dX3_changedCount_2 (by decide) ?_
  refine lv_istore (lv' := [(4, .int 0), (3, .int 0), (0, .ref (x 25)), (1, .int p1), (2, .int p2)]) hx hb dX3_changedCount_3 hl (by decide) rfl (fun ls hl => ?_)
  have lp1 : ∀ (n1 : Nat) (l3_1 : Int32) (l4_1 : Int32) (v1 : Nat → Int32) (f1 : Nat → Nat → Int32), XI v1 → v1 0 = (v 0) → v1 1 = (v 1) → v1 7 = (v 7) → v1 8 = (v 8) → v1 9 = (v 9) → v1 10 = (v 10) → v1 31 = (v 31) → v1 32 = (v 32) → ((0 : Int) ≤ l4_1.toInt ∧ l4_1.toInt ≤ 2147483647) → KV [] v1 v → KF [13, 14] f1 f → (2147483647 - l4_1.toInt).toNat < n1 → ∀ (H : Heap) (locs : List Loc) (ls : Array Slot), va_P (dC, dI) vwCl (XW cy x0 x v1 f1) H → va_D A (XW cy x0 x v1 f1) → va_S A s.heap H locs → lv_has ls 6 [(4, .int l4_1), (3, .int l3_1), (0, .ref (x 25)), (1, .int p1), (2, .int p2)] → W p l e { frames := 5, cells := 0, slots := 0, locals := 155 } s m ([.ref (x 25), .int p1, .int p2] : List Value).toArray below meth c H locs 0 0 Q (F0 m 5 ls []) := by
    intro n1
    induction n1 with
    | zero => intro l3_1 l4_1 v1 f1 hIv1 hq0_v1 hq1_v1 hq7_v1 hq8_v1 hq9_v1 hq10_v1 hq31_v1 hq32_v1 hr4_1 hM_v1 hA_f1 hm; exact absurd hm (Nat.not_lt_zero _)
    | succ n1 ih1 =>
      intro l3_1 l4_1 v1 f1 hIv1 hq0_v1 hq1_v1 hq7_v1 hq8_v1 hq9_v1 hq10_v1 hq31_v1 hq32_v1 hr4_1 hM_v1 hA_f1 hm1 H locs ls hP hD hS hl
      refine lv_iload hx hb dX3_changedCount_5 (lv_at hl 0 rfl) ?_
      refine lv_aload_n hx hb dX3_changedCount_7 rfl (lv_at hl 2 rfl) ?_
      refine va_get (D := (dC, dI)) (ci := 3) (v := .ref (x 26)) (C := RX3) (T := TX3) (N := 10) hx hb hts inB_3 hown hE.1 hP 26 rfl rfl 0 (by decide) (hts _ k_370) (fun _ h9 => h9) rfl dX3_changedCount_8 ?_
      refine va_getN (D := (dC, dI)) (ci := 7) (v := .int (v1 31)) (C := RX7) (T := TX7) (N := 10) hx hb hts inB_7 hown hE.1 hP 27 rfl rfl 3 (by decide) (va_Nw.use rfl (hE.2 _ k_217)) (fun _ h9 => h9) rfl dX3_changedCount_11 ?_
      refine tI (y := (v 31)) hq31_v1 ?_
      have b31_v : 0 ≤ (v 31).toInt ∧ (v 31).toInt ≤ 6 := XI.b hIv 31 (by decide)
      refine lv_icmp_ge (tgt := 71) hx hb dX3_changedCount_14 (by decide) (fun c2 => ?_) (fun c2 => ?_)
      · skip
        have zc2 : (v 31).toInt ≤ l4_1.toInt := by rw [fa_le] at c2; exact c2
        have rg3 := fb_rng l4_1
        have rg4 := fb_rng (v 31)
        refine lv_iload_n hx hb dX3_changedCount_71 rfl (lv_at hl 1 rfl) ?_
        exact ret l3_1 (v1, f1) _ _ _ _ _ _ rfl ⟨hM_v1, hA_f1, hIv1, (show v1 0 = v 0 from hq0_v1), (show v1 1 = v 1 from hq1_v1), (show v1 7 = v 7 from hq7_v1), (show v1 8 = v 8 from hq8_v1), (show v1 9 = v 9 from hq9_v1), (show v1 10 = v 10 from hq10_v1), (show v1 31 = v 31 from hq31_v1), (show v1 32 = v 32 from hq32_v1)⟩ hP hD hS dX3_changedCount_72 (Nat.le_refl _) (Nat.le_refl _)
      · skip
        have zc2 : ¬ ((v 31).toInt ≤ l4_1.toInt) := by rw [fa_le] at c2; exact c2
        have rg5 := fb_rng l4_1
        have rg6 := fb_rng (v 31)
        refine lv_iload hx hb dX3_changedCount_17 (lv_at hl 0 rfl) ?_
        refine lv_iload_n hx hb dX3_changedCount_19 rfl (lv_at hl 3 rfl) ?_
        refine lv_icmp_ne (tgt := 27) hx hb dX3_changedCount_20 (by decide) (fun c7 => ?_) (fun c7 => ?_)
        · skip
          have zc7 : ¬ (l4_1.toInt = p1.toInt) := by rw [fa_eq] at c7; exact c7
          have rg8 := fb_rng p1
          refine lv_iload hx hb dX3_changedCount_27 (lv_at hl 0 rfl) ?_
          refine lv_iload_n hx hb dX3_changedCount_29 rfl (lv_at hl 4 rfl) ?_
          refine lv_icmp_ne (tgt := 37) hx hb dX3_changedCount_30 (by decide) (fun c9 => ?_) (fun c9 => ?_)
          · skip
            have zc9 : ¬ (l4_1.toInt = p2.toInt) := by rw [fa_eq] at c9; exact c9
            have rg10 := fb_rng p2
            refine lv_iload hx hb dX3_changedCount_37 (lv_at hl 0 rfl) ?_
            refine lv_istore (lv' := [(5, .int l4_1), (4, .int l4_1), (3, .int l3_1), (0, .ref (x 25)), (1, .int p1), (2, .int p2)]) hx hb dX3_changedCount_39 hl (by decide) rfl (fun ls hl => ?_)
            refine lv_aload_n hx hb dX3_changedCount_41 rfl (lv_at hl 3 rfl) ?_
            refine va_get (D := (dC, dI)) (ci := 3) (v := .ref (x 21)) (C := RX3) (T := TX3) (N := 10) hx hb hts inB_3 hown hE.1 hP 26 rfl rfl 1 (by decide) (hts _ k_371) (fun _ h9 => h9) rfl dX3_changedCount_42 ?_
            refine lv_iload hx hb dX3_changedCount_45 (lv_at hl 1 rfl) ?_
            refine lv_aload_n hx hb dX3_changedCount_47 rfl (lv_at hl 3 rfl) ?_
            refine va_get (D := (dC, dI)) (ci := 3) (v := .ref (x 21)) (C := RX3) (T := TX3) (N := 10) hx hb hts inB_3 hown hE.1 hP 26 rfl rfl 1 (by decide) (hts _ k_371) (fun _ h9 => h9) rfl dX3_changedCount_48 ?_
            refine lv_iload hx hb dX3_changedCount_51 (lv_at hl 0 rfl) ?_
            refine cbVi (n := 1) (rest := [.int l4_1, .ref (x 21)]) hx hb hml hown hts hE hP hD hS hA (sX_X1_wears_1 0 l dC dI cy x0 x l4_1 v1 f1 hIv1 ) k_950 k_810 k_811 k_106 k_812 (by decide +kernel) ⟨Nat.le_of_ble_eq_true rfl, Nat.le_of_ble_eq_true rfl⟩ 22 1 rfl rfl (rfl) hl.1 rfl (Nat.le_of_ble_eq_true rfl) dX3_changedCount_53 (fun r11 u H locs hw hP hD hS => ?_)
            have hG12 := hw
            refine cbVi (n := 2) (rest := []) hx hb hml hown hts hE hP hD hS hA (sX_X1_fits_1 0 l dC dI cy x0 x l4_1 r11 v1 f1 hIv1 ) k_1032 k_818 k_819 k_106 k_820 (by decide +kernel) ⟨Nat.le_of_ble_eq_true rfl, Nat.le_of_ble_eq_true rfl⟩ 22 1 rfl rfl (rfl) hl.1 rfl (Nat.le_of_ble_eq_true rfl) dX3_changedCount_56 (fun r13 u H locs hw hP hD hS => ?_)
            obtain ⟨hG14, hw⟩ := hw
            obtain ⟨v15, f16⟩ := u
            obtain ⟨kV_v15, kF_f16, hIv15, hk0_v15, hk1_v15, hk7_v15, hk8_v15, hk9_v15, hk10_v15, hk31_v15, hk32_v15, hw⟩ := hw
            have hM_v15 : KV [] v15 v := KV.tr kV_v15 hM_v1 rfl
            have hA_f16 : KF [13, 14] f16 f := KF.tr kF_f16 hA_f1 rfl
            have hP : va_P (dC, dI) vwCl (XW cy x0 x v15 f16) H := hP
            have hD : va_D A (XW cy x0 x v15 f16) := hD
            have hq0_v15 : v15 0 = (v 0) := hk0_v15.trans hq0_v1
            have hq1_v15 : v15 1 = (v 1) := hk1_v15.trans hq1_v1
            have hq7_v15 : v15 7 = (v 7) := hk7_v15.trans hq7_v1
            have hq8_v15 : v15 8 = (v 8) := hk8_v15.trans hq8_v1
            have hq9_v15 : v15 9 = (v 9) := hk9_v15.trans hq9_v1
            have hq10_v15 : v15 10 = (v 10) := hk10_v15.trans hq10_v1
            have hq31_v15 : v15 31 = (v 31) := hk31_v15.trans hq31_v1
            have hq32_v15 : v15 32 = (v 32) := hk32_v15.trans hq32_v1
            rcases hw with ⟨g17⟩ | ⟨g17⟩
            · skip
              subst g17
              refine lv_if_eq (tgt := 65) hx hb dX3_changedCount_59 (by decide) (fun c0 => absurd c0 (by decide)) (fun _ => ?_)
              obtain ⟨t18, et18⟩ : ∃ y : Int32, y = l3_1 + 1 := ⟨_, rfl⟩
              refine lv_iinc (v := t18) (lv' := [(3, .int t18), (5, .int l4_1), (4, .int l4_1), (0, .ref (x 25)), (1, .int p1), (2, .int p2)]) hx hb dX3_changedCount_62 hl (k := 2) rfl (by rw [et18]; rfl) (by decide) rfl (fun ls hl => ?_)
              obtain ⟨t19, et19⟩ : ∃ y : Int32, y = l4_1 + 1 := ⟨_, rfl⟩
              have zt19 : t19.toInt = l4_1.toInt + 1 := by rw [et19]; exact add_i rfl (by decide) (by omega) (by omega)
              refine lv_iinc (v := t19) (lv' := [(4, .int t19), (3, .int t18), (5, .int l4_1), (0, .ref (x 25)), (1, .int p1), (2, .int p2)]) hx hb dX3_changedCount_65 hl (k := 2) rfl (by rw [et19]; rfl) (by decide) rfl (fun ls hl => ?_)
              refine lv_goto (tgt := 5) hx hb dX3_changedCount_68 (by decide) ?_
              have rg20 := fb_rng t19
              exact ih1 t18 t19 v15 f16 hIv15 hq0_v15 hq1_v15 hq7_v15 hq8_v15 hq9_v15 hq10_v15 hq31_v15 hq32_v15 ⟨show (0 : Int) ≤ t19.toInt by omega, show t19.toInt ≤ (2147483647 : Int) by omega⟩ hM_v15 hA_f16 (by show (2147483647 - t19.toInt).toNat < n1; omega) _ _ _ hP hD hS (lv_sub hl [0, 1, 3, 4, 5] rfl)
            · skip
              subst g17
              refine lv_if_eq (tgt := 65) hx hb dX3_changedCount_59 (by decide) (fun _ => ?_) (fun c0 => absurd (by decide) c0)
              obtain ⟨t21, et21⟩ : ∃ y : Int32, y = l4_1 + 1 := ⟨_, rfl⟩
              have zt21 : t21.toInt = l4_1.toInt + 1 := by rw [et21]; exact add_i rfl (by decide) (by omega) (by omega)
              refine lv_iinc (v := t21) (lv' := [(4, .int t21), (5, .int l4_1), (3, .int l3_1), (0, .ref (x 25)), (1, .int p1), (2, .int p2)]) hx hb dX3_changedCount_65 hl (k := 1) rfl (by rw [et21]; rfl) (by decide) rfl (fun ls hl => ?_)
              refine lv_goto (tgt := 5) hx hb dX3_changedCount_68 (by decide) ?_
              have rg22 := fb_rng t21
              exact ih1 l3_1 t21 v15 f16 hIv15 hq0_v15 hq1_v15 hq7_v15 hq8_v15 hq9_v15 hq10_v15 hq31_v15 hq32_v15 ⟨show (0 : Int) ≤ t21.toInt by omega, show t21.toInt ≤ (2147483647 : Int) by omega⟩ hM_v15 hA_f16 (by show (2147483647 - t21.toInt).toNat < n1; omega) _ _ _ hP hD hS (lv_sub hl [0, 2, 3, 4, 5] rfl)
          · skip
            have zc9 : l4_1.toInt = p2.toInt := by rw [fa_eq] at c9; exact c9
            have rg23 := fb_rng p2
            refine lv_iload_n hx hb dX3_changedCount_33 rfl (lv_at hl 3 rfl) ?_
            refine lv_goto (tgt := 39) hx hb dX3_changedCount_34 (by decide) ?_
            refine lv_istore (lv' := [(5, .int p1), (4, .int l4_1), (3, .int l3_1), (0, .ref (x 25)), (1, .int p1), (2, .int p2)]) hx hb dX3_changedCount_39 hl (by decide) rfl (fun ls hl => ?_)
            refine lv_aload_n hx hb dX3_changedCount_41 rfl (lv_at hl 3 rfl) ?_
            refine va_get (D := (dC, dI)) (ci := 3) (v := .ref (x 21)) (C := RX3) (T := TX3) (N := 10) hx hb hts inB_3 hown hE.1 hP 26 rfl rfl 1 (by decide) (hts _ k_371) (fun _ h9 => h9) rfl dX3_changedCount_42 ?_
            refine lv_iload hx hb dX3_changedCount_45 (lv_at hl 1 rfl) ?_
            refine lv_aload_n hx hb dX3_changedCount_47 rfl (lv_at hl 3 rfl) ?_
            refine va_get (D := (dC, dI)) (ci := 3) (v := .ref (x 21)) (C := RX3) (T := TX3) (N := 10) hx hb hts inB_3 hown hE.1 hP 26 rfl rfl 1 (by decide) (hts _ k_371) (fun _ h9 => h9) rfl dX3_changedCount_48 ?_
            refine lv_iload hx hb dX3_changedCount_51 (lv_at hl 0 rfl) ?_
            refine cbVi (n := 1) (rest := [.int l4_1, .ref (x 21)]) hx hb hml hown hts hE hP hD hS hA (sX_X1_wears_1 0 l dC dI cy x0 x p1 v1 f1 hIv1 ) k_950 k_810 k_811 k_106 k_812 (by decide +kernel) ⟨Nat.le_of_ble_eq_true rfl, Nat.le_of_ble_eq_true rfl⟩ 22 1 rfl rfl (rfl) hl.1 rfl (Nat.le_of_ble_eq_true rfl) dX3_changedCount_53 (fun r24 u H locs hw hP hD hS => ?_)
            have hG25 := hw
            refine cbVi (n := 2) (rest := []) hx hb hml hown hts hE hP hD hS hA (sX_X1_fits_1 0 l dC dI cy x0 x l4_1 r24 v1 f1 hIv1 ) k_1032 k_818 k_819 k_106 k_820 (by decide +kernel) ⟨Nat.le_of_ble_eq_true rfl, Nat.le_of_ble_eq_true rfl⟩ 22 1 rfl rfl (rfl) hl.1 rfl (Nat.le_of_ble_eq_true rfl) dX3_changedCount_56 (fun r26 u H locs hw hP hD hS => ?_)
            obtain ⟨hG27, hw⟩ := hw
            obtain ⟨v28, f29⟩ := u
            obtain ⟨kV_v28, kF_f29, hIv28, hk0_v28, hk1_v28, hk7_v28, hk8_v28, hk9_v28, hk10_v28, hk31_v28, hk32_v28, hw⟩ := hw
            have hM_v28 : KV [] v28 v := KV.tr kV_v28 hM_v1 rfl
            have hA_f29 : KF [13, 14] f29 f := KF.tr kF_f29 hA_f1 rfl
            have hP : va_P (dC, dI) vwCl (XW cy x0 x v28 f29) H := hP
            have hD : va_D A (XW cy x0 x v28 f29) := hD
            have hq0_v28 : v28 0 = (v 0) := hk0_v28.trans hq0_v1
            have hq1_v28 : v28 1 = (v 1) := hk1_v28.trans hq1_v1
            have hq7_v28 : v28 7 = (v 7) := hk7_v28.trans hq7_v1
            have hq8_v28 : v28 8 = (v 8) := hk8_v28.trans hq8_v1
            have hq9_v28 : v28 9 = (v 9) := hk9_v28.trans hq9_v1
            have hq10_v28 : v28 10 = (v 10) := hk10_v28.trans hq10_v1
            have hq31_v28 : v28 31 = (v 31) := hk31_v28.trans hq31_v1
            have hq32_v28 : v28 32 = (v 32) := hk32_v28.trans hq32_v1
            rcases hw with ⟨g30⟩ | ⟨g30⟩
            · skip
              subst g30
              refine lv_if_eq (tgt := 65) hx hb dX3_changedCount_59 (by decide) (fun c0 => absurd c0 (by decide)) (fun _ => ?_)
              obtain ⟨t31, et31⟩ : ∃ y : Int32, y = l3_1 + 1 := ⟨_, rfl⟩
              refine lv_iinc (v := t31) (lv' := [(3, .int t31), (5, .int p1), (4, .int l4_1), (0, .ref (x 25)), (1, .int p1), (2, .int p2)]) hx hb dX3_changedCount_62 hl (k := 2) rfl (by rw [et31]; rfl) (by decide) rfl (fun ls hl => ?_)
              obtain ⟨t32, et32⟩ : ∃ y : Int32, y = l4_1 + 1 := ⟨_, rfl⟩
              have zt32 : t32.toInt = l4_1.toInt + 1 := by rw [et32]; exact add_i rfl (by decide) (by omega) (by omega)
              refine lv_iinc (v := t32) (lv' := [(4, .int t32), (3, .int t31), (5, .int p1), (0, .ref (x 25)), (1, .int p1), (2, .int p2)]) hx hb dX3_changedCount_65 hl (k := 2) rfl (by rw [et32]; rfl) (by decide) rfl (fun ls hl => ?_)
              refine lv_goto (tgt := 5) hx hb dX3_changedCount_68 (by decide) ?_
              have rg33 := fb_rng t32
              exact ih1 t31 t32 v28 f29 hIv28 hq0_v28 hq1_v28 hq7_v28 hq8_v28 hq9_v28 hq10_v28 hq31_v28 hq32_v28 ⟨show (0 : Int) ≤ t32.toInt by omega, show t32.toInt ≤ (2147483647 : Int) by omega⟩ hM_v28 hA_f29 (by show (2147483647 - t32.toInt).toNat < n1; omega) _ _ _ hP hD hS (lv_sub hl [0, 1, 3, 4, 5] rfl)
            · skip
              subst g30
              refine lv_if_eq (tgt := 65) hx hb dX3_changedCount_59 (by decide) (fun _ => ?_) (fun c0 => absurd (by decide) c0)
              obtain ⟨t34, et34⟩ : ∃ y : Int32, y = l4_1 + 1 := ⟨_, rfl⟩
              have zt34 : t34.toInt = l4_1.toInt + 1 := by rw [et34]; exact add_i rfl (by decide) (by omega) (by omega)
              refine lv_iinc (v := t34) (lv' := [(4, .int t34), (5, .int p1), (3, .int l3_1), (0, .ref (x 25)), (1, .int p1), (2, .int p2)]) hx hb dX3_changedCount_65 hl (k := 1) rfl (by rw [et34]; rfl) (by decide) rfl (fun ls hl => ?_)
              refine lv_goto (tgt := 5) hx hb dX3_changedCount_68 (by decide) ?_
              have rg35 := fb_rng t34
              exact ih1 l3_1 t34 v28 f29 hIv28 hq0_v28 hq1_v28 hq7_v28 hq8_v28 hq9_v28 hq10_v28 hq31_v28 hq32_v28 ⟨show (0 : Int) ≤ t34.toInt by omega, show t34.toInt ≤ (2147483647 : Int) by omega⟩ hM_v28 hA_f29 (by show (2147483647 - t34.toInt).toNat < n1; omega) _ _ _ hP hD hS (lv_sub hl [0, 2, 3, 4, 5] rfl)
        · skip
          have zc7 : l4_1.toInt = p1.toInt := by rw [fa_eq] at c7; exact c7
          have rg36 := fb_rng p1
          refine lv_iload_n hx hb dX3_changedCount_23 rfl (lv_at hl 4 rfl) ?_
          refine lv_goto (tgt := 39) hx hb dX3_changedCount_24 (by decide) ?_
          refine lv_istore (lv' := [(5, .int p2), (4, .int l4_1), (3, .int l3_1), (0, .ref (x 25)), (1, .int p1), (2, .int p2)]) hx hb dX3_changedCount_39 hl (by decide) rfl (fun ls hl => ?_)
          refine lv_aload_n hx hb dX3_changedCount_41 rfl (lv_at hl 3 rfl) ?_
          refine va_get (D := (dC, dI)) (ci := 3) (v := .ref (x 21)) (C := RX3) (T := TX3) (N := 10) hx hb hts inB_3 hown hE.1 hP 26 rfl rfl 1 (by decide) (hts _ k_371) (fun _ h9 => h9) rfl dX3_changedCount_42 ?_
          refine lv_iload hx hb dX3_changedCount_45 (lv_at hl 1 rfl) ?_
          refine lv_aload_n hx hb dX3_changedCount_47 rfl (lv_at hl 3 rfl) ?_
          refine va_get (D := (dC, dI)) (ci := 3) (v := .ref (x 21)) (C := RX3) (T := TX3) (N := 10) hx hb hts inB_3 hown hE.1 hP 26 rfl rfl 1 (by decide) (hts _ k_371) (fun _ h9 => h9) rfl dX3_changedCount_48 ?_
          refine lv_iload hx hb dX3_changedCount_51 (lv_at hl 0 rfl) ?_
          refine cbVi (n := 1) (rest := [.int l4_1, .ref (x 21)]) hx hb hml hown hts hE hP hD hS hA (sX_X1_wears_1 0 l dC dI cy x0 x p2 v1 f1 hIv1 ) k_950 k_810 k_811 k_106 k_812 (by decide +kernel) ⟨Nat.le_of_ble_eq_true rfl, Nat.le_of_ble_eq_true rfl⟩ 22 1 rfl rfl (rfl) hl.1 rfl (Nat.le_of_ble_eq_true rfl) dX3_changedCount_53 (fun r37 u H locs hw hP hD hS => ?_)
          have hG38 := hw
          refine cbVi (n := 2) (rest := []) hx hb hml hown hts hE hP hD hS hA (sX_X1_fits_1 0 l dC dI cy x0 x l4_1 r37 v1 f1 hIv1 ) k_1032 k_818 k_819 k_106 k_820 (by decide +kernel) ⟨Nat.le_of_ble_eq_true rfl, Nat.le_of_ble_eq_true rfl⟩ 22 1 rfl rfl (rfl) hl.1 rfl (Nat.le_of_ble_eq_true rfl) dX3_changedCount_56 (fun r39 u H locs hw hP hD hS => ?_)
          obtain ⟨hG40, hw⟩ := hw
          obtain ⟨v41, f42⟩ := u
          obtain ⟨kV_v41, kF_f42, hIv41, hk0_v41, hk1_v41, hk7_v41, hk8_v41, hk9_v41, hk10_v41, hk31_v41, hk32_v41, hw⟩ := hw
          have hM_v41 : KV [] v41 v := KV.tr kV_v41 hM_v1 rfl
          have hA_f42 : KF [13, 14] f42 f := KF.tr kF_f42 hA_f1 rfl
          have hP : va_P (dC, dI) vwCl (XW cy x0 x v41 f42) H := hP
          have hD : va_D A (XW cy x0 x v41 f42) := hD
          have hq0_v41 : v41 0 = (v 0) := hk0_v41.trans hq0_v1
          have hq1_v41 : v41 1 = (v 1) := hk1_v41.trans hq1_v1
          have hq7_v41 : v41 7 = (v 7) := hk7_v41.trans hq7_v1
          have hq8_v41 : v41 8 = (v 8) := hk8_v41.trans hq8_v1
          have hq9_v41 : v41 9 = (v 9) := hk9_v41.trans hq9_v1
          have hq10_v41 : v41 10 = (v 10) := hk10_v41.trans hq10_v1
          have hq31_v41 : v41 31 = (v 31) := hk31_v41.trans hq31_v1
          have hq32_v41 : v41 32 = (v 32) := hk32_v41.trans hq32_v1
          rcases hw with ⟨g43⟩ | ⟨g43⟩
          · skip
            subst g43
            refine lv_if_eq (tgt := 65) hx hb dX3_changedCount_59 (by decide) (fun c0 => absurd c0 (by decide)) (fun _ => ?_)
            obtain ⟨t44, et44⟩ : ∃ y : Int32, y = l3_1 + 1 := ⟨_, rfl⟩
            refine lv_iinc (v := t44) (lv' := [(3, .int t44), (5, .int p2), (4, .int l4_1), (0, .ref (x 25)), (1, .int p1), (2, .int p2)]) hx hb dX3_changedCount_62 hl (k := 2) rfl (by rw [et44]; rfl) (by decide) rfl (fun ls hl => ?_)
            obtain ⟨t45, et45⟩ : ∃ y : Int32, y = l4_1 + 1 := ⟨_, rfl⟩
            have zt45 : t45.toInt = l4_1.toInt + 1 := by rw [et45]; exact add_i rfl (by decide) (by omega) (by omega)
            refine lv_iinc (v := t45) (lv' := [(4, .int t45), (3, .int t44), (5, .int p2), (0, .ref (x 25)), (1, .int p1), (2, .int p2)]) hx hb dX3_changedCount_65 hl (k := 2) rfl (by rw [et45]; rfl) (by decide) rfl (fun ls hl => ?_)
            refine lv_goto (tgt := 5) hx hb dX3_changedCount_68 (by decide) ?_
            have rg46 := fb_rng t45
            exact ih1 t44 t45 v41 f42 hIv41 hq0_v41 hq1_v41 hq7_v41 hq8_v41 hq9_v41 hq10_v41 hq31_v41 hq32_v41 ⟨show (0 : Int) ≤ t45.toInt by omega, show t45.toInt ≤ (2147483647 : Int) by omega⟩ hM_v41 hA_f42 (by show (2147483647 - t45.toInt).toNat < n1; omega) _ _ _ hP hD hS (lv_sub hl [0, 1, 3, 4, 5] rfl)
          · skip
            subst g43
            refine lv_if_eq (tgt := 65) hx hb dX3_changedCount_59 (by decide) (fun _ => ?_) (fun c0 => absurd (by decide) c0)
            obtain ⟨t47, et47⟩ : ∃ y : Int32, y = l4_1 + 1 := ⟨_, rfl⟩
            have zt47 : t47.toInt = l4_1.toInt + 1 := by rw [et47]; exact add_i rfl (by decide) (by omega) (by omega)
            refine lv_iinc (v := t47) (lv' := [(4, .int t47), (5, .int p2), (3, .int l3_1), (0, .ref (x 25)), (1, .int p1), (2, .int p2)]) hx hb dX3_changedCount_65 hl (k := 1) rfl (by rw [et47]; rfl) (by decide) rfl (fun ls hl => ?_)
            refine lv_goto (tgt := 5) hx hb dX3_changedCount_68 (by decide) ?_
            have rg48 := fb_rng t47
            exact ih1 l3_1 t47 v41 f42 hIv41 hq0_v41 hq1_v41 hq7_v41 hq8_v41 hq9_v41 hq10_v41 hq31_v41 hq32_v41 ⟨show (0 : Int) ≤ t47.toInt by omega, show t47.toInt ≤ (2147483647 : Int) by omega⟩ hM_v41 hA_f42 (by show (2147483647 - t47.toInt).toNat < n1; omega) _ _ _ hP hD hS (lv_sub hl [0, 2, 3, 4, 5] rfl)
  exact lp1 _ 0 0 v f hIv rfl rfl rfl rfl rfl rfl rfl rfl ⟨by decide, by decide⟩ hM_v hA_f (Nat.lt_succ_self _) _ _ _ hP hD hS (lv_sub hl [0, 1, 2, 3, 4] rfl)
set_option maxHeartbeats 4000000 in
set_option maxRecDepth 100000 in
theorem sX_X3_findChange_1 (l : Launch) (dC : Nat → ClassId) (dI : Nat → Nat → Nat) (cy : Nat → ClassId) (x0 : Nat) (x : Nat → Nat)  (v : Nat → Int32) (f : Nat → Nat → Int32) (hIv : XI v)  : ctI l (dC, dI) cy yX3_findChange cX3_findChange 5 .boolean 6 180 0 0 ((Nat → Int32) × (Nat → Nat → Int32)) [.ref (x 25)] (XW cy x0 x v f) (fun r u => KV [28, 29, 30] u.1 v ∧ KF [13, 14] u.2 f ∧ XI u.1 ∧ u.1 0 = v 0 ∧ u.1 1 = v 1 ∧ u.1 7 = v 7 ∧ u.1 8 = v 8 ∧ u.1 9 = v 9 ∧ u.1 10 = v 10 ∧ u.1 31 = v 31 ∧ u.1 32 = v 32 ∧ ((r = 1) ∨ (r = 0))) (fun u => XW cy x0 x u.1 u.2) := by
  refine ctI_of (by decide) (Nat.le_of_ble_eq_true rfl) (fun p e s m below meth c A ls Q hx hb hml hts hown hE hP hD hA hl ret => ?_)
  have hM_v : KV [28, 29, 30] v v := fun _ _ => rfl
  have hA_f : KF [13, 14] f f := fun _ _ => rfl
  have hown : s.vm.findClass RX3 = some m.cls := hown
  have hS : va_S A s.heap s.heap [] := va_S.rf
  have hl : lv_has ls 5 [(0, .ref (x 25))] := hl
  refine lv_aload_n hx hb dX3_findChange_0 rfl (lv_at hl 0 rfl) ?_
  refine va_get (D := (dC, dI)) (ci := 3) (v := .ref (x 21)) (C := RX3) (T := TX3) (N := 10) hx hb hts inB_3 hown hE.1 hP 26 rfl rfl 1 (by decide) (hts _ k_371) (fun _ h9 => h9) rfl dX3_findChange_1 ?_
  refine cbVi (n := 0) (rest := []) hx hb hml hown hts hE hP hD hS hA (sX_X1_fittedMen_1 l dC dI cy x0 x  v f hIv ) k_1041 k_964 k_965 k_106 k_966 (by decide +kernel) ⟨Nat.le_of_ble_eq_true rfl, Nat.le_of_ble_eq_true rfl⟩ 22 1 rfl rfl (rfl) hl.1 rfl (Nat.le_of_ble_eq_true rfl) dX3_findChange_4 (fun r1 u H locs hw hP hD hS => ?_)
  obtain ⟨v2, f3⟩ := u
  obtain ⟨kV_v2, kF_f3, hIv2, hk0_v2, hk1_v2, hk7_v2, hk8_v2, hk9_v2, hk10_v2, hk31_v2, hk32_v2⟩ := hw
  have hM_v2 : KV [28, 29, 30] v2 v := KV.tr kV_v2 hM_v rfl
  have hA_f3 : KF [13, 14] f3 f := KF.tr kF_f3 hA_f rfl
  have hP : va_P (dC, dI) vwCl (XW cy x0 x v2 f3) H := hP
  have hD : va_D A (XW cy x0 x v2 f3) := hD
  have hq0_v2 : v2 0 = (v 0) := hk0_v2
  have hq1_v2 : v2 1 = (v 1) := hk1_v2
  have hq7_v2 : v2 7 = (v 7) := hk7_v2
  have hq8_v2 : v2 8 = (v 8) := hk8_v2
  have hq9_v2 : v2 9 = (v 9) := hk9_v2
  have hq10_v2 : v2 10 = (v 10) := hk10_v2
  have hq31_v2 : v2 31 = (v 31) := hk31_v2
  have hq32_v2 : v2 32 = (v 32) := hk32_v2
  refine cbSi (n := 1) (rest := []) hx hb hml hown hts hE hP hD hS hA (sX_J6_bitCount_0f7a4_1 l dC dI cy x0 x r1 v2 f3 hIv2 ) k_1042 k_1043 k_121 k_1044 (by decide +kernel) ⟨Nat.le_of_ble_eq_true rfl, Nat.le_of_ble_eq_true rfl⟩ (rfl) hl.1 rfl (Nat.le_of_ble_eq_true rfl) dX3_findChange_7 (fun r4 u H locs hw hP hD hS => ?_)
  refine lv_istore_n (lv' := [(1, .int r4), (0, .ref (x 25))]) hx hb dX3_findChange_10 rfl hl (by decide) rfl (fun ls hl => ?_)
  refine lv_aload_n hx hb dX3_findChange_11 rfl (lv_at hl 1 rfl) ?_
  refine lv_iload_n hx hb dX3_findChange_12 rfl (lv_at hl 0 rfl) ?_
  refine va_put (D := (dC, dI)) (ci := 3) (v := .int r4) (ty := tyX3 9) (C := RX3) (T := TX3) (N := 10) hx hb hts inB_3 tyX3 tyX3_ok nmX3 hown hE.1 hP hD hS 26 rfl rfl 9 (by decide) (hts _ k_385) (fun _ h9 => h9) rfl (tyX3_ok 9 (by decide)) rfl rfl (Nat.le_of_ble_eq_true rfl) dX3_findChange_13 (fun H locs hP hD hS => ?_)
  have hP : va_P (dC, dI) vwCl (XW cy x0 x (upd v2 30 r4) f3) H := hP
  have hD : va_D A (XW cy x0 x (upd v2 30 r4) f3) := hD
  refine lv_iconst (v := 0) hx hb dX3_findChange_16 (by decide) ?_
  refine lv_istore_n (lv' := [(2, .int 0), (1, .int r4), (0, .ref (x 25))]) hx hb dX3_findChange_17 rfl hl (by decide) rfl (fun ls hl => ?_)
  have lp5 : ∀ (n5 : Nat) (l2_5 : Int32) (v5 : Nat → Int32) (f5 : Nat → Nat → Int32), XI v5 → v5 0 = (v 0) → v5 1 = (v 1) → v5 7 = (v 7) → v5 8 = (v 8) → v5 9 = (v 9) → v5 10 = (v 10) → v5 31 = (v 31) → v5 32 = (v 32) → ((0 : Int) ≤ l2_5.toInt ∧ l2_5.toInt ≤ 2147483647) → KV [28, 29, 30] v5 v → KF [13, 14] f5 f → (2147483647 - l2_5.toInt).toNat < n5 → ∀ (H : Heap) (locs : List Loc) (ls : Array Slot), va_P (dC, dI) vwCl (XW cy x0 x v5 f5) H → va_D A (XW cy x0 x v5 f5) → va_S A s.heap H locs → lv_has ls 5 [(2, .int l2_5), (1, .int r4), (0, .ref (x 25))] → W p l e { frames := 6, cells := 0, slots := 0, locals := 180 } s m ([.ref (x 25)] : List Value).toArray below meth c H locs 0 0 Q (F0 m 18 ls []) := by
    intro n5
    induction n5 with
    | zero => intro l2_5 v5 f5 hIv5 hq0_v5 hq1_v5 hq7_v5 hq8_v5 hq9_v5 hq10_v5 hq31_v5 hq32_v5 hr2_5 hM_v5 hA_f5 hm; exact absurd hm (Nat.not_lt_zero _)
    | succ n5 ih5 =>
      intro l2_5 v5 f5 hIv5 hq0_v5 hq1_v5 hq7_v5 hq8_v5 hq9_v5 hq10_v5 hq31_v5 hq32_v5 hr2_5 hM_v5 hA_f5 hm5 H locs ls hP hD hS hl
      refine lv_iload_n hx hb dX3_findChange_18 rfl (lv_at hl 0 rfl) ?_
      refine lv_aload_n hx hb dX3_findChange_19 rfl (lv_at hl 2 rfl) ?_
      refine va_get (D := (dC, dI)) (ci := 3) (v := .ref (x 26)) (C := RX3) (T := TX3) (N := 10) hx hb hts inB_3 hown hE.1 hP 26 rfl rfl 0 (by decide) (hts _ k_370) (fun _ h9 => h9) rfl dX3_findChange_20 ?_
      refine va_getN (D := (dC, dI)) (ci := 7) (v := .int (v5 31)) (C := RX7) (T := TX7) (N := 10) hx hb hts inB_7 hown hE.1 hP 27 rfl rfl 3 (by decide) (va_Nw.use rfl (hE.2 _ k_217)) (fun _ h9 => h9) rfl dX3_findChange_23 ?_
      refine tI (y := (v 31)) hq31_v5 ?_
      have b31_v : 0 ≤ (v 31).toInt ∧ (v 31).toInt ≤ 6 := XI.b hIv 31 (by decide)
      refine lv_icmp_ge (tgt := 89) hx hb dX3_findChange_26 (by decide) (fun c6 => ?_) (fun c6 => ?_)
      · skip
        have zc6 : (v 31).toInt ≤ l2_5.toInt := by rw [fa_le] at c6; exact c6
        have rg7 := fb_rng l2_5
        have rg8 := fb_rng (v 31)
        refine lv_aload_n hx hb dX3_findChange_89 rfl (lv_at hl 2 rfl) ?_
        refine va_get (D := (dC, dI)) (ci := 3) (v := .int (v5 30)) (C := RX3) (T := TX3) (N := 10) hx hb hts inB_3 hown hE.1 hP 26 rfl rfl 9 (by decide) (hts _ k_385) (fun _ h9 => h9) rfl dX3_findChange_90 ?_
        refine lv_iload_n hx hb dX3_findChange_93 rfl (lv_at hl 1 rfl) ?_
        refine lv_icmp_le (tgt := 101) hx hb dX3_findChange_94 (by decide) (fun c9 => ?_) (fun c9 => ?_)
        · skip
          have zc9 : (v5 30).toInt ≤ r4.toInt := by rw [fa_le] at c9; exact c9
          have rg10 := fb_rng (v5 30)
          have rg11 := fb_rng r4
          refine lv_iconst (v := 0) hx hb dX3_findChange_101 (by decide) ?_
          exact ret 0 (v5, f5) _ _ _ _ _ _ rfl ⟨hM_v5, hA_f5, hIv5, hq0_v5, hq1_v5, hq7_v5, hq8_v5, hq9_v5, hq10_v5, hq31_v5, hq32_v5, (Or.inr rfl)⟩ hP hD hS dX3_findChange_102 (Nat.le_refl _) (Nat.le_refl _)
        · skip
          have zc9 : ¬ ((v5 30).toInt ≤ r4.toInt) := by rw [fa_le] at c9; exact c9
          have rg12 := fb_rng (v5 30)
          have rg13 := fb_rng r4
          refine lv_iconst (v := 1) hx hb dX3_findChange_97 (by decide) ?_
          refine lv_goto (tgt := 102) hx hb dX3_findChange_98 (by decide) ?_
          exact ret 1 (v5, f5) _ _ _ _ _ _ rfl ⟨hM_v5, hA_f5, hIv5, hq0_v5, hq1_v5, hq7_v5, hq8_v5, hq9_v5, hq10_v5, hq31_v5, hq32_v5, (Or.inl rfl)⟩ hP hD hS dX3_findChange_102 (Nat.le_refl _) (Nat.le_refl _)
      · skip
        have zc6 : ¬ ((v 31).toInt ≤ l2_5.toInt) := by rw [fa_le] at c6; exact c6
        have rg14 := fb_rng l2_5
        have rg15 := fb_rng (v 31)
        refine lv_iload_n hx hb dX3_findChange_29 rfl (lv_at hl 0 rfl) ?_
        refine lv_iconst (v := 1) hx hb dX3_findChange_30 (by decide) ?_
        refine lv_iadd hx hb dX3_findChange_31 ?_
        refine lv_topi (fun t16 et16 => ?_)
        have zt16 : t16.toInt = l2_5.toInt + 1 := by rw [et16]; exact add_i rfl (by decide) (by omega) (by omega)
        refine lv_istore_n (lv' := [(3, .int t16), (2, .int l2_5), (1, .int r4), (0, .ref (x 25))]) hx hb dX3_findChange_32 rfl hl (by decide) rfl (fun ls hl => ?_)
        have lp17 : ∀ (n17 : Nat) (l3_17 : Int32) (v17 : Nat → Int32) (f17 : Nat → Nat → Int32), XI v17 → v17 0 = (v 0) → v17 1 = (v 1) → v17 7 = (v 7) → v17 8 = (v 8) → v17 9 = (v 9) → v17 10 = (v 10) → v17 31 = (v 31) → v17 32 = (v 32) → ((1 : Int) ≤ l3_17.toInt ∧ l3_17.toInt ≤ 2147483647) → KV [28, 29, 30] v17 v → KF [13, 14] f17 f → (2147483647 - l3_17.toInt).toNat < n17 → ∀ (H : Heap) (locs : List Loc) (ls : Array Slot), va_P (dC, dI) vwCl (XW cy x0 x v17 f17) H → va_D A (XW cy x0 x v17 f17) → va_S A s.heap H locs → lv_has ls 5 [(3, .int l3_17), (2, .int l2_5), (1, .int r4), (0, .ref (x 25))] → W p l e { frames := 6, cells := 0, slots := 0, locals := 180 } s m ([.ref (x 25)] : List Value).toArray below meth c H locs 0 0 Q (F0 m 33 ls []) := by
          intro n17
          induction n17 with
          | zero => intro l3_17 v17 f17 hIv17 hq0_v17 hq1_v17 hq7_v17 hq8_v17 hq9_v17 hq10_v17 hq31_v17 hq32_v17 hr3_17 hM_v17 hA_f17 hm; exact absurd hm (Nat.not_lt_zero _)
          | succ n17 ih17 =>
            intro l3_17 v17 f17 hIv17 hq0_v17 hq1_v17 hq7_v17 hq8_v17 hq9_v17 hq10_v17 hq31_v17 hq32_v17 hr3_17 hM_v17 hA_f17 hm17 H locs ls hP hD hS hl
            refine lv_iload_n hx hb dX3_findChange_33 rfl (lv_at hl 0 rfl) ?_
            refine lv_aload_n hx hb dX3_findChange_34 rfl (lv_at hl 3 rfl) ?_
            refine va_get (D := (dC, dI)) (ci := 3) (v := .ref (x 26)) (C := RX3) (T := TX3) (N := 10) hx hb hts inB_3 hown hE.1 hP 26 rfl rfl 0 (by decide) (hts _ k_370) (fun _ h9 => h9) rfl dX3_findChange_35 ?_
            refine va_getN (D := (dC, dI)) (ci := 7) (v := .int (v17 31)) (C := RX7) (T := TX7) (N := 10) hx hb hts inB_7 hown hE.1 hP 27 rfl rfl 3 (by decide) (va_Nw.use rfl (hE.2 _ k_217)) (fun _ h9 => h9) rfl dX3_findChange_38 ?_
            refine tI (y := (v 31)) hq31_v17 ?_
            have b31_v : 0 ≤ (v 31).toInt ∧ (v 31).toInt ≤ 6 := XI.b hIv 31 (by decide)
            refine lv_icmp_ge (tgt := 83) hx hb dX3_findChange_41 (by decide) (fun c18 => ?_) (fun c18 => ?_)
            · skip
              have zc18 : (v 31).toInt ≤ l3_17.toInt := by rw [fa_le] at c18; exact c18
              have rg19 := fb_rng l3_17
              obtain ⟨t20, et20⟩ : ∃ y : Int32, y = l2_5 + 1 := ⟨_, rfl⟩
              have zt20 : t20.toInt = l2_5.toInt + 1 := by rw [et20]; exact add_i rfl (by decide) (by omega) (by omega)
              refine lv_iinc (v := t20) (lv' := [(2, .int t20), (3, .int l3_17), (1, .int r4), (0, .ref (x 25))]) hx hb dX3_findChange_83 hl (k := 1) rfl (by rw [et20]; rfl) (by decide) rfl (fun ls hl => ?_)
              refine lv_goto (tgt := 18) hx hb dX3_findChange_86 (by decide) ?_
              have rg21 := fb_rng t20
              exact ih5 t20 v17 f17 hIv17 hq0_v17 hq1_v17 hq7_v17 hq8_v17 hq9_v17 hq10_v17 hq31_v17 hq32_v17 ⟨show (0 : Int) ≤ t20.toInt by omega, show t20.toInt ≤ (2147483647 : Int) by omega⟩ hM_v17 hA_f17 (by show (2147483647 - t20.toInt).toNat < n5; omega) _ _ _ hP hD hS (lv_sub hl [0, 2, 3] rfl)
            · skip
              have zc18 : ¬ ((v 31).toInt ≤ l3_17.toInt) := by rw [fa_le] at c18; exact c18
              have rg22 := fb_rng l3_17
              refine lv_aload_n hx hb dX3_findChange_44 rfl (lv_at hl 3 rfl) ?_
              refine lv_iload_n hx hb dX3_findChange_45 rfl (lv_at hl 1 rfl) ?_
              refine lv_iload_n hx hb dX3_findChange_46 rfl (lv_at hl 0 rfl) ?_
              refine cbVi (n := 2) (rest := []) hx hb hml hown hts hE hP hD hS hA (sX_X3_changedCount_1 l dC dI cy x0 x l2_5 l3_17 v17 f17 hIv17 ) k_1048 k_1050 k_29 k_109 k_1051 (by decide +kernel) ⟨Nat.le_of_ble_eq_true rfl, Nat.le_of_ble_eq_true rfl⟩ 26 3 rfl rfl (rfl) hl.1 rfl (Nat.le_of_ble_eq_true rfl) dX3_findChange_47 (fun r23 u H locs hw hP hD hS => ?_)
              obtain ⟨v24, f25⟩ := u
              obtain ⟨kV_v24, kF_f25, hIv24, hk0_v24, hk1_v24, hk7_v24, hk8_v24, hk9_v24, hk10_v24, hk31_v24, hk32_v24⟩ := hw
              have hM_v24 : KV [28, 29, 30] v24 v := KV.tr kV_v24 hM_v17 rfl
              have hA_f25 : KF [13, 14] f25 f := KF.tr kF_f25 hA_f17 rfl
              have hP : va_P (dC, dI) vwCl (XW cy x0 x v24 f25) H := hP
              have hD : va_D A (XW cy x0 x v24 f25) := hD
              have hq0_v24 : v24 0 = (v 0) := hk0_v24.trans hq0_v17
              have hq1_v24 : v24 1 = (v 1) := hk1_v24.trans hq1_v17
              have hq7_v24 : v24 7 = (v 7) := hk7_v24.trans hq7_v17
              have hq8_v24 : v24 8 = (v 8) := hk8_v24.trans hq8_v17
              have hq9_v24 : v24 9 = (v 9) := hk9_v24.trans hq9_v17
              have hq10_v24 : v24 10 = (v 10) := hk10_v24.trans hq10_v17
              have hq31_v24 : v24 31 = (v 31) := hk31_v24.trans hq31_v17
              have hq32_v24 : v24 32 = (v 32) := hk32_v24.trans hq32_v17
              refine lv_istore (lv' := [(4, .int r23), (3, .int l3_17), (2, .int l2_5), (1, .int r4), (0, .ref (x 25))]) hx hb dX3_findChange_50 hl (by decide) rfl (fun ls hl => ?_)
              refine lv_iload hx hb dX3_findChange_52 (lv_at hl 0 rfl) ?_
              refine lv_aload_n hx hb dX3_findChange_54 rfl (lv_at hl 4 rfl) ?_
              refine va_get (D := (dC, dI)) (ci := 3) (v := .int (v24 30)) (C := RX3) (T := TX3) (N := 10) hx hb hts inB_3 hown hE.1 hP 26 rfl rfl 9 (by decide) (hts _ k_385) (fun _ h9 => h9) rfl dX3_findChange_55 ?_
              refine lv_icmp_le (tgt := 77) hx hb dX3_findChange_58 (by decide) (fun c26 => ?_) (fun c26 => ?_)
              · skip
                have zc26 : r23.toInt ≤ (v24 30).toInt := by rw [fa_le] at c26; exact c26
                have rg27 := fb_rng r23
                have rg28 := fb_rng (v24 30)
                obtain ⟨t29, et29⟩ : ∃ y : Int32, y = l3_17 + 1 := ⟨_, rfl⟩
                have zt29 : t29.toInt = l3_17.toInt + 1 := by rw [et29]; exact add_i rfl (by decide) (by omega) (by omega)
                refine lv_iinc (v := t29) (lv' := [(3, .int t29), (4, .int r23), (2, .int l2_5), (1, .int r4), (0, .ref (x 25))]) hx hb dX3_findChange_77 hl (k := 1) rfl (by rw [et29]; rfl) (by decide) rfl (fun ls hl => ?_)
                refine lv_goto (tgt := 33) hx hb dX3_findChange_80 (by decide) ?_
                have rg30 := fb_rng t29
                exact ih17 t29 v24 f25 hIv24 hq0_v24 hq1_v24 hq7_v24 hq8_v24 hq9_v24 hq10_v24 hq31_v24 hq32_v24 ⟨show (1 : Int) ≤ t29.toInt by omega, show t29.toInt ≤ (2147483647 : Int) by omega⟩ hM_v24 hA_f25 (by show (2147483647 - t29.toInt).toNat < n17; omega) _ _ _ hP hD hS (lv_sub hl [0, 2, 3, 4] rfl)
              · skip
                have zc26 : ¬ (r23.toInt ≤ (v24 30).toInt) := by rw [fa_le] at c26; exact c26
                have rg31 := fb_rng r23
                have rg32 := fb_rng (v24 30)
                refine lv_aload_n hx hb dX3_findChange_61 rfl (lv_at hl 4 rfl) ?_
                refine lv_iload_n hx hb dX3_findChange_62 rfl (lv_at hl 2 rfl) ?_
                refine va_put (D := (dC, dI)) (ci := 3) (v := .int l2_5) (ty := tyX3 7) (C := RX3) (T := TX3) (N := 10) hx hb hts inB_3 tyX3 tyX3_ok nmX3 hown hE.1 hP hD hS 26 rfl rfl 7 (by decide) (hts _ k_381) (fun _ h9 => h9) rfl (tyX3_ok 7 (by decide)) rfl rfl (Nat.le_of_ble_eq_true rfl) dX3_findChange_63 (fun H locs hP hD hS => ?_)
                have hP : va_P (dC, dI) vwCl (XW cy x0 x (upd v24 28 l2_5) f25) H := hP
                have hD : va_D A (XW cy x0 x (upd v24 28 l2_5) f25) := hD
                refine lv_aload_n hx hb dX3_findChange_66 rfl (lv_at hl 4 rfl) ?_
                refine lv_iload_n hx hb dX3_findChange_67 rfl (lv_at hl 1 rfl) ?_
                refine va_put (D := (dC, dI)) (ci := 3) (v := .int l3_17) (ty := tyX3 8) (C := RX3) (T := TX3) (N := 10) hx hb hts inB_3 tyX3 tyX3_ok nmX3 hown hE.1 hP hD hS 26 rfl rfl 8 (by decide) (hts _ k_383) (fun _ h9 => h9) rfl (tyX3_ok 8 (by decide)) rfl rfl (Nat.le_of_ble_eq_true rfl) dX3_findChange_68 (fun H locs hP hD hS => ?_)
                have hP : va_P (dC, dI) vwCl (XW cy x0 x (upd (upd v24 28 l2_5) 29 l3_17) f25) H := hP
                have hD : va_D A (XW cy x0 x (upd (upd v24 28 l2_5) 29 l3_17) f25) := hD
                refine lv_aload_n hx hb dX3_findChange_71 rfl (lv_at hl 4 rfl) ?_
                refine lv_iload hx hb dX3_findChange_72 (lv_at hl 0 rfl) ?_
                refine va_put (D := (dC, dI)) (ci := 3) (v := .int r23) (ty := tyX3 9) (C := RX3) (T := TX3) (N := 10) hx hb hts inB_3 tyX3 tyX3_ok nmX3 hown hE.1 hP hD hS 26 rfl rfl 9 (by decide) (hts _ k_385) (fun _ h9 => h9) rfl (tyX3_ok 9 (by decide)) rfl rfl (Nat.le_of_ble_eq_true rfl) dX3_findChange_74 (fun H locs hP hD hS => ?_)
                have hP : va_P (dC, dI) vwCl (XW cy x0 x (upd (upd (upd v24 28 l2_5) 29 l3_17) 30 r23) f25) H := hP
                have hD : va_D A (XW cy x0 x (upd (upd (upd v24 28 l2_5) 29 l3_17) 30 r23) f25) := hD
                obtain ⟨t33, et33⟩ : ∃ y : Int32, y = l3_17 + 1 := ⟨_, rfl⟩
                have zt33 : t33.toInt = l3_17.toInt + 1 := by rw [et33]; exact add_i rfl (by decide) (by omega) (by omega)
                refine lv_iinc (v := t33) (lv' := [(3, .int t33), (4, .int r23), (2, .int l2_5), (1, .int r4), (0, .ref (x 25))]) hx hb dX3_findChange_77 hl (k := 1) rfl (by rw [et33]; rfl) (by decide) rfl (fun ls hl => ?_)
                refine lv_goto (tgt := 33) hx hb dX3_findChange_80 (by decide) ?_
                have rg34 := fb_rng t33
                exact ih17 t33 (upd (upd (upd v24 28 l2_5) 29 l3_17) 30 r23) f25 (XI.upd (j := 30) (x := r23) (XI.upd (j := 29) (x := l3_17) (XI.upd (j := 28) (x := l2_5) hIv24 (rlo _) (rhi _)) (rlo _) (rhi _)) (rlo _) (rhi _)) hq0_v24 hq1_v24 hq7_v24 hq8_v24 hq9_v24 hq10_v24 hq31_v24 hq32_v24 ⟨show (1 : Int) ≤ t33.toInt by omega, show t33.toInt ≤ (2147483647 : Int) by omega⟩ (KV.up (j := 30) (x := r23) (KV.up (j := 29) (x := l3_17) (KV.up (j := 28) (x := l2_5) hM_v24 rfl) rfl) rfl) hA_f25 (by show (2147483647 - t33.toInt).toNat < n17; omega) _ _ _ hP hD hS (lv_sub hl [0, 2, 3, 4] rfl)
        have rg35 := fb_rng t16
        exact lp17 _ t16 v5 f5 hIv5 hq0_v5 hq1_v5 hq7_v5 hq8_v5 hq9_v5 hq10_v5 hq31_v5 hq32_v5 ⟨show (1 : Int) ≤ t16.toInt by omega, show t16.toInt ≤ (2147483647 : Int) by omega⟩ hM_v5 hA_f5 (Nat.lt_succ_self _) _ _ _ hP hD hS (lv_sub hl [0, 1, 2, 3] rfl)
  exact lp5 _ 0 (upd v2 30 r4) f3 (XI.upd (j := 30) (x := r4) hIv2 (rlo _) (rhi _)) hq0_v2 hq1_v2 hq7_v2 hq8_v2 hq9_v2 hq10_v2 hq31_v2 hq32_v2 ⟨by decide, by decide⟩ (KV.up (j := 30) (x := r4) hM_v2 rfl) hA_f3 (Nat.lt_succ_self _) _ _ _ hP hD hS (lv_sub hl [0, 1, 2] rfl)
set_option maxHeartbeats 4000000 in
set_option maxRecDepth 100000 in
theorem sX_X10_change_1 (l : Launch) (dC : Nat → ClassId) (dI : Nat → Nat → Nat) (cy : Nat → ClassId) (x0 : Nat) (x : Nat → Nat) (p1 : Int32) (v : Nat → Int32) (f : Nat → Nat → Int32) (hIv : XI v)  : ctI l (dC, dI) cy yX10_change cX10_change 2 .int 7 204 0 0 ((Nat → Int32) × (Nat → Nat → Int32)) [.ref x0, .int p1] (XW cy x0 x v f) (fun r u => KV [28, 29, 30] u.1 v ∧ KF [13, 14] u.2 f ∧ XI u.1 ∧ u.1 0 = v 0 ∧ u.1 1 = v 1 ∧ u.1 7 = v 7 ∧ u.1 8 = v 8 ∧ u.1 9 = v 9 ∧ u.1 10 = v 10 ∧ u.1 31 = v 31 ∧ u.1 32 = v 32) (fun u => XW cy x0 x u.1 u.2) := by
  refine ctI_of (by decide) (Nat.le_of_ble_eq_true rfl) (fun p e s m below meth c A ls Q hx hb hml hts hown hE hP hD hA hl ret => ?_)
  have hM_v : KV [28, 29, 30] v v := fun _ _ => rfl
  have hA_f : KF [13, 14] f f := fun _ _ => rfl
  have hown : s.vm.findClass RX10 = some m.cls := hown
  have hS : va_S A s.heap s.heap [] := va_S.rf
  have hl : lv_has ls 2 [(0, .ref x0), (1, .int p1)] := hl
  refine lv_iload_n hx hb dX10_change_0 rfl (lv_at hl 1 rfl) ?_
  refine lv_if_lt (tgt := 19) hx hb dX10_change_1 (by decide) (fun c1 => ?_) (fun c1 => ?_)
  · skip
    have zc1 : p1.toInt < 0 := by rw [fa_lt, show (0 : Int32).toInt = 0 from by decide] at c1; exact c1
    refine lv_iconst (v := (-1)) hx hb dX10_change_19 (by decide) ?_
    exact ret (-1) (v, f) _ _ _ _ _ _ rfl ⟨hM_v, hA_f, hIv, rfl, rfl, rfl, rfl, rfl, rfl, rfl, rfl⟩ hP hD hS dX10_change_20 (Nat.le_refl _) (Nat.le_refl _)
  · skip
    have zc1 : ¬ (p1.toInt < 0) := by rw [fa_lt, show (0 : Int32).toInt = 0 from by decide] at c1; exact c1
    refine lv_iload_n hx hb dX10_change_4 rfl (lv_at hl 1 rfl) ?_
    refine lv_iconst (v := 2) hx hb dX10_change_5 (by decide) ?_
    refine lv_icmp_gt (tgt := 19) hx hb dX10_change_6 (by decide) (fun c2 => ?_) (fun c2 => ?_)
    · skip
      have zc2 : 2 < p1.toInt := by rw [fa_lt, show (2 : Int32).toInt = 2 from by decide] at c2; exact c2
      refine lv_iconst (v := (-1)) hx hb dX10_change_19 (by decide) ?_
      exact ret (-1) (v, f) _ _ _ _ _ _ rfl ⟨hM_v, hA_f, hIv, rfl, rfl, rfl, rfl, rfl, rfl, rfl, rfl⟩ hP hD hS dX10_change_20 (Nat.le_refl _) (Nat.le_refl _)
    · skip
      have zc2 : ¬ (2 < p1.toInt) := by rw [fa_lt, show (2 : Int32).toInt = 2 from by decide] at c2; exact c2
      refine lv_aload_n hx hb dX10_change_9 rfl (lv_at hl 0 rfl) ?_
      refine va_get (D := (dC, dI)) (ci := 10) (v := .ref (x 25)) (C := RX10) (T := TX10) (N := 10) hx hb hts inB_10 hown hE.1 hP 0 rfl rfl 5 (by decide) (hts _ k_496) (fun _ h9 => h9) rfl dX10_change_10 ?_
      refine cbVi (n := 0) (rest := []) hx hb hml hown hts hE hP hD hS hA (sX_X3_findChange_1 l dC dI cy x0 x  v f hIv ) k_1037 k_1038 k_1039 k_109 k_1040 (by decide +kernel) ⟨Nat.le_of_ble_eq_true rfl, Nat.le_of_ble_eq_true rfl⟩ 26 3 rfl rfl (rfl) hl.1 rfl (Nat.le_of_ble_eq_true rfl) dX10_change_13 (fun r3 u H locs hw hP hD hS => ?_)
      obtain ⟨v4, f5⟩ := u
      obtain ⟨kV_v4, kF_f5, hIv4, hk0_v4, hk1_v4, hk7_v4, hk8_v4, hk9_v4, hk10_v4, hk31_v4, hk32_v4, hw⟩ := hw
      have hM_v4 : KV [28, 29, 30] v4 v := KV.tr kV_v4 hM_v rfl
      have hA_f5 : KF [13, 14] f5 f := KF.tr kF_f5 hA_f rfl
      have hP : va_P (dC, dI) vwCl (XW cy x0 x v4 f5) H := hP
      have hD : va_D A (XW cy x0 x v4 f5) := hD
      have hq0_v4 : v4 0 = (v 0) := hk0_v4
      have hq1_v4 : v4 1 = (v 1) := hk1_v4
      have hq7_v4 : v4 7 = (v 7) := hk7_v4
      have hq8_v4 : v4 8 = (v 8) := hk8_v4
      have hq9_v4 : v4 9 = (v 9) := hk9_v4
      have hq10_v4 : v4 10 = (v 10) := hk10_v4
      have hq31_v4 : v4 31 = (v 31) := hk31_v4
      have hq32_v4 : v4 32 = (v 32) := hk32_v4
      rcases hw with ⟨g6⟩ | ⟨g6⟩
      · skip
        subst g6
        refine lv_if_ne (tgt := 21) hx hb dX10_change_16 (by decide) (fun _ => ?_) (fun c0 => absurd c0 (by decide))
        refine lv_iload_n hx hb dX10_change_21 rfl (lv_at hl 1 rfl) ?_
        refine lv_if_ne (tgt := 33) hx hb dX10_change_22 (by decide) (fun c7 => ?_) (fun c7 => ?_)
        · skip
          have zc7 : ¬ (p1.toInt = 0) := by rw [fa_eq, show (0 : Int32).toInt = 0 from by decide] at c7; exact c7
          refine lv_iload_n hx hb dX10_change_33 rfl (lv_at hl 1 rfl) ?_
          refine lv_iconst (v := 1) hx hb dX10_change_34 (by decide) ?_
          refine lv_icmp_ne (tgt := 48) hx hb dX10_change_35 (by decide) (fun c8 => ?_) (fun c8 => ?_)
          · skip
            have zc8 : ¬ (p1.toInt = 1) := by rw [fa_eq, show (1 : Int32).toInt = 1 from by decide] at c8; exact c8
            refine lv_aload_n hx hb dX10_change_48 rfl (lv_at hl 0 rfl) ?_
            refine va_get (D := (dC, dI)) (ci := 10) (v := .ref (x 25)) (C := RX10) (T := TX10) (N := 10) hx hb hts inB_10 hown hE.1 hP 0 rfl rfl 5 (by decide) (hts _ k_496) (fun _ h9 => h9) rfl dX10_change_49 ?_
            refine va_getN (D := (dC, dI)) (ci := 3) (v := .int (v4 30)) (C := RX3) (T := TX3) (N := 10) hx hb hts inB_3 hown hE.1 hP 26 rfl rfl 9 (by decide) (va_Nw.use rfl (hE.2 _ k_386)) (fun _ h9 => h9) rfl dX10_change_52 ?_
            exact ret (v4 30) (v4, f5) _ _ _ _ _ _ rfl ⟨hM_v4, hA_f5, hIv4, hk0_v4, hk1_v4, hk7_v4, hk8_v4, hk9_v4, hk10_v4, hk31_v4, hk32_v4⟩ hP hD hS dX10_change_55 (Nat.le_refl _) (Nat.le_refl _)
          · skip
            have zc8 : p1.toInt = 1 := by rw [fa_eq, show (1 : Int32).toInt = 1 from by decide] at c8; exact c8
            refine lv_aload_n hx hb dX10_change_38 rfl (lv_at hl 0 rfl) ?_
            refine va_get (D := (dC, dI)) (ci := 10) (v := .ref (x 25)) (C := RX10) (T := TX10) (N := 10) hx hb hts inB_10 hown hE.1 hP 0 rfl rfl 5 (by decide) (hts _ k_496) (fun _ h9 => h9) rfl dX10_change_39 ?_
            refine va_getN (D := (dC, dI)) (ci := 3) (v := .int (v4 29)) (C := RX3) (T := TX3) (N := 10) hx hb hts inB_3 hown hE.1 hP 26 rfl rfl 8 (by decide) (va_Nw.use rfl (hE.2 _ k_384)) (fun _ h9 => h9) rfl dX10_change_42 ?_
            refine lv_goto (tgt := 55) hx hb dX10_change_45 (by decide) ?_
            exact ret (v4 29) (v4, f5) _ _ _ _ _ _ rfl ⟨hM_v4, hA_f5, hIv4, hk0_v4, hk1_v4, hk7_v4, hk8_v4, hk9_v4, hk10_v4, hk31_v4, hk32_v4⟩ hP hD hS dX10_change_55 (Nat.le_refl _) (Nat.le_refl _)
        · skip
          have zc7 : p1.toInt = 0 := by rw [fa_eq, show (0 : Int32).toInt = 0 from by decide] at c7; exact c7
          refine lv_aload_n hx hb dX10_change_25 rfl (lv_at hl 0 rfl) ?_
          refine va_get (D := (dC, dI)) (ci := 10) (v := .ref (x 25)) (C := RX10) (T := TX10) (N := 10) hx hb hts inB_10 hown hE.1 hP 0 rfl rfl 5 (by decide) (hts _ k_496) (fun _ h9 => h9) rfl dX10_change_26 ?_
          refine va_getN (D := (dC, dI)) (ci := 3) (v := .int (v4 28)) (C := RX3) (T := TX3) (N := 10) hx hb hts inB_3 hown hE.1 hP 26 rfl rfl 7 (by decide) (va_Nw.use rfl (hE.2 _ k_382)) (fun _ h9 => h9) rfl dX10_change_29 ?_
          exact ret (v4 28) (v4, f5) _ _ _ _ _ _ rfl ⟨hM_v4, hA_f5, hIv4, hk0_v4, hk1_v4, hk7_v4, hk8_v4, hk9_v4, hk10_v4, hk31_v4, hk32_v4⟩ hP hD hS dX10_change_32 (Nat.le_refl _) (Nat.le_refl _)
      · skip
        subst g6
        refine lv_if_ne (tgt := 21) hx hb dX10_change_16 (by decide) (fun c0 => absurd (by decide) c0) (fun _ => ?_)
        refine lv_iconst (v := (-1)) hx hb dX10_change_19 (by decide) ?_
        exact ret (-1) (v4, f5) _ _ _ _ _ _ rfl ⟨hM_v4, hA_f5, hIv4, hk0_v4, hk1_v4, hk7_v4, hk8_v4, hk9_v4, hk10_v4, hk31_v4, hk32_v4⟩ hP hD hS dX10_change_20 (Nat.le_refl _) (Nat.le_refl _)
