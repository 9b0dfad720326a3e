set_option maxHeartbeats 4000000 in
set_option maxRecDepth 100000 in
theorem sX_X3_bestTurning_1 (l : Launch) (dC : Nat → ClassId) (dI : Nat → Nat → Nat) (cy : Nat → ClassId) (x0 : Nat) (x : Nat → Nat)  (v : Nat → Int32) (f : Nat → Nat → Int32) (hIv : XI v)  : ctI l (dC, dI) cy yX3_bestTurning cX3_bestTurning 5 .int 6 177 0 0 ((Nat → Int32) × (Nat → Nat → Int32)) [.ref (x 25)] (XW cy x0 x v f) (fun r u => KV [] u.1 v ∧ KF [13, 14, 18] u.2 f ∧ XI u.1 ∧ u.1 0 = v 0 ∧ u.1 1 = v 1 ∧ u.1 7 = v 7 ∧ u.1 8 = v 8 ∧ u.1 9 = v 9 ∧ u.1 10 = v 10 ∧ u.1 31 = v 31 ∧ u.1 32 = v 32) (fun u => XW cy x0 x u.1 u.2) := by
  refine ctI_of (by decide) (Nat.le_of_ble_eq_true rfl) (fun p e s m below meth c A ls Q hx hb hml hts hown hE hP hD hA hl ret => ?_)
  have hM_v : KV [] v v := fun _ _ => rfl
  have hA_f : KF [13, 14, 18] f f := fun _ _ => rfl
  have hown : s.vm.findClass RX3 = some m.cls := hown
  have hS : va_S A s.heap s.heap [] := va_S.rf
  have hl : lv_has ls 5 [(0, .ref (x 25))] := hl
  refine lv_iconst (v := (-1)) hx hb dX3_bestTurning_0 (by decide) ?_
  refine lv_istore_n (lv' := [(1, .int (-1)), (0, .ref (x 25))]) hx hb dX3_bestTurning_1 rfl hl (by decide) rfl (fun ls hl => ?_)
  refine lv_iconst (v := (-1)) hx hb dX3_bestTurning_2 (by decide) ?_
  refine lv_istore_n (lv' := [(2, .int (-1)), (1, .int (-1)), (0, .ref (x 25))]) hx hb dX3_bestTurning_3 rfl hl (by decide) rfl (fun ls hl => ?_)
  refine lv_iconst (v := 0) hx hb dX3_bestTurning_4 (by decide) ?_
  refine lv_istore_n (lv' := [(3, .int 0), (2, .int (-1)), (1, .int (-1)), (0, .ref (x 25))]) hx hb dX3_bestTurning_5 rfl hl (by decide) rfl (fun ls hl => ?_)
  have lp1 : ∀ (n1 : Nat) (l1_1 : Int32) (l2_1 : Int32) (l3_1 : Int32) (v1 : Nat → Int32) (f1 : Nat → Nat → Int32), XI v1 → v1 0 = (v 0) → v1 1 = (v 1) → v1 7 = (v 7) → v1 8 = (v 8) → v1 9 = (v 9) → v1 10 = (v 10) → v1 31 = (v 31) → v1 32 = (v 32) → ((0 : Int) ≤ l3_1.toInt ∧ l3_1.toInt ≤ 2147483647) → KV [] v1 v → KF [13, 14, 18] f1 f → (2147483647 - l3_1.toInt).toNat < n1 → ∀ (H : Heap) (locs : List Loc) (ls : Array Slot), va_P (dC, dI) vwCl (XW cy x0 x v1 f1) H → va_D A (XW cy x0 x v1 f1) → va_S A s.heap H locs → lv_has ls 5 [(3, .int l3_1), (2, .int l2_1), (1, .int l1_1), (0, .ref (x 25))] → W p l e { frames := 6, cells := 0, slots := 0, locals := 177 } s m ([.ref (x 25)] : List Value).toArray below meth c H locs 0 0 Q (F0 m 6 ls []) := by
    intro n1
    induction n1 with
    | zero => intro l1_1 l2_1 l3_1 v1 f1 hIv1 hq0_v1 hq1_v1 hq7_v1 hq8_v1 hq9_v1 hq10_v1 hq31_v1 hq32_v1 hr3_1 hM_v1 hA_f1 hm; exact absurd hm (Nat.not_lt_zero _)
    | succ n1 ih1 =>
      intro l1_1 l2_1 l3_1 v1 f1 hIv1 hq0_v1 hq1_v1 hq7_v1 hq8_v1 hq9_v1 hq10_v1 hq31_v1 hq32_v1 hr3_1 hM_v1 hA_f1 hm1 H locs ls hP hD hS hl
      refine lv_iload_n hx hb dX3_bestTurning_6 rfl (lv_at hl 0 rfl) ?_
      refine lv_aload_n hx hb dX3_bestTurning_7 rfl (lv_at hl 3 rfl) ?_
      refine va_get (D := (dC, dI)) (ci := 3) (v := .ref (x 26)) (C := RX3) (T := TX3) (N := 10) hx hb hts inB_3 hown hE.1 hP 26 rfl rfl 0 (by decide) (hts _ k_370) (fun _ h9 => h9) rfl dX3_bestTurning_8 ?_
      refine va_getN (D := (dC, dI)) (ci := 7) (v := .int (v1 32)) (C := RX7) (T := TX7) (N := 10) hx hb hts inB_7 hown hE.1 hP 27 rfl rfl 4 (by decide) (va_Nw.use rfl (hE.2 _ k_225)) (fun _ h9 => h9) rfl dX3_bestTurning_11 ?_
      refine tI (y := (v 32)) hq32_v1 ?_
      have b32_v : 0 ≤ (v 32).toInt ∧ (v 32).toInt ≤ 6 := XI.b hIv 32 (by decide)
      refine lv_icmp_ge (tgt := 79) hx hb dX3_bestTurning_14 (by decide) (fun c2 => ?_) (fun c2 => ?_)
      · skip
        have zc2 : (v 32).toInt ≤ l3_1.toInt := by rw [fa_le] at c2; exact c2
        have rg3 := fb_rng l3_1
        have rg4 := fb_rng (v 32)
        refine lv_iload_n hx hb dX3_bestTurning_79 rfl (lv_at hl 2 rfl) ?_
        exact ret l1_1 (v1, f1) _ _ _ _ _ _ rfl ⟨hM_v1, hA_f1, hIv1, (show v1 0 = v 0 from hq0_v1), (show v1 1 = v 1 from hq1_v1), (show v1 7 = v 7 from hq7_v1), (show v1 8 = v 8 from hq8_v1), (show v1 9 = v 9 from hq9_v1), (show v1 10 = v 10 from hq10_v1), (show v1 31 = v 31 from hq31_v1), (show v1 32 = v 32 from hq32_v1)⟩ hP hD hS dX3_bestTurning_80 (Nat.le_refl _) (Nat.le_refl _)
      · skip
        have zc2 : ¬ ((v 32).toInt ≤ l3_1.toInt) := by rw [fa_le] at c2; exact c2
        have rg5 := fb_rng l3_1
        have rg6 := fb_rng (v 32)
        refine lv_aload_n hx hb dX3_bestTurning_17 rfl (lv_at hl 3 rfl) ?_
        refine va_get (D := (dC, dI)) (ci := 3) (v := .ref (x 27)) (C := RX3) (T := TX3) (N := 10) hx hb hts inB_3 hown hE.1 hP 26 rfl rfl 2 (by decide) (hts _ k_372) (fun _ h9 => h9) rfl dX3_bestTurning_18 ?_
        refine lv_aload_n hx hb dX3_bestTurning_21 rfl (lv_at hl 3 rfl) ?_
        refine va_get (D := (dC, dI)) (ci := 3) (v := .ref (x 21)) (C := RX3) (T := TX3) (N := 10) hx hb hts inB_3 hown hE.1 hP 26 rfl rfl 1 (by decide) (hts _ k_371) (fun _ h9 => h9) rfl dX3_bestTurning_22 ?_
        refine cbVv (n := 1) (rest := []) hx hb hml hown hts hE hP hD hS hA (sX_X1_copy_1 l dC dI cy x0 x  v1 f1 hIv1 ) k_945 k_946 k_947 k_106 k_948 (by decide +kernel) ⟨Nat.le_of_ble_eq_true rfl, Nat.le_of_ble_eq_true rfl⟩ 28 1 rfl rfl (rfl) hl.1 rfl (Nat.le_of_ble_eq_true rfl) dX3_bestTurning_25 (fun u H locs hw hP hD hS => ?_)
        obtain ⟨v7, f8⟩ := u
        obtain ⟨kV_v7, kF_f8, hIv7, hk0_v7, hk1_v7, hk7_v7, hk8_v7, hk9_v7, hk10_v7, hk31_v7, hk32_v7⟩ := hw
        have hM_v7 : KV [] v7 v := KV.tr kV_v7 hM_v1 rfl
        have hA_f8 : KF [13, 14, 18] f8 f := KF.tr kF_f8 hA_f1 rfl
        have hP : va_P (dC, dI) vwCl (XW cy x0 x v7 f8) H := hP
        have hD : va_D A (XW cy x0 x v7 f8) := hD
        have hq0_v7 : v7 0 = (v 0) := hk0_v7.trans hq0_v1
        have hq1_v7 : v7 1 = (v 1) := hk1_v7.trans hq1_v1
        have hq7_v7 : v7 7 = (v 7) := hk7_v7.trans hq7_v1
        have hq8_v7 : v7 8 = (v 8) := hk8_v7.trans hq8_v1
        have hq9_v7 : v7 9 = (v 9) := hk9_v7.trans hq9_v1
        have hq10_v7 : v7 10 = (v 10) := hk10_v7.trans hq10_v1
        have hq31_v7 : v7 31 = (v 31) := hk31_v7.trans hq31_v1
        have hq32_v7 : v7 32 = (v 32) := hk32_v7.trans hq32_v1
        refine lv_aload_n hx hb dX3_bestTurning_28 rfl (lv_at hl 3 rfl) ?_
        refine va_get (D := (dC, dI)) (ci := 3) (v := .ref (x 27)) (C := RX3) (T := TX3) (N := 10) hx hb hts inB_3 hown hE.1 hP 26 rfl rfl 2 (by decide) (hts _ k_372) (fun _ h9 => h9) rfl dX3_bestTurning_29 ?_
        refine lv_iconst (v := 3) hx hb dX3_bestTurning_32 (by decide) ?_
        refine lv_iload_n hx hb dX3_bestTurning_33 rfl (lv_at hl 0 rfl) ?_
        refine lv_iconst (v := 0) hx hb dX3_bestTurning_34 (by decide) ?_
        refine cbVv (n := 3) (rest := []) hx hb hml hown hts hE hP hD hS hA (sX_X1_setPart_2 0 l dC dI cy x0 x 3 l3_1 0 v7 f8 hIv7 ) k_1158 k_875 k_876 k_106 k_877 (by decide +kernel) ⟨Nat.le_of_ble_eq_true rfl, Nat.le_of_ble_eq_true rfl⟩ 28 1 rfl rfl (rfl) hl.1 rfl (Nat.le_of_ble_eq_true rfl) dX3_bestTurning_35 (fun u H locs hw hP hD hS => ?_)
        obtain ⟨hG9, hw⟩ := hw
        obtain ⟨v10, f11⟩ := u
        obtain ⟨kV_v10, kF_f11, hIv10, hk0_v10, hk1_v10, hk7_v10, hk8_v10, hk9_v10, hk10_v10, hk31_v10, hk32_v10⟩ := hw
        have hM_v10 : KV [] v10 v := KV.tr kV_v10 hM_v7 rfl
        have hA_f11 : KF [13, 14, 18] f11 f := KF.tr kF_f11 hA_f8 rfl
        have hP : va_P (dC, dI) vwCl (XW cy x0 x v10 f11) H := hP
        have hD : va_D A (XW cy x0 x v10 f11) := hD
        have hq0_v10 : v10 0 = (v 0) := hk0_v10.trans hq0_v7
        have hq1_v10 : v10 1 = (v 1) := hk1_v10.trans hq1_v7
        have hq7_v10 : v10 7 = (v 7) := hk7_v10.trans hq7_v7
        have hq8_v10 : v10 8 = (v 8) := hk8_v10.trans hq8_v7
        have hq9_v10 : v10 9 = (v 9) := hk9_v10.trans hq9_v7
        have hq10_v10 : v10 10 = (v 10) := hk10_v10.trans hq10_v7
        have hq31_v10 : v10 31 = (v 31) := hk31_v10.trans hq31_v7
        have hq32_v10 : v10 32 = (v 32) := hk32_v10.trans hq32_v7
        refine lv_aload_n hx hb dX3_bestTurning_38 rfl (lv_at hl 3 rfl) ?_
        refine va_get (D := (dC, dI)) (ci := 3) (v := .ref (x 27)) (C := RX3) (T := TX3) (N := 10) hx hb hts inB_3 hown hE.1 hP 26 rfl rfl 2 (by decide) (hts _ k_372) (fun _ h9 => h9) rfl dX3_bestTurning_39 ?_
        refine cbVi (n := 0) (rest := []) hx hb hml hown hts hE hP hD hS hA (sX_X1_fittedMen_2 l dC dI cy x0 x  v10 f11 hIv10 ) k_1041 k_964 k_965 k_106 k_966 (by decide +kernel) ⟨Nat.le_of_ble_eq_true rfl, Nat.le_of_ble_eq_true rfl⟩ 28 1 rfl rfl (rfl) hl.1 rfl (Nat.le_of_ble_eq_true rfl) dX3_bestTurning_42 (fun r12 u H locs hw hP hD hS => ?_)
        obtain ⟨v13, f14⟩ := u
        obtain ⟨kV_v13, kF_f14, hIv13, hk0_v13, hk1_v13, hk7_v13, hk8_v13, hk9_v13, hk10_v13, hk31_v13, hk32_v13⟩ := hw
        have hM_v13 : KV [] v13 v := KV.tr kV_v13 hM_v10 rfl
        have hA_f14 : KF [13, 14, 18] f14 f := KF.tr kF_f14 hA_f11 rfl
        have hP : va_P (dC, dI) vwCl (XW cy x0 x v13 f14) H := hP
        have hD : va_D A (XW cy x0 x v13 f14) := hD
        have hq0_v13 : v13 0 = (v 0) := hk0_v13.trans hq0_v10
        have hq1_v13 : v13 1 = (v 1) := hk1_v13.trans hq1_v10
        have hq7_v13 : v13 7 = (v 7) := hk7_v13.trans hq7_v10
        have hq8_v13 : v13 8 = (v 8) := hk8_v13.trans hq8_v10
        have hq9_v13 : v13 9 = (v 9) := hk9_v13.trans hq9_v10
        have hq10_v13 : v13 10 = (v 10) := hk10_v13.trans hq10_v10
        have hq31_v13 : v13 31 = (v 31) := hk31_v13.trans hq31_v10
        have hq32_v13 : v13 32 = (v 32) := hk32_v13.trans hq32_v10
        refine cbSi (n := 1) (rest := []) hx hb hml hown hts hE hP hD hS hA (sX_J6_bitCount_0f7a4_1 l dC dI cy x0 x r12 v13 f14 hIv13 ) k_1042 k_1043 k_121 k_1044 (by decide +kernel) ⟨Nat.le_of_ble_eq_true rfl, Nat.le_of_ble_eq_true rfl⟩ (rfl) hl.1 rfl (Nat.le_of_ble_eq_true rfl) dX3_bestTurning_45 (fun r15 u H locs hw hP hD hS => ?_)
        refine lv_istore (lv' := [(4, .int r15), (3, .int l3_1), (2, .int l2_1), (1, .int l1_1), (0, .ref (x 25))]) hx hb dX3_bestTurning_48 hl (by decide) rfl (fun ls hl => ?_)
        refine lv_aload_n hx hb dX3_bestTurning_50 rfl (lv_at hl 4 rfl) ?_
        refine va_get (D := (dC, dI)) (ci := 3) (v := .ref (x 21)) (C := RX3) (T := TX3) (N := 10) hx hb hts inB_3 hown hE.1 hP 26 rfl rfl 1 (by decide) (hts _ k_371) (fun _ h9 => h9) rfl dX3_bestTurning_51 ?_
        refine lv_iconst (v := 4) hx hb dX3_bestTurning_54 (by decide) ?_
        refine lv_iload_n hx hb dX3_bestTurning_55 rfl (lv_at hl 1 rfl) ?_
        refine cbVi (n := 2) (rest := []) hx hb hml hown hts hE hP hD hS hA (sX_X1_part_1 0 l dC dI cy x0 x 4 l3_1 v13 f14 hIv13 ) k_1012 k_828 k_829 k_106 k_830 (by decide +kernel) ⟨Nat.le_of_ble_eq_true rfl, Nat.le_of_ble_eq_true rfl⟩ 22 1 rfl rfl (rfl) hl.1 rfl (Nat.le_of_ble_eq_true rfl) dX3_bestTurning_56 (fun r16 u H locs hw hP hD hS => ?_)
        have hG17 := hw
        refine lv_if_ne (tgt := 73) hx hb dX3_bestTurning_59 (by decide) (fun c18 => ?_) (fun c18 => ?_)
        · skip
          have zc18 : ¬ (r16.toInt = 0) := by rw [fa_eq, show (0 : Int32).toInt = 0 from by decide] at c18; exact c18
          obtain ⟨t19, et19⟩ : ∃ y : Int32, y = l3_1 + 1 := ⟨_, rfl⟩
          have zt19 : t19.toInt = l3_1.toInt + 1 := by rw [et19]; exact add_i rfl (by decide) (by omega) (by omega)
          refine lv_iinc (v := t19) (lv' := [(3, .int t19), (4, .int r15), (2, .int l2_1), (1, .int l1_1), (0, .ref (x 25))]) hx hb dX3_bestTurning_73 hl (k := 1) rfl (by rw [et19]; rfl) (by decide) rfl (fun ls hl => ?_)
          refine lv_goto (tgt := 6) hx hb dX3_bestTurning_76 (by decide) ?_
          have rg20 := fb_rng t19
          exact ih1 l1_1 l2_1 t19 v13 f14 hIv13 hq0_v13 hq1_v13 hq7_v13 hq8_v13 hq9_v13 hq10_v13 hq31_v13 hq32_v13 ⟨show (0 : Int) ≤ t19.toInt by omega, show t19.toInt ≤ (2147483647 : Int) by omega⟩ hM_v13 hA_f14 (by show (2147483647 - t19.toInt).toNat < n1; omega) _ _ _ hP hD hS (lv_sub hl [0, 2, 3, 4] rfl)
        · skip
          have zc18 : r16.toInt = 0 := by rw [fa_eq, show (0 : Int32).toInt = 0 from by decide] at c18; exact c18
          refine lv_iload hx hb dX3_bestTurning_62 (lv_at hl 0 rfl) ?_
          refine lv_iload_n hx hb dX3_bestTurning_64 rfl (lv_at hl 2 rfl) ?_
          refine lv_icmp_le (tgt := 73) hx hb dX3_bestTurning_65 (by decide) (fun c21 => ?_) (fun c21 => ?_)
          · skip
            have zc21 : r15.toInt ≤ l2_1.toInt := by rw [fa_le] at c21; exact c21
            have rg22 := fb_rng r15
            have rg23 := fb_rng l2_1
            obtain ⟨t24, et24⟩ : ∃ y : Int32, y = l3_1 + 1 := ⟨_, rfl⟩
            have zt24 : t24.toInt = l3_1.toInt + 1 := by rw [et24]; exact add_i rfl (by decide) (by omega) (by omega)
            refine lv_iinc (v := t24) (lv' := [(3, .int t24), (4, .int r15), (2, .int l2_1), (1, .int l1_1), (0, .ref (x 25))]) hx hb dX3_bestTurning_73 hl (k := 1) rfl (by rw [et24]; rfl) (by decide) rfl (fun ls hl => ?_)
            refine lv_goto (tgt := 6) hx hb dX3_bestTurning_76 (by decide) ?_
            have rg25 := fb_rng t24
            exact ih1 l1_1 l2_1 t24 v13 f14 hIv13 hq0_v13 hq1_v13 hq7_v13 hq8_v13 hq9_v13 hq10_v13 hq31_v13 hq32_v13 ⟨show (0 : Int) ≤ t24.toInt by omega, show t24.toInt ≤ (2147483647 : Int) by omega⟩ hM_v13 hA_f14 (by show (2147483647 - t24.toInt).toNat < n1; omega) _ _ _ hP hD hS (lv_sub hl [0, 2, 3, 4] rfl)
          · skip
            have zc21 : ¬ (r15.toInt ≤ l2_1.toInt) := by rw [fa_le] at c21; exact c21
            have rg26 := fb_rng r15
            have rg27 := fb_rng l2_1
            refine lv_iload_n hx hb dX3_bestTurning_68 rfl (lv_at hl 1 rfl) ?_
            refine lv_istore_n (lv' := [(1, .int l3_1), (4, .int r15), (3, .int l3_1), (2, .int l2_1), (0, .ref (x 25))]) hx hb dX3_bestTurning_69 rfl hl (by decide) rfl (fun ls hl => ?_)
            refine lv_iload hx hb dX3_bestTurning_70 (lv_at hl 1 rfl) ?_
            refine lv_istore_n (lv' := [(2, .int r15), (1, .int l3_1), (4, .int r15), (3, .int l3_1), (0, .ref (x 25))]) hx hb dX3_bestTurning_72 rfl hl (by decide) rfl (fun ls hl => ?_)
            obtain ⟨t28, et28⟩ : ∃ y : Int32, y = l3_1 + 1 := ⟨_, rfl⟩
            have zt28 : t28.toInt = l3_1.toInt + 1 := by rw [et28]; exact add_i rfl (by decide) (by omega) (by omega)
            refine lv_iinc (v := t28) (lv' := [(3, .int t28), (2, .int r15), (1, .int l3_1), (4, .int r15), (0, .ref (x 25))]) hx hb dX3_bestTurning_73 hl (k := 3) rfl (by rw [et28]; rfl) (by decide) rfl (fun ls hl => ?_)
            refine lv_goto (tgt := 6) hx hb dX3_bestTurning_76 (by decide) ?_
            have rg29 := fb_rng t28
            exact ih1 l3_1 r15 t28 v13 f14 hIv13 hq0_v13 hq1_v13 hq7_v13 hq8_v13 hq9_v13 hq10_v13 hq31_v13 hq32_v13 ⟨show (0 : Int) ≤ t28.toInt by omega, show t28.toInt ≤ (2147483647 : Int) by omega⟩ hM_v13 hA_f14 (by show (2147483647 - t28.toInt).toNat < n1; omega) _ _ _ hP hD hS (lv_sub hl [0, 1, 2, 4] rfl)
  exact lp1 _ (-1) (-1) 0 v f hIv rfl rfl rfl rfl rfl rfl rfl rfl ⟨by decide, by decide⟩ hM_v hA_f (Nat.lt_succ_self _) _ _ _ hP hD hS (lv_sub hl [0, 1, 2, 3] rfl)
set_option maxHeartbeats 4000000 in
set_option maxRecDepth 100000 in
theorem sX_X10_turning_1 (l : Launch) (dC : Nat → ClassId) (dI : Nat → Nat → Nat) (cy : Nat → ClassId) (x0 : Nat) (x : Nat → Nat)  (v : Nat → Int32) (f : Nat → Nat → Int32) (hIv : XI v)  : ctI l (dC, dI) cy yX10_turning cX10_turning 1 .int 7 201 0 0 ((Nat → Int32) × (Nat → Nat → Int32)) [.ref x0] (XW cy x0 x v f) (fun r u => KV [] u.1 v ∧ KF [13, 14, 18] u.2 f ∧ XI u.1 ∧ u.1 0 = v 0 ∧ u.1 1 = v 1 ∧ u.1 7 = v 7 ∧ u.1 8 = v 8 ∧ u.1 9 = v 9 ∧ u.1 10 = v 10 ∧ u.1 31 = v 31 ∧ u.1 32 = v 32) (fun u => XW cy x0 x u.1 u.2) := by
  refine ctI_of (by decide) (Nat.le_of_ble_eq_true rfl) (fun p e s m below meth c A ls Q hx hb hml hts hown hE hP hD hA hl ret => ?_)
  have hM_v : KV [] v v := fun _ _ => rfl
  have hA_f : KF [13, 14, 18] f f := fun _ _ => rfl
  have hown : s.vm.findClass RX10 = some m.cls := hown
  have hS : va_S A s.heap s.heap [] := va_S.rf
  have hl : lv_has ls 1 [(0, .ref x0)] := hl
  refine lv_aload_n hx hb dX10_turning_0 rfl (lv_at hl 0 rfl) ?_
  refine va_get (D := (dC, dI)) (ci := 10) (v := .ref (x 25)) (C := RX10) (T := TX10) (N := 10) hx hb hts inB_10 hown hE.1 hP 0 rfl rfl 5 (by decide) (hts _ k_496) (fun _ h9 => h9) rfl dX10_turning_1 ?_
  refine cbVi (n := 0) (rest := []) hx hb hml hown hts hE hP hD hS hA (sX_X3_bestTurning_1 l dC dI cy x0 x  v f hIv ) k_1154 k_1155 k_1156 k_109 k_1157 (by decide +kernel) ⟨Nat.le_of_ble_eq_true rfl, Nat.le_of_ble_eq_true rfl⟩ 26 3 rfl rfl (rfl) hl.1 rfl (Nat.le_of_ble_eq_true rfl) dX10_turning_4 (fun r1 u H locs hw hP hD hS => ?_)
  obtain ⟨v2, f3⟩ := u
  obtain ⟨kV_v2, kF_f3, hIv2, hk0_v2, hk1_v2, hk7_v2, hk8_v2, hk9_v2, hk10_v2, hk31_v2, hk32_v2⟩ := hw
  have hM_v2 : KV [] v2 v := KV.tr kV_v2 hM_v rfl
  have hA_f3 : KF [13, 14, 18] f3 f := KF.tr kF_f3 hA_f rfl
  have hP : va_P (dC, dI) vwCl (XW cy x0 x v2 f3) H := hP
  have hD : va_D A (XW cy x0 x v2 f3) := hD
  have hq0_v2 : v2 0 = (v 0) := hk0_v2
  have hq1_v2 : v2 1 = (v 1) := hk1_v2
  have hq7_v2 : v2 7 = (v 7) := hk7_v2
  have hq8_v2 : v2 8 = (v 8) := hk8_v2
  have hq9_v2 : v2 9 = (v 9) := hk9_v2
  have hq10_v2 : v2 10 = (v 10) := hk10_v2
  have hq31_v2 : v2 31 = (v 31) := hk31_v2
  have hq32_v2 : v2 32 = (v 32) := hk32_v2
  exact ret r1 (v2, f3) _ _ _ _ _ _ rfl ⟨hM_v2, hA_f3, hIv2, hk0_v2, hk1_v2, hk7_v2, hk8_v2, hk9_v2, hk10_v2, hk31_v2, hk32_v2⟩ hP hD hS dX10_turning_7 (Nat.le_refl _) (Nat.le_refl _)
set_option maxHeartbeats 4000000 in
set_option maxRecDepth 100000 in
theorem sX_X1_menFitting_1 (l : Launch) (dC : Nat → ClassId) (dI : Nat → Nat → Nat) (cy : Nat → ClassId) (x0 : Nat) (x : Nat → Nat) (p1 : Int32) (v : Nat → Int32) (f : Nat → Nat → Int32) (hIv : XI v)  : ctI l (dC, dI) cy yX1_menFitting cX1_menFitting 4 .int 5 155 0 0 ((Nat → Int32) × (Nat → Nat → Int32)) [.ref (x 21), .int p1] (XW cy x0 x v f) (fun r u => KV [] u.1 v ∧ KF [13, 14] u.2 f ∧ XI u.1 ∧ u.1 0 = v 0 ∧ u.1 1 = v 1 ∧ u.1 7 = v 7 ∧ u.1 8 = v 8 ∧ u.1 9 = v 9 ∧ u.1 10 = v 10 ∧ u.1 31 = v 31 ∧ u.1 32 = v 32) (fun u => XW cy x0 x u.1 u.2) := by
  refine ctI_of (by decide) (Nat.le_of_ble_eq_true rfl) (fun p e s m below meth c A ls Q hx hb hml hts hown hE hP hD hA hl ret => ?_)
  have hM_v : KV [] v v := fun _ _ => rfl
  have hA_f : KF [13, 14] f f := fun _ _ => rfl
  have hown : s.vm.findClass RX1 = some m.cls := hown
  have hS : va_S A s.heap s.heap [] := va_S.rf
  have hl : lv_has ls 4 [(0, .ref (x 21)), (1, .int p1)] := hl
  refine lv_iconst (v := 0) hx hb dX1_menFitting_0 (by decide) ?_
  refine lv_istore_n (lv' := [(2, .int 0), (0, .ref (x 21)), (1, .int p1)]) hx hb dX1_menFitting_1 rfl hl (by decide) rfl (fun ls hl => ?_)
  refine lv_iconst (v := 0) hx hb dX1_menFitting_2 (by decide) ?_
  refine lv_istore_n (lv' := [(3, .int 0), (2, .int 0), (0, .ref (x 21)), (1, .int p1)]) hx hb dX1_menFitting_3 rfl hl (by decide) rfl (fun ls hl => ?_)
  have lp1 : ∀ (n1 : Nat) (l2_1 : Int32) (l3_1 : Int32) (v1 : Nat → Int32) (f1 : Nat → Nat → Int32), XI v1 → v1 0 = (v 0) → v1 1 = (v 1) → v1 7 = (v 7) → v1 8 = (v 8) → v1 9 = (v 9) → v1 10 = (v 10) → v1 31 = (v 31) → v1 32 = (v 32) → ((0 : Int) ≤ l3_1.toInt ∧ l3_1.toInt ≤ 2147483647) → KV [] v1 v → KF [13, 14] f1 f → (2147483647 - l3_1.toInt).toNat < n1 → ∀ (H : Heap) (locs : List Loc) (ls : Array Slot), va_P (dC, dI) vwCl (XW cy x0 x v1 f1) H → va_D A (XW cy x0 x v1 f1) → va_S A s.heap H locs → lv_has ls 4 [(3, .int l3_1), (2, .int l2_1), (0, .ref (x 21)), (1, .int p1)] → W p l e { frames := 5, cells := 0, slots := 0, locals := 155 } s m ([.ref (x 21), .int p1] : List Value).toArray below meth c H locs 0 0 Q (F0 m 4 ls []) := by
    intro n1
    induction n1 with
    | zero => intro l2_1 l3_1 v1 f1 hIv1 hq0_v1 hq1_v1 hq7_v1 hq8_v1 hq9_v1 hq10_v1 hq31_v1 hq32_v1 hr3_1 hM_v1 hA_f1 hm; exact absurd hm (Nat.not_lt_zero _)
    | succ n1 ih1 =>
      intro l2_1 l3_1 v1 f1 hIv1 hq0_v1 hq1_v1 hq7_v1 hq8_v1 hq9_v1 hq10_v1 hq31_v1 hq32_v1 hr3_1 hM_v1 hA_f1 hm1 H locs ls hP hD hS hl
      refine lv_iload_n hx hb dX1_menFitting_4 rfl (lv_at hl 0 rfl) ?_
      refine lv_aload_n hx hb dX1_menFitting_5 rfl (lv_at hl 2 rfl) ?_
      refine va_get (D := (dC, dI)) (ci := 1) (v := .ref (x 26)) (C := RX1) (T := TX1) (N := 2) hx hb hts inB_1 hown hE.1 hP 22 rfl rfl 0 (by decide) (hts _ k_318) (fun _ h9 => h9) rfl dX1_menFitting_6 ?_
      refine va_getN (D := (dC, dI)) (ci := 7) (v := .int (v1 31)) (C := RX7) (T := TX7) (N := 10) hx hb hts inB_7 hown hE.1 hP 27 rfl rfl 3 (by decide) (va_Nw.use rfl (hE.2 _ k_219)) (fun _ h9 => h9) rfl dX1_menFitting_9 ?_
      refine tI (y := (v 31)) hq31_v1 ?_
      have b31_v : 0 ≤ (v 31).toInt ∧ (v 31).toInt ≤ 6 := XI.b hIv 31 (by decide)
      refine lv_icmp_ge (tgt := 33) hx hb dX1_menFitting_12 (by decide) (fun c2 => ?_) (fun c2 => ?_)
      · skip
        have zc2 : (v 31).toInt ≤ l3_1.toInt := by rw [fa_le] at c2; exact c2
        have rg3 := fb_rng l3_1
        have rg4 := fb_rng (v 31)
        refine lv_iload_n hx hb dX1_menFitting_33 rfl (lv_at hl 1 rfl) ?_
        exact ret l2_1 (v1, f1) _ _ _ _ _ _ rfl ⟨hM_v1, hA_f1, hIv1, (show v1 0 = v 0 from hq0_v1), (show v1 1 = v 1 from hq1_v1), (show v1 7 = v 7 from hq7_v1), (show v1 8 = v 8 from hq8_v1), (show v1 9 = v 9 from hq9_v1), (show v1 10 = v 10 from hq10_v1), (show v1 31 = v 31 from hq31_v1), (show v1 32 = v 32 from hq32_v1)⟩ hP hD hS dX1_menFitting_34 (Nat.le_refl _) (Nat.le_refl _)
      · skip
        have zc2 : ¬ ((v 31).toInt ≤ l3_1.toInt) := by rw [fa_le] at c2; exact c2
        have rg5 := fb_rng l3_1
        have rg6 := fb_rng (v 31)
        refine lv_aload_n hx hb dX1_menFitting_15 rfl (lv_at hl 2 rfl) ?_
        refine lv_iload_n hx hb dX1_menFitting_16 rfl (lv_at hl 0 rfl) ?_
        refine lv_iload_n hx hb dX1_menFitting_17 rfl (lv_at hl 3 rfl) ?_
        refine cbVi (n := 2) (rest := []) hx hb hml hown hts hE hP hD hS hA (sX_X1_fits_1 0 l dC dI cy x0 x l3_1 p1 v1 f1 hIv1 ) k_817 k_818 k_819 k_106 k_820 (by decide +kernel) ⟨Nat.le_of_ble_eq_true rfl, Nat.le_of_ble_eq_true rfl⟩ 22 1 rfl rfl (rfl) hl.1 rfl (Nat.le_of_ble_eq_true rfl) dX1_menFitting_18 (fun r7 u H locs hw hP hD hS => ?_)
        obtain ⟨hG8, hw⟩ := hw
        obtain ⟨v9, f10⟩ := u
        obtain ⟨kV_v9, kF_f10, hIv9, hk0_v9, hk1_v9, hk7_v9, hk8_v9, hk9_v9, hk10_v9, hk31_v9, hk32_v9, hw⟩ := hw
        have hM_v9 : KV [] v9 v := KV.tr kV_v9 hM_v1 rfl
        have hA_f10 : KF [13, 14] f10 f := KF.tr kF_f10 hA_f1 rfl
        have hP : va_P (dC, dI) vwCl (XW cy x0 x v9 f10) H := hP
        have hD : va_D A (XW cy x0 x v9 f10) := hD
        have hq0_v9 : v9 0 = (v 0) := hk0_v9.trans hq0_v1
        have hq1_v9 : v9 1 = (v 1) := hk1_v9.trans hq1_v1
        have hq7_v9 : v9 7 = (v 7) := hk7_v9.trans hq7_v1
        have hq8_v9 : v9 8 = (v 8) := hk8_v9.trans hq8_v1
        have hq9_v9 : v9 9 = (v 9) := hk9_v9.trans hq9_v1
        have hq10_v9 : v9 10 = (v 10) := hk10_v9.trans hq10_v1
        have hq31_v9 : v9 31 = (v 31) := hk31_v9.trans hq31_v1
        have hq32_v9 : v9 32 = (v 32) := hk32_v9.trans hq32_v1
        rcases hw with ⟨g11⟩ | ⟨g11⟩
        · skip
          subst g11
          refine lv_if_eq (tgt := 27) hx hb dX1_menFitting_21 (by decide) (fun c0 => absurd c0 (by decide)) (fun _ => ?_)
          obtain ⟨t12, et12⟩ : ∃ y : Int32, y = l2_1 + 1 := ⟨_, rfl⟩
          refine lv_iinc (v := t12) (lv' := [(2, .int t12), (3, .int l3_1), (0, .ref (x 21)), (1, .int p1)]) hx hb dX1_menFitting_24 hl (k := 1) rfl (by rw [et12]; rfl) (by decide) rfl (fun ls hl => ?_)
          obtain ⟨t13, et13⟩ : ∃ y : Int32, y = l3_1 + 1 := ⟨_, rfl⟩
          have zt13 : t13.toInt = l3_1.toInt + 1 := by rw [et13]; exact add_i rfl (by decide) (by omega) (by omega)
          refine lv_iinc (v := t13) (lv' := [(3, .int t13), (2, .int t12), (0, .ref (x 21)), (1, .int p1)]) hx hb dX1_menFitting_27 hl (k := 1) rfl (by rw [et13]; rfl) (by decide) rfl (fun ls hl => ?_)
          refine lv_goto (tgt := 4) hx hb dX1_menFitting_30 (by decide) ?_
          have rg14 := fb_rng t13
          exact ih1 t12 t13 v9 f10 hIv9 hq0_v9 hq1_v9 hq7_v9 hq8_v9 hq9_v9 hq10_v9 hq31_v9 hq32_v9 ⟨show (0 : Int) ≤ t13.toInt by omega, show t13.toInt ≤ (2147483647 : Int) by omega⟩ hM_v9 hA_f10 (by show (2147483647 - t13.toInt).toNat < n1; omega) _ _ _ hP hD hS (lv_sub hl [0, 1, 2, 3] rfl)
        · skip
          subst g11
          refine lv_if_eq (tgt := 27) hx hb dX1_menFitting_21 (by decide) (fun _ => ?_) (fun c0 => absurd (by decide) c0)
          obtain ⟨t15, et15⟩ : ∃ y : Int32, y = l3_1 + 1 := ⟨_, rfl⟩
          have zt15 : t15.toInt = l3_1.toInt + 1 := by rw [et15]; exact add_i rfl (by decide) (by omega) (by omega)
          refine lv_iinc (v := t15) (lv' := [(3, .int t15), (2, .int l2_1), (0, .ref (x 21)), (1, .int p1)]) hx hb dX1_menFitting_27 hl (k := 0) rfl (by rw [et15]; rfl) (by decide) rfl (fun ls hl => ?_)
          refine lv_goto (tgt := 4) hx hb dX1_menFitting_30 (by decide) ?_
          have rg16 := fb_rng t15
          exact ih1 l2_1 t15 v9 f10 hIv9 hq0_v9 hq1_v9 hq7_v9 hq8_v9 hq9_v9 hq10_v9 hq31_v9 hq32_v9 ⟨show (0 : Int) ≤ t15.toInt by omega, show t15.toInt ≤ (2147483647 : Int) by omega⟩ hM_v9 hA_f10 (by show (2147483647 - t15.toInt).toNat < n1; omega) _ _ _ hP hD hS (lv_sub hl [0, 1, 2, 3] rfl)
  exact lp1 _ 0 0 v f hIv rfl rfl rfl rfl rfl rfl rfl rfl ⟨by decide, by decide⟩ hM_v hA_f (Nat.lt_succ_self _) _ _ _ hP hD hS (lv_sub hl [0, 1, 2, 3] rfl)
set_option maxHeartbeats 4000000 in
set_option maxRecDepth 100000 in
theorem sX_X10_rags_1 (l : Launch) (dC : Nat → ClassId) (dI : Nat → Nat → Nat) (cy : Nat → ClassId) (x0 : Nat) (x : Nat → Nat)  (v : Nat → Int32) (f : Nat → Nat → Int32) (hIv : XI v)  : ctI l (dC, dI) cy yX10_rags cX10_rags 3 .int 6 178 0 0 ((Nat → Int32) × (Nat → Nat → Int32)) [.ref x0] (XW cy x0 x v f) (fun r u => KV [] u.1 v ∧ KF [13, 14] u.2 f ∧ XI u.1 ∧ u.1 0 = v 0 ∧ u.1 1 = v 1 ∧ u.1 7 = v 7 ∧ u.1 8 = v 8 ∧ u.1 9 = v 9 ∧ u.1 10 = v 10 ∧ u.1 31 = v 31 ∧ u.1 32 = v 32) (fun u => XW cy x0 x u.1 u.2) := by
  refine ctI_of (by decide) (Nat.le_of_ble_eq_true rfl) (fun p e s m below meth c A ls Q hx hb hml hts hown hE hP hD hA hl ret => ?_)
  have hM_v : KV [] v v := fun _ _ => rfl
  have hA_f : KF [13, 14] f f := fun _ _ => rfl
  have hown : s.vm.findClass RX10 = some m.cls := hown
  have hS : va_S A s.heap s.heap [] := va_S.rf
  have hl : lv_has ls 3 [(0, .ref x0)] := hl
  refine lv_iconst (v := 0) hx hb dX10_rags_0 (by decide) ?_
  refine lv_istore_n (lv' := [(1, .int 0), (0, .ref x0)]) hx hb dX10_rags_1 rfl hl (by decide) rfl (fun ls hl => ?_)
  refine lv_iconst (v := 0) hx hb dX10_rags_2 (by decide) ?_
  refine lv_istore_n (lv' := [(2, .int 0), (1, .int 0), (0, .ref x0)]) hx hb dX10_rags_3 rfl hl (by decide) rfl (fun ls hl => ?_)
  have lp1 : ∀ (n1 : Nat) (l1_1 : Int32) (l2_1 : Int32) (v1 : Nat → Int32) (f1 : Nat → Nat → Int32), XI v1 → v1 0 = (v 0) → v1 1 = (v 1) → v1 7 = (v 7) → v1 8 = (v 8) → v1 9 = (v 9) → v1 10 = (v 10) → v1 31 = (v 31) → v1 32 = (v 32) → ((0 : Int) ≤ l2_1.toInt ∧ l2_1.toInt ≤ 2147483647) → KV [] v1 v → KF [13, 14] f1 f → (2147483647 - l2_1.toInt).toNat < n1 → ∀ (H : Heap) (locs : List Loc) (ls : Array Slot), va_P (dC, dI) vwCl (XW cy x0 x v1 f1) H → va_D A (XW cy x0 x v1 f1) → va_S A s.heap H locs → lv_has ls 3 [(2, .int l2_1), (1, .int l1_1), (0, .ref x0)] → W p l e { frames := 6, cells := 0, slots := 0, locals := 178 } s m ([.ref x0] : List Value).toArray below meth c H locs 0 0 Q (F0 m 4 ls []) := by
    intro n1
    induction n1 with
    | zero => intro l1_1 l2_1 v1 f1 hIv1 hq0_v1 hq1_v1 hq7_v1 hq8_v1 hq9_v1 hq10_v1 hq31_v1 hq32_v1 hr2_1 hM_v1 hA_f1 hm; exact absurd hm (Nat.not_lt_zero _)
    | succ n1 ih1 =>
      intro l1_1 l2_1 v1 f1 hIv1 hq0_v1 hq1_v1 hq7_v1 hq8_v1 hq9_v1 hq10_v1 hq31_v1 hq32_v1 hr2_1 hM_v1 hA_f1 hm1 H locs ls hP hD hS hl
      refine lv_iload_n hx hb dX10_rags_4 rfl (lv_at hl 0 rfl) ?_
      refine lv_aload_n hx hb dX10_rags_5 rfl (lv_at hl 2 rfl) ?_
      refine va_get (D := (dC, dI)) (ci := 10) (v := .ref (x 26)) (C := RX10) (T := TX10) (N := 10) hx hb hts inB_10 hown hE.1 hP 0 rfl rfl 2 (by decide) (hts _ k_493) (fun _ h9 => h9) rfl dX10_rags_6 ?_
      refine va_getN (D := (dC, dI)) (ci := 7) (v := .int (v1 32)) (C := RX7) (T := TX7) (N := 10) hx hb hts inB_7 hown hE.1 hP 27 rfl rfl 4 (by decide) (va_Nw.use rfl (hE.2 _ k_227)) (fun _ h9 => h9) rfl dX10_rags_9 ?_
      refine tI (y := (v 32)) hq32_v1 ?_
      have b32_v : 0 ≤ (v 32).toInt ∧ (v 32).toInt ≤ 6 := XI.b hIv 32 (by decide)
      refine lv_icmp_ge (tgt := 38) hx hb dX10_rags_12 (by decide) (fun c2 => ?_) (fun c2 => ?_)
      · skip
        have zc2 : (v 32).toInt ≤ l2_1.toInt := by rw [fa_le] at c2; exact c2
        have rg3 := fb_rng l2_1
        have rg4 := fb_rng (v 32)
        refine lv_iload_n hx hb dX10_rags_38 rfl (lv_at hl 1 rfl) ?_
        exact ret l1_1 (v1, f1) _ _ _ _ _ _ rfl ⟨hM_v1, hA_f1, hIv1, (show v1 0 = v 0 from hq0_v1), (show v1 1 = v 1 from hq1_v1), (show v1 7 = v 7 from hq7_v1), (show v1 8 = v 8 from hq8_v1), (show v1 9 = v 9 from hq9_v1), (show v1 10 = v 10 from hq10_v1), (show v1 31 = v 31 from hq31_v1), (show v1 32 = v 32 from hq32_v1)⟩ hP hD hS dX10_rags_39 (Nat.le_refl _) (Nat.le_refl _)
      · skip
        have zc2 : ¬ ((v 32).toInt ≤ l2_1.toInt) := by rw [fa_le] at c2; exact c2
        have rg5 := fb_rng l2_1
        have rg6 := fb_rng (v 32)
        refine lv_aload_n hx hb dX10_rags_15 rfl (lv_at hl 2 rfl) ?_
        refine va_get (D := (dC, dI)) (ci := 10) (v := .ref (x 21)) (C := RX10) (T := TX10) (N := 10) hx hb hts inB_10 hown hE.1 hP 0 rfl rfl 3 (by decide) (hts _ k_494) (fun _ h9 => h9) rfl dX10_rags_16 ?_
        refine lv_iload_n hx hb dX10_rags_19 rfl (lv_at hl 0 rfl) ?_
        refine cbVi (n := 1) (rest := []) hx hb hml hown hts hE hP hD hS hA (sX_X1_menFitting_1 l dC dI cy x0 x l2_1 v1 f1 hIv1 ) k_1163 k_1164 k_1165 k_106 k_1166 (by decide +kernel) ⟨Nat.le_of_ble_eq_true rfl, Nat.le_of_ble_eq_true rfl⟩ 22 1 rfl rfl (rfl) hl.1 rfl (Nat.le_of_ble_eq_true rfl) dX10_rags_20 (fun r7 u H locs hw hP hD hS => ?_)
        obtain ⟨v8, f9⟩ := u
        obtain ⟨kV_v8, kF_f9, hIv8, hk0_v8, hk1_v8, hk7_v8, hk8_v8, hk9_v8, hk10_v8, hk31_v8, hk32_v8⟩ := hw
        have hM_v8 : KV [] v8 v := KV.tr kV_v8 hM_v1 rfl
        have hA_f9 : KF [13, 14] f9 f := KF.tr kF_f9 hA_f1 rfl
        have hP : va_P (dC, dI) vwCl (XW cy x0 x v8 f9) H := hP
        have hD : va_D A (XW cy x0 x v8 f9) := hD
        have hq0_v8 : v8 0 = (v 0) := hk0_v8.trans hq0_v1
        have hq1_v8 : v8 1 = (v 1) := hk1_v8.trans hq1_v1
        have hq7_v8 : v8 7 = (v 7) := hk7_v8.trans hq7_v1
        have hq8_v8 : v8 8 = (v 8) := hk8_v8.trans hq8_v1
        have hq9_v8 : v8 9 = (v 9) := hk9_v8.trans hq9_v1
        have hq10_v8 : v8 10 = (v 10) := hk10_v8.trans hq10_v1
        have hq31_v8 : v8 31 = (v 31) := hk31_v8.trans hq31_v1
        have hq32_v8 : v8 32 = (v 32) := hk32_v8.trans hq32_v1
        refine lv_if_ne (tgt := 32) hx hb dX10_rags_23 (by decide) (fun c10 => ?_) (fun c10 => ?_)
        · skip
          have zc10 : ¬ (r7.toInt = 0) := by rw [fa_eq, show (0 : Int32).toInt = 0 from by decide] at c10; exact c10
          obtain ⟨t11, et11⟩ : ∃ y : Int32, y = l2_1 + 1 := ⟨_, rfl⟩
          have zt11 : t11.toInt = l2_1.toInt + 1 := by rw [et11]; exact add_i rfl (by decide) (by omega) (by omega)
          refine lv_iinc (v := t11) (lv' := [(2, .int t11), (1, .int l1_1), (0, .ref x0)]) hx hb dX10_rags_32 hl (k := 0) rfl (by rw [et11]; rfl) (by decide) rfl (fun ls hl => ?_)
          refine lv_goto (tgt := 4) hx hb dX10_rags_35 (by decide) ?_
          have rg12 := fb_rng t11
          exact ih1 l1_1 t11 v8 f9 hIv8 hq0_v8 hq1_v8 hq7_v8 hq8_v8 hq9_v8 hq10_v8 hq31_v8 hq32_v8 ⟨show (0 : Int) ≤ t11.toInt by omega, show t11.toInt ≤ (2147483647 : Int) by omega⟩ hM_v8 hA_f9 (by show (2147483647 - t11.toInt).toNat < n1; omega) _ _ _ hP hD hS (lv_sub hl [0, 1, 2] rfl)
        · skip
          have zc10 : r7.toInt = 0 := by rw [fa_eq, show (0 : Int32).toInt = 0 from by decide] at c10; exact c10
          refine lv_iload_n hx hb dX10_rags_26 rfl (lv_at hl 1 rfl) ?_
          refine lv_iconst (v := 1) hx hb dX10_rags_27 (by decide) ?_
          refine lv_iload_n hx hb dX10_rags_28 rfl (lv_at hl 0 rfl) ?_
          refine lv_ishl hx hb dX10_rags_29 ?_
          refine lv_topi (fun t13 et13 => ?_)
          have zt13 : 1 ≤ t13.toInt ∧ t13.toInt ≤ 32 := by rw [et13]; exact shl1_rng (by omega) (by omega)
          refine lv_ior hx hb dX10_rags_30 ?_
          refine lv_topi (fun t14 et14 => ?_)
          refine lv_istore_n (lv' := [(1, .int t14), (2, .int l2_1), (0, .ref x0)]) hx hb dX10_rags_31 rfl hl (by decide) rfl (fun ls hl => ?_)
          obtain ⟨t15, et15⟩ : ∃ y : Int32, y = l2_1 + 1 := ⟨_, rfl⟩
          have zt15 : t15.toInt = l2_1.toInt + 1 := by rw [et15]; exact add_i rfl (by decide) (by omega) (by omega)
          refine lv_iinc (v := t15) (lv' := [(2, .int t15), (1, .int t14), (0, .ref x0)]) hx hb dX10_rags_32 hl (k := 1) rfl (by rw [et15]; rfl) (by decide) rfl (fun ls hl => ?_)
          refine lv_goto (tgt := 4) hx hb dX10_rags_35 (by decide) ?_
          have rg16 := fb_rng t15
          exact ih1 t14 t15 v8 f9 hIv8 hq0_v8 hq1_v8 hq7_v8 hq8_v8 hq9_v8 hq10_v8 hq31_v8 hq32_v8 ⟨show (0 : Int) ≤ t15.toInt by omega, show t15.toInt ≤ (2147483647 : Int) by omega⟩ hM_v8 hA_f9 (by show (2147483647 - t15.toInt).toNat < n1; omega) _ _ _ hP hD hS (lv_sub hl [0, 1, 2] rfl)
  exact lp1 _ 0 0 v f hIv rfl rfl rfl rfl rfl rfl rfl rfl ⟨by decide, by decide⟩ hM_v hA_f (Nat.lt_succ_self _) _ _ _ hP hD hS (lv_sub hl [0, 1, 2] rfl)
set_option maxHeartbeats 4000000 in
set_option maxRecDepth 100000 in
theorem sX_X10_naked_1 (l : Launch) (dC : Nat → ClassId) (dI : Nat → Nat → Nat) (cy : Nat → ClassId) (x0 : Nat) (x : Nat → Nat)  (v : Nat → Int32) (f : Nat → Nat → Int32) (hIv : XI v)  : ctI l (dC, dI) cy yX10_naked cX10_naked 3 .int 6 178 0 0 ((Nat → Int32) × (Nat → Nat → Int32)) [.ref x0] (XW cy x0 x v f) (fun r u => KV [] u.1 v ∧ KF [13, 14] u.2 f ∧ XI u.1 ∧ u.1 0 = v 0 ∧ u.1 1 = v 1 ∧ u.1 7 = v 7 ∧ u.1 8 = v 8 ∧ u.1 9 = v 9 ∧ u.1 10 = v 10 ∧ u.1 31 = v 31 ∧ u.1 32 = v 32) (fun u => XW cy x0 x u.1 u.2) := by
  refine ctI_of (by decide) (Nat.le_of_ble_eq_true rfl) (fun p e s m below meth c A ls Q hx hb hml hts hown hE hP hD hA hl ret => ?_)
  have hM_v : KV [] v v := fun _ _ => rfl
  have hA_f : KF [13, 14] f f := fun _ _ => rfl
  have hown : s.vm.findClass RX10 = some m.cls := hown
  have hS : va_S A s.heap s.heap [] := va_S.rf
  have hl : lv_has ls 3 [(0, .ref x0)] := hl
  refine lv_iconst (v := 0) hx hb dX10_naked_0 (by decide) ?_
  refine lv_istore_n (lv' := [(1, .int 0), (0, .ref x0)]) hx hb dX10_naked_1 rfl hl (by decide) rfl (fun ls hl => ?_)
  refine lv_iconst (v := 0) hx hb dX10_naked_2 (by decide) ?_
  refine lv_istore_n (lv' := [(2, .int 0), (1, .int 0), (0, .ref x0)]) hx hb dX10_naked_3 rfl hl (by decide) rfl (fun ls hl => ?_)
  have lp1 : ∀ (n1 : Nat) (l1_1 : Int32) (l2_1 : Int32) (v1 : Nat → Int32) (f1 : Nat → Nat → Int32), XI v1 → v1 0 = (v 0) → v1 1 = (v 1) → v1 7 = (v 7) → v1 8 = (v 8) → v1 9 = (v 9) → v1 10 = (v 10) → v1 31 = (v 31) → v1 32 = (v 32) → ((0 : Int) ≤ l2_1.toInt ∧ l2_1.toInt ≤ 2147483647) → KV [] v1 v → KF [13, 14] f1 f → (2147483647 - l2_1.toInt).toNat < n1 → ∀ (H : Heap) (locs : List Loc) (ls : Array Slot), va_P (dC, dI) vwCl (XW cy x0 x v1 f1) H → va_D A (XW cy x0 x v1 f1) → va_S A s.heap H locs → lv_has ls 3 [(2, .int l2_1), (1, .int l1_1), (0, .ref x0)] → W p l e { frames := 6, cells := 0, slots := 0, locals := 178 } s m ([.ref x0] : List Value).toArray below meth c H locs 0 0 Q (F0 m 4 ls []) := by
    intro n1
    induction n1 with
    | zero => intro l1_1 l2_1 v1 f1 hIv1 hq0_v1 hq1_v1 hq7_v1 hq8_v1 hq9_v1 hq10_v1 hq31_v1 hq32_v1 hr2_1 hM_v1 hA_f1 hm; exact absurd hm (Nat.not_lt_zero _)
    | succ n1 ih1 =>
      intro l1_1 l2_1 v1 f1 hIv1 hq0_v1 hq1_v1 hq7_v1 hq8_v1 hq9_v1 hq10_v1 hq31_v1 hq32_v1 hr2_1 hM_v1 hA_f1 hm1 H locs ls hP hD hS hl
      refine lv_iload_n hx hb dX10_naked_4 rfl (lv_at hl 0 rfl) ?_
      refine lv_aload_n hx hb dX10_naked_5 rfl (lv_at hl 2 rfl) ?_
      refine va_get (D := (dC, dI)) (ci := 10) (v := .ref (x 26)) (C := RX10) (T := TX10) (N := 10) hx hb hts inB_10 hown hE.1 hP 0 rfl rfl 2 (by decide) (hts _ k_493) (fun _ h9 => h9) rfl dX10_naked_6 ?_
      refine va_getN (D := (dC, dI)) (ci := 7) (v := .int (v1 31)) (C := RX7) (T := TX7) (N := 10) hx hb hts inB_7 hown hE.1 hP 27 rfl rfl 3 (by decide) (va_Nw.use rfl (hE.2 _ k_214)) (fun _ h9 => h9) rfl dX10_naked_9 ?_
      refine tI (y := (v 31)) hq31_v1 ?_
      have b31_v : 0 ≤ (v 31).toInt ∧ (v 31).toInt ≤ 6 := XI.b hIv 31 (by decide)
      refine lv_icmp_ge (tgt := 38) hx hb dX10_naked_12 (by decide) (fun c2 => ?_) (fun c2 => ?_)
      · skip
        have zc2 : (v 31).toInt ≤ l2_1.toInt := by rw [fa_le] at c2; exact c2
        have rg3 := fb_rng l2_1
        have rg4 := fb_rng (v 31)
        refine lv_iload_n hx hb dX10_naked_38 rfl (lv_at hl 1 rfl) ?_
        exact ret l1_1 (v1, f1) _ _ _ _ _ _ rfl ⟨hM_v1, hA_f1, hIv1, (show v1 0 = v 0 from hq0_v1), (show v1 1 = v 1 from hq1_v1), (show v1 7 = v 7 from hq7_v1), (show v1 8 = v 8 from hq8_v1), (show v1 9 = v 9 from hq9_v1), (show v1 10 = v 10 from hq10_v1), (show v1 31 = v 31 from hq31_v1), (show v1 32 = v 32 from hq32_v1)⟩ hP hD hS dX10_naked_39 (Nat.le_refl _) (Nat.le_refl _)
      · skip
        have zc2 : ¬ ((v 31).toInt ≤ l2_1.toInt) := by rw [fa_le] at c2; exact c2
        have rg5 := fb_rng l2_1
        have rg6 := fb_rng (v 31)
        refine lv_aload_n hx hb dX10_naked_15 rfl (lv_at hl 2 rfl) ?_
        refine va_get (D := (dC, dI)) (ci := 10) (v := .ref (x 21)) (C := RX10) (T := TX10) (N := 10) hx hb hts inB_10 hown hE.1 hP 0 rfl rfl 3 (by decide) (hts _ k_494) (fun _ h9 => h9) rfl dX10_naked_16 ?_
        refine lv_iload_n hx hb dX10_naked_19 rfl (lv_at hl 0 rfl) ?_
        refine cbVi (n := 1) (rest := []) hx hb hml hown hts hE hP hD hS hA (sX_X1_fittingCoats_1 l dC dI cy x0 x l2_1 v1 f1 hIv1 ) k_813 k_814 k_815 k_106 k_816 (by decide +kernel) ⟨Nat.le_of_ble_eq_true rfl, Nat.le_of_ble_eq_true rfl⟩ 22 1 rfl rfl (rfl) hl.1 rfl (Nat.le_of_ble_eq_true rfl) dX10_naked_20 (fun r7 u H locs hw hP hD hS => ?_)
        obtain ⟨v8, f9⟩ := u
        obtain ⟨kV_v8, kF_f9, hIv8, hk0_v8, hk1_v8, hk7_v8, hk8_v8, hk9_v8, hk10_v8, hk31_v8, hk32_v8⟩ := hw
        have hM_v8 : KV [] v8 v := KV.tr kV_v8 hM_v1 rfl
        have hA_f9 : KF [13, 14] f9 f := KF.tr kF_f9 hA_f1 rfl
        have hP : va_P (dC, dI) vwCl (XW cy x0 x v8 f9) H := hP
        have hD : va_D A (XW cy x0 x v8 f9) := hD
        have hq0_v8 : v8 0 = (v 0) := hk0_v8.trans hq0_v1
        have hq1_v8 : v8 1 = (v 1) := hk1_v8.trans hq1_v1
        have hq7_v8 : v8 7 = (v 7) := hk7_v8.trans hq7_v1
        have hq8_v8 : v8 8 = (v 8) := hk8_v8.trans hq8_v1
        have hq9_v8 : v8 9 = (v 9) := hk9_v8.trans hq9_v1
        have hq10_v8 : v8 10 = (v 10) := hk10_v8.trans hq10_v1
        have hq31_v8 : v8 31 = (v 31) := hk31_v8.trans hq31_v1
        have hq32_v8 : v8 32 = (v 32) := hk32_v8.trans hq32_v1
        refine lv_if_ne (tgt := 32) hx hb dX10_naked_23 (by decide) (fun c10 => ?_) (fun c10 => ?_)
        · skip
          have zc10 : ¬ (r7.toInt = 0) := by rw [fa_eq, show (0 : Int32).toInt = 0 from by decide] at c10; exact c10
          obtain ⟨t11, et11⟩ : ∃ y : Int32, y = l2_1 + 1 := ⟨_, rfl⟩
          have zt11 : t11.toInt = l2_1.toInt + 1 := by rw [et11]; exact add_i rfl (by decide) (by omega) (by omega)
          refine lv_iinc (v := t11) (lv' := [(2, .int t11), (1, .int l1_1), (0, .ref x0)]) hx hb dX10_naked_32 hl (k := 0) rfl (by rw [et11]; rfl) (by decide) rfl (fun ls hl => ?_)
          refine lv_goto (tgt := 4) hx hb dX10_naked_35 (by decide) ?_
          have rg12 := fb_rng t11
          exact ih1 l1_1 t11 v8 f9 hIv8 hq0_v8 hq1_v8 hq7_v8 hq8_v8 hq9_v8 hq10_v8 hq31_v8 hq32_v8 ⟨show (0 : Int) ≤ t11.toInt by omega, show t11.toInt ≤ (2147483647 : Int) by omega⟩ hM_v8 hA_f9 (by show (2147483647 - t11.toInt).toNat < n1; omega) _ _ _ hP hD hS (lv_sub hl [0, 1, 2] rfl)
        · skip
          have zc10 : r7.toInt = 0 := by rw [fa_eq, show (0 : Int32).toInt = 0 from by decide] at c10; exact c10
          refine lv_iload_n hx hb dX10_naked_26 rfl (lv_at hl 1 rfl) ?_
          refine lv_iconst (v := 1) hx hb dX10_naked_27 (by decide) ?_
          refine lv_iload_n hx hb dX10_naked_28 rfl (lv_at hl 0 rfl) ?_
          refine lv_ishl hx hb dX10_naked_29 ?_
          refine lv_topi (fun t13 et13 => ?_)
          have zt13 : 1 ≤ t13.toInt ∧ t13.toInt ≤ 32 := by rw [et13]; exact shl1_rng (by omega) (by omega)
          refine lv_ior hx hb dX10_naked_30 ?_
          refine lv_topi (fun t14 et14 => ?_)
          refine lv_istore_n (lv' := [(1, .int t14), (2, .int l2_1), (0, .ref x0)]) hx hb dX10_naked_31 rfl hl (by decide) rfl (fun ls hl => ?_)
          obtain ⟨t15, et15⟩ : ∃ y : Int32, y = l2_1 + 1 := ⟨_, rfl⟩
          have zt15 : t15.toInt = l2_1.toInt + 1 := by rw [et15]; exact add_i rfl (by decide) (by omega) (by omega)
          refine lv_iinc (v := t15) (lv' := [(2, .int t15), (1, .int t14), (0, .ref x0)]) hx hb dX10_naked_32 hl (k := 1) rfl (by rw [et15]; rfl) (by decide) rfl (fun ls hl => ?_)
          refine lv_goto (tgt := 4) hx hb dX10_naked_35 (by decide) ?_
          have rg16 := fb_rng t15
          exact ih1 t14 t15 v8 f9 hIv8 hq0_v8 hq1_v8 hq7_v8 hq8_v8 hq9_v8 hq10_v8 hq31_v8 hq32_v8 ⟨show (0 : Int) ≤ t15.toInt by omega, show t15.toInt ≤ (2147483647 : Int) by omega⟩ hM_v8 hA_f9 (by show (2147483647 - t15.toInt).toNat < n1; omega) _ _ _ hP hD hS (lv_sub hl [0, 1, 2] rfl)
  exact lp1 _ 0 0 v f hIv rfl rfl rfl rfl rfl rfl rfl rfl ⟨by decide, by decide⟩ hM_v hA_f (Nat.lt_succ_self _) _ _ _ hP hD hS (lv_sub hl [0, 1, 2] rfl)
