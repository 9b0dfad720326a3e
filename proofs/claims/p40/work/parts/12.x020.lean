set_option maxHeartbeats 4000000 in
set_option maxRecDepth 100000 in
theorem sX_X3_bestTurning_1 (l : Launch) (dC : Nat → ClassId) (dI : Nat → Nat → Nat) (cy : Nat → ClassId) (x0 : Nat) (x : Nat → Nat)  (v : Nat → Int32) (f : Nat → Nat → Int32) (hIv : XI v)  : ctI l (dC, dI) cy yX3_bestTurning cX3_bestTurning 5 .int 6 177 0 0 ((Nat → Int32) × (Nat → Nat → Int32)) [.ref (x 25)] (XW cy x0 x v f) (fun r u => KV [] u.1 v ∧ KF [13, 14, 18] u.2 f ∧ XI u.1 ∧ u.1 0 = v 0 ∧ u.1 1 = v 1 ∧ u.1 7 = v 7 ∧ u.1 8 = v 8 ∧ u.1 9 = v 9 ∧ u.1 10 = v 10 ∧ u.1 31 = v 31 ∧ u.1 32 = v 32) (fun u => XW cy x0 x u.1 u.2) := by
  refine ctI_of (by decide) (Nat.le_of_ble_eq_true rfl) (fun p e s m below meth c A ls Q hx hb hml hts hown hE hP hD hA hl ret => ?_)
  have hM_v : KV [] v v := fun _ _ => rfl
  have hA_f : KF [13, 14, 18] f f := fun _ _ => rfl
  have hown : s.vm.findClass RX3 = some m.cls := hown
  have hS : va_S A s.heap s.heap [] := va_S.rf
  have hl : lv_has ls 5 [(0, .ref (x 25))] := hl
  refine lv_iconst (v := (-1)) hx hb dX3_bestTurning_0 (by decide) ?_
  refine lv_istore_n (lv' := [(1, .int (-1)), (0, .ref (x 25))]) hx hb dX3_bestTurning_1 rfl hl (by decide) rfl (fun ls hl => ?_)
  refine lv_iconst (v := (-1)) hx hb dX3_bestTurning_2 (by decide) ?_
  refine lv_istore_n (lv' := [(2, .int (-1)), (1, .int (-1)), (0, .ref (x 25))]) hx hb dX3_bestTurning_3 rfl hl (by decide) rfl (fun ls hl => ?_)
  refine lv_iconst (v := 0) hx hb dX3_bestTurning_4 (by decide) ?_
  refine lv_istore_n (lv' := [(3, .int 0), (2, .int (-1)), (1, .int (-1)), (0, .ref (x 25))]) hx hb dX3_bestTurning_5 rfl hl (by decide) rfl (fun ls hl => ?_)
  have lp1 : ∀ (n1 : Nat) (l1_1 : Int32) (l2_1 : Int32) (l3_1 : Int32) (v1 : Nat → Int32) (f1 : Nat → Nat → Int32), XI v1 → v1 0 = (v 0) → v1 1 = (v 1) → v1 7 = (v 7) → v1 8 = (v 8) → v1 9 = (v 9) → v1 10 = (v 10) → v1 31 = (v 31) → v1 32 = (v 32) → ((0 : Int) ≤ l3_1.toInt ∧ l3_1.toInt ≤ 2147483647) → KV [] v1 v → KF [13, 14, 18] f1 f → (2147483647 - l3_1.toInt).toNat < n1 → ∀ (H : Heap) (locs : List Loc) (ls : Array Slot), va_P (dC, dI) vwCl (XW cy x0 x v1 f1) H → va_D A (XW cy x0 x v1 f1) → va_S A s.heap H locs → lv_has ls 5 [(3, .int l3_1), (2, .int l2_1), (1, .int l1_1), (0, .ref (x 25))] → W p l e { frames := 6, cells := 0, slots := 0, locals := 177 } s m ([.ref (x 25)] : List Value).toArray below meth c H locs 0 0 Q (F0 m 6 ls []) := by
    intro n1
    induction n1 with
    | zero => intro l1_1 l2_1 l3_1 v1 f1 hIv1 hq0_v1 hq1_v1 hq7_v1 hq8_v1 hq9_v1 hq10_v1 hq31_v1 hq32_v1 hr3_1 hM_v1 hA_f1 hm; exact absurd hm (Nat.not_lt_zero _)
    | succ n1 ih1 =>
      intro l1_1 l2_1 l3_1 v1 f1 hIv1 hq0_v1 hq1_v1 hq7_v1 hq8_v1 hq9_v1 hq10_v1 hq31_v1 hq32_v1 hr3_1 hM_v1 hA_f1 hm1 H locs ls hP hD hS hl
      refine lv_iload_n hx hb dX3_bestTurning_6 rfl (lv_at hl 0 rfl) ?_
      refine lv_aload_n hx hb dX3_bestTurning_7 rfl (lv_at hl 3 rfl) ?_
      refine va_get (D := (dC, dI)) (ci := 3) (v := .ref (x 26)) (C := RX3) (T := TX3) (N := 10) hx hb hts inB_3 hown hE.1 hP 26 rfl rfl 0 (by decide) (hts _ k_370) (fun _ h9 => h9) rfl dX3_bestTurning_8 ?_
      refine va_getN (D := (dC, dI)) (ci := 7) (v := .int (v1 32)) (C := RX7) (T := TX7) (N := 10) hx hb hts inB_7 hown hE.1 hP 27 rfl rfl 4 (by decide) (va_Nw.use rfl (hE.2 _ k_225)) (fun _ h9 => h9) rfl dX3_bestTurning_11 ?_
      refine tI (y := (v 32)) hq32_v1 ?_
      have b32_v : 0 ≤ (v 32).toInt ∧ (v 32).toInt ≤ 6 := XI.b hIv 32 (by decide)
      refine lv_icmp_ge (tgt := 79) hx hb dX3_bestTurning_14 (by decide) (fun c2 => ?_) (fun c2 => ?_)
      · skip
        have zc2 : (v 32).toInt ≤ l3_1.toInt := by rw [fa_le] at c2; exact c2
        have rg3 := fb_rng l3_1
        have rg4 := fb_rng (v 32)
        refine lv_iload_n hx hb dX3_bestTurning_79 rfl (lv_at hl 2 rfl) ?_
        exact ret l1_1 (v1, f1) _ _ _ _ _ _ rfl ⟨hM_v1, hA_f1, hIv1, (show v1 0 = v 0 from hq0_v1), (show v1 1 = v 1 from hq1_v1), (show v1 7 = v 7 from hq7_v1), (show v1 8 = v 8 from hq8_v1), (show v1 9 = v 9 from hq9_v1), (show v1 10 = v 10 from hq10_v1), (show v1 31 = v 31 from hq31_v1), (show v1 32 = v 32 from hq32_v1)⟩ hP hD hS dX3_bestTurning_80 (Nat.le_refl _) (Nat.le_refl _)
      · skip
        have zc2 : ¬ ((v 32).toInt ≤ l3_1.toInt) := by rw [fa_le] at c2; exact c2
        have rg5 := fb_rng l3_1
        have rg6 := fb_rng (v 32)
        refine lv_aload_n hx hb dX3_bestTurning_17 rfl (lv_at hl 3 rfl) ?_
        refine va_get (D := (dC, dI)) (ci := 3) (v := .ref (x 27)) (C := RX3) (T := TX3) (N := 10) hx hb hts inB_3 hown hE.1 hP 26 rfl rfl 2 (by decide) (hts _ k_372) (fun _ h9 => h9) rfl dX3_bestTurning_18 ?_
        refine lv_aload_n hx hb dX3_bestTurning_21 rfl (lv_at hl 3 rfl) ?_
        refine va_get (D := (dC, dI)) (ci := 3) (v := .ref (x 21)) (C := RX3) (T := TX3) (N := 10) hx hb hts inB_3 hown hE.1 hP 26 rfl rfl 1 (by decide) (hts _ k_371) (fun _ h9 => h9) rfl dX3_bestTurning_22 ?_
        refine cbVv (n := 1) (rest := []) hx hb hml hown hts hE hP hD hS hA (sX_X1_copy_1 l dC dI cy x0 x  v1 f1 hIv1 ) k_945 k_946 k_947 k_106 k_948 (by decide +kernel) ⟨Nat.le_of_ble_eq_true rfl, Nat.le_of_ble_eq_true rfl⟩ 28 1 rfl rfl (rfl) hl.1 rfl (Nat.le_of_ble_eq_true rfl) dX3_bestTurning_25 (fun u H locs hw hP hD hS => ?_)
        obtain ⟨v7, f8⟩ := u
        obtain ⟨kV_v7, kF_f8, hIv7, hk0_v7, hk1_v7, hk7_v7, hk8_v7, hk9_v7, hk10_v7, hk31_v7, hk32_v7⟩ := hw
        have hM_v7 : KV [] v7 v := KV.tr kV_v7 hM_v1 rfl
        have hA_f8 : KF [13, 14, 18] f8 f := KF.tr kF_f8 hA_f1 rfl
        have hP : va_P (dC, dI) vwCl (XW cy x0 x v7 f8) H := hP
        have hD : va_D A (XW cy x0 x v7 f8) := hD
        have hq0_v7 : v7 0 = (v 0) := hk0_v7.trans hq0_v1
        have hq1_v7 : v7 1 = (v 1) := hk1_v7.trans hq1_v1
        have hq7_v7 : v7 7 = (v 7) := hk7_v7.trans hq7_v1
        have hq8_v7 : v7 8 = (v 8) := hk8_v7.trans hq8_v1
        have hq9_v7 : v7 9 = (v 9) := hk9_v7.trans hq9_v1
        have hq10_v7 : v7 10 = (v 10) := hk10_v7.trans hq10_v1
        have hq31_v7 : v7 31 = (v 31) := hk31_v7.trans hq31_v1
        have hq32_v7 : v7 32 = (v 32) := hk32_v7.trans hq32_v1
        refine lv_aload_n hx hb dX3_bestTurning_28 rfl (lv_at hl 3 rfl) ?_
        refine va_get (D := (dC, dI)) (ci := 3) (v := .ref (x 27)) (C := RX3) (T := TX3) (N := 10) hx hb hts inB_3 hown hE.1 hP 26 rfl rfl 2 (by decide) (hts _ k_372) (fun _ h9 => h9) rfl dX3_bestTurning_29 ?_
        refine lv_iconst (v := 3) hx hb dX3_bestTurning_32 (by decide) ?_
        refine lv_iload_n hx hb dX3_bestTurning_33 rfl (lv_at hl 0 rfl) ?_
        refine lv_iconst (v := 0) hx hb dX3_bestTurning_34 (by decide) ?_
        refine cbVv (n := 3) (rest := []) hx hb hml hown hts hE hP hD hS hA (sX_X1_setPart_2 l dC dI cy x0 x 3 l3_1 0 v7 f8 hIv7 ) k_1158 k_875 k_876 k_106 k_877 (by decide +kernel) ⟨Nat.le_of_ble_eq_true rfl, Nat.le_of_ble_eq_true rfl⟩ 28 1 rfl rfl (rfl) hl.1 rfl (Nat.le_of_ble_eq_true rfl) dX3_bestTurning_35 (fun u H locs hw hP hD hS => ?_)
        obtain ⟨v9, f10⟩ := u
        obtain ⟨kV_v9, kF_f10, hIv9, hk0_v9, hk1_v9, hk7_v9, hk8_v9, hk9_v9, hk10_v9, hk31_v9, hk32_v9⟩ := hw
        have hM_v9 : KV [] v9 v := KV.tr kV_v9 hM_v7 rfl
        have hA_f10 : KF [13, 14, 18] f10 f := KF.tr kF_f10 hA_f8 rfl
        have hP : va_P (dC, dI) vwCl (XW cy x0 x v9 f10) H := hP
        have hD : va_D A (XW cy x0 x v9 f10) := hD
        have hq0_v9 : v9 0 = (v 0) := hk0_v9.trans hq0_v7
        have hq1_v9 : v9 1 = (v 1) := hk1_v9.trans hq1_v7
        have hq7_v9 : v9 7 = (v 7) := hk7_v9.trans hq7_v7
        have hq8_v9 : v9 8 = (v 8) := hk8_v9.trans hq8_v7
        have hq9_v9 : v9 9 = (v 9) := hk9_v9.trans hq9_v7
        have hq10_v9 : v9 10 = (v 10) := hk10_v9.trans hq10_v7
        have hq31_v9 : v9 31 = (v 31) := hk31_v9.trans hq31_v7
        have hq32_v9 : v9 32 = (v 32) := hk32_v9.trans hq32_v7
        refine lv_aload_n hx hb dX3_bestTurning_38 rfl (lv_at hl 3 rfl) ?_
        refine va_get (D := (dC, dI)) (ci := 3) (v := .ref (x 27)) (C := RX3) (T := TX3) (N := 10) hx hb hts inB_3 hown hE.1 hP 26 rfl rfl 2 (by decide) (hts _ k_372) (fun _ h9 => h9) rfl dX3_bestTurning_39 ?_
        refine cbVi (n := 0) (rest := []) hx hb hml hown hts hE hP hD hS hA (sX_X1_fittedMen_2 l dC dI cy x0 x  v9 f10 hIv9 ) k_1041 k_964 k_965 k_106 k_966 (by decide +kernel) ⟨Nat.le_of_ble_eq_true rfl, Nat.le_of_ble_eq_true rfl⟩ 28 1 rfl rfl (rfl) hl.1 rfl (Nat.le_of_ble_eq_true rfl) dX3_bestTurning_42 (fun r11 u H locs hw hP hD hS => ?_)
        obtain ⟨v12, f13⟩ := u
        obtain ⟨kV_v12, kF_f13, hIv12, hk0_v12, hk1_v12, hk7_v12, hk8_v12, hk9_v12, hk10_v12, hk31_v12, hk32_v12⟩ := hw
        have hM_v12 : KV [] v12 v := KV.tr kV_v12 hM_v9 rfl
        have hA_f13 : KF [13, 14, 18] f13 f := KF.tr kF_f13 hA_f10 rfl
        have hP : va_P (dC, dI) vwCl (XW cy x0 x v12 f13) H := hP
        have hD : va_D A (XW cy x0 x v12 f13) := hD
        have hq0_v12 : v12 0 = (v 0) := hk0_v12.trans hq0_v9
        have hq1_v12 : v12 1 = (v 1) := hk1_v12.trans hq1_v9
        have hq7_v12 : v12 7 = (v 7) := hk7_v12.trans hq7_v9
        have hq8_v12 : v12 8 = (v 8) := hk8_v12.trans hq8_v9
        have hq9_v12 : v12 9 = (v 9) := hk9_v12.trans hq9_v9
        have hq10_v12 : v12 10 = (v 10) := hk10_v12.trans hq10_v9
        have hq31_v12 : v12 31 = (v 31) := hk31_v12.trans hq31_v9
        have hq32_v12 : v12 32 = (v 32) := hk32_v12.trans hq32_v9
        refine cbSi (n := 1) (rest := []) hx hb hml hown hts hE hP hD hS hA (sX_J6_bitCount_0f7a4_1 l dC dI cy x0 x r11 v12 f13 hIv12 ) k_1042 k_1043 k_121 k_1044 (by decide +kernel) ⟨Nat.le_of_ble_eq_true rfl, Nat.le_of_ble_eq_true rfl⟩ (rfl) hl.1 rfl (Nat.le_of_ble_eq_true rfl) dX3_bestTurning_45 (fun r14 u H locs hw hP hD hS => ?_)
        refine lv_istore (lv' := [(4, .int r14), (3, .int l3_1), (2, .int l2_1), (1, .int l1_1), (0, .ref (x 25))]) hx hb dX3_bestTurning_48 hl (by decide) rfl (fun ls hl => ?_)
        refine lv_aload_n hx hb dX3_bestTurning_50 rfl (lv_at hl 4 rfl) ?_
        refine va_get (D := (dC, dI)) (ci := 3) (v := .ref (x 21)) (C := RX3) (T := TX3) (N := 10) hx hb hts inB_3 hown hE.1 hP 26 rfl rfl 1 (by decide) (hts _ k_371) (fun _ h9 => h9) rfl dX3_bestTurning_51 ?_
        refine lv_iconst (v := 4) hx hb dX3_bestTurning_54 (by decide) ?_
        refine lv_iload_n hx hb dX3_bestTurning_55 rfl (lv_at hl 1 rfl) ?_
        refine cbVi (n := 2) (rest := []) hx hb hml hown hts hE hP hD hS hA (sX_X1_part_1 l dC dI cy x0 x 4 l3_1 v12 f13 hIv12 ) k_1012 k_828 k_829 k_106 k_830 (by decide +kernel) ⟨Nat.le_of_ble_eq_true rfl, Nat.le_of_ble_eq_true rfl⟩ 22 1 rfl rfl (rfl) hl.1 rfl (Nat.le_of_ble_eq_true rfl) dX3_bestTurning_56 (fun r15 u H locs hw hP hD hS => ?_)
        refine lv_if_ne (tgt := 73) hx hb dX3_bestTurning_59 (by decide) (fun c16 => ?_) (fun c16 => ?_)
        · skip
          have zc16 : ¬ (r15.toInt = 0) := by rw [fa_eq, show (0 : Int32).toInt = 0 from by decide] at c16; exact c16
          obtain ⟨t17, et17⟩ : ∃ y : Int32, y = l3_1 + 1 := ⟨_, rfl⟩
          have zt17 : t17.toInt = l3_1.toInt + 1 := by rw [et17]; exact add_i rfl (by decide) (by omega) (by omega)
          refine lv_iinc (v := t17) (lv' := [(3, .int t17), (4, .int r14), (2, .int l2_1), (1, .int l1_1), (0, .ref (x 25))]) hx hb dX3_bestTurning_73 hl (k := 1) rfl (by rw [et17]; rfl) (by decide) rfl (fun ls hl => ?_)
          refine lv_goto (tgt := 6) hx hb dX3_bestTurning_76 (by decide) ?_
          have rg18 := fb_rng t17
          exact ih1 l1_1 l2_1 t17 v12 f13 hIv12 hq0_v12 hq1_v12 hq7_v12 hq8_v12 hq9_v12 hq10_v12 hq31_v12 hq32_v12 ⟨show (0 : Int) ≤ t17.toInt by omega, show t17.toInt ≤ (2147483647 : Int) by omega⟩ hM_v12 hA_f13 (by show (2147483647 - t17.toInt).toNat < n1; omega) _ _ _ hP hD hS (lv_sub hl [0, 2, 3, 4] rfl)
        · skip
          have zc16 : r15.toInt = 0 := by rw [fa_eq, show (0 : Int32).toInt = 0 from by decide] at c16; exact c16
          refine lv_iload hx hb dX3_bestTurning_62 (lv_at hl 0 rfl) ?_
          refine lv_iload_n hx hb dX3_bestTurning_64 rfl (lv_at hl 2 rfl) ?_
          refine lv_icmp_le (tgt := 73) hx hb dX3_bestTurning_65 (by decide) (fun c19 => ?_) (fun c19 => ?_)
          · skip
            have zc19 : r14.toInt ≤ l2_1.toInt := by rw [fa_le] at c19; exact c19
            have rg20 := fb_rng r14
            have rg21 := fb_rng l2_1
            obtain ⟨t22, et22⟩ : ∃ y : Int32, y = l3_1 + 1 := ⟨_, rfl⟩
            have zt22 : t22.toInt = l3_1.toInt + 1 := by rw [et22]; exact add_i rfl (by decide) (by omega) (by omega)
            refine lv_iinc (v := t22) (lv' := [(3, .int t22), (4, .int r14), (2, .int l2_1), (1, .int l1_1), (0, .ref (x 25))]) hx hb dX3_bestTurning_73 hl (k := 1) rfl (by rw [et22]; rfl) (by decide) rfl (fun ls hl => ?_)
            refine lv_goto (tgt := 6) hx hb dX3_bestTurning_76 (by decide) ?_
            have rg23 := fb_rng t22
            exact ih1 l1_1 l2_1 t22 v12 f13 hIv12 hq0_v12 hq1_v12 hq7_v12 hq8_v12 hq9_v12 hq10_v12 hq31_v12 hq32_v12 ⟨show (0 : Int) ≤ t22.toInt by omega, show t22.toInt ≤ (2147483647 : Int) by omega⟩ hM_v12 hA_f13 (by show (2147483647 - t22.toInt).toNat < n1; omega) _ _ _ hP hD hS (lv_sub hl [0, 2, 3, 4] rfl)
          · skip
            have zc19 : ¬ (r14.toInt ≤ l2_1.toInt) := by rw [fa_le] at c19; exact c19
            have rg24 := fb_rng r14
            have rg25 := fb_rng l2_1
            refine lv_iload_n hx hb dX3_bestTurning_68 rfl (lv_at hl 1 rfl) ?_
            refine lv_istore_n (lv' := [(1, .int l3_1), (4, .int r14), (3, .int l3_1), (2, .int l2_1), (0, .ref (x 25))]) hx hb dX3_bestTurning_69 rfl hl (by decide) rfl (fun ls hl => ?_)
            refine lv_iload hx hb dX3_bestTurning_70 (lv_at hl 1 rfl) ?_
            refine lv_istore_n (lv' := [(2, .int r14), (1, .int l3_1), (4, .int r14), (3, .int l3_1), (0, .ref (x 25))]) hx hb dX3_bestTurning_72 rfl hl (by decide) rfl (fun ls hl => ?_)
            obtain ⟨t26, et26⟩ : ∃ y : Int32, y = l3_1 + 1 := ⟨_, rfl⟩
            have zt26 : t26.toInt = l3_1.toInt + 1 := by rw [et26]; exact add_i rfl (by decide) (by omega) (by omega)
            refine lv_iinc (v := t26) (lv' := [(3, .int t26), (2, .int r14), (1, .int l3_1), (4, .int r14), (0, .ref (x 25))]) hx hb dX3_bestTurning_73 hl (k := 3) rfl (by rw [et26]; rfl) (by decide) rfl (fun ls hl => ?_)
            refine lv_goto (tgt := 6) hx hb dX3_bestTurning_76 (by decide) ?_
            have rg27 := fb_rng t26
            exact ih1 l3_1 r14 t26 v12 f13 hIv12 hq0_v12 hq1_v12 hq7_v12 hq8_v12 hq9_v12 hq10_v12 hq31_v12 hq32_v12 ⟨show (0 : Int) ≤ t26.toInt by omega, show t26.toInt ≤ (2147483647 : Int) by omega⟩ hM_v12 hA_f13 (by show (2147483647 - t26.toInt).toNat < n1; omega) _ _ _ hP hD hS (lv_sub hl [0, 1, 2, 4] rfl)
  exact lp1 _ (-1) (-1) 0 v f hIv rfl rfl rfl rfl rfl rfl rfl rfl ⟨by decide, by decide⟩ hM_v hA_f (Nat.lt_succ_self _) _ _ _ hP hD hS (lv_sub hl [0, 1, 2, 3] rfl)
set_option maxHeartbeats 4000000 in
set_option maxRecDepth 100000 in
theorem sX_X10_turning_1 (l : Launch) (dC : Nat → ClassId) (dI : Nat → Nat → Nat) (cy : Nat → ClassId) (x0 : Nat) (x : Nat → Nat)  (v : Nat → Int32) (f : Nat → Nat → Int32) (hIv : XI v)  : ctI l (dC, dI) cy yX10_turning cX10_turning 1 .int 7 201 0 0 ((Nat → Int32) × (Nat → Nat → Int32)) [.ref x0] (XW cy x0 x v f) (fun r u => KV [] u.1 v ∧ KF [13, 14, 18] u.2 f ∧ XI u.1 ∧ u.1 0 = v 0 ∧ u.1 1 = v 1 ∧ u.1 7 = v 7 ∧ u.1 8 = v 8 ∧ u.1 9 = v 9 ∧ u.1 10 = v 10 ∧ u.1 31 = v 31 ∧ u.1 32 = v 32) (fun u => XW cy x0 x u.1 u.2) := by
  refine ctI_of (by decide) (Nat.le_of_ble_eq_true rfl) (fun p e s m below meth c A ls Q hx hb hml hts hown hE hP hD hA hl ret => ?_)
  have hM_v : KV [] v v := fun _ _ => rfl
  have hA_f : KF [13, 14, 18] f f := fun _ _ => rfl
  have hown : s.vm.findClass RX10 = some m.cls := hown
  have hS : va_S A s.heap s.heap [] := va_S.rf
  have hl : lv_has ls 1 [(0, .ref x0)] := hl
  refine lv_aload_n hx hb dX10_turning_0 rfl (lv_at hl 0 rfl) ?_
  refine va_get (D := (dC, dI)) (ci := 10) (v := .ref (x 25)) (C := RX10) (T := TX10) (N := 10) hx hb hts inB_10 hown hE.1 hP 0 rfl rfl 5 (by decide) (hts _ k_496) (fun _ h9 => h9) rfl dX10_turning_1 ?_
  refine cbVi (n := 0) (rest := []) hx hb hml hown hts hE hP hD hS hA (sX_X3_bestTurning_1 l dC dI cy x0 x  v f hIv ) k_1154 k_1155 k_1156 k_109 k_1157 (by decide +kernel) ⟨Nat.le_of_ble_eq_true rfl, Nat.le_of_ble_eq_true rfl⟩ 26 3 rfl rfl (rfl) hl.1 rfl (Nat.le_of_ble_eq_true rfl) dX10_turning_4 (fun r1 u H locs hw hP hD hS => ?_)
  obtain ⟨v2, f3⟩ := u
  obtain ⟨kV_v2, kF_f3, hIv2, hk0_v2, hk1_v2, hk7_v2, hk8_v2, hk9_v2, hk10_v2, hk31_v2, hk32_v2⟩ := hw
  have hM_v2 : KV [] v2 v := KV.tr kV_v2 hM_v rfl
  have hA_f3 : KF [13, 14, 18] f3 f := KF.tr kF_f3 hA_f rfl
  have hP : va_P (dC, dI) vwCl (XW cy x0 x v2 f3) H := hP
  have hD : va_D A (XW cy x0 x v2 f3) := hD
  have hq0_v2 : v2 0 = (v 0) := hk0_v2
  have hq1_v2 : v2 1 = (v 1) := hk1_v2
  have hq7_v2 : v2 7 = (v 7) := hk7_v2
  have hq8_v2 : v2 8 = (v 8) := hk8_v2
  have hq9_v2 : v2 9 = (v 9) := hk9_v2
  have hq10_v2 : v2 10 = (v 10) := hk10_v2
  have hq31_v2 : v2 31 = (v 31) := hk31_v2
  have hq32_v2 : v2 32 = (v 32) := hk32_v2
  exact ret r1 (v2, f3) _ _ _ _ _ _ rfl ⟨hM_v2, hA_f3, hIv2, hk0_v2, hk1_v2, hk7_v2, hk8_v2, hk9_v2, hk10_v2, hk31_v2, hk32_v2⟩ hP hD hS dX10_turning_7 (Nat.le_refl _) (Nat.le_refl _)
set_option maxHeartbeats 4000000 in
set_option maxRecDepth 100000 in
theorem sX_X1_menFitting_1 (l : Launch) (dC : Nat → ClassId) (dI : Nat → Nat → Nat) (cy : Nat → ClassId) (x0 : Nat) (x : Nat → Nat) (p1 : Int32) (v : Nat → Int32) (f : Nat → Nat → Int32) (hIv : XI v)  : ctI l (dC, dI) cy yX1_menFitting cX1_menFitting 4 .int 5 155 0 0 ((Nat → Int32) × (Nat → Nat → Int32)) [.ref (x 21), .int p1] (XW cy x0 x v f) (fun r u => KV [] u.1 v ∧ KF [13, 14] u.2 f ∧ XI u.1 ∧ u.1 0 = v 0 ∧ u.1 1 = v 1 ∧ u.1 7 = v 7 ∧ u.1 8 = v 8 ∧ u.1 9 = v 9 ∧ u.1 10 = v 10 ∧ u.1 31 = v 31 ∧ u.1 32 = v 32) (fun u => XW cy x0 x u.1 u.2) := by
  refine ctI_of (by decide) (Nat.le_of_ble_eq_true rfl) (fun p e s m below meth c A ls Q hx hb hml hts hown hE hP hD hA hl ret => ?_)
  have hM_v : KV [] v v := fun _ _ => rfl
  have hA_f : KF [13, 14] f f := fun _ _ => rfl
  have hown : s.vm.findClass RX1 = some m.cls := hown
  have hS : va_S A s.heap s.heap [] := va_S.rf
  have hl : lv_has ls 4 [(0, .ref (x 21)), (1, .int p1)] := hl
  refine lv_iconst (v := 0) hx hb dX1_menFitting_0 (by decide) ?_
  refine lv_istore_n (lv' := [(2, .int 0), (0, .ref (x 21)), (1, .int p1)]) hx hb dX1_menFitting_1 rfl hl (by decide) rfl (fun ls hl => ?_)
  refine lv_iconst (v := 0) hx hb dX1_menFitting_2 (by decide) ?_
  refine lv_istore_n (lv' := [(3, .int 0), (2, .int 0), (0, .ref (x 21)), (1, .int p1)]) hx hb dX1_menFitting_3 rfl hl (by decide) rfl (fun ls hl => ?_)
  have lp1 : ∀ (n1 : Nat) (l2_1 : Int32) (l3_1 : Int32) (v1 : Nat → Int32) (f1 : Nat → Nat → Int32), XI v1 → v1 0 = (v 0) → v1 1 = (v 1) → v1 7 = (v 7) → v1 8 = (v 8) → v1 9 = (v 9) → v1 10 = (v 10) → v1 31 = (v 31) → v1 32 = (v 32) → ((0 : Int) ≤ l3_1.toInt ∧ l3_1.toInt ≤ 2147483647) → KV [] v1 v → KF [13, 14] f1 f → (2147483647 - l3_1.toInt).toNat < n1 → ∀ (H : Heap) (locs : List Loc) (ls : Array Slot), va_P (dC, dI) vwCl (XW cy x0 x v1 f1) H → va_D A (XW cy x0 x v1 f1) → va_S A s.heap H locs → lv_has ls 4 [(3, .int l3_1), (2, .int l2_1), (0, .ref (x 21)), (1, .int p1)] → W p l e { frames := 5, cells := 0, slots := 0, locals := 155 } s m ([.ref (x 21), .int p1] : List Value).toArray below meth c H locs 0 0 Q (F0 m 4 ls []) := by
    intro n1
    induction n1 with
    | zero => intro l2_1 l3_1 v1 f1 hIv1 hq0_v1 hq1_v1 hq7_v1 hq8_v1 hq9_v1 hq10_v1 hq31_v1 hq32_v1 hr3_1 hM_v1 hA_f1 hm; exact absurd hm (Nat.not_lt_zero _)
    | succ n1 ih1 =>
      intro l2_1 l3_1 v1 f1 hIv1 hq0_v1 hq1_v1 hq7_v1 hq8_v1 hq9_v1 hq10_v1 hq31_v1 hq32_v1 hr3_1 hM_v1 hA_f1 hm1 H locs ls hP hD hS hl
      refine lv_iload_n hx hb dX1_menFitting_4 rfl (lv_at hl 0 rfl) ?_
      refine lv_aload_n hx hb dX1_menFitting_5 rfl (lv_at hl 2 rfl) ?_
      refine va_get (D := (dC, dI)) (ci := 1) (v := .ref (x 26)) (C := RX1) (T := TX1) (N := 2) hx hb hts inB_1 hown hE.1 hP 22 rfl rfl 0 (by decide) (hts _ k_318) (fun _ h9 => h9) rfl dX1_menFitting_6 ?_
      refine va_getN (D := (dC, dI)) (ci := 7) (v := .int (v1 31)) (C := RX7) (T := TX7) (N := 10) hx hb hts inB_7 hown hE.1 hP 27 rfl rfl 3 (by decide) (va_Nw.use rfl (hE.2 _ k_219)) (fun _ h9 => h9) rfl dX1_menFitting_9 ?_
      refine tI (y := (v 31)) hq31_v1 ?_
      have b31_v : 0 ≤ (v 31).toInt ∧ (v 31).toInt ≤ 6 := XI.b hIv 31 (by decide)
      refine lv_icmp_ge (tgt := 33) hx hb dX1_menFitting_12 (by decide) (fun c2 => ?_) (fun c2 => ?_)
      · skip
        have zc2 : (v 31).toInt ≤ l3_1.toInt := by rw [fa_le] at c2; exact c2
        have rg3 := fb_rng l3_1
        have rg4 := fb_rng (v 31)
        refine lv_iload_n hx hb dX1_menFitting_33 rfl (lv_at hl 1 rfl) ?_
        exact ret l2_1 (v1, f1) _ _ _ _ _ _ rfl ⟨hM_v1, hA_f1, hIv1, (show v1 0 = v 0 from hq0_v1), (show v1 1 = v 1 from hq1_v1), (show v1 7 = v 7 from hq7_v1), (show v1 8 = v 8 from hq8_v1), (show v1 9 = v 9 from hq9_v1), (show v1 10 = v 10 from hq10_v1), (show v1 31 = v 31 from hq31_v1), (show v1 32 = v 32 from hq32_v1)⟩ hP hD hS dX1_menFitting_34 (Nat.le_refl _) (Nat.le_refl _)
      · skip
        have zc2 : ¬ ((v 31).toInt ≤ l3_1.toInt) := by rw [fa_le] at c2; exact c2
        have rg5 := fb_rng l3_1
        have rg6 := fb_rng (v 31)
        refine lv_aload_n hx hb dX1_menFitting_15 rfl (lv_at hl 2 rfl) ?_
        refine lv_iload_n hx hb dX1_menFitting_16 rfl (lv_at hl 0 rfl) ?_
        refine lv_iload_n hx hb dX1_menFitting_17 rfl (lv_at hl 3 rfl) ?_
        refine cbVi (n := 2) (rest := []) hx hb hml hown hts hE hP hD hS hA (sX_X1_fits_1 l dC dI cy x0 x l3_1 p1 v1 f1 hIv1 ) k_817 k_818 k_819 k_106 k_820 (by decide +kernel) ⟨Nat.le_of_ble_eq_true rfl, Nat.le_of_ble_eq_true rfl⟩ 22 1 rfl rfl (rfl) hl.1 rfl (Nat.le_of_ble_eq_true rfl) dX1_menFitting_18 (fun r7 u H locs hw hP hD hS => ?_)
        obtain ⟨v8, f9⟩ := u
        obtain ⟨kV_v8, kF_f9, hIv8, hk0_v8, hk1_v8, hk7_v8, hk8_v8, hk9_v8, hk10_v8, hk31_v8, hk32_v8, hw⟩ := hw
        have hM_v8 : KV [] v8 v := KV.tr kV_v8 hM_v1 rfl
        have hA_f9 : KF [13, 14] f9 f := KF.tr kF_f9 hA_f1 rfl
        have hP : va_P (dC, dI) vwCl (XW cy x0 x v8 f9) H := hP
        have hD : va_D A (XW cy x0 x v8 f9) := hD
        have hq0_v8 : v8 0 = (v 0) := hk0_v8.trans hq0_v1
        have hq1_v8 : v8 1 = (v 1) := hk1_v8.trans hq1_v1
        have hq7_v8 : v8 7 = (v 7) := hk7_v8.trans hq7_v1
        have hq8_v8 : v8 8 = (v 8) := hk8_v8.trans hq8_v1
        have hq9_v8 : v8 9 = (v 9) := hk9_v8.trans hq9_v1
        have hq10_v8 : v8 10 = (v 10) := hk10_v8.trans hq10_v1
        have hq31_v8 : v8 31 = (v 31) := hk31_v8.trans hq31_v1
        have hq32_v8 : v8 32 = (v 32) := hk32_v8.trans hq32_v1
        rcases hw with ⟨g10⟩ | ⟨g10⟩
        · skip
          subst g10
          refine lv_if_eq (tgt := 27) hx hb dX1_menFitting_21 (by decide) (fun c0 => absurd c0 (by decide)) (fun _ => ?_)
          obtain ⟨t11, et11⟩ : ∃ y : Int32, y = l2_1 + 1 := ⟨_, rfl⟩
          refine lv_iinc (v := t11) (lv' := [(2, .int t11), (3, .int l3_1), (0, .ref (x 21)), (1, .int p1)]) hx hb dX1_menFitting_24 hl (k := 1) rfl (by rw [et11]; rfl) (by decide) rfl (fun ls hl => ?_)
          obtain ⟨t12, et12⟩ : ∃ y : Int32, y = l3_1 + 1 := ⟨_, rfl⟩
          have zt12 : t12.toInt = l3_1.toInt + 1 := by rw [et12]; exact add_i rfl (by decide) (by omega) (by omega)
          refine lv_iinc (v := t12) (lv' := [(3, .int t12), (2, .int t11), (0, .ref (x 21)), (1, .int p1)]) hx hb dX1_menFitting_27 hl (k := 1) rfl (by rw [et12]; rfl) (by decide) rfl (fun ls hl => ?_)
          refine lv_goto (tgt := 4) hx hb dX1_menFitting_30 (by decide) ?_
          have rg13 := fb_rng t12
          exact ih1 t11 t12 v8 f9 hIv8 hq0_v8 hq1_v8 hq7_v8 hq8_v8 hq9_v8 hq10_v8 hq31_v8 hq32_v8 ⟨show (0 : Int) ≤ t12.toInt by omega, show t12.toInt ≤ (2147483647 : Int) by omega⟩ hM_v8 hA_f9 (by show (2147483647 - t12.toInt).toNat < n1; omega) _ _ _ hP hD hS (lv_sub hl [0, 1, 2, 3] rfl)
        · skip
          subst g10
          refine lv_if_eq (tgt := 27) hx hb dX1_menFitting_21 (by decide) (fun _ => ?_) (fun c0 => absurd (by decide) c0)
          obtain ⟨t14, et14⟩ : ∃ y : Int32, y = l3_1 + 1 := ⟨_, rfl⟩
          have zt14 : t14.toInt = l3_1.toInt + 1 := by rw [et14]; exact add_i rfl (by decide) (by omega) (by omega)
          refine lv_iinc (v := t14) (lv' := [(3, .int t14), (2, .int l2_1), (0, .ref (x 21)), (1, .int p1)]) hx hb dX1_menFitting_27 hl (k := 0) rfl (by rw [et14]; rfl) (by decide) rfl (fun ls hl => ?_)
          refine lv_goto (tgt := 4) hx hb dX1_menFitting_30 (by decide) ?_
          have rg15 := fb_rng t14
          exact ih1 l2_1 t14 v8 f9 hIv8 hq0_v8 hq1_v8 hq7_v8 hq8_v8 hq9_v8 hq10_v8 hq31_v8 hq32_v8 ⟨show (0 : Int) ≤ t14.toInt by omega, show t14.toInt ≤ (2147483647 : Int) by omega⟩ hM_v8 hA_f9 (by show (2147483647 - t14.toInt).toNat < n1; omega) _ _ _ hP hD hS (lv_sub hl [0, 1, 2, 3] rfl)
  exact lp1 _ 0 0 v f hIv rfl rfl rfl rfl rfl rfl rfl rfl ⟨by decide, by decide⟩ hM_v hA_f (Nat.lt_succ_self _) _ _ _ hP hD hS (lv_sub hl [0, 1, 2, 3] rfl)
set_option maxHeartbeats 4000000 in
set_option maxRecDepth 100000 in
theorem sX_X10_rags_1 (l : Launch) (dC : Nat → ClassId) (dI : Nat → Nat → Nat) (cy : Nat → ClassId) (x0 : Nat) (x : Nat → Nat)  (v : Nat → Int32) (f : Nat → Nat → Int32) (hIv : XI v)  : ctI l (dC, dI) cy yX10_rags cX10_rags 3 .int 6 178 0 0 ((Nat → Int32) × (Nat → Nat → Int32)) [.ref x0] (XW cy x0 x v f) (fun r u => KV [] u.1 v ∧ KF [13, 14] u.2 f ∧ XI u.1 ∧ u.1 0 = v 0 ∧ u.1 1 = v 1 ∧ u.1 7 = v 7 ∧ u.1 8 = v 8 ∧ u.1 9 = v 9 ∧ u.1 10 = v 10 ∧ u.1 31 = v 31 ∧ u.1 32 = v 32) (fun u => XW cy x0 x u.1 u.2) := by
  refine ctI_of (by decide) (Nat.le_of_ble_eq_true rfl) (fun p e s m below meth c A ls Q hx hb hml hts hown hE hP hD hA hl ret => ?_)
  have hM_v : KV [] v v := fun _ _ => rfl
  have hA_f : KF [13, 14] f f := fun _ _ => rfl
  have hown : s.vm.findClass RX10 = some m.cls := hown
  have hS : va_S A s.heap s.heap [] := va_S.rf
  have hl : lv_has ls 3 [(0, .ref x0)] := hl
  refine lv_iconst (v := 0) hx hb dX10_rags_0 (by decide) ?_
  refine lv_istore_n (lv' := [(1, .int 0), (0, .ref x0)]) hx hb dX10_rags_1 rfl hl (by decide) rfl (fun ls hl => ?_)
  refine lv_iconst (v := 0) hx hb dX10_rags_2 (by decide) ?_
  refine lv_istore_n (lv' := [(2, .int 0), (1, .int 0), (0, .ref x0)]) hx hb dX10_rags_3 rfl hl (by decide) rfl (fun ls hl => ?_)
  have lp1 : ∀ (n1 : Nat) (l1_1 : Int32) (l2_1 : Int32) (v1 : Nat → Int32) (f1 : Nat → Nat → Int32), XI v1 → v1 0 = (v 0) → v1 1 = (v 1) → v1 7 = (v 7) → v1 8 = (v 8) → v1 9 = (v 9) → v1 10 = (v 10) → v1 31 = (v 31) → v1 32 = (v 32) → ((0 : Int) ≤ l2_1.toInt ∧ l2_1.toInt ≤ 2147483647) → KV [] v1 v → KF [13, 14] f1 f → (2147483647 - l2_1.toInt).toNat < n1 → ∀ (H : Heap) (locs : List Loc) (ls : Array Slot), va_P (dC, dI) vwCl (XW cy x0 x v1 f1) H → va_D A (XW cy x0 x v1 f1) → va_S A s.heap H locs → lv_has ls 3 [(2, .int l2_1), (1, .int l1_1), (0, .ref x0)] → W p l e { frames := 6, cells := 0, slots := 0, locals := 178 } s m ([.ref x0] : List Value).toArray below meth c H locs 0 0 Q (F0 m 4 ls []) := by
    intro n1
    induction n1 with
    | zero => intro l1_1 l2_1 v1 f1 hIv1 hq0_v1 hq1_v1 hq7_v1 hq8_v1 hq9_v1 hq10_v1 hq31_v1 hq32_v1 hr2_1 hM_v1 hA_f1 hm; exact absurd hm (Nat.not_lt_zero _)
    | succ n1 ih1 =>
      intro l1_1 l2_1 v1 f1 hIv1 hq0_v1 hq1_v1 hq7_v1 hq8_v1 hq9_v1 hq10_v1 hq31_v1 hq32_v1 hr2_1 hM_v1 hA_f1 hm1 H locs ls hP hD hS hl
      refine lv_iload_n hx hb dX10_rags_4 rfl (lv_at hl 0 rfl) ?_
      refine lv_aload_n hx hb dX10_rags_5 rfl (lv_at hl 2 rfl) ?_
      refine va_get (D := (dC, dI)) (ci := 10) (v := .ref (x 26)) (C := RX10) (T := TX10) (N := 10) hx hb hts inB_10 hown hE.1 hP 0 rfl rfl 2 (by decide) (hts _ k_493) (fun _ h9 => h9) rfl dX10_rags_6 ?_
      refine va_getN (D := (dC, dI)) (ci := 7) (v := .int (v1 32)) (C := RX7) (T := TX7) (N := 10) hx hb hts inB_7 hown hE.1 hP 27 rfl rfl 4 (by decide) (va_Nw.use rfl (hE.2 _ k_227)) (fun _ h9 => h9) rfl dX10_rags_9 ?_
      refine tI (y := (v 32)) hq32_v1 ?_
      have b32_v : 0 ≤ (v 32).toInt ∧ (v 32).toInt ≤ 6 := XI.b hIv 32 (by decide)
      refine lv_icmp_ge (tgt := 38) hx hb dX10_rags_12 (by decide) (fun c2 => ?_) (fun c2 => ?_)
      · skip
        have zc2 : (v 32).toInt ≤ l2_1.toInt := by rw [fa_le] at c2; exact c2
        have rg3 := fb_rng l2_1
        have rg4 := fb_rng (v 32)
        refine lv_iload_n hx hb dX10_rags_38 rfl (lv_at hl 1 rfl) ?_
        exact ret l1_1 (v1, f1) _ _ _ _ _ _ rfl ⟨hM_v1, hA_f1, hIv1, (show v1 0 = v 0 from hq0_v1), (show v1 1 = v 1 from hq1_v1), (show v1 7 = v 7 from hq7_v1), (show v1 8 = v 8 from hq8_v1), (show v1 9 = v 9 from hq9_v1), (show v1 10 = v 10 from hq10_v1), (show v1 31 = v 31 from hq31_v1), (show v1 32 = v 32 from hq32_v1)⟩ hP hD hS dX10_rags_39 (Nat.le_refl _) (Nat.le_refl _)
      · skip
        have zc2 : ¬ ((v 32).toInt ≤ l2_1.toInt) := by rw [fa_le] at c2; exact c2
        have rg5 := fb_rng l2_1
        have rg6 := fb_rng (v 32)
        refine lv_aload_n hx hb dX10_rags_15 rfl (lv_at hl 2 rfl) ?_
        refine va_get (D := (dC, dI)) (ci := 10) (v := .ref (x 21)) (C := RX10) (T := TX10) (N := 10) hx hb hts inB_10 hown hE.1 hP 0 rfl rfl 3 (by decide) (hts _ k_494) (fun _ h9 => h9) rfl dX10_rags_16 ?_
        refine lv_iload_n hx hb dX10_rags_19 rfl (lv_at hl 0 rfl) ?_
        refine cbVi (n := 1) (rest := []) hx hb hml hown hts hE hP hD hS hA (sX_X1_menFitting_1 l dC dI cy x0 x l2_1 v1 f1 hIv1 ) k_1163 k_1164 k_1165 k_106 k_1166 (by decide +kernel) ⟨Nat.le_of_ble_eq_true rfl, Nat.le_of_ble_eq_true rfl⟩ 22 1 rfl rfl (rfl) hl.1 rfl (Nat.le_of_ble_eq_true rfl) dX10_rags_20 (fun r7 u H locs hw hP hD hS => ?_)
        obtain ⟨v8, f9⟩ := u
        obtain ⟨kV_v8, kF_f9, hIv8, hk0_v8, hk1_v8, hk7_v8, hk8_v8, hk9_v8, hk10_v8, hk31_v8, hk32_v8⟩ := hw
        have hM_v8 : KV [] v8 v := KV.tr kV_v8 hM_v1 rfl
        have hA_f9 : KF [13, 14] f9 f := KF.tr kF_f9 hA_f1 rfl
        have hP : va_P (dC, dI) vwCl (XW cy x0 x v8 f9) H := hP
        have hD : va_D A (XW cy x0 x v8 f9) := hD
        have hq0_v8 : v8 0 = (v 0) := hk0_v8.trans hq0_v1
        have hq1_v8 : v8 1 = (v 1) := hk1_v8.trans hq1_v1
        have hq7_v8 : v8 7 = (v 7) := hk7_v8.trans hq7_v1
        have hq8_v8 : v8 8 = (v 8) := hk8_v8.trans hq8_v1
        have hq9_v8 : v8 9 = (v 9) := hk9_v8.trans hq9_v1
        have hq10_v8 : v8 10 = (v 10) := hk10_v8.trans hq10_v1
        have hq31_v8 : v8 31 = (v 31) := hk31_v8.trans hq31_v1
        have hq32_v8 : v8 32 = (v 32) := hk32_v8.trans hq32_v1
        refine lv_if_ne (tgt := 32) hx hb dX10_rags_23 (by decide) (fun c10 => ?_) (fun c10 => ?_)
        · skip
          have zc10 : ¬ (r7.toInt = 0) := by rw [fa_eq, show (0 : Int32).toInt = 0 from by decide] at c10; exact c10
          obtain ⟨t11, et11⟩ : ∃ y : Int32, y = l2_1 + 1 := ⟨_, rfl⟩
          have zt11 : t11.toInt = l2_1.toInt + 1 := by rw [et11]; exact add_i rfl (by decide) (by omega) (by omega)
          refine lv_iinc (v := t11) (lv' := [(2, .int t11), (1, .int l1_1), (0, .ref x0)]) hx hb dX10_rags_32 hl (k := 0) rfl (by rw [et11]; rfl) (by decide) rfl (fun ls hl => ?_)
          refine lv_goto (tgt := 4) hx hb dX10_rags_35 (by decide) ?_
          have rg12 := fb_rng t11
          exact ih1 l1_1 t11 v8 f9 hIv8 hq0_v8 hq1_v8 hq7_v8 hq8_v8 hq9_v8 hq10_v8 hq31_v8 hq32_v8 ⟨show (0 : Int) ≤ t11.toInt by omega, show t11.toInt ≤ (2147483647 : Int) by omega⟩ hM_v8 hA_f9 (by show (2147483647 - t11.toInt).toNat < n1; omega) _ _ _ hP hD hS (lv_sub hl [0, 1, 2] rfl)
        · skip
          have zc10 : r7.toInt = 0 := by rw [fa_eq, show (0 : Int32).toInt = 0 from by decide] at c10; exact c10
          refine lv_iload_n hx hb dX10_rags_26 rfl (lv_at hl 1 rfl) ?_
          refine lv_iconst (v := 1) hx hb dX10_rags_27 (by decide) ?_
          refine lv_iload_n hx hb dX10_rags_28 rfl (lv_at hl 0 rfl) ?_
          refine lv_ishl hx hb dX10_rags_29 ?_
          refine lv_topi (fun t13 et13 => ?_)
          have zt13 : 1 ≤ t13.toInt ∧ t13.toInt ≤ 32 := by rw [et13]; exact shl1_rng (by omega) (by omega)
          refine lv_ior hx hb dX10_rags_30 ?_
          refine lv_topi (fun t14 et14 => ?_)
          refine lv_istore_n (lv' := [(1, .int t14), (2, .int l2_1), (0, .ref x0)]) hx hb dX10_rags_31 rfl hl (by decide) rfl (fun ls hl => ?_)
          obtain ⟨t15, et15⟩ : ∃ y : Int32, y = l2_1 + 1 := ⟨_, rfl⟩
          have zt15 : t15.toInt = l2_1.toInt + 1 := by rw [et15]; exact add_i rfl (by decide) (by omega) (by omega)
          refine lv_iinc (v := t15) (lv' := [(2, .int t15), (1, .int t14), (0, .ref x0)]) hx hb dX10_rags_32 hl (k := 1) rfl (by rw [et15]; rfl) (by decide) rfl (fun ls hl => ?_)
          refine lv_goto (tgt := 4) hx hb dX10_rags_35 (by decide) ?_
          have rg16 := fb_rng t15
          exact ih1 t14 t15 v8 f9 hIv8 hq0_v8 hq1_v8 hq7_v8 hq8_v8 hq9_v8 hq10_v8 hq31_v8 hq32_v8 ⟨show (0 : Int) ≤ t15.toInt by omega, show t15.toInt ≤ (2147483647 : Int) by omega⟩ hM_v8 hA_f9 (by show (2147483647 - t15.toInt).toNat < n1; omega) _ _ _ hP hD hS (lv_sub hl [0, 1, 2] rfl)
  exact lp1 _ 0 0 v f hIv rfl rfl rfl rfl rfl rfl rfl rfl ⟨by decide, by decide⟩ hM_v hA_f (Nat.lt_succ_self _) _ _ _ hP hD hS (lv_sub hl [0, 1, 2] rfl)
set_option maxHeartbeats 4000000 in
set_option maxRecDepth 100000 in
theorem sX_X10_naked_1 (l : Launch) (dC : Nat → ClassId) (dI : Nat → Nat → Nat) (cy : Nat → ClassId) (x0 : Nat) (x : Nat → Nat)  (v : Nat → Int32) (f : Nat → Nat → Int32) (hIv : XI v)  : ctI l (dC, dI) cy yX10_naked cX10_naked 3 .int 6 178 0 0 ((Nat → Int32) × (Nat → Nat → Int32)) [.ref x0] (XW cy x0 x v f) (fun r u => KV [] u.1 v ∧ KF [13, 14] u.2 f ∧ XI u.1 ∧ u.1 0 = v 0 ∧ u.1 1 = v 1 ∧ u.1 7 = v 7 ∧ u.1 8 = v 8 ∧ u.1 9 = v 9 ∧ u.1 10 = v 10 ∧ u.1 31 = v 31 ∧ u.1 32 = v 32) (fun u => XW cy x0 x u.1 u.2) := by
  refine ctI_of (by decide) (Nat.le_of_ble_eq_true rfl) (fun p e s m below meth c A ls Q hx hb hml hts hown hE hP hD hA hl ret => ?_)
  have hM_v : KV [] v v := fun _ _ => rfl
  have hA_f : KF [13, 14] f f := fun _ _ => rfl
  have hown : s.vm.findClass RX10 = some m.cls := hown
  have hS : va_S A s.heap s.heap [] := va_S.rf
  have hl : lv_has ls 3 [(0, .ref x0)] := hl
  refine lv_iconst (v := 0) hx hb dX10_naked_0 (by decide) ?_
  refine lv_istore_n (lv' := [(1, .int 0), (0, .ref x0)]) hx hb dX10_naked_1 rfl hl (by decide) rfl (fun ls hl => ?_)
  refine lv_iconst (v := 0) hx hb dX10_naked_2 (by decide) ?_
  refine lv_istore_n (lv' := [(2, .int 0), (1, .int 0), (0, .ref x0)]) hx hb dX10_naked_3 rfl hl (by decide) rfl (fun ls hl => ?_)
  have lp1 : ∀ (n1 : Nat) (l1_1 : Int32) (l2_1 : Int32) (v1 : Nat → Int32) (f1 : Nat → Nat → Int32), XI v1 → v1 0 = (v 0) → v1 1 = (v 1) → v1 7 = (v 7) → v1 8 = (v 8) → v1 9 = (v 9) → v1 10 = (v 10) → v1 31 = (v 31) → v1 32 = (v 32) → ((0 : Int) ≤ l2_1.toInt ∧ l2_1.toInt ≤ 2147483647) → KV [] v1 v → KF [13, 14] f1 f → (2147483647 - l2_1.toInt).toNat < n1 → ∀ (H : Heap) (locs : List Loc) (ls : Array Slot), va_P (dC, dI) vwCl (XW cy x0 x v1 f1) H → va_D A (XW cy x0 x v1 f1) → va_S A s.heap H locs → lv_has ls 3 [(2, .int l2_1), (1, .int l1_1), (0, .ref x0)] → W p l e { frames := 6, cells := 0, slots := 0, locals := 178 } s m ([.ref x0] : List Value).toArray below meth c H locs 0 0 Q (F0 m 4 ls []) := by
    intro n1
    induction n1 with
    | zero => intro l1_1 l2_1 v1 f1 hIv1 hq0_v1 hq1_v1 hq7_v1 hq8_v1 hq9_v1 hq10_v1 hq31_v1 hq32_v1 hr2_1 hM_v1 hA_f1 hm; exact absurd hm (Nat.not_lt_zero _)
    | succ n1 ih1 =>
      intro l1_1 l2_1 v1 f1 hIv1 hq0_v1 hq1_v1 hq7_v1 hq8_v1 hq9_v1 hq10_v1 hq31_v1 hq32_v1 hr2_1 hM_v1 hA_f1 hm1 H locs ls hP hD hS hl
      refine lv_iload_n hx hb dX10_naked_4 rfl (lv_at hl 0 rfl) ?_
      refine lv_aload_n hx hb dX10_naked_5 rfl (lv_at hl 2 rfl) ?_
      refine va_get (D := (dC, dI)) (ci := 10) (v := .ref (x 26)) (C := RX10) (T := TX10) (N := 10) hx hb hts inB_10 hown hE.1 hP 0 rfl rfl 2 (by decide) (hts _ k_493) (fun _ h9 => h9) rfl dX10_naked_6 ?_
      refine va_getN (D := (dC, dI)) (ci := 7) (v := .int (v1 31)) (C := RX7) (T := TX7) (N := 10) hx hb hts inB_7 hown hE.1 hP 27 rfl rfl 3 (by decide) (va_Nw.use rfl (hE.2 _ k_214)) (fun _ h9 => h9) rfl dX10_naked_9 ?_
      refine tI (y := (v 31)) hq31_v1 ?_
      have b31_v : 0 ≤ (v 31).toInt ∧ (v 31).toInt ≤ 6 := XI.b hIv 31 (by decide)
      refine lv_icmp_ge (tgt := 38) hx hb dX10_naked_12 (by decide) (fun c2 => ?_) (fun c2 => ?_)
      · skip
        have zc2 : (v 31).toInt ≤ l2_1.toInt := by rw [fa_le] at c2; exact c2
        have rg3 := fb_rng l2_1
        have rg4 := fb_rng (v 31)
        refine lv_iload_n hx hb dX10_naked_38 rfl (lv_at hl 1 rfl) ?_
        exact ret l1_1 (v1, f1) _ _ _ _ _ _ rfl ⟨hM_v1, hA_f1, hIv1, (show v1 0 = v 0 from hq0_v1), (show v1 1 = v 1 from hq1_v1), (show v1 7 = v 7 from hq7_v1), (show v1 8 = v 8 from hq8_v1), (show v1 9 = v 9 from hq9_v1), (show v1 10 = v 10 from hq10_v1), (show v1 31 = v 31 from hq31_v1), (show v1 32 = v 32 from hq32_v1)⟩ hP hD hS dX10_naked_39 (Nat.le_refl _) (Nat.le_refl _)
      · skip
        have zc2 : ¬ ((v 31).toInt ≤ l2_1.toInt) := by rw [fa_le] at c2; exact c2
        have rg5 := fb_rng l2_1
        have rg6 := fb_rng (v 31)
        refine lv_aload_n hx hb dX10_naked_15 rfl (lv_at hl 2 rfl) ?_
        refine va_get (D := (dC, dI)) (ci := 10) (v := .ref (x 21)) (C := RX10) (T := TX10) (N := 10) hx hb hts inB_10 hown hE.1 hP 0 rfl rfl 3 (by decide) (hts _ k_494) (fun _ h9 => h9) rfl dX10_naked_16 ?_
        refine lv_iload_n hx hb dX10_naked_19 rfl (lv_at hl 0 rfl) ?_
        refine cbVi (n := 1) (rest := []) hx hb hml hown hts hE hP hD hS hA (sX_X1_fittingCoats_1 l dC dI cy x0 x l2_1 v1 f1 hIv1 ) k_813 k_814 k_815 k_106 k_816 (by decide +kernel) ⟨Nat.le_of_ble_eq_true rfl, Nat.le_of_ble_eq_true rfl⟩ 22 1 rfl rfl (rfl) hl.1 rfl (Nat.le_of_ble_eq_true rfl) dX10_naked_20 (fun r7 u H locs hw hP hD hS => ?_)
        obtain ⟨v8, f9⟩ := u
        obtain ⟨kV_v8, kF_f9, hIv8, hk0_v8, hk1_v8, hk7_v8, hk8_v8, hk9_v8, hk10_v8, hk31_v8, hk32_v8⟩ := hw
        have hM_v8 : KV [] v8 v := KV.tr kV_v8 hM_v1 rfl
        have hA_f9 : KF [13, 14] f9 f := KF.tr kF_f9 hA_f1 rfl
        have hP : va_P (dC, dI) vwCl (XW cy x0 x v8 f9) H := hP
        have hD : va_D A (XW cy x0 x v8 f9) := hD
        have hq0_v8 : v8 0 = (v 0) := hk0_v8.trans hq0_v1
        have hq1_v8 : v8 1 = (v 1) := hk1_v8.trans hq1_v1
        have hq7_v8 : v8 7 = (v 7) := hk7_v8.trans hq7_v1
        have hq8_v8 : v8 8 = (v 8) := hk8_v8.trans hq8_v1
        have hq9_v8 : v8 9 = (v 9) := hk9_v8.trans hq9_v1
        have hq10_v8 : v8 10 = (v 10) := hk10_v8.trans hq10_v1
        have hq31_v8 : v8 31 = (v 31) := hk31_v8.trans hq31_v1
        have hq32_v8 : v8 32 = (v 32) := hk32_v8.trans hq32_v1
        refine lv_if_ne (tgt := 32) hx hb dX10_naked_23 (by decide) (fun c10 => ?_) (fun c10 => ?_)
        · skip
          have zc10 : ¬ (r7.toInt = 0) := by rw [fa_eq, show (0 : Int32).toInt = 0 from by decide] at c10; exact c10
          obtain ⟨t11, et11⟩ : ∃ y : Int32, y = l2_1 + 1 := ⟨_, rfl⟩
          have zt11 : t11.toInt = l2_1.toInt + 1 := by rw [et11]; exact add_i rfl (by decide) (by omega) (by omega)
          refine lv_iinc (v := t11) (lv' := [(2, .int t11), (1, .int l1_1), (0, .ref x0)]) hx hb dX10_naked_32 hl (k := 0) rfl (by rw [et11]; rfl) (by decide) rfl (fun ls hl => ?_)
          refine lv_goto (tgt := 4) hx hb dX10_naked_35 (by decide) ?_
          have rg12 := fb_rng t11
          exact ih1 l1_1 t11 v8 f9 hIv8 hq0_v8 hq1_v8 hq7_v8 hq8_v8 hq9_v8 hq10_v8 hq31_v8 hq32_v8 ⟨show (0 : Int) ≤ t11.toInt by omega, show t11.toInt ≤ (2147483647 : Int) by omega⟩ hM_v8 hA_f9 (by show (2147483647 - t11.toInt).toNat < n1; omega) _ _ _ hP hD hS (lv_sub hl [0, 1, 2] rfl)
        · skip
          have zc10 : r7.toInt = 0 := by rw [fa_eq, show (0 : Int32).toInt = 0 from by decide] at c10; exact c10
          refine lv_iload_n hx hb dX10_naked_26 rfl (lv_at hl 1 rfl) ?_
          refine lv_iconst (v := 1) hx hb dX10_naked_27 (by decide) ?_
          refine lv_iload_n hx hb dX10_naked_28 rfl (lv_at hl 0 rfl) ?_
          refine lv_ishl hx hb dX10_naked_29 ?_
          refine lv_topi (fun t13 et13 => ?_)
          have zt13 : 1 ≤ t13.toInt ∧ t13.toInt ≤ 32 := by rw [et13]; exact shl1_rng (by omega) (by omega)
          refine lv_ior hx hb dX10_naked_30 ?_
          refine lv_topi (fun t14 et14 => ?_)
          refine lv_istore_n (lv' := [(1, .int t14), (2, .int l2_1), (0, .ref x0)]) hx hb dX10_naked_31 rfl hl (by decide) rfl (fun ls hl => ?_)
          obtain ⟨t15, et15⟩ : ∃ y : Int32, y = l2_1 + 1 := ⟨_, rfl⟩
          have zt15 : t15.toInt = l2_1.toInt + 1 := by rw [et15]; exact add_i rfl (by decide) (by omega) (by omega)
          refine lv_iinc (v := t15) (lv' := [(2, .int t15), (1, .int t14), (0, .ref x0)]) hx hb dX10_naked_32 hl (k := 1) rfl (by rw [et15]; rfl) (by decide) rfl (fun ls hl => ?_)
          refine lv_goto (tgt := 4) hx hb dX10_naked_35 (by decide) ?_
          have rg16 := fb_rng t15
          exact ih1 t14 t15 v8 f9 hIv8 hq0_v8 hq1_v8 hq7_v8 hq8_v8 hq9_v8 hq10_v8 hq31_v8 hq32_v8 ⟨show (0 : Int) ≤ t15.toInt by omega, show t15.toInt ≤ (2147483647 : Int) by omega⟩ hM_v8 hA_f9 (by show (2147483647 - t15.toInt).toNat < n1; omega) _ _ _ hP hD hS (lv_sub hl [0, 1, 2] rfl)
  exact lp1 _ 0 0 v f hIv rfl rfl rfl rfl rfl rfl rfl rfl ⟨by decide, by decide⟩ hM_v hA_f (Nat.lt_succ_self _) _ _ _ hP hD hS (lv_sub hl [0, 1, 2] rfl)
set_option maxHeartbeats 4000000 in
set_option maxRecDepth 100000 in
theorem sX_X10_popular_1 (l : Launch) (dC : Nat → ClassId) (dI : Nat → Nat → Nat) (cy : Nat → ClassId) (x0 : Nat) (x : Nat → Nat) (p1 : Int32) (v : Nat → Int32) (f : Nat → Nat → Int32) (hIv : XI v)  : ctI l (dC, dI) cy yX10_popular cX10_popular 2 .int 6 178 0 0 ((Nat → Int32) × (Nat → Nat → Int32)) [.ref x0, .int p1] (XW cy x0 x v f) (fun r u => KV [] u.1 v ∧ KF [13, 14] u.2 f ∧ XI u.1 ∧ u.1 0 = v 0 ∧ u.1 1 = v 1 ∧ u.1 7 = v 7 ∧ u.1 8 = v 8 ∧ u.1 9 = v 9 ∧ u.1 10 = v 10 ∧ u.1 31 = v 31 ∧ u.1 32 = v 32) (fun u => XW cy x0 x u.1 u.2) := by
  refine ctI_of (by decide) (Nat.le_of_ble_eq_true rfl) (fun p e s m below meth c A ls Q hx hb hml hts hown hE hP hD hA hl ret => ?_)
  have hM_v : KV [] v v := fun _ _ => rfl
  have hA_f : KF [13, 14] f f := fun _ _ => rfl
  have hown : s.vm.findClass RX10 = some m.cls := hown
  have hS : va_S A s.heap s.heap [] := va_S.rf
  have hl : lv_has ls 2 [(0, .ref x0), (1, .int p1)] := hl
  refine lv_aload_n hx hb dX10_popular_0 rfl (lv_at hl 0 rfl) ?_
  refine va_get (D := (dC, dI)) (ci := 10) (v := .ref (x 26)) (C := RX10) (T := TX10) (N := 10) hx hb hts inB_10 hown hE.1 hP 0 rfl rfl 2 (by decide) (hts _ k_493) (fun _ h9 => h9) rfl dX10_popular_1 ?_
  refine lv_iload_n hx hb dX10_popular_4 rfl (lv_at hl 1 rfl) ?_
  refine cbVi (n := 1) (rest := []) hx hb hml hown hts hE hP hD hS hA (sX_X7_hasCoat_1 0 l dC dI cy x0 x p1 v f hIv ) k_848 k_315 k_316 k_104 k_317 (by decide +kernel) ⟨Nat.le_of_ble_eq_true rfl, Nat.le_of_ble_eq_true rfl⟩ 27 7 rfl rfl (rfl) hl.1 rfl (Nat.le_of_ble_eq_true rfl) dX10_popular_5 (fun r1 u H locs hw hP hD hS => ?_)
  obtain ⟨hG2, hw⟩ := hw
  rcases hw with ⟨g3, g3_0, g3_1, g3_2⟩ | ⟨g3⟩
  · skip
    subst g3
    refine lv_if_eq (tgt := 22) hx hb dX10_popular_8 (by decide) (fun c0 => absurd c0 (by decide)) (fun _ => ?_)
    refine lv_aload_n hx hb dX10_popular_11 rfl (lv_at hl 0 rfl) ?_
    refine va_get (D := (dC, dI)) (ci := 10) (v := .ref (x 21)) (C := RX10) (T := TX10) (N := 10) hx hb hts inB_10 hown hE.1 hP 0 rfl rfl 3 (by decide) (hts _ k_494) (fun _ h9 => h9) rfl dX10_popular_12 ?_
    refine lv_iload_n hx hb dX10_popular_15 rfl (lv_at hl 1 rfl) ?_
    refine cbVi (n := 1) (rest := []) hx hb hml hown hts hE hP hD hS hA (sX_X1_menFitting_1 l dC dI cy x0 x p1 v f hIv ) k_1163 k_1164 k_1165 k_106 k_1166 (by decide +kernel) ⟨Nat.le_of_ble_eq_true rfl, Nat.le_of_ble_eq_true rfl⟩ 22 1 rfl rfl (rfl) hl.1 rfl (Nat.le_of_ble_eq_true rfl) dX10_popular_16 (fun r4 u H locs hw hP hD hS => ?_)
    obtain ⟨v5, f6⟩ := u
    obtain ⟨kV_v5, kF_f6, hIv5, hk0_v5, hk1_v5, hk7_v5, hk8_v5, hk9_v5, hk10_v5, hk31_v5, hk32_v5⟩ := hw
    have hM_v5 : KV [] v5 v := KV.tr kV_v5 hM_v rfl
    have hA_f6 : KF [13, 14] f6 f := KF.tr kF_f6 hA_f rfl
    have hP : va_P (dC, dI) vwCl (XW cy x0 x v5 f6) H := hP
    have hD : va_D A (XW cy x0 x v5 f6) := hD
    have hq0_v5 : v5 0 = (v 0) := hk0_v5
    have hq1_v5 : v5 1 = (v 1) := hk1_v5
    have hq7_v5 : v5 7 = (v 7) := hk7_v5
    have hq8_v5 : v5 8 = (v 8) := hk8_v5
    have hq9_v5 : v5 9 = (v 9) := hk9_v5
    have hq10_v5 : v5 10 = (v 10) := hk10_v5
    have hq31_v5 : v5 31 = (v 31) := hk31_v5
    have hq32_v5 : v5 32 = (v 32) := hk32_v5
    refine lv_goto (tgt := 23) hx hb dX10_popular_19 (by decide) ?_
    exact ret r4 (v5, f6) _ _ _ _ _ _ rfl ⟨hM_v5, hA_f6, hIv5, hk0_v5, hk1_v5, hk7_v5, hk8_v5, hk9_v5, hk10_v5, hk31_v5, hk32_v5⟩ hP hD hS dX10_popular_23 (Nat.le_refl _) (Nat.le_refl _)
  · skip
    subst g3
    refine lv_if_eq (tgt := 22) hx hb dX10_popular_8 (by decide) (fun _ => ?_) (fun c0 => absurd (by decide) c0)
    refine lv_iconst (v := (-1)) hx hb dX10_popular_22 (by decide) ?_
    exact ret (-1) (v, f) _ _ _ _ _ _ rfl ⟨hM_v, hA_f, hIv, rfl, rfl, rfl, rfl, rfl, rfl, rfl, rfl⟩ hP hD hS dX10_popular_23 (Nat.le_refl _) (Nat.le_refl _)
set_option maxHeartbeats 4000000 in
set_option maxRecDepth 100000 in
theorem sX_X3_fittingBy_1 (l : Launch) (dC : Nat → ClassId) (dI : Nat → Nat → Nat) (cy : Nat → ClassId) (x0 : Nat) (x : Nat → Nat) (p1 : Int32) (v : Nat → Int32) (f : Nat → Nat → Int32) (hIv : XI v)  : ctI l (dC, dI) cy yX3_fittingBy cX3_fittingBy 5 .int 4 133 0 0 ((Nat → Int32) × (Nat → Nat → Int32)) [.ref (x 25), .int p1] (XW cy x0 x v f) (fun r u => KV [] u.1 v ∧ KF [13, 14] u.2 f ∧ XI u.1 ∧ u.1 0 = v 0 ∧ u.1 1 = v 1 ∧ u.1 7 = v 7 ∧ u.1 8 = v 8 ∧ u.1 9 = v 9 ∧ u.1 10 = v 10 ∧ u.1 31 = v 31 ∧ u.1 32 = v 32) (fun u => XW cy x0 x u.1 u.2) := by
  refine ctI_of (by decide) (Nat.le_of_ble_eq_true rfl) (fun p e s m below meth c A ls Q hx hb hml hts hown hE hP hD hA hl ret => ?_)
  have hM_v : KV [] v v := fun _ _ => rfl
  have hA_f : KF [13, 14] f f := fun _ _ => rfl
  have hown : s.vm.findClass RX3 = some m.cls := hown
  have hS : va_S A s.heap s.heap [] := va_S.rf
  have hl : lv_has ls 5 [(0, .ref (x 25)), (1, .int p1)] := hl
  refine lv_iconst (v := 0) hx hb dX3_fittingBy_0 (by decide) ?_
  refine lv_istore_n (lv' := [(2, .int 0), (0, .ref (x 25)), (1, .int p1)]) hx hb dX3_fittingBy_1 rfl hl (by decide) rfl (fun ls hl => ?_)
  refine lv_iconst (v := 0) hx hb dX3_fittingBy_2 (by decide) ?_
  refine lv_istore_n (lv' := [(3, .int 0), (2, .int 0), (0, .ref (x 25)), (1, .int p1)]) hx hb dX3_fittingBy_3 rfl hl (by decide) rfl (fun ls hl => ?_)
  have lp1 : ∀ (n1 : Nat) (l2_1 : Int32) (l3_1 : Int32) (v1 : Nat → Int32) (f1 : Nat → Nat → Int32), XI v1 → v1 0 = (v 0) → v1 1 = (v 1) → v1 7 = (v 7) → v1 8 = (v 8) → v1 9 = (v 9) → v1 10 = (v 10) → v1 31 = (v 31) → v1 32 = (v 32) → ((0 : Int) ≤ l3_1.toInt ∧ l3_1.toInt ≤ 2147483647) → KV [] v1 v → KF [13, 14] f1 f → (2147483647 - l3_1.toInt).toNat < n1 → ∀ (H : Heap) (locs : List Loc) (ls : Array Slot), va_P (dC, dI) vwCl (XW cy x0 x v1 f1) H → va_D A (XW cy x0 x v1 f1) → va_S A s.heap H locs → lv_has ls 5 [(3, .int l3_1), (2, .int l2_1), (0, .ref (x 25)), (1, .int p1)] → W p l e { frames := 4, cells := 0, slots := 0, locals := 133 } s m ([.ref (x 25), .int p1] : List Value).toArray below meth c H locs 0 0 Q (F0 m 4 ls []) := by
    intro n1
    induction n1 with
    | zero => intro l2_1 l3_1 v1 f1 hIv1 hq0_v1 hq1_v1 hq7_v1 hq8_v1 hq9_v1 hq10_v1 hq31_v1 hq32_v1 hr3_1 hM_v1 hA_f1 hm; exact absurd hm (Nat.not_lt_zero _)
    | succ n1 ih1 =>
      intro l2_1 l3_1 v1 f1 hIv1 hq0_v1 hq1_v1 hq7_v1 hq8_v1 hq9_v1 hq10_v1 hq31_v1 hq32_v1 hr3_1 hM_v1 hA_f1 hm1 H locs ls hP hD hS hl
      refine lv_iload_n hx hb dX3_fittingBy_4 rfl (lv_at hl 0 rfl) ?_
      refine lv_aload_n hx hb dX3_fittingBy_5 rfl (lv_at hl 2 rfl) ?_
      refine va_get (D := (dC, dI)) (ci := 3) (v := .ref (x 26)) (C := RX3) (T := TX3) (N := 10) hx hb hts inB_3 hown hE.1 hP 26 rfl rfl 0 (by decide) (hts _ k_370) (fun _ h9 => h9) rfl dX3_fittingBy_6 ?_
      refine va_getN (D := (dC, dI)) (ci := 7) (v := .int (v1 31)) (C := RX7) (T := TX7) (N := 10) hx hb hts inB_7 hown hE.1 hP 27 rfl rfl 3 (by decide) (va_Nw.use rfl (hE.2 _ k_217)) (fun _ h9 => h9) rfl dX3_fittingBy_9 ?_
      refine tI (y := (v 31)) hq31_v1 ?_
      have b31_v : 0 ≤ (v 31).toInt ∧ (v 31).toInt ≤ 6 := XI.b hIv 31 (by decide)
      refine lv_icmp_ge (tgt := 54) hx hb dX3_fittingBy_12 (by decide) (fun c2 => ?_) (fun c2 => ?_)
      · skip
        have zc2 : (v 31).toInt ≤ l3_1.toInt := by rw [fa_le] at c2; exact c2
        have rg3 := fb_rng l3_1
        have rg4 := fb_rng (v 31)
        refine lv_iload_n hx hb dX3_fittingBy_54 rfl (lv_at hl 1 rfl) ?_
        exact ret l2_1 (v1, f1) _ _ _ _ _ _ rfl ⟨hM_v1, hA_f1, hIv1, (show v1 0 = v 0 from hq0_v1), (show v1 1 = v 1 from hq1_v1), (show v1 7 = v 7 from hq7_v1), (show v1 8 = v 8 from hq8_v1), (show v1 9 = v 9 from hq9_v1), (show v1 10 = v 10 from hq10_v1), (show v1 31 = v 31 from hq31_v1), (show v1 32 = v 32 from hq32_v1)⟩ hP hD hS dX3_fittingBy_55 (Nat.le_refl _) (Nat.le_refl _)
      · skip
        have zc2 : ¬ ((v 31).toInt ≤ l3_1.toInt) := by rw [fa_le] at c2; exact c2
        have rg5 := fb_rng l3_1
        have rg6 := fb_rng (v 31)
        refine lv_aload_n hx hb dX3_fittingBy_15 rfl (lv_at hl 2 rfl) ?_
        refine va_get (D := (dC, dI)) (ci := 3) (v := .ref (x 21)) (C := RX3) (T := TX3) (N := 10) hx hb hts inB_3 hown hE.1 hP 26 rfl rfl 1 (by decide) (hts _ k_371) (fun _ h9 => h9) rfl dX3_fittingBy_16 ?_
        refine lv_iload_n hx hb dX3_fittingBy_19 rfl (lv_at hl 0 rfl) ?_
        refine cbVi (n := 1) (rest := []) hx hb hml hown hts hE hP hD hS hA (sX_X1_wears_1 l dC dI cy x0 x l3_1 v1 f1 hIv1 ) k_950 k_810 k_811 k_106 k_812 (by decide +kernel) ⟨Nat.le_of_ble_eq_true rfl, Nat.le_of_ble_eq_true rfl⟩ 22 1 rfl rfl (rfl) hl.1 rfl (Nat.le_of_ble_eq_true rfl) dX3_fittingBy_20 (fun r7 u H locs hw hP hD hS => ?_)
        refine lv_istore (lv' := [(4, .int r7), (3, .int l3_1), (2, .int l2_1), (0, .ref (x 25)), (1, .int p1)]) hx hb dX3_fittingBy_23 hl (by decide) rfl (fun ls hl => ?_)
        refine lv_iload hx hb dX3_fittingBy_25 (lv_at hl 0 rfl) ?_
        refine lv_iconst (v := (-1)) hx hb dX3_fittingBy_27 (by decide) ?_
        refine lv_icmp_eq (tgt := 48) hx hb dX3_fittingBy_28 (by decide) (fun c8 => ?_) (fun c8 => ?_)
        · skip
          have zc8 : r7.toInt = (-1) := by rw [fa_eq, show ((-1) : Int32).toInt = -1 from by decide] at c8; exact c8
          obtain ⟨t9, et9⟩ : ∃ y : Int32, y = l3_1 + 1 := ⟨_, rfl⟩
          have zt9 : t9.toInt = l3_1.toInt + 1 := by rw [et9]; exact add_i rfl (by decide) (by omega) (by omega)
          refine lv_iinc (v := t9) (lv' := [(3, .int t9), (4, .int r7), (2, .int l2_1), (0, .ref (x 25)), (1, .int p1)]) hx hb dX3_fittingBy_48 hl (k := 1) rfl (by rw [et9]; rfl) (by decide) rfl (fun ls hl => ?_)
          refine lv_goto (tgt := 4) hx hb dX3_fittingBy_51 (by decide) ?_
          have rg10 := fb_rng t9
          exact ih1 l2_1 t9 v1 f1 hIv1 hq0_v1 hq1_v1 hq7_v1 hq8_v1 hq9_v1 hq10_v1 hq31_v1 hq32_v1 ⟨show (0 : Int) ≤ t9.toInt by omega, show t9.toInt ≤ (2147483647 : Int) by omega⟩ hM_v1 hA_f1 (by show (2147483647 - t9.toInt).toNat < n1; omega) _ _ _ hP hD hS (lv_sub hl [0, 2, 3, 4] rfl)
        · skip
          have zc8 : ¬ (r7.toInt = (-1)) := by rw [fa_eq, show ((-1) : Int32).toInt = -1 from by decide] at c8; exact c8
          refine lv_aload_n hx hb dX3_fittingBy_31 rfl (lv_at hl 3 rfl) ?_
          refine va_get (D := (dC, dI)) (ci := 3) (v := .ref (x 21)) (C := RX3) (T := TX3) (N := 10) hx hb hts inB_3 hown hE.1 hP 26 rfl rfl 1 (by decide) (hts _ k_371) (fun _ h9 => h9) rfl dX3_fittingBy_32 ?_
          refine lv_iload_n hx hb dX3_fittingBy_35 rfl (lv_at hl 1 rfl) ?_
          refine lv_iload hx hb dX3_fittingBy_36 (lv_at hl 0 rfl) ?_
          refine cbVi (n := 2) (rest := []) hx hb hml hown hts hE hP hD hS hA (sX_X1_illness_1 l dC dI cy x0 x l3_1 r7 v1 f1 hIv1 ) k_1183 k_823 k_824 k_106 k_825 (by decide +kernel) ⟨Nat.le_of_ble_eq_true rfl, Nat.le_of_ble_eq_true rfl⟩ 22 1 rfl rfl (rfl) hl.1 rfl (Nat.le_of_ble_eq_true rfl) dX3_fittingBy_38 (fun r11 u H locs hw hP hD hS => ?_)
          obtain ⟨v12, f13⟩ := u
          obtain ⟨kV_v12, kF_f13, hIv12, hk0_v12, hk1_v12, hk7_v12, hk8_v12, hk9_v12, hk10_v12, hk31_v12, hk32_v12⟩ := hw
          have hM_v12 : KV [] v12 v := KV.tr kV_v12 hM_v1 rfl
          have hA_f13 : KF [13, 14] f13 f := KF.tr kF_f13 hA_f1 rfl
          have hP : va_P (dC, dI) vwCl (XW cy x0 x v12 f13) H := hP
          have hD : va_D A (XW cy x0 x v12 f13) := hD
          have hq0_v12 : v12 0 = (v 0) := hk0_v12.trans hq0_v1
          have hq1_v12 : v12 1 = (v 1) := hk1_v12.trans hq1_v1
          have hq7_v12 : v12 7 = (v 7) := hk7_v12.trans hq7_v1
          have hq8_v12 : v12 8 = (v 8) := hk8_v12.trans hq8_v1
          have hq9_v12 : v12 9 = (v 9) := hk9_v12.trans hq9_v1
          have hq10_v12 : v12 10 = (v 10) := hk10_v12.trans hq10_v1
          have hq31_v12 : v12 31 = (v 31) := hk31_v12.trans hq31_v1
          have hq32_v12 : v12 32 = (v 32) := hk32_v12.trans hq32_v1
          refine lv_iload_n hx hb dX3_fittingBy_41 rfl (lv_at hl 4 rfl) ?_
          refine lv_icmp_gt (tgt := 48) hx hb dX3_fittingBy_42 (by decide) (fun c14 => ?_) (fun c14 => ?_)
          · skip
            have zc14 : p1.toInt < r11.toInt := by rw [fa_lt] at c14; exact c14
            have rg15 := fb_rng r11
            have rg16 := fb_rng p1
            obtain ⟨t17, et17⟩ : ∃ y : Int32, y = l3_1 + 1 := ⟨_, rfl⟩
            have zt17 : t17.toInt = l3_1.toInt + 1 := by rw [et17]; exact add_i rfl (by decide) (by omega) (by omega)
            refine lv_iinc (v := t17) (lv' := [(3, .int t17), (4, .int r7), (2, .int l2_1), (0, .ref (x 25)), (1, .int p1)]) hx hb dX3_fittingBy_48 hl (k := 1) rfl (by rw [et17]; rfl) (by decide) rfl (fun ls hl => ?_)
            refine lv_goto (tgt := 4) hx hb dX3_fittingBy_51 (by decide) ?_
            have rg18 := fb_rng t17
            exact ih1 l2_1 t17 v12 f13 hIv12 hq0_v12 hq1_v12 hq7_v12 hq8_v12 hq9_v12 hq10_v12 hq31_v12 hq32_v12 ⟨show (0 : Int) ≤ t17.toInt by omega, show t17.toInt ≤ (2147483647 : Int) by omega⟩ hM_v12 hA_f13 (by show (2147483647 - t17.toInt).toNat < n1; omega) _ _ _ hP hD hS (lv_sub hl [0, 2, 3, 4] rfl)
          · skip
            have zc14 : ¬ (p1.toInt < r11.toInt) := by rw [fa_lt] at c14; exact c14
            have rg19 := fb_rng r11
            have rg20 := fb_rng p1
            obtain ⟨t21, et21⟩ : ∃ y : Int32, y = l2_1 + 1 := ⟨_, rfl⟩
            refine lv_iinc (v := t21) (lv' := [(2, .int t21), (4, .int r7), (3, .int l3_1), (0, .ref (x 25)), (1, .int p1)]) hx hb dX3_fittingBy_45 hl (k := 2) rfl (by rw [et21]; rfl) (by decide) rfl (fun ls hl => ?_)
            obtain ⟨t22, et22⟩ : ∃ y : Int32, y = l3_1 + 1 := ⟨_, rfl⟩
            have zt22 : t22.toInt = l3_1.toInt + 1 := by rw [et22]; exact add_i rfl (by decide) (by omega) (by omega)
            refine lv_iinc (v := t22) (lv' := [(3, .int t22), (2, .int t21), (4, .int r7), (0, .ref (x 25)), (1, .int p1)]) hx hb dX3_fittingBy_48 hl (k := 2) rfl (by rw [et22]; rfl) (by decide) rfl (fun ls hl => ?_)
            refine lv_goto (tgt := 4) hx hb dX3_fittingBy_51 (by decide) ?_
            have rg23 := fb_rng t22
            exact ih1 t21 t22 v12 f13 hIv12 hq0_v12 hq1_v12 hq7_v12 hq8_v12 hq9_v12 hq10_v12 hq31_v12 hq32_v12 ⟨show (0 : Int) ≤ t22.toInt by omega, show t22.toInt ≤ (2147483647 : Int) by omega⟩ hM_v12 hA_f13 (by show (2147483647 - t22.toInt).toNat < n1; omega) _ _ _ hP hD hS (lv_sub hl [0, 1, 3, 4] rfl)
  exact lp1 _ 0 0 v f hIv rfl rfl rfl rfl rfl rfl rfl rfl ⟨by decide, by decide⟩ hM_v hA_f (Nat.lt_succ_self _) _ _ _ hP hD hS (lv_sub hl [0, 1, 2, 3] rfl)
set_option maxHeartbeats 4000000 in
set_option maxRecDepth 100000 in
theorem sX_X10_law_1 (l : Launch) (dC : Nat → ClassId) (dI : Nat → Nat → Nat) (cy : Nat → ClassId) (x0 : Nat) (x : Nat → Nat) (p1 : Int32) (v : Nat → Int32) (f : Nat → Nat → Int32) (hIv : XI v)  : ctI l (dC, dI) cy yX10_law cX10_law 2 .int 5 157 0 0 ((Nat → Int32) × (Nat → Nat → Int32)) [.ref x0, .int p1] (XW cy x0 x v f) (fun r u => KV [] u.1 v ∧ KF [13, 14] u.2 f ∧ XI u.1 ∧ u.1 0 = v 0 ∧ u.1 1 = v 1 ∧ u.1 7 = v 7 ∧ u.1 8 = v 8 ∧ u.1 9 = v 9 ∧ u.1 10 = v 10 ∧ u.1 31 = v 31 ∧ u.1 32 = v 32) (fun u => XW cy x0 x u.1 u.2) := by
  refine ctI_of (by decide) (Nat.le_of_ble_eq_true rfl) (fun p e s m below meth c A ls Q hx hb hml hts hown hE hP hD hA hl ret => ?_)
  have hM_v : KV [] v v := fun _ _ => rfl
  have hA_f : KF [13, 14] f f := fun _ _ => rfl
  have hown : s.vm.findClass RX10 = some m.cls := hown
  have hS : va_S A s.heap s.heap [] := va_S.rf
  have hl : lv_has ls 2 [(0, .ref x0), (1, .int p1)] := hl
  refine lv_iload_n hx hb dX10_law_0 rfl (lv_at hl 1 rfl) ?_
  refine lv_if_lt (tgt := 11) hx hb dX10_law_1 (by decide) (fun c1 => ?_) (fun c1 => ?_)
  · skip
    have zc1 : p1.toInt < 0 := by rw [fa_lt, show (0 : Int32).toInt = 0 from by decide] at c1; exact c1
    refine lv_iconst (v := (-1)) hx hb dX10_law_11 (by decide) ?_
    refine lv_goto (tgt := 23) hx hb dX10_law_12 (by decide) ?_
    exact ret (-1) (v, f) _ _ _ _ _ _ rfl ⟨hM_v, hA_f, hIv, rfl, rfl, rfl, rfl, rfl, rfl, rfl, rfl⟩ hP hD hS dX10_law_23 (Nat.le_refl _) (Nat.le_refl _)
  · skip
    have zc1 : ¬ (p1.toInt < 0) := by rw [fa_lt, show (0 : Int32).toInt = 0 from by decide] at c1; exact c1
    refine lv_iload_n hx hb dX10_law_4 rfl (lv_at hl 1 rfl) ?_
    refine lv_sipush (v := 999) hx hb dX10_law_5 (by decide) ?_
    refine lv_icmp_le (tgt := 15) hx hb dX10_law_8 (by decide) (fun c2 => ?_) (fun c2 => ?_)
    · skip
      have zc2 : p1.toInt ≤ 999 := by rw [fa_le, show (999 : Int32).toInt = 999 from by decide] at c2; exact c2
      refine lv_aload_n hx hb dX10_law_15 rfl (lv_at hl 0 rfl) ?_
      refine va_get (D := (dC, dI)) (ci := 10) (v := .ref (x 25)) (C := RX10) (T := TX10) (N := 10) hx hb hts inB_10 hown hE.1 hP 0 rfl rfl 5 (by decide) (hts _ k_496) (fun _ h9 => h9) rfl dX10_law_16 ?_
      refine lv_iload_n hx hb dX10_law_19 rfl (lv_at hl 1 rfl) ?_
      refine cbVi (n := 1) (rest := []) hx hb hml hown hts hE hP hD hS hA (sX_X3_fittingBy_1 l dC dI cy x0 x p1 v f hIv ) k_1179 k_1180 k_1181 k_109 k_1182 (by decide +kernel) ⟨Nat.le_of_ble_eq_true rfl, Nat.le_of_ble_eq_true rfl⟩ 26 3 rfl rfl (rfl) hl.1 rfl (Nat.le_of_ble_eq_true rfl) dX10_law_20 (fun r3 u H locs hw hP hD hS => ?_)
      obtain ⟨v4, f5⟩ := u
      obtain ⟨kV_v4, kF_f5, hIv4, hk0_v4, hk1_v4, hk7_v4, hk8_v4, hk9_v4, hk10_v4, hk31_v4, hk32_v4⟩ := hw
      have hM_v4 : KV [] v4 v := KV.tr kV_v4 hM_v rfl
      have hA_f5 : KF [13, 14] f5 f := KF.tr kF_f5 hA_f rfl
      have hP : va_P (dC, dI) vwCl (XW cy x0 x v4 f5) H := hP
      have hD : va_D A (XW cy x0 x v4 f5) := hD
      have hq0_v4 : v4 0 = (v 0) := hk0_v4
      have hq1_v4 : v4 1 = (v 1) := hk1_v4
      have hq7_v4 : v4 7 = (v 7) := hk7_v4
      have hq8_v4 : v4 8 = (v 8) := hk8_v4
      have hq9_v4 : v4 9 = (v 9) := hk9_v4
      have hq10_v4 : v4 10 = (v 10) := hk10_v4
      have hq31_v4 : v4 31 = (v 31) := hk31_v4
      have hq32_v4 : v4 32 = (v 32) := hk32_v4
      exact ret r3 (v4, f5) _ _ _ _ _ _ rfl ⟨hM_v4, hA_f5, hIv4, hk0_v4, hk1_v4, hk7_v4, hk8_v4, hk9_v4, hk10_v4, hk31_v4, hk32_v4⟩ hP hD hS dX10_law_23 (Nat.le_refl _) (Nat.le_refl _)
    · skip
      have zc2 : ¬ (p1.toInt ≤ 999) := by rw [fa_le, show (999 : Int32).toInt = 999 from by decide] at c2; exact c2
      refine lv_iconst (v := (-1)) hx hb dX10_law_11 (by decide) ?_
      refine lv_goto (tgt := 23) hx hb dX10_law_12 (by decide) ?_
      exact ret (-1) (v, f) _ _ _ _ _ _ rfl ⟨hM_v, hA_f, hIv, rfl, rfl, rfl, rfl, rfl, rfl, rfl, rfl⟩ hP hD hS dX10_law_23 (Nat.le_refl _) (Nat.le_refl _)
set_option maxHeartbeats 4000000 in
set_option maxRecDepth 100000 in
theorem sX_X3_worstIllness_1 (l : Launch) (dC : Nat → ClassId) (dI : Nat → Nat → Nat) (cy : Nat → ClassId) (x0 : Nat) (x : Nat → Nat)  (v : Nat → Int32) (f : Nat → Nat → Int32) (hIv : XI v)  : ctI l (dC, dI) cy yX3_worstIllness cX3_worstIllness 4 .int 4 133 0 0 ((Nat → Int32) × (Nat → Nat → Int32)) [.ref (x 25)] (XW cy x0 x v f) (fun r u => KV [] u.1 v ∧ KF [13, 14] u.2 f ∧ XI u.1 ∧ u.1 0 = v 0 ∧ u.1 1 = v 1 ∧ u.1 7 = v 7 ∧ u.1 8 = v 8 ∧ u.1 9 = v 9 ∧ u.1 10 = v 10 ∧ u.1 31 = v 31 ∧ u.1 32 = v 32) (fun u => XW cy x0 x u.1 u.2) := by
  refine ctI_of (by decide) (Nat.le_of_ble_eq_true rfl) (fun p e s m below meth c A ls Q hx hb hml hts hown hE hP hD hA hl ret => ?_)
  have hM_v : KV [] v v := fun _ _ => rfl
  have hA_f : KF [13, 14] f f := fun _ _ => rfl
  have hown : s.vm.findClass RX3 = some m.cls := hown
  have hS : va_S A s.heap s.heap [] := va_S.rf
  have hl : lv_has ls 4 [(0, .ref (x 25))] := hl
  refine lv_iconst (v := 0) hx hb dX3_worstIllness_0 (by decide) ?_
  refine lv_istore_n (lv' := [(1, .int 0), (0, .ref (x 25))]) hx hb dX3_worstIllness_1 rfl hl (by decide) rfl (fun ls hl => ?_)
  refine lv_iconst (v := 0) hx hb dX3_worstIllness_2 (by decide) ?_
  refine lv_istore_n (lv' := [(2, .int 0), (1, .int 0), (0, .ref (x 25))]) hx hb dX3_worstIllness_3 rfl hl (by decide) rfl (fun ls hl => ?_)
  have lp1 : ∀ (n1 : Nat) (l1_1 : Int32) (l2_1 : Int32) (v1 : Nat → Int32) (f1 : Nat → Nat → Int32), XI v1 → v1 0 = (v 0) → v1 1 = (v 1) → v1 7 = (v 7) → v1 8 = (v 8) → v1 9 = (v 9) → v1 10 = (v 10) → v1 31 = (v 31) → v1 32 = (v 32) → ((0 : Int) ≤ l2_1.toInt ∧ l2_1.toInt ≤ 2147483647) → KV [] v1 v → KF [13, 14] f1 f → (2147483647 - l2_1.toInt).toNat < n1 → ∀ (H : Heap) (locs : List Loc) (ls : Array Slot), va_P (dC, dI) vwCl (XW cy x0 x v1 f1) H → va_D A (XW cy x0 x v1 f1) → va_S A s.heap H locs → lv_has ls 4 [(2, .int l2_1), (1, .int l1_1), (0, .ref (x 25))] → W p l e { frames := 4, cells := 0, slots := 0, locals := 133 } s m ([.ref (x 25)] : List Value).toArray below meth c H locs 0 0 Q (F0 m 4 ls []) := by
    intro n1
    induction n1 with
    | zero => intro l1_1 l2_1 v1 f1 hIv1 hq0_v1 hq1_v1 hq7_v1 hq8_v1 hq9_v1 hq10_v1 hq31_v1 hq32_v1 hr2_1 hM_v1 hA_f1 hm; exact absurd hm (Nat.not_lt_zero _)
    | succ n1 ih1 =>
      intro l1_1 l2_1 v1 f1 hIv1 hq0_v1 hq1_v1 hq7_v1 hq8_v1 hq9_v1 hq10_v1 hq31_v1 hq32_v1 hr2_1 hM_v1 hA_f1 hm1 H locs ls hP hD hS hl
      refine lv_iload_n hx hb dX3_worstIllness_4 rfl (lv_at hl 0 rfl) ?_
      refine lv_aload_n hx hb dX3_worstIllness_5 rfl (lv_at hl 2 rfl) ?_
      refine va_get (D := (dC, dI)) (ci := 3) (v := .ref (x 26)) (C := RX3) (T := TX3) (N := 10) hx hb hts inB_3 hown hE.1 hP 26 rfl rfl 0 (by decide) (hts _ k_370) (fun _ h9 => h9) rfl dX3_worstIllness_6 ?_
      refine va_getN (D := (dC, dI)) (ci := 7) (v := .int (v1 31)) (C := RX7) (T := TX7) (N := 10) hx hb hts inB_7 hown hE.1 hP 27 rfl rfl 3 (by decide) (va_Nw.use rfl (hE.2 _ k_217)) (fun _ h9 => h9) rfl dX3_worstIllness_9 ?_
      refine tI (y := (v 31)) hq31_v1 ?_
      have b31_v : 0 ≤ (v 31).toInt ∧ (v 31).toInt ≤ 6 := XI.b hIv 31 (by decide)
      refine lv_icmp_ge (tgt := 49) hx hb dX3_worstIllness_12 (by decide) (fun c2 => ?_) (fun c2 => ?_)
      · skip
        have zc2 : (v 31).toInt ≤ l2_1.toInt := by rw [fa_le] at c2; exact c2
        have rg3 := fb_rng l2_1
        have rg4 := fb_rng (v 31)
        refine lv_iload_n hx hb dX3_worstIllness_49 rfl (lv_at hl 1 rfl) ?_
        exact ret l1_1 (v1, f1) _ _ _ _ _ _ rfl ⟨hM_v1, hA_f1, hIv1, (show v1 0 = v 0 from hq0_v1), (show v1 1 = v 1 from hq1_v1), (show v1 7 = v 7 from hq7_v1), (show v1 8 = v 8 from hq8_v1), (show v1 9 = v 9 from hq9_v1), (show v1 10 = v 10 from hq10_v1), (show v1 31 = v 31 from hq31_v1), (show v1 32 = v 32 from hq32_v1)⟩ hP hD hS dX3_worstIllness_50 (Nat.le_refl _) (Nat.le_refl _)
      · skip
        have zc2 : ¬ ((v 31).toInt ≤ l2_1.toInt) := by rw [fa_le] at c2; exact c2
        have rg5 := fb_rng l2_1
        have rg6 := fb_rng (v 31)
        refine lv_aload_n hx hb dX3_worstIllness_15 rfl (lv_at hl 2 rfl) ?_
        refine va_get (D := (dC, dI)) (ci := 3) (v := .ref (x 21)) (C := RX3) (T := TX3) (N := 10) hx hb hts inB_3 hown hE.1 hP 26 rfl rfl 1 (by decide) (hts _ k_371) (fun _ h9 => h9) rfl dX3_worstIllness_16 ?_
        refine lv_iload_n hx hb dX3_worstIllness_19 rfl (lv_at hl 0 rfl) ?_
        refine cbVi (n := 1) (rest := []) hx hb hml hown hts hE hP hD hS hA (sX_X1_wears_1 l dC dI cy x0 x l2_1 v1 f1 hIv1 ) k_950 k_810 k_811 k_106 k_812 (by decide +kernel) ⟨Nat.le_of_ble_eq_true rfl, Nat.le_of_ble_eq_true rfl⟩ 22 1 rfl rfl (rfl) hl.1 rfl (Nat.le_of_ble_eq_true rfl) dX3_worstIllness_20 (fun r7 u H locs hw hP hD hS => ?_)
        refine lv_istore_n (lv' := [(3, .int r7), (2, .int l2_1), (1, .int l1_1), (0, .ref (x 25))]) hx hb dX3_worstIllness_23 rfl hl (by decide) rfl (fun ls hl => ?_)
        refine lv_iload_n hx hb dX3_worstIllness_24 rfl (lv_at hl 0 rfl) ?_
        refine lv_iconst (v := (-1)) hx hb dX3_worstIllness_25 (by decide) ?_
        refine lv_icmp_eq (tgt := 43) hx hb dX3_worstIllness_26 (by decide) (fun c8 => ?_) (fun c8 => ?_)
        · skip
          have zc8 : r7.toInt = (-1) := by rw [fa_eq, show ((-1) : Int32).toInt = -1 from by decide] at c8; exact c8
          obtain ⟨t9, et9⟩ : ∃ y : Int32, y = l2_1 + 1 := ⟨_, rfl⟩
          have zt9 : t9.toInt = l2_1.toInt + 1 := by rw [et9]; exact add_i rfl (by decide) (by omega) (by omega)
          refine lv_iinc (v := t9) (lv' := [(2, .int t9), (3, .int r7), (1, .int l1_1), (0, .ref (x 25))]) hx hb dX3_worstIllness_43 hl (k := 1) rfl (by rw [et9]; rfl) (by decide) rfl (fun ls hl => ?_)
          refine lv_goto (tgt := 4) hx hb dX3_worstIllness_46 (by decide) ?_
          have rg10 := fb_rng t9
          exact ih1 l1_1 t9 v1 f1 hIv1 hq0_v1 hq1_v1 hq7_v1 hq8_v1 hq9_v1 hq10_v1 hq31_v1 hq32_v1 ⟨show (0 : Int) ≤ t9.toInt by omega, show t9.toInt ≤ (2147483647 : Int) by omega⟩ hM_v1 hA_f1 (by show (2147483647 - t9.toInt).toNat < n1; omega) _ _ _ hP hD hS (lv_sub hl [0, 2, 3] rfl)
        · skip
          have zc8 : ¬ (r7.toInt = (-1)) := by rw [fa_eq, show ((-1) : Int32).toInt = -1 from by decide] at c8; exact c8
          refine lv_iload_n hx hb dX3_worstIllness_29 rfl (lv_at hl 2 rfl) ?_
          refine lv_aload_n hx hb dX3_worstIllness_30 rfl (lv_at hl 3 rfl) ?_
          refine va_get (D := (dC, dI)) (ci := 3) (v := .ref (x 21)) (C := RX3) (T := TX3) (N := 10) hx hb hts inB_3 hown hE.1 hP 26 rfl rfl 1 (by decide) (hts _ k_371) (fun _ h9 => h9) rfl dX3_worstIllness_31 ?_
          refine lv_iload_n hx hb dX3_worstIllness_34 rfl (lv_at hl 1 rfl) ?_
          refine lv_iload_n hx hb dX3_worstIllness_35 rfl (lv_at hl 0 rfl) ?_
          refine cbVi (n := 2) (rest := [.int l1_1]) hx hb hml hown hts hE hP hD hS hA (sX_X1_illness_1 l dC dI cy x0 x l2_1 r7 v1 f1 hIv1 ) k_1183 k_823 k_824 k_106 k_825 (by decide +kernel) ⟨Nat.le_of_ble_eq_true rfl, Nat.le_of_ble_eq_true rfl⟩ 22 1 rfl rfl (rfl) hl.1 rfl (Nat.le_of_ble_eq_true rfl) dX3_worstIllness_36 (fun r11 u H locs hw hP hD hS => ?_)
          obtain ⟨v12, f13⟩ := u
          obtain ⟨kV_v12, kF_f13, hIv12, hk0_v12, hk1_v12, hk7_v12, hk8_v12, hk9_v12, hk10_v12, hk31_v12, hk32_v12⟩ := hw
          have hM_v12 : KV [] v12 v := KV.tr kV_v12 hM_v1 rfl
          have hA_f13 : KF [13, 14] f13 f := KF.tr kF_f13 hA_f1 rfl
          have hP : va_P (dC, dI) vwCl (XW cy x0 x v12 f13) H := hP
          have hD : va_D A (XW cy x0 x v12 f13) := hD
          have hq0_v12 : v12 0 = (v 0) := hk0_v12.trans hq0_v1
          have hq1_v12 : v12 1 = (v 1) := hk1_v12.trans hq1_v1
          have hq7_v12 : v12 7 = (v 7) := hk7_v12.trans hq7_v1
          have hq8_v12 : v12 8 = (v 8) := hk8_v12.trans hq8_v1
          have hq9_v12 : v12 9 = (v 9) := hk9_v12.trans hq9_v1
          have hq10_v12 : v12 10 = (v 10) := hk10_v12.trans hq10_v1
          have hq31_v12 : v12 31 = (v 31) := hk31_v12.trans hq31_v1
          have hq32_v12 : v12 32 = (v 32) := hk32_v12.trans hq32_v1
          refine va_mmax hx hb (by rw [hml]; exact hl.1.symm) hown (hts _ k_1007) (hts _ k_640) (hts _ k_119) (hts _ k_641) (Nat.le_of_ble_eq_true rfl) (Nat.le_of_ble_eq_true rfl) (Nat.le_of_ble_eq_true rfl) (Nat.le_of_ble_eq_true rfl) dX3_worstIllness_39 ?_
          refine lv_topi (fun t14 et14 => ?_)
          have zt14 : t14.toInt = max (l1_1.toInt) (r11.toInt) := by rw [et14]; exact mmax_i rfl rfl
          refine lv_istore_n (lv' := [(1, .int t14), (3, .int r7), (2, .int l2_1), (0, .ref (x 25))]) hx hb dX3_worstIllness_42 rfl hl (by decide) rfl (fun ls hl => ?_)
          obtain ⟨t15, et15⟩ : ∃ y : Int32, y = l2_1 + 1 := ⟨_, rfl⟩
          have zt15 : t15.toInt = l2_1.toInt + 1 := by rw [et15]; exact add_i rfl (by decide) (by omega) (by omega)
          refine lv_iinc (v := t15) (lv' := [(2, .int t15), (1, .int t14), (3, .int r7), (0, .ref (x 25))]) hx hb dX3_worstIllness_43 hl (k := 2) rfl (by rw [et15]; rfl) (by decide) rfl (fun ls hl => ?_)
          refine lv_goto (tgt := 4) hx hb dX3_worstIllness_46 (by decide) ?_
          have rg16 := fb_rng t15
          exact ih1 t14 t15 v12 f13 hIv12 hq0_v12 hq1_v12 hq7_v12 hq8_v12 hq9_v12 hq10_v12 hq31_v12 hq32_v12 ⟨show (0 : Int) ≤ t15.toInt by omega, show t15.toInt ≤ (2147483647 : Int) by omega⟩ hM_v12 hA_f13 (by show (2147483647 - t15.toInt).toNat < n1; omega) _ _ _ hP hD hS (lv_sub hl [0, 1, 3] rfl)
  exact lp1 _ 0 0 v f hIv rfl rfl rfl rfl rfl rfl rfl rfl ⟨by decide, by decide⟩ hM_v hA_f (Nat.lt_succ_self _) _ _ _ hP hD hS (lv_sub hl [0, 1, 2] rfl)
set_option maxHeartbeats 4000000 in
set_option maxRecDepth 100000 in
theorem sX_X10_ease_1 (l : Launch) (dC : Nat → ClassId) (dI : Nat → Nat → Nat) (cy : Nat → ClassId) (x0 : Nat) (x : Nat → Nat)  (v : Nat → Int32) (f : Nat → Nat → Int32) (hIv : XI v)  : ctI l (dC, dI) cy yX10_ease cX10_ease 1 .int 5 156 0 0 ((Nat → Int32) × (Nat → Nat → Int32)) [.ref x0] (XW cy x0 x v f) (fun r u => KV [] u.1 v ∧ KF [13, 14] u.2 f ∧ XI u.1 ∧ u.1 0 = v 0 ∧ u.1 1 = v 1 ∧ u.1 7 = v 7 ∧ u.1 8 = v 8 ∧ u.1 9 = v 9 ∧ u.1 10 = v 10 ∧ u.1 31 = v 31 ∧ u.1 32 = v 32) (fun u => XW cy x0 x u.1 u.2) := by
  refine ctI_of (by decide) (Nat.le_of_ble_eq_true rfl) (fun p e s m below meth c A ls Q hx hb hml hts hown hE hP hD hA hl ret => ?_)
  have hM_v : KV [] v v := fun _ _ => rfl
  have hA_f : KF [13, 14] f f := fun _ _ => rfl
  have hown : s.vm.findClass RX10 = some m.cls := hown
  have hS : va_S A s.heap s.heap [] := va_S.rf
  have hl : lv_has ls 1 [(0, .ref x0)] := hl
  refine lv_aload_n hx hb dX10_ease_0 rfl (lv_at hl 0 rfl) ?_
  refine va_get (D := (dC, dI)) (ci := 10) (v := .ref (x 25)) (C := RX10) (T := TX10) (N := 10) hx hb hts inB_10 hown hE.1 hP 0 rfl rfl 5 (by decide) (hts _ k_496) (fun _ h9 => h9) rfl dX10_ease_1 ?_
  refine cbVi (n := 0) (rest := []) hx hb hml hown hts hE hP hD hS hA (sX_X3_worstIllness_1 l dC dI cy x0 x  v f hIv ) k_1188 k_1189 k_1190 k_109 k_1191 (by decide +kernel) ⟨Nat.le_of_ble_eq_true rfl, Nat.le_of_ble_eq_true rfl⟩ 26 3 rfl rfl (rfl) hl.1 rfl (Nat.le_of_ble_eq_true rfl) dX10_ease_4 (fun r1 u H locs hw hP hD hS => ?_)
  obtain ⟨v2, f3⟩ := u
  obtain ⟨kV_v2, kF_f3, hIv2, hk0_v2, hk1_v2, hk7_v2, hk8_v2, hk9_v2, hk10_v2, hk31_v2, hk32_v2⟩ := hw
  have hM_v2 : KV [] v2 v := KV.tr kV_v2 hM_v rfl
  have hA_f3 : KF [13, 14] f3 f := KF.tr kF_f3 hA_f rfl
  have hP : va_P (dC, dI) vwCl (XW cy x0 x v2 f3) H := hP
  have hD : va_D A (XW cy x0 x v2 f3) := hD
  have hq0_v2 : v2 0 = (v 0) := hk0_v2
  have hq1_v2 : v2 1 = (v 1) := hk1_v2
  have hq7_v2 : v2 7 = (v 7) := hk7_v2
  have hq8_v2 : v2 8 = (v 8) := hk8_v2
  have hq9_v2 : v2 9 = (v 9) := hk9_v2
  have hq10_v2 : v2 10 = (v 10) := hk10_v2
  have hq31_v2 : v2 31 = (v 31) := hk31_v2
  have hq32_v2 : v2 32 = (v 32) := hk32_v2
  exact ret r1 (v2, f3) _ _ _ _ _ _ rfl ⟨hM_v2, hA_f3, hIv2, hk0_v2, hk1_v2, hk7_v2, hk8_v2, hk9_v2, hk10_v2, hk31_v2, hk32_v2⟩ hP hD hS dX10_ease_7 (Nat.le_refl _) (Nat.le_refl _)
set_option maxHeartbeats 4000000 in
set_option maxRecDepth 100000 in
theorem sX_X10_breadth_1 (l : Launch) (dC : Nat → ClassId) (dI : Nat → Nat → Nat) (cy : Nat → ClassId) (x0 : Nat) (x : Nat → Nat)  (v : Nat → Int32) (f : Nat → Nat → Int32) (hIv : XI v)  : ctI l (dC, dI) cy yX10_breadth cX10_breadth 1 .int 4 127 0 0 Unit [.ref x0] (XW cy x0 x v f) (fun r u => True) (fun u => XW cy x0 x v f) := by
  refine ctI_of (by decide) (Nat.le_of_ble_eq_true rfl) (fun p e s m below meth c A ls Q hx hb hml hts hown hE hP hD hA hl ret => ?_)
  have hown : s.vm.findClass RX10 = some m.cls := hown
  have hS : va_S A s.heap s.heap [] := va_S.rf
  have hl : lv_has ls 1 [(0, .ref x0)] := hl
  refine lv_aload_n hx hb dX10_breadth_0 rfl (lv_at hl 0 rfl) ?_
  refine va_get (D := (dC, dI)) (ci := 10) (v := .ref (x 29)) (C := RX10) (T := TX10) (N := 10) hx hb hts inB_10 hown hE.1 hP 0 rfl rfl 6 (by decide) (hts _ k_497) (fun _ h9 => h9) rfl dX10_breadth_1 ?_
  refine lv_aload_n hx hb dX10_breadth_4 rfl (lv_at hl 0 rfl) ?_
  refine va_get (D := (dC, dI)) (ci := 10) (v := .ref (x 21)) (C := RX10) (T := TX10) (N := 10) hx hb hts inB_10 hown hE.1 hP 0 rfl rfl 3 (by decide) (hts _ k_494) (fun _ h9 => h9) rfl dX10_breadth_5 ?_
  refine cbVi (n := 0) (rest := [.ref (x 29)]) hx hb hml hown hts hE hP hD hS hA (sX_X1_wearers_1 l dC dI cy x0 x  v f hIv ) k_1196 k_1061 k_1062 k_106 k_1063 (by decide +kernel) ⟨Nat.le_of_ble_eq_true rfl, Nat.le_of_ble_eq_true rfl⟩ 22 1 rfl rfl (rfl) hl.1 rfl (Nat.le_of_ble_eq_true rfl) dX10_breadth_8 (fun r1 u H locs hw hP hD hS => ?_)
  refine cbVi (n := 1) (rest := []) hx hb hml hown hts hE hP hD hS hA (sX_X2_wideTogether_1 l dC dI cy x0 x r1 v f hIv ) k_1197 k_1066 k_1067 k_110 k_1068 (by decide +kernel) ⟨Nat.le_of_ble_eq_true rfl, Nat.le_of_ble_eq_true rfl⟩ 30 2 rfl rfl (rfl) hl.1 rfl (Nat.le_of_ble_eq_true rfl) dX10_breadth_11 (fun r2 u H locs hw hP hD hS => ?_)
  exact ret r2 () _ _ _ _ _ _ rfl trivial hP hD hS dX10_breadth_14 (Nat.le_refl _) (Nat.le_refl _)
set_option maxHeartbeats 4000000 in
set_option maxRecDepth 100000 in
theorem sX_X1_wearers_2 (l : Launch) (dC : Nat → ClassId) (dI : Nat → Nat → Nat) (cy : Nat → ClassId) (x0 : Nat) (x : Nat → Nat)  (v : Nat → Int32) (f : Nat → Nat → Int32) (hIv : XI v)  : ctI l (dC, dI) cy yX1_wearers cX1_wearers 3 .int 3 102 0 0 Unit [.ref (x 27)] (XW cy x0 x v f) (fun r u => True) (fun u => XW cy x0 x v f) := by
  refine ctI_of (by decide) (Nat.le_of_ble_eq_true rfl) (fun p e s m below meth c A ls Q hx hb hml hts hown hE hP hD hA hl ret => ?_)
  have hown : s.vm.findClass RX1 = some m.cls := hown
  have hS : va_S A s.heap s.heap [] := va_S.rf
  have hl : lv_has ls 3 [(0, .ref (x 27))] := hl
  refine lv_iconst (v := 0) hx hb dX1_wearers_0 (by decide) ?_
  refine lv_istore_n (lv' := [(1, .int 0), (0, .ref (x 27))]) hx hb dX1_wearers_1 rfl hl (by decide) rfl (fun ls hl => ?_)
  refine lv_iconst (v := 0) hx hb dX1_wearers_2 (by decide) ?_
  refine lv_istore_n (lv' := [(2, .int 0), (1, .int 0), (0, .ref (x 27))]) hx hb dX1_wearers_3 rfl hl (by decide) rfl (fun ls hl => ?_)
  have lp1 : ∀ (n1 : Nat) (l1_1 : Int32) (l2_1 : Int32), ((0 : Int) ≤ l2_1.toInt ∧ l2_1.toInt ≤ 2147483647) → (2147483647 - l2_1.toInt).toNat < n1 → ∀ (H : Heap) (locs : List Loc) (ls : Array Slot), va_P (dC, dI) vwCl (XW cy x0 x v f) H → va_D A (XW cy x0 x v f) → va_S A s.heap H locs → lv_has ls 3 [(2, .int l2_1), (1, .int l1_1), (0, .ref (x 27))] → W p l e { frames := 3, cells := 0, slots := 0, locals := 102 } s m ([.ref (x 27)] : List Value).toArray below meth c H locs 0 0 Q (F0 m 4 ls []) := by
    intro n1
    induction n1 with
    | zero => intro l1_1 l2_1 hr2_1 hm; exact absurd hm (Nat.not_lt_zero _)
    | succ n1 ih1 =>
      intro l1_1 l2_1 hr2_1 hm1 H locs ls hP hD hS hl
      refine lv_iload_n hx hb dX1_wearers_4 rfl (lv_at hl 0 rfl) ?_
      refine lv_aload_n hx hb dX1_wearers_5 rfl (lv_at hl 2 rfl) ?_
      refine va_get (D := (dC, dI)) (ci := 1) (v := .ref (x 26)) (C := RX1) (T := TX1) (N := 2) hx hb hts inB_1 hown hE.1 hP 28 rfl rfl 0 (by decide) (hts _ k_318) (fun _ h9 => h9) rfl dX1_wearers_6 ?_
      refine va_getN (D := (dC, dI)) (ci := 7) (v := .int (v 31)) (C := RX7) (T := TX7) (N := 10) hx hb hts inB_7 hown hE.1 hP 27 rfl rfl 3 (by decide) (va_Nw.use rfl (hE.2 _ k_219)) (fun _ h9 => h9) rfl dX1_wearers_9 ?_
      have b31_v : 0 ≤ (v 31).toInt ∧ (v 31).toInt ≤ 6 := XI.b hIv 31 (by decide)
      refine lv_icmp_ge (tgt := 36) hx hb dX1_wearers_12 (by decide) (fun c2 => ?_) (fun c2 => ?_)
      · skip
        have zc2 : (v 31).toInt ≤ l2_1.toInt := by rw [fa_le] at c2; exact c2
        have rg3 := fb_rng l2_1
        have rg4 := fb_rng (v 31)
        refine lv_iload_n hx hb dX1_wearers_36 rfl (lv_at hl 1 rfl) ?_
        exact ret l1_1 () _ _ _ _ _ _ rfl trivial hP hD hS dX1_wearers_37 (Nat.le_refl _) (Nat.le_refl _)
      · skip
        have zc2 : ¬ ((v 31).toInt ≤ l2_1.toInt) := by rw [fa_le] at c2; exact c2
        have rg5 := fb_rng l2_1
        have rg6 := fb_rng (v 31)
        refine lv_aload_n hx hb dX1_wearers_15 rfl (lv_at hl 2 rfl) ?_
        refine lv_iload_n hx hb dX1_wearers_16 rfl (lv_at hl 0 rfl) ?_
        refine cbVi (n := 1) (rest := []) hx hb hml hown hts hE hP hD hS hA (sX_X1_wears_2 l dC dI cy x0 x l2_1 v f hIv ) k_853 k_810 k_811 k_106 k_812 (by decide +kernel) ⟨Nat.le_of_ble_eq_true rfl, Nat.le_of_ble_eq_true rfl⟩ 28 1 rfl rfl (rfl) hl.1 rfl (Nat.le_of_ble_eq_true rfl) dX1_wearers_17 (fun r7 u H locs hw hP hD hS => ?_)
        refine lv_iconst (v := (-1)) hx hb dX1_wearers_20 (by decide) ?_
        refine lv_icmp_eq (tgt := 30) hx hb dX1_wearers_21 (by decide) (fun c8 => ?_) (fun c8 => ?_)
        · skip
          have zc8 : r7.toInt = (-1) := by rw [fa_eq, show ((-1) : Int32).toInt = -1 from by decide] at c8; exact c8
          obtain ⟨t9, et9⟩ : ∃ y : Int32, y = l2_1 + 1 := ⟨_, rfl⟩
          have zt9 : t9.toInt = l2_1.toInt + 1 := by rw [et9]; exact add_i rfl (by decide) (by omega) (by omega)
          refine lv_iinc (v := t9) (lv' := [(2, .int t9), (1, .int l1_1), (0, .ref (x 27))]) hx hb dX1_wearers_30 hl (k := 0) rfl (by rw [et9]; rfl) (by decide) rfl (fun ls hl => ?_)
          refine lv_goto (tgt := 4) hx hb dX1_wearers_33 (by decide) ?_
          have rg10 := fb_rng t9
          exact ih1 l1_1 t9 ⟨show (0 : Int) ≤ t9.toInt by omega, show t9.toInt ≤ (2147483647 : Int) by omega⟩ (by show (2147483647 - t9.toInt).toNat < n1; omega) _ _ _ hP hD hS (lv_sub hl [0, 1, 2] rfl)
        · skip
          have zc8 : ¬ (r7.toInt = (-1)) := by rw [fa_eq, show ((-1) : Int32).toInt = -1 from by decide] at c8; exact c8
          refine lv_iload_n hx hb dX1_wearers_24 rfl (lv_at hl 1 rfl) ?_
          refine lv_iconst (v := 1) hx hb dX1_wearers_25 (by decide) ?_
          refine lv_iload_n hx hb dX1_wearers_26 rfl (lv_at hl 0 rfl) ?_
          refine lv_ishl hx hb dX1_wearers_27 ?_
          refine lv_topi (fun t11 et11 => ?_)
          have zt11 : 1 ≤ t11.toInt ∧ t11.toInt ≤ 32 := by rw [et11]; exact shl1_rng (by omega) (by omega)
          refine lv_ior hx hb dX1_wearers_28 ?_
          refine lv_topi (fun t12 et12 => ?_)
          refine lv_istore_n (lv' := [(1, .int t12), (2, .int l2_1), (0, .ref (x 27))]) hx hb dX1_wearers_29 rfl hl (by decide) rfl (fun ls hl => ?_)
          obtain ⟨t13, et13⟩ : ∃ y : Int32, y = l2_1 + 1 := ⟨_, rfl⟩
          have zt13 : t13.toInt = l2_1.toInt + 1 := by rw [et13]; exact add_i rfl (by decide) (by omega) (by omega)
          refine lv_iinc (v := t13) (lv' := [(2, .int t13), (1, .int t12), (0, .ref (x 27))]) hx hb dX1_wearers_30 hl (k := 1) rfl (by rw [et13]; rfl) (by decide) rfl (fun ls hl => ?_)
          refine lv_goto (tgt := 4) hx hb dX1_wearers_33 (by decide) ?_
          have rg14 := fb_rng t13
          exact ih1 t12 t13 ⟨show (0 : Int) ≤ t13.toInt by omega, show t13.toInt ≤ (2147483647 : Int) by omega⟩ (by show (2147483647 - t13.toInt).toNat < n1; omega) _ _ _ hP hD hS (lv_sub hl [0, 1, 2] rfl)
  exact lp1 _ 0 0 ⟨by decide, by decide⟩ (Nat.lt_succ_self _) _ _ _ hP hD hS (lv_sub hl [0, 1, 2] rfl)
set_option maxHeartbeats 4000000 in
set_option maxRecDepth 100000 in
theorem sX_X3_daysTillRout_1 (l : Launch) (dC : Nat → ClassId) (dI : Nat → Nat → Nat) (cy : Nat → ClassId) (x0 : Nat) (x : Nat → Nat)  (v : Nat → Int32) (f : Nat → Nat → Int32) (hIv : XI v)  : ctI l (dC, dI) cy yX3_daysTillRout cX3_daysTillRout 2 .int 6 179 0 0 ((Nat → Int32) × (Nat → Nat → Int32)) [.ref (x 25)] (XW cy x0 x v f) (fun r u => KV [] u.1 v ∧ KF [13, 14, 18] u.2 f ∧ XI u.1 ∧ u.1 0 = v 0 ∧ u.1 1 = v 1 ∧ u.1 7 = v 7 ∧ u.1 8 = v 8 ∧ u.1 9 = v 9 ∧ u.1 10 = v 10 ∧ u.1 31 = v 31 ∧ u.1 32 = v 32) (fun u => XW cy x0 x u.1 u.2) := by
  refine ctI_of (by decide) (Nat.le_of_ble_eq_true rfl) (fun p e s m below meth c A ls Q hx hb hml hts hown hE hP hD hA hl ret => ?_)
  have hM_v : KV [] v v := fun _ _ => rfl
  have hA_f : KF [13, 14, 18] f f := fun _ _ => rfl
  have hown : s.vm.findClass RX3 = some m.cls := hown
  have hS : va_S A s.heap s.heap [] := va_S.rf
  have hl : lv_has ls 2 [(0, .ref (x 25))] := hl
  refine lv_aload_n hx hb dX3_daysTillRout_0 rfl (lv_at hl 0 rfl) ?_
  refine va_get (D := (dC, dI)) (ci := 3) (v := .ref (x 27)) (C := RX3) (T := TX3) (N := 10) hx hb hts inB_3 hown hE.1 hP 26 rfl rfl 2 (by decide) (hts _ k_372) (fun _ h9 => h9) rfl dX3_daysTillRout_1 ?_
  refine lv_aload_n hx hb dX3_daysTillRout_4 rfl (lv_at hl 0 rfl) ?_
  refine va_get (D := (dC, dI)) (ci := 3) (v := .ref (x 21)) (C := RX3) (T := TX3) (N := 10) hx hb hts inB_3 hown hE.1 hP 26 rfl rfl 1 (by decide) (hts _ k_371) (fun _ h9 => h9) rfl dX3_daysTillRout_5 ?_
  refine cbVv (n := 1) (rest := []) hx hb hml hown hts hE hP hD hS hA (sX_X1_copy_1 l dC dI cy x0 x  v f hIv ) k_945 k_946 k_947 k_106 k_948 (by decide +kernel) ⟨Nat.le_of_ble_eq_true rfl, Nat.le_of_ble_eq_true rfl⟩ 28 1 rfl rfl (rfl) hl.1 rfl (Nat.le_of_ble_eq_true rfl) dX3_daysTillRout_8 (fun u H locs hw hP hD hS => ?_)
  obtain ⟨v1, f2⟩ := u
  obtain ⟨kV_v1, kF_f2, hIv1, hk0_v1, hk1_v1, hk7_v1, hk8_v1, hk9_v1, hk10_v1, hk31_v1, hk32_v1⟩ := hw
  have hM_v1 : KV [] v1 v := KV.tr kV_v1 hM_v rfl
  have hA_f2 : KF [13, 14, 18] f2 f := KF.tr kF_f2 hA_f rfl
  have hP : va_P (dC, dI) vwCl (XW cy x0 x v1 f2) H := hP
  have hD : va_D A (XW cy x0 x v1 f2) := hD
  have hq0_v1 : v1 0 = (v 0) := hk0_v1
  have hq1_v1 : v1 1 = (v 1) := hk1_v1
  have hq7_v1 : v1 7 = (v 7) := hk7_v1
  have hq8_v1 : v1 8 = (v 8) := hk8_v1
  have hq9_v1 : v1 9 = (v 9) := hk9_v1
  have hq10_v1 : v1 10 = (v 10) := hk10_v1
  have hq31_v1 : v1 31 = (v 31) := hk31_v1
  have hq32_v1 : v1 32 = (v 32) := hk32_v1
  refine lv_iconst (v := 0) hx hb dX3_daysTillRout_11 (by decide) ?_
  refine lv_istore_n (lv' := [(1, .int 0), (0, .ref (x 25))]) hx hb dX3_daysTillRout_12 rfl hl (by decide) rfl (fun ls hl => ?_)
  have lp3 : ∀ (n3 : Nat) (l1_3 : Int32) (v3 : Nat → Int32) (f3 : Nat → Nat → Int32), XI v3 → v3 0 = (v 0) → v3 1 = (v 1) → v3 7 = (v 7) → v3 8 = (v 8) → v3 9 = (v 9) → v3 10 = (v 10) → v3 31 = (v 31) → v3 32 = (v 32) → ((0 : Int) ≤ l1_3.toInt ∧ l1_3.toInt ≤ 2147483647) → KV [] v3 v → KF [13, 14, 18] f3 f → (2147483647 - l1_3.toInt).toNat < n3 → ∀ (H : Heap) (locs : List Loc) (ls : Array Slot), va_P (dC, dI) vwCl (XW cy x0 x v3 f3) H → va_D A (XW cy x0 x v3 f3) → va_S A s.heap H locs → lv_has ls 2 [(1, .int l1_3), (0, .ref (x 25))] → W p l e { frames := 6, cells := 0, slots := 0, locals := 179 } s m ([.ref (x 25)] : List Value).toArray below meth c H locs 0 0 Q (F0 m 13 ls []) := by
    intro n3
    induction n3 with
    | zero => intro l1_3 v3 f3 hIv3 hq0_v3 hq1_v3 hq7_v3 hq8_v3 hq9_v3 hq10_v3 hq31_v3 hq32_v3 hr1_3 hM_v3 hA_f3 hm; exact absurd hm (Nat.not_lt_zero _)
    | succ n3 ih3 =>
      intro l1_3 v3 f3 hIv3 hq0_v3 hq1_v3 hq7_v3 hq8_v3 hq9_v3 hq10_v3 hq31_v3 hq32_v3 hr1_3 hM_v3 hA_f3 hm3 H locs ls hP hD hS hl
      refine lv_iload_n hx hb dX3_daysTillRout_13 rfl (lv_at hl 0 rfl) ?_
      refine lv_bipush (v := 60) hx hb dX3_daysTillRout_14 (by decide) ?_
      refine lv_icmp_gt (tgt := 46) hx hb dX3_daysTillRout_16 (by decide) (fun c4 => ?_) (fun c4 => ?_)
      · skip
        have zc4 : 60 < l1_3.toInt := by rw [fa_lt, show (60 : Int32).toInt = 60 from by decide] at c4; exact c4
        refine lv_iconst (v := (-1)) hx hb dX3_daysTillRout_46 (by decide) ?_
        exact ret (-1) (v3, f3) _ _ _ _ _ _ rfl ⟨hM_v3, hA_f3, hIv3, hq0_v3, hq1_v3, hq7_v3, hq8_v3, hq9_v3, hq10_v3, hq31_v3, hq32_v3⟩ hP hD hS dX3_daysTillRout_47 (Nat.le_refl _) (Nat.le_refl _)
      · skip
        have zc4 : ¬ (60 < l1_3.toInt) := by rw [fa_lt, show (60 : Int32).toInt = 60 from by decide] at c4; exact c4
        refine lv_aload_n hx hb dX3_daysTillRout_19 rfl (lv_at hl 1 rfl) ?_
        refine va_get (D := (dC, dI)) (ci := 3) (v := .ref (x 27)) (C := RX3) (T := TX3) (N := 10) hx hb hts inB_3 hown hE.1 hP 26 rfl rfl 2 (by decide) (hts _ k_372) (fun _ h9 => h9) rfl dX3_daysTillRout_20 ?_
        refine cbVi (n := 0) (rest := []) hx hb hml hown hts hE hP hD hS hA (sX_X1_wearers_2 l dC dI cy x0 x  v3 f3 hIv3 ) k_1206 k_1061 k_1062 k_106 k_1063 (by decide +kernel) ⟨Nat.le_of_ble_eq_true rfl, Nat.le_of_ble_eq_true rfl⟩ 28 1 rfl rfl (rfl) hl.1 rfl (Nat.le_of_ble_eq_true rfl) dX3_daysTillRout_23 (fun r5 u H locs hw hP hD hS => ?_)
        refine lv_if_ne (tgt := 31) hx hb dX3_daysTillRout_26 (by decide) (fun c6 => ?_) (fun c6 => ?_)
        · skip
          have zc6 : ¬ (r5.toInt = 0) := by rw [fa_eq, show (0 : Int32).toInt = 0 from by decide] at c6; exact c6
          refine lv_aload_n hx hb dX3_daysTillRout_31 rfl (lv_at hl 1 rfl) ?_
          refine va_get (D := (dC, dI)) (ci := 3) (v := .ref (x 27)) (C := RX3) (T := TX3) (N := 10) hx hb hts inB_3 hown hE.1 hP 26 rfl rfl 2 (by decide) (hts _ k_372) (fun _ h9 => h9) rfl dX3_daysTillRout_32 ?_
          refine lv_iconst (v := 0) hx hb dX3_daysTillRout_35 (by decide) ?_
          refine cbVi (n := 1) (rest := []) hx hb hml hown hts hE hP hD hS hA (sX_X1_passDay_2 l dC dI cy x0 x 0 v3 f3 hIv3 ) k_949 k_866 k_867 k_106 k_868 (by decide +kernel) ⟨Nat.le_of_ble_eq_true rfl, Nat.le_of_ble_eq_true rfl⟩ 28 1 rfl rfl (rfl) hl.1 rfl (Nat.le_of_ble_eq_true rfl) dX3_daysTillRout_36 (fun r7 u H locs hw hP hD hS => ?_)
          obtain ⟨v8, f9⟩ := u
          obtain ⟨kV_v8, kF_f9, hIv8, hk0_v8, hk1_v8, hk7_v8, hk8_v8, hk9_v8, hk10_v8, hk31_v8, hk32_v8⟩ := hw
          have hM_v8 : KV [] v8 v := KV.tr kV_v8 hM_v3 rfl
          have hA_f9 : KF [13, 14, 18] f9 f := KF.tr kF_f9 hA_f3 rfl
          have hP : va_P (dC, dI) vwCl (XW cy x0 x v8 f9) H := hP
          have hD : va_D A (XW cy x0 x v8 f9) := hD
          have hq0_v8 : v8 0 = (v 0) := hk0_v8.trans hq0_v3
          have hq1_v8 : v8 1 = (v 1) := hk1_v8.trans hq1_v3
          have hq7_v8 : v8 7 = (v 7) := hk7_v8.trans hq7_v3
          have hq8_v8 : v8 8 = (v 8) := hk8_v8.trans hq8_v3
          have hq9_v8 : v8 9 = (v 9) := hk9_v8.trans hq9_v3
          have hq10_v8 : v8 10 = (v 10) := hk10_v8.trans hq10_v3
          have hq31_v8 : v8 31 = (v 31) := hk31_v8.trans hq31_v3
          have hq32_v8 : v8 32 = (v 32) := hk32_v8.trans hq32_v3
          refine lv_pop hx hb dX3_daysTillRout_39 rfl ?_
          obtain ⟨t10, et10⟩ : ∃ y : Int32, y = l1_3 + 1 := ⟨_, rfl⟩
          have rg11 := fb_rng l1_3
          have zt10 : t10.toInt = l1_3.toInt + 1 := by rw [et10]; exact add_i rfl (by decide) (by omega) (by omega)
          refine lv_iinc (v := t10) (lv' := [(1, .int t10), (0, .ref (x 25))]) hx hb dX3_daysTillRout_40 hl (k := 0) rfl (by rw [et10]; rfl) (by decide) rfl (fun ls hl => ?_)
          refine lv_goto (tgt := 13) hx hb dX3_daysTillRout_43 (by decide) ?_
          have rg12 := fb_rng t10
          exact ih3 t10 v8 f9 hIv8 hq0_v8 hq1_v8 hq7_v8 hq8_v8 hq9_v8 hq10_v8 hq31_v8 hq32_v8 ⟨show (0 : Int) ≤ t10.toInt by omega, show t10.toInt ≤ (2147483647 : Int) by omega⟩ hM_v8 hA_f9 (by show (2147483647 - t10.toInt).toNat < n3; omega) _ _ _ hP hD hS (lv_sub hl [0, 1] rfl)
        · skip
          have zc6 : r5.toInt = 0 := by rw [fa_eq, show (0 : Int32).toInt = 0 from by decide] at c6; exact c6
          refine lv_iload_n hx hb dX3_daysTillRout_29 rfl (lv_at hl 0 rfl) ?_
          exact ret l1_3 (v3, f3) _ _ _ _ _ _ rfl ⟨hM_v3, hA_f3, hIv3, hq0_v3, hq1_v3, hq7_v3, hq8_v3, hq9_v3, hq10_v3, hq31_v3, hq32_v3⟩ hP hD hS dX3_daysTillRout_30 (Nat.le_refl _) (Nat.le_refl _)
  exact lp3 _ 0 v1 f2 hIv1 hq0_v1 hq1_v1 hq7_v1 hq8_v1 hq9_v1 hq10_v1 hq31_v1 hq32_v1 ⟨by decide, by decide⟩ hM_v1 hA_f2 (Nat.lt_succ_self _) _ _ _ hP hD hS (lv_sub hl [0, 1] rfl)
set_option maxHeartbeats 4000000 in
set_option maxRecDepth 100000 in
theorem sX_X10_rout_1 (l : Launch) (dC : Nat → ClassId) (dI : Nat → Nat → Nat) (cy : Nat → ClassId) (x0 : Nat) (x : Nat → Nat)  (v : Nat → Int32) (f : Nat → Nat → Int32) (hIv : XI v)  : ctI l (dC, dI) cy yX10_rout cX10_rout 1 .int 7 200 0 0 ((Nat → Int32) × (Nat → Nat → Int32)) [.ref x0] (XW cy x0 x v f) (fun r u => KV [] u.1 v ∧ KF [13, 14, 18] u.2 f ∧ XI u.1 ∧ u.1 0 = v 0 ∧ u.1 1 = v 1 ∧ u.1 7 = v 7 ∧ u.1 8 = v 8 ∧ u.1 9 = v 9 ∧ u.1 10 = v 10 ∧ u.1 31 = v 31 ∧ u.1 32 = v 32) (fun u => XW cy x0 x u.1 u.2) := by
  refine ctI_of (by decide) (Nat.le_of_ble_eq_true rfl) (fun p e s m below meth c A ls Q hx hb hml hts hown hE hP hD hA hl ret => ?_)
  have hM_v : KV [] v v := fun _ _ => rfl
  have hA_f : KF [13, 14, 18] f f := fun _ _ => rfl
  have hown : s.vm.findClass RX10 = some m.cls := hown
  have hS : va_S A s.heap s.heap [] := va_S.rf
  have hl : lv_has ls 1 [(0, .ref x0)] := hl
  refine lv_aload_n hx hb dX10_rout_0 rfl (lv_at hl 0 rfl) ?_
  refine va_get (D := (dC, dI)) (ci := 10) (v := .ref (x 25)) (C := RX10) (T := TX10) (N := 10) hx hb hts inB_10 hown hE.1 hP 0 rfl rfl 5 (by decide) (hts _ k_496) (fun _ h9 => h9) rfl dX10_rout_1 ?_
  refine cbVi (n := 0) (rest := []) hx hb hml hown hts hE hP hD hS hA (sX_X3_daysTillRout_1 l dC dI cy x0 x  v f hIv ) k_1202 k_1203 k_1204 k_109 k_1205 (by decide +kernel) ⟨Nat.le_of_ble_eq_true rfl, Nat.le_of_ble_eq_true rfl⟩ 26 3 rfl rfl (rfl) hl.1 rfl (Nat.le_of_ble_eq_true rfl) dX10_rout_4 (fun r1 u H locs hw hP hD hS => ?_)
  obtain ⟨v2, f3⟩ := u
  obtain ⟨kV_v2, kF_f3, hIv2, hk0_v2, hk1_v2, hk7_v2, hk8_v2, hk9_v2, hk10_v2, hk31_v2, hk32_v2⟩ := hw
  have hM_v2 : KV [] v2 v := KV.tr kV_v2 hM_v rfl
  have hA_f3 : KF [13, 14, 18] f3 f := KF.tr kF_f3 hA_f rfl
  have hP : va_P (dC, dI) vwCl (XW cy x0 x v2 f3) H := hP
  have hD : va_D A (XW cy x0 x v2 f3) := hD
  have hq0_v2 : v2 0 = (v 0) := hk0_v2
  have hq1_v2 : v2 1 = (v 1) := hk1_v2
  have hq7_v2 : v2 7 = (v 7) := hk7_v2
  have hq8_v2 : v2 8 = (v 8) := hk8_v2
  have hq9_v2 : v2 9 = (v 9) := hk9_v2
  have hq10_v2 : v2 10 = (v 10) := hk10_v2
  have hq31_v2 : v2 31 = (v 31) := hk31_v2
  have hq32_v2 : v2 32 = (v 32) := hk32_v2
  exact ret r1 (v2, f3) _ _ _ _ _ _ rfl ⟨hM_v2, hA_f3, hIv2, hk0_v2, hk1_v2, hk7_v2, hk8_v2, hk9_v2, hk10_v2, hk31_v2, hk32_v2⟩ hP hD hS dX10_rout_7 (Nat.le_refl _) (Nat.le_refl _)
set_option maxHeartbeats 4000000 in
set_option maxRecDepth 100000 in
theorem sX_X0_lying_1 (l : Launch) (dC : Nat → ClassId) (dI : Nat → Nat → Nat) (cy : Nat → ClassId) (x0 : Nat) (x : Nat → Nat) (p1 : Int32) (v : Nat → Int32) (f : Nat → Nat → Int32) (hIv : XI v)  : ctI l (dC, dI) cy yX0_lying cX0_lying 2 .int 1 60 0 0 Unit [.ref (x 31), .int p1] (XW cy x0 x v f) (fun r u => True) (fun u => XW cy x0 x v f) := by
  refine ctI_of (by decide) (Nat.le_of_ble_eq_true rfl) (fun p e s m below meth c A ls Q hx hb hml hts hown hE hP hD hA hl ret => ?_)
  have hown : s.vm.findClass RX0 = some m.cls := hown
  have hS : va_S A s.heap s.heap [] := va_S.rf
  have hl : lv_has ls 2 [(0, .ref (x 31)), (1, .int p1)] := hl
  refine lv_iload_n hx hb dX0_lying_0 rfl (lv_at hl 1 rfl) ?_
  refine lv_if_lt (tgt := 30) hx hb dX0_lying_1 (by decide) (fun c1 => ?_) (fun c1 => ?_)
  · skip
    have zc1 : p1.toInt < 0 := by rw [fa_lt, show (0 : Int32).toInt = 0 from by decide] at c1; exact c1
    refine lv_bipush (v := (-2)) hx hb dX0_lying_30 (by decide) ?_
    exact ret (-2) () _ _ _ _ _ _ rfl trivial hP hD hS dX0_lying_32 (Nat.le_refl _) (Nat.le_refl _)
  · skip
    have zc1 : ¬ (p1.toInt < 0) := by rw [fa_lt, show (0 : Int32).toInt = 0 from by decide] at c1; exact c1
    refine lv_iload_n hx hb dX0_lying_4 rfl (lv_at hl 1 rfl) ?_
    refine lv_aload_n hx hb dX0_lying_5 rfl (lv_at hl 0 rfl) ?_
    refine va_get (D := (dC, dI)) (ci := 0) (v := .int (v 38)) (C := RX0) (T := TX0) (N := 8) hx hb hts inB_0 hown hE.1 hP 32 rfl rfl 3 (by decide) (hts _ k_433) (fun _ h9 => h9) rfl dX0_lying_6 ?_
    have b38_v : 0 ≤ (v 38).toInt ∧ (v 38).toInt ≤ 6 := XI.b hIv 38 (by decide)
    refine lv_icmp_ge (tgt := 30) hx hb dX0_lying_9 (by decide) (fun c2 => ?_) (fun c2 => ?_)
    · skip
      have zc2 : (v 38).toInt ≤ p1.toInt := by rw [fa_le] at c2; exact c2
      have rg3 := fb_rng p1
      have rg4 := fb_rng (v 38)
      refine lv_bipush (v := (-2)) hx hb dX0_lying_30 (by decide) ?_
      exact ret (-2) () _ _ _ _ _ _ rfl trivial hP hD hS dX0_lying_32 (Nat.le_refl _) (Nat.le_refl _)
    · skip
      have zc2 : ¬ ((v 38).toInt ≤ p1.toInt) := by rw [fa_le] at c2; exact c2
      have rg5 := fb_rng p1
      have rg6 := fb_rng (v 38)
      refine lv_iload_n hx hb dX0_lying_12 rfl (lv_at hl 1 rfl) ?_
      refine lv_aload_n hx hb dX0_lying_13 rfl (lv_at hl 0 rfl) ?_
      refine va_get (D := (dC, dI)) (ci := 0) (v := .ref (x 32)) (C := RX0) (T := TX0) (N := 8) hx hb hts inB_0 hown hE.1 hP 32 rfl rfl 2 (by decide) (hts _ k_432) (fun _ h9 => h9) rfl dX0_lying_14 ?_
      refine va_alen (v := 6) hx hb hE.1 hP 33 1 rfl rfl rfl dX0_lying_17 ?_
      refine lv_icmp_ge (tgt := 30) hx hb dX0_lying_18 (by decide) (fun c7 => ?_) (fun c7 => ?_)
      · skip
        have zc7 : 6 ≤ p1.toInt := by rw [fa_le, show (6 : Int32).toInt = 6 from by decide] at c7; exact c7
        refine lv_bipush (v := (-2)) hx hb dX0_lying_30 (by decide) ?_
        exact ret (-2) () _ _ _ _ _ _ rfl trivial hP hD hS dX0_lying_32 (Nat.le_refl _) (Nat.le_refl _)
      · skip
        have zc7 : ¬ (6 ≤ p1.toInt) := by rw [fa_le, show (6 : Int32).toInt = 6 from by decide] at c7; exact c7
        refine lv_aload_n hx hb dX0_lying_21 rfl (lv_at hl 0 rfl) ?_
        refine va_get (D := (dC, dI)) (ci := 0) (v := .ref (x 32)) (C := RX0) (T := TX0) (N := 8) hx hb hts inB_0 hown hE.1 hP 32 rfl rfl 2 (by decide) (hts _ k_432) (fun _ h9 => h9) rfl dX0_lying_22 ?_
        refine lv_iload_n hx hb dX0_lying_25 rfl (lv_at hl 1 rfl) ?_
        refine ldI hx hb hE hP 33 rfl (vp_in_iff.mpr ⟨by omega, by omega⟩) rfl rfl dX0_lying_26 ?_
        refine lv_topi (fun t8 et8 => ?_)
        refine lv_goto (tgt := 32) hx hb dX0_lying_27 (by decide) ?_
        exact ret t8 () _ _ _ _ _ _ rfl trivial hP hD hS dX0_lying_32 (Nat.le_refl _) (Nat.le_refl _)
set_option maxHeartbeats 4000000 in
set_option maxRecDepth 100000 in
theorem sX_X10_lies_1 (l : Launch) (dC : Nat → ClassId) (dI : Nat → Nat → Nat) (cy : Nat → ClassId) (x0 : Nat) (x : Nat → Nat) (p1 : Int32) (v : Nat → Int32) (f : Nat → Nat → Int32) (hIv : XI v)  : ctI l (dC, dI) cy yX10_lies cX10_lies 2 .int 2 81 0 0 Unit [.ref x0, .int p1] (XW cy x0 x v f) (fun r u => True) (fun u => XW cy x0 x v f) := by
  refine ctI_of (by decide) (Nat.le_of_ble_eq_true rfl) (fun p e s m below meth c A ls Q hx hb hml hts hown hE hP hD hA hl ret => ?_)
  have hown : s.vm.findClass RX10 = some m.cls := hown
  have hS : va_S A s.heap s.heap [] := va_S.rf
  have hl : lv_has ls 2 [(0, .ref x0), (1, .int p1)] := hl
  refine lv_aload_n hx hb dX10_lies_0 rfl (lv_at hl 0 rfl) ?_
  refine va_get (D := (dC, dI)) (ci := 10) (v := .ref (x 31)) (C := RX10) (T := TX10) (N := 10) hx hb hts inB_10 hown hE.1 hP 0 rfl rfl 7 (by decide) (hts _ k_498) (fun _ h9 => h9) rfl dX10_lies_1 ?_
  refine lv_iload_n hx hb dX10_lies_4 rfl (lv_at hl 1 rfl) ?_
  refine cbVi (n := 1) (rest := []) hx hb hml hown hts hE hP hD hS hA (sX_X0_lying_1 l dC dI cy x0 x p1 v f hIv ) k_1218 k_1219 k_1220 k_111 k_1221 (by decide +kernel) ⟨Nat.le_of_ble_eq_true rfl, Nat.le_of_ble_eq_true rfl⟩ 32 0 rfl rfl (rfl) hl.1 rfl (Nat.le_of_ble_eq_true rfl) dX10_lies_5 (fun r1 u H locs hw hP hD hS => ?_)
  exact ret r1 () _ _ _ _ _ _ rfl trivial hP hD hS dX10_lies_8 (Nat.le_refl _) (Nat.le_refl _)
set_option maxHeartbeats 4000000 in
set_option maxRecDepth 100000 in
theorem sX_X8_fitsGrown_1 (l : Launch) (dC : Nat → ClassId) (dI : Nat → Nat → Nat) (cy : Nat → ClassId) (x0 : Nat) (x : Nat → Nat) (p1 : Int32) (p2 : Int32) (v : Nat → Int32) (f : Nat → Nat → Int32) (hIv : XI v)  : ctI l (dC, dI) cy yX8_fitsGrown cX8_fitsGrown 5 .boolean 3 111 0 0 ((Nat → Int32) × (Nat → Nat → Int32)) [.ref (x 35), .int p1, .int p2] (XW cy x0 x v f) (fun r u => KV [] u.1 v ∧ KF [13, 14] u.2 f ∧ XI u.1 ∧ u.1 0 = v 0 ∧ u.1 1 = v 1 ∧ u.1 7 = v 7 ∧ u.1 8 = v 8 ∧ u.1 9 = v 9 ∧ u.1 10 = v 10 ∧ u.1 31 = v 31 ∧ u.1 32 = v 32 ∧ ((r = 1) ∨ (r = 0))) (fun u => XW cy x0 x u.1 u.2) := by
  refine ctI_of (by decide) (Nat.le_of_ble_eq_true rfl) (fun p e s m below meth c A ls Q hx hb hml hts hown hE hP hD hA hl ret => ?_)
  have hM_v : KV [] v v := fun _ _ => rfl
  have hA_f : KF [13, 14] f f := fun _ _ => rfl
  have hown : s.vm.findClass RX8 = some m.cls := hown
  have hS : va_S A s.heap s.heap [] := va_S.rf
  have hl : lv_has ls 5 [(0, .ref (x 35)), (1, .int p1), (2, .int p2)] := hl
  refine lv_bipush (v := 99) hx hb dX8_fitsGrown_0 (by decide) ?_
  refine lv_aload_n hx hb dX8_fitsGrown_2 rfl (lv_at hl 0 rfl) ?_
  refine va_get (D := (dC, dI)) (ci := 8) (v := .ref (x 26)) (C := RX8) (T := TX8) (N := 7) hx hb hts inB_8 hown hE.1 hP 36 rfl rfl 0 (by decide) (hts _ k_467) (fun _ h9 => h9) rfl dX8_fitsGrown_3 ?_
  refine lv_iconst (v := 1) hx hb dX8_fitsGrown_6 (by decide) ?_
  refine lv_iconst (v := 0) hx hb dX8_fitsGrown_7 (by decide) ?_
  refine cbVi (n := 2) (rest := [.int 99]) hx hb hml hown hts hE hP hD hS hA (sX_X7_manPart_1 0 l dC dI cy x0 x 1 0 v f hIv ) k_1260 k_303 k_304 k_104 k_305 (by decide +kernel) ⟨Nat.le_of_ble_eq_true rfl, Nat.le_of_ble_eq_true rfl⟩ 27 7 rfl rfl (rfl) hl.1 rfl (Nat.le_of_ble_eq_true rfl) dX8_fitsGrown_8 (fun r1 u H locs hw hP hD hS => ?_)
  have hG2 := hw
  refine lv_iload_n hx hb dX8_fitsGrown_11 rfl (lv_at hl 1 rfl) ?_
  refine lv_iload_n hx hb dX8_fitsGrown_12 rfl (lv_at hl 2 rfl) ?_
  refine lv_imul hx hb dX8_fitsGrown_13 ?_
  refine lv_topi (fun t3 et3 => ?_)
  refine lv_iadd hx hb dX8_fitsGrown_14 ?_
  refine lv_topi (fun t4 et4 => ?_)
  refine va_mmin hx hb (by rw [hml]; exact hl.1.symm) hown (hts _ k_1261) (hts _ k_643) (hts _ k_119) (hts _ k_644) (Nat.le_of_ble_eq_true rfl) (Nat.le_of_ble_eq_true rfl) (Nat.le_of_ble_eq_true rfl) (Nat.le_of_ble_eq_true rfl) dX8_fitsGrown_15 ?_
  refine lv_topi (fun t5 et5 => ?_)
  have zt5 : t5.toInt = min (99) (t4.toInt) := by rw [et5]; exact mmin_i (by decide) rfl
  refine lv_istore_n (lv' := [(3, .int t5), (0, .ref (x 35)), (1, .int p1), (2, .int p2)]) hx hb dX8_fitsGrown_18 rfl hl (by decide) rfl (fun ls hl => ?_)
  refine lv_bipush (v := 99) hx hb dX8_fitsGrown_19 (by decide) ?_
  refine lv_aload_n hx hb dX8_fitsGrown_21 rfl (lv_at hl 1 rfl) ?_
  refine va_get (D := (dC, dI)) (ci := 8) (v := .ref (x 26)) (C := RX8) (T := TX8) (N := 7) hx hb hts inB_8 hown hE.1 hP 36 rfl rfl 0 (by decide) (hts _ k_467) (fun _ h9 => h9) rfl dX8_fitsGrown_22 ?_
  refine lv_iconst (v := 3) hx hb dX8_fitsGrown_25 (by decide) ?_
  refine lv_iconst (v := 0) hx hb dX8_fitsGrown_26 (by decide) ?_
  refine cbVi (n := 2) (rest := [.int 99]) hx hb hml hown hts hE hP hD hS hA (sX_X7_coatPart_1 0 l dC dI cy x0 x 3 0 v f hIv ) k_1262 k_311 k_312 k_104 k_313 (by decide +kernel) ⟨Nat.le_of_ble_eq_true rfl, Nat.le_of_ble_eq_true rfl⟩ 27 7 rfl rfl (rfl) hl.1 rfl (Nat.le_of_ble_eq_true rfl) dX8_fitsGrown_27 (fun r6 u H locs hw hP hD hS => ?_)
  have hG7 := hw
  refine lv_iload_n hx hb dX8_fitsGrown_30 rfl (lv_at hl 3 rfl) ?_
  refine lv_iadd hx hb dX8_fitsGrown_31 ?_
  refine lv_topi (fun t8 et8 => ?_)
  refine va_mmin hx hb (by rw [hml]; exact hl.1.symm) hown (hts _ k_1261) (hts _ k_643) (hts _ k_119) (hts _ k_644) (Nat.le_of_ble_eq_true rfl) (Nat.le_of_ble_eq_true rfl) (Nat.le_of_ble_eq_true rfl) (Nat.le_of_ble_eq_true rfl) dX8_fitsGrown_32 ?_
  refine lv_topi (fun t9 et9 => ?_)
  have zt9 : t9.toInt = min (99) (t8.toInt) := by rw [et9]; exact mmin_i (by decide) rfl
  refine lv_istore (lv' := [(4, .int t9), (3, .int t5), (0, .ref (x 35)), (1, .int p1), (2, .int p2)]) hx hb dX8_fitsGrown_35 hl (by decide) rfl (fun ls hl => ?_)
  refine lv_aload_n hx hb dX8_fitsGrown_37 rfl (lv_at hl 2 rfl) ?_
  refine va_get (D := (dC, dI)) (ci := 8) (v := .ref (x 26)) (C := RX8) (T := TX8) (N := 7) hx hb hts inB_8 hown hE.1 hP 36 rfl rfl 0 (by decide) (hts _ k_467) (fun _ h9 => h9) rfl dX8_fitsGrown_38 ?_
  refine va_getN (D := (dC, dI)) (ci := 7) (v := .ref (x 15)) (C := RX7) (T := TX7) (N := 10) hx hb hts inB_7 hown hE.1 hP 27 rfl rfl 2 (by decide) (va_Nw.use rfl (hE.2 _ k_208)) (fun _ h9 => h9) rfl dX8_fitsGrown_41 ?_
  refine lv_aload_n hx hb dX8_fitsGrown_44 rfl (lv_at hl 2 rfl) ?_
  refine va_get (D := (dC, dI)) (ci := 8) (v := .ref (x 26)) (C := RX8) (T := TX8) (N := 7) hx hb hts inB_8 hown hE.1 hP 36 rfl rfl 0 (by decide) (hts _ k_467) (fun _ h9 => h9) rfl dX8_fitsGrown_45 ?_
  refine lv_iconst (v := 0) hx hb dX8_fitsGrown_48 (by decide) ?_
  refine lv_iconst (v := 0) hx hb dX8_fitsGrown_49 (by decide) ?_
  refine cbVi (n := 2) (rest := [.ref (x 15)]) hx hb hml hown hts hE hP hD hS hA (sX_X7_manPart_1 0 l dC dI cy x0 x 0 0 v f hIv ) k_1260 k_303 k_304 k_104 k_305 (by decide +kernel) ⟨Nat.le_of_ble_eq_true rfl, Nat.le_of_ble_eq_true rfl⟩ 27 7 rfl rfl (rfl) hl.1 rfl (Nat.le_of_ble_eq_true rfl) dX8_fitsGrown_50 (fun r10 u H locs hw hP hD hS => ?_)
  have hG11 := hw
  refine lv_iload_n hx hb dX8_fitsGrown_53 rfl (lv_at hl 1 rfl) ?_
  refine lv_aload_n hx hb dX8_fitsGrown_54 rfl (lv_at hl 2 rfl) ?_
  refine va_get (D := (dC, dI)) (ci := 8) (v := .ref (x 26)) (C := RX8) (T := TX8) (N := 7) hx hb hts inB_8 hown hE.1 hP 36 rfl rfl 0 (by decide) (hts _ k_467) (fun _ h9 => h9) rfl dX8_fitsGrown_55 ?_
  refine lv_iconst (v := 0) hx hb dX8_fitsGrown_58 (by decide) ?_
  refine lv_iconst (v := 0) hx hb dX8_fitsGrown_59 (by decide) ?_
  refine cbVi (n := 2) (rest := [.int t5, .int r10, .ref (x 15)]) hx hb hml hown hts hE hP hD hS hA (sX_X7_coatPart_1 0 l dC dI cy x0 x 0 0 v f hIv ) k_1262 k_311 k_312 k_104 k_313 (by decide +kernel) ⟨Nat.le_of_ble_eq_true rfl, Nat.le_of_ble_eq_true rfl⟩ 27 7 rfl rfl (rfl) hl.1 rfl (Nat.le_of_ble_eq_true rfl) dX8_fitsGrown_60 (fun r12 u H locs hw hP hD hS => ?_)
  have hG13 := hw
  refine lv_aload_n hx hb dX8_fitsGrown_63 rfl (lv_at hl 2 rfl) ?_
  refine va_get (D := (dC, dI)) (ci := 8) (v := .ref (x 26)) (C := RX8) (T := TX8) (N := 7) hx hb hts inB_8 hown hE.1 hP 36 rfl rfl 0 (by decide) (hts _ k_467) (fun _ h9 => h9) rfl dX8_fitsGrown_64 ?_
  refine lv_iconst (v := 1) hx hb dX8_fitsGrown_67 (by decide) ?_
  refine lv_iconst (v := 0) hx hb dX8_fitsGrown_68 (by decide) ?_
  refine cbVi (n := 2) (rest := [.int r12, .int t5, .int r10, .ref (x 15)]) hx hb hml hown hts hE hP hD hS hA (sX_X7_coatPart_1 0 l dC dI cy x0 x 1 0 v f hIv ) k_1262 k_311 k_312 k_104 k_313 (by decide +kernel) ⟨Nat.le_of_ble_eq_true rfl, Nat.le_of_ble_eq_true rfl⟩ 27 7 rfl rfl (rfl) hl.1 rfl (Nat.le_of_ble_eq_true rfl) dX8_fitsGrown_69 (fun r14 u H locs hw hP hD hS => ?_)
  have hG15 := hw
  refine lv_iload hx hb dX8_fitsGrown_72 (lv_at hl 0 rfl) ?_
  refine lv_iload_n hx hb dX8_fitsGrown_74 rfl (lv_at hl 4 rfl) ?_
  refine cbVi (n := 6) (rest := []) hx hb hml hown hts hE hP hD hS hA (sX_X4_worth_1 l dC dI cy x0 x r10 t5 r12 r14 t9 p2 v f hIv ) k_1263 k_836 k_837 k_105 k_838 (by decide +kernel) ⟨Nat.le_of_ble_eq_true rfl, Nat.le_of_ble_eq_true rfl⟩ 16 4 rfl rfl (rfl) hl.1 rfl (Nat.le_of_ble_eq_true rfl) dX8_fitsGrown_75 (fun r16 u H locs hw hP hD hS => ?_)
  obtain ⟨v17, f18⟩ := u
  obtain ⟨kV_v17, kF_f18, hIv17, hk0_v17, hk1_v17, hk7_v17, hk8_v17, hk9_v17, hk10_v17, hk31_v17, hk32_v17⟩ := hw
  have hM_v17 : KV [] v17 v := KV.tr kV_v17 hM_v rfl
  have hA_f18 : KF [13, 14] f18 f := KF.tr kF_f18 hA_f rfl
  have hP : va_P (dC, dI) vwCl (XW cy x0 x v17 f18) H := hP
  have hD : va_D A (XW cy x0 x v17 f18) := hD
  have hq0_v17 : v17 0 = (v 0) := hk0_v17
  have hq1_v17 : v17 1 = (v 1) := hk1_v17
  have hq7_v17 : v17 7 = (v 7) := hk7_v17
  have hq8_v17 : v17 8 = (v 8) := hk8_v17
  have hq9_v17 : v17 9 = (v 9) := hk9_v17
  have hq10_v17 : v17 10 = (v 10) := hk10_v17
  have hq31_v17 : v17 31 = (v 31) := hk31_v17
  have hq32_v17 : v17 32 = (v 32) := hk32_v17
  refine lv_aload_n hx hb dX8_fitsGrown_78 rfl (lv_at hl 2 rfl) ?_
  refine va_get (D := (dC, dI)) (ci := 8) (v := .ref (x 26)) (C := RX8) (T := TX8) (N := 7) hx hb hts inB_8 hown hE.1 hP 36 rfl rfl 0 (by decide) (hts _ k_467) (fun _ h9 => h9) rfl dX8_fitsGrown_79 ?_
  refine va_getN (D := (dC, dI)) (ci := 7) (v := .int (v17 33)) (C := RX7) (T := TX7) (N := 10) hx hb hts inB_7 hown hE.1 hP 27 rfl rfl 5 (by decide) (va_Nw.use rfl (hE.2 _ k_231)) (fun _ h9 => h9) rfl dX8_fitsGrown_82 ?_
  refine lv_icmp_gt (tgt := 92) hx hb dX8_fitsGrown_85 (by decide) (fun c19 => ?_) (fun c19 => ?_)
  · skip
    have zc19 : (v17 33).toInt < r16.toInt := by rw [fa_lt] at c19; exact c19
    have rg20 := fb_rng r16
    have rg21 := fb_rng (v17 33)
    refine lv_iconst (v := 0) hx hb dX8_fitsGrown_92 (by decide) ?_
    exact ret 0 (v17, f18) _ _ _ _ _ _ rfl ⟨hM_v17, hA_f18, hIv17, hk0_v17, hk1_v17, hk7_v17, hk8_v17, hk9_v17, hk10_v17, hk31_v17, hk32_v17, (Or.inr rfl)⟩ hP hD hS dX8_fitsGrown_93 (Nat.le_refl _) (Nat.le_refl _)
  · skip
    have zc19 : ¬ ((v17 33).toInt < r16.toInt) := by rw [fa_lt] at c19; exact c19
    have rg22 := fb_rng r16
    have rg23 := fb_rng (v17 33)
    refine lv_iconst (v := 1) hx hb dX8_fitsGrown_88 (by decide) ?_
    refine lv_goto (tgt := 93) hx hb dX8_fitsGrown_89 (by decide) ?_
    exact ret 1 (v17, f18) _ _ _ _ _ _ rfl ⟨hM_v17, hA_f18, hIv17, hk0_v17, hk1_v17, hk7_v17, hk8_v17, hk9_v17, hk10_v17, hk31_v17, hk32_v17, (Or.inl rfl)⟩ hP hD hS dX8_fitsGrown_93 (Nat.le_refl _) (Nat.le_refl _)
set_option maxHeartbeats 4000000 in
set_option maxRecDepth 100000 in
theorem sX_X8_fittingBehind_1 (l : Launch) (dC : Nat → ClassId) (dI : Nat → Nat → Nat) (cy : Nat → ClassId) (x0 : Nat) (x : Nat → Nat) (p1 : Int32) (v : Nat → Int32) (f : Nat → Nat → Int32) (hIv : XI v)  : ctI l (dC, dI) cy yX8_fittingBehind cX8_fittingBehind 4 .int 4 135 0 0 ((Nat → Int32) × (Nat → Nat → Int32)) [.ref (x 35), .int p1] (XW cy x0 x v f) (fun r u => KV [] u.1 v ∧ KF [13, 14, 27] u.2 f ∧ XI u.1 ∧ u.1 0 = v 0 ∧ u.1 1 = v 1 ∧ u.1 7 = v 7 ∧ u.1 8 = v 8 ∧ u.1 9 = v 9 ∧ u.1 10 = v 10 ∧ u.1 31 = v 31 ∧ u.1 32 = v 32) (fun u => XW cy x0 x u.1 u.2) := by
  refine ctI_of (by decide) (Nat.le_of_ble_eq_true rfl) (fun p e s m below meth c A ls Q hx hb hml hts hown hE hP hD hA hl ret => ?_)
  have hM_v : KV [] v v := fun _ _ => rfl
  have hA_f : KF [13, 14, 27] f f := fun _ _ => rfl
  have hown : s.vm.findClass RX8 = some m.cls := hown
  have hS : va_S A s.heap s.heap [] := va_S.rf
  have hl : lv_has ls 4 [(0, .ref (x 35)), (1, .int p1)] := hl
  refine lv_iload_n hx hb dX8_fittingBehind_0 rfl (lv_at hl 1 rfl) ?_
  refine lv_if_lt (tgt := 10) hx hb dX8_fittingBehind_1 (by decide) (fun c1 => ?_) (fun c1 => ?_)
  · skip
    have zc1 : p1.toInt < 0 := by rw [fa_lt, show (0 : Int32).toInt = 0 from by decide] at c1; exact c1
    refine lv_iconst (v := 0) hx hb dX8_fittingBehind_10 (by decide) ?_
    exact ret 0 (v, f) _ _ _ _ _ _ rfl ⟨hM_v, hA_f, hIv, rfl, rfl, rfl, rfl, rfl, rfl, rfl, rfl⟩ hP hD hS dX8_fittingBehind_11 (Nat.le_refl _) (Nat.le_refl _)
  · skip
    have zc1 : ¬ (p1.toInt < 0) := by rw [fa_lt, show (0 : Int32).toInt = 0 from by decide] at c1; exact c1
    refine lv_iload_n hx hb dX8_fittingBehind_4 rfl (lv_at hl 1 rfl) ?_
    refine lv_bipush (v := 20) hx hb dX8_fittingBehind_5 (by decide) ?_
    refine lv_icmp_le (tgt := 12) hx hb dX8_fittingBehind_7 (by decide) (fun c2 => ?_) (fun c2 => ?_)
    · skip
      have zc2 : p1.toInt ≤ 20 := by rw [fa_le, show (20 : Int32).toInt = 20 from by decide] at c2; exact c2
      refine lv_aload_n hx hb dX8_fittingBehind_12 rfl (lv_at hl 0 rfl) ?_
      refine va_get (D := (dC, dI)) (ci := 8) (v := .ref (x 40)) (C := RX8) (T := TX8) (N := 7) hx hb hts inB_8 hown hE.1 hP 36 rfl rfl 6 (by decide) (hts _ k_474) (fun _ h9 => h9) rfl dX8_fittingBehind_13 ?_
      refine lv_iload_n hx hb dX8_fittingBehind_16 rfl (lv_at hl 1 rfl) ?_
      refine ldI hx hb hE hP 41 rfl (vp_in_iff.mpr ⟨by omega, by omega⟩) rfl rfl dX8_fittingBehind_17 ?_
      refine lv_topi (fun t3 et3 => ?_)
      refine lv_iconst (v := (-1)) hx hb dX8_fittingBehind_18 (by decide) ?_
      refine lv_icmp_ne (tgt := 60) hx hb dX8_fittingBehind_19 (by decide) (fun c4 => ?_) (fun c4 => ?_)
      · skip
        have zc4 : ¬ (t3.toInt = (-1)) := by rw [fa_eq, show ((-1) : Int32).toInt = -1 from by decide] at c4; exact c4
        refine lv_aload_n hx hb dX8_fittingBehind_60 rfl (lv_at hl 0 rfl) ?_
        refine va_get (D := (dC, dI)) (ci := 8) (v := .ref (x 40)) (C := RX8) (T := TX8) (N := 7) hx hb hts inB_8 hown hE.1 hP 36 rfl rfl 6 (by decide) (hts _ k_474) (fun _ h9 => h9) rfl dX8_fittingBehind_61 ?_
        refine lv_iload_n hx hb dX8_fittingBehind_64 rfl (lv_at hl 1 rfl) ?_
        refine ldI hx hb hE hP 41 rfl (vp_in_iff.mpr ⟨by omega, by omega⟩) rfl rfl dX8_fittingBehind_65 ?_
        refine lv_topi (fun t5 et5 => ?_)
        exact ret t5 (v, f) _ _ _ _ _ _ rfl ⟨hM_v, hA_f, hIv, rfl, rfl, rfl, rfl, rfl, rfl, rfl, rfl⟩ hP hD hS dX8_fittingBehind_66 (Nat.le_refl _) (Nat.le_refl _)
      · skip
        have zc4 : t3.toInt = (-1) := by rw [fa_eq, show ((-1) : Int32).toInt = -1 from by decide] at c4; exact c4
        refine lv_iconst (v := 0) hx hb dX8_fittingBehind_22 (by decide) ?_
        refine lv_istore_n (lv' := [(2, .int 0), (0, .ref (x 35)), (1, .int p1)]) hx hb dX8_fittingBehind_23 rfl hl (by decide) rfl (fun ls hl => ?_)
        refine lv_iconst (v := 0) hx hb dX8_fittingBehind_24 (by decide) ?_
        refine lv_istore_n (lv' := [(3, .int 0), (2, .int 0), (0, .ref (x 35)), (1, .int p1)]) hx hb dX8_fittingBehind_25 rfl hl (by decide) rfl (fun ls hl => ?_)
        have lp6 : ∀ (n6 : Nat) (l2_6 : Int32) (l3_6 : Int32) (v6 : Nat → Int32) (f6 : Nat → Nat → Int32), XI v6 → v6 0 = (v 0) → v6 1 = (v 1) → v6 7 = (v 7) → v6 8 = (v 8) → v6 9 = (v 9) → v6 10 = (v 10) → v6 31 = (v 31) → v6 32 = (v 32) → ((0 : Int) ≤ l3_6.toInt ∧ l3_6.toInt ≤ 2147483647) → KV [] v6 v → KF [13, 14, 27] f6 f → (2147483647 - l3_6.toInt).toNat < n6 → ∀ (H : Heap) (locs : List Loc) (ls : Array Slot), va_P (dC, dI) vwCl (XW cy x0 x v6 f6) H → va_D A (XW cy x0 x v6 f6) → va_S A s.heap H locs → lv_has ls 4 [(3, .int l3_6), (2, .int l2_6), (0, .ref (x 35)), (1, .int p1)] → W p l e { frames := 4, cells := 0, slots := 0, locals := 135 } s m ([.ref (x 35), .int p1] : List Value).toArray below meth c H locs 0 0 Q (F0 m 26 ls []) := by
          intro n6
          induction n6 with
          | zero => intro l2_6 l3_6 v6 f6 hIv6 hq0_v6 hq1_v6 hq7_v6 hq8_v6 hq9_v6 hq10_v6 hq31_v6 hq32_v6 hr3_6 hM_v6 hA_f6 hm; exact absurd hm (Nat.not_lt_zero _)
          | succ n6 ih6 =>
            intro l2_6 l3_6 v6 f6 hIv6 hq0_v6 hq1_v6 hq7_v6 hq8_v6 hq9_v6 hq10_v6 hq31_v6 hq32_v6 hr3_6 hM_v6 hA_f6 hm6 H locs ls hP hD hS hl
            refine lv_iload_n hx hb dX8_fittingBehind_26 rfl (lv_at hl 0 rfl) ?_
            refine lv_bipush (v := 30) hx hb dX8_fittingBehind_27 (by decide) ?_
            refine lv_icmp_gt (tgt := 53) hx hb dX8_fittingBehind_29 (by decide) (fun c7 => ?_) (fun c7 => ?_)
            · skip
              have zc7 : 30 < l3_6.toInt := by rw [fa_lt, show (30 : Int32).toInt = 30 from by decide] at c7; exact c7
              refine lv_aload_n hx hb dX8_fittingBehind_53 rfl (lv_at hl 2 rfl) ?_
              refine va_get (D := (dC, dI)) (ci := 8) (v := .ref (x 40)) (C := RX8) (T := TX8) (N := 7) hx hb hts inB_8 hown hE.1 hP 36 rfl rfl 6 (by decide) (hts _ k_474) (fun _ h9 => h9) rfl dX8_fittingBehind_54 ?_
              refine lv_iload_n hx hb dX8_fittingBehind_57 rfl (lv_at hl 3 rfl) ?_
              refine lv_iload_n hx hb dX8_fittingBehind_58 rfl (lv_at hl 1 rfl) ?_
              refine stI hx hb hE hP hD hS 41 rfl (vp_in_iff.mpr ⟨by omega, by omega⟩) rfl dX8_fittingBehind_59 (fun H locs hP hD hS => ?_)
              obtain ⟨f8, ef8, hP, hD⟩ : ∃ fz9, fz9 = upd2 f6 27 (upd (f6 27) p1.toNatClampNeg l2_6) ∧ va_P (dC, dI) vwCl (XW cy x0 x v6 fz9) H ∧ va_D A (XW cy x0 x v6 fz9) := ⟨_, rfl, hP, hD⟩
              have hA_f8 : KF [13, 14, 27] f8 f := by rw [ef8]; exact KF.up hA_f6 rfl
              refine lv_aload_n hx hb dX8_fittingBehind_60 rfl (lv_at hl 2 rfl) ?_
              refine va_get (D := (dC, dI)) (ci := 8) (v := .ref (x 40)) (C := RX8) (T := TX8) (N := 7) hx hb hts inB_8 hown hE.1 hP 36 rfl rfl 6 (by decide) (hts _ k_474) (fun _ h9 => h9) rfl dX8_fittingBehind_61 ?_
              refine lv_iload_n hx hb dX8_fittingBehind_64 rfl (lv_at hl 3 rfl) ?_
              refine ldI hx hb hE hP 41 rfl (vp_in_iff.mpr ⟨by omega, by omega⟩) rfl rfl dX8_fittingBehind_65 ?_
              refine lv_topi (fun t9 et9 => ?_)
              exact ret t9 (v6, f8) _ _ _ _ _ _ rfl ⟨hM_v6, hA_f8, hIv6, (show v6 0 = v 0 from hq0_v6), (show v6 1 = v 1 from hq1_v6), (show v6 7 = v 7 from hq7_v6), (show v6 8 = v 8 from hq8_v6), (show v6 9 = v 9 from hq9_v6), (show v6 10 = v 10 from hq10_v6), (show v6 31 = v 31 from hq31_v6), (show v6 32 = v 32 from hq32_v6)⟩ hP hD hS dX8_fittingBehind_66 (Nat.le_refl _) (Nat.le_refl _)
            · skip
              have zc7 : ¬ (30 < l3_6.toInt) := by rw [fa_lt, show (30 : Int32).toInt = 30 from by decide] at c7; exact c7
              refine lv_aload_n hx hb dX8_fittingBehind_32 rfl (lv_at hl 2 rfl) ?_
              refine lv_iload_n hx hb dX8_fittingBehind_33 rfl (lv_at hl 0 rfl) ?_
              refine lv_iload_n hx hb dX8_fittingBehind_34 rfl (lv_at hl 3 rfl) ?_
              refine cbVi (n := 2) (rest := []) hx hb hml hown hts hE hP hD hS hA (sX_X8_fitsGrown_1 l dC dI cy x0 x l3_6 p1 v6 f6 hIv6 ) k_1256 k_1258 k_39 k_112 k_1259 (by decide +kernel) ⟨Nat.le_of_ble_eq_true rfl, Nat.le_of_ble_eq_true rfl⟩ 36 8 rfl rfl (rfl) hl.1 rfl (Nat.le_of_ble_eq_true rfl) dX8_fittingBehind_35 (fun r10 u H locs hw hP hD hS => ?_)
              obtain ⟨v11, f12⟩ := u
              obtain ⟨kV_v11, kF_f12, hIv11, hk0_v11, hk1_v11, hk7_v11, hk8_v11, hk9_v11, hk10_v11, hk31_v11, hk32_v11, hw⟩ := hw
              have hM_v11 : KV [] v11 v := KV.tr kV_v11 hM_v6 rfl
              have hA_f12 : KF [13, 14, 27] f12 f := KF.tr kF_f12 hA_f6 rfl
              have hP : va_P (dC, dI) vwCl (XW cy x0 x v11 f12) H := hP
              have hD : va_D A (XW cy x0 x v11 f12) := hD
              have hq0_v11 : v11 0 = (v 0) := hk0_v11.trans hq0_v6
              have hq1_v11 : v11 1 = (v 1) := hk1_v11.trans hq1_v6
              have hq7_v11 : v11 7 = (v 7) := hk7_v11.trans hq7_v6
              have hq8_v11 : v11 8 = (v 8) := hk8_v11.trans hq8_v6
              have hq9_v11 : v11 9 = (v 9) := hk9_v11.trans hq9_v6
              have hq10_v11 : v11 10 = (v 10) := hk10_v11.trans hq10_v6
              have hq31_v11 : v11 31 = (v 31) := hk31_v11.trans hq31_v6
              have hq32_v11 : v11 32 = (v 32) := hk32_v11.trans hq32_v6
              rcases hw with ⟨g13⟩ | ⟨g13⟩
              · skip
                subst g13
                refine lv_if_eq (tgt := 47) hx hb dX8_fittingBehind_38 (by decide) (fun c0 => absurd c0 (by decide)) (fun _ => ?_)
                refine lv_iload_n hx hb dX8_fittingBehind_41 rfl (lv_at hl 1 rfl) ?_
                refine lv_iconst (v := 1) hx hb dX8_fittingBehind_42 (by decide) ?_
                refine lv_iload_n hx hb dX8_fittingBehind_43 rfl (lv_at hl 0 rfl) ?_
                refine lv_ishl hx hb dX8_fittingBehind_44 ?_
                refine lv_topi (fun t14 et14 => ?_)
                refine lv_ior hx hb dX8_fittingBehind_45 ?_
                refine lv_topi (fun t15 et15 => ?_)
                refine lv_istore_n (lv' := [(2, .int t15), (3, .int l3_6), (0, .ref (x 35)), (1, .int p1)]) hx hb dX8_fittingBehind_46 rfl hl (by decide) rfl (fun ls hl => ?_)
                obtain ⟨t16, et16⟩ : ∃ y : Int32, y = l3_6 + 1 := ⟨_, rfl⟩
                have rg17 := fb_rng l3_6
                have zt16 : t16.toInt = l3_6.toInt + 1 := by rw [et16]; exact add_i rfl (by decide) (by omega) (by omega)
                refine lv_iinc (v := t16) (lv' := [(3, .int t16), (2, .int t15), (0, .ref (x 35)), (1, .int p1)]) hx hb dX8_fittingBehind_47 hl (k := 1) rfl (by rw [et16]; rfl) (by decide) rfl (fun ls hl => ?_)
                refine lv_goto (tgt := 26) hx hb dX8_fittingBehind_50 (by decide) ?_
                have rg18 := fb_rng t16
                exact ih6 t15 t16 v11 f12 hIv11 hq0_v11 hq1_v11 hq7_v11 hq8_v11 hq9_v11 hq10_v11 hq31_v11 hq32_v11 ⟨show (0 : Int) ≤ t16.toInt by omega, show t16.toInt ≤ (2147483647 : Int) by omega⟩ hM_v11 hA_f12 (by show (2147483647 - t16.toInt).toNat < n6; omega) _ _ _ hP hD hS (lv_sub hl [0, 1, 2, 3] rfl)
              · skip
                subst g13
                refine lv_if_eq (tgt := 47) hx hb dX8_fittingBehind_38 (by decide) (fun _ => ?_) (fun c0 => absurd (by decide) c0)
                obtain ⟨t19, et19⟩ : ∃ y : Int32, y = l3_6 + 1 := ⟨_, rfl⟩
                have rg20 := fb_rng l3_6
                have zt19 : t19.toInt = l3_6.toInt + 1 := by rw [et19]; exact add_i rfl (by decide) (by omega) (by omega)
                refine lv_iinc (v := t19) (lv' := [(3, .int t19), (2, .int l2_6), (0, .ref (x 35)), (1, .int p1)]) hx hb dX8_fittingBehind_47 hl (k := 0) rfl (by rw [et19]; rfl) (by decide) rfl (fun ls hl => ?_)
                refine lv_goto (tgt := 26) hx hb dX8_fittingBehind_50 (by decide) ?_
                have rg21 := fb_rng t19
                exact ih6 l2_6 t19 v11 f12 hIv11 hq0_v11 hq1_v11 hq7_v11 hq8_v11 hq9_v11 hq10_v11 hq31_v11 hq32_v11 ⟨show (0 : Int) ≤ t19.toInt by omega, show t19.toInt ≤ (2147483647 : Int) by omega⟩ hM_v11 hA_f12 (by show (2147483647 - t19.toInt).toNat < n6; omega) _ _ _ hP hD hS (lv_sub hl [0, 1, 2, 3] rfl)
        exact lp6 _ 0 0 v f hIv rfl rfl rfl rfl rfl rfl rfl rfl ⟨by decide, by decide⟩ hM_v hA_f (Nat.lt_succ_self _) _ _ _ hP hD hS (lv_sub hl [0, 1, 2, 3] rfl)
    · skip
      have zc2 : ¬ (p1.toInt ≤ 20) := by rw [fa_le, show (20 : Int32).toInt = 20 from by decide] at c2; exact c2
      refine lv_iconst (v := 0) hx hb dX8_fittingBehind_10 (by decide) ?_
      exact ret 0 (v, f) _ _ _ _ _ _ rfl ⟨hM_v, hA_f, hIv, rfl, rfl, rfl, rfl, rfl, rfl, rfl, rfl⟩ hP hD hS dX8_fittingBehind_11 (Nat.le_refl _) (Nat.le_refl _)
set_option maxHeartbeats 4000000 in
set_option maxRecDepth 100000 in
theorem sX_X8_growthsAt_1 (l : Launch) (dC : Nat → ClassId) (dI : Nat → Nat → Nat) (cy : Nat → ClassId) (x0 : Nat) (x : Nat → Nat) (p1 : Int32) (v : Nat → Int32) (f : Nat → Nat → Int32) (hIv : XI v)  : ctI l (dC, dI) cy yX8_growthsAt cX8_growthsAt 6 .int 5 158 0 0 ((Nat → Int32) × (Nat → Nat → Int32)) [.ref (x 35), .int p1] (XW cy x0 x v f) (fun r u => KV [] u.1 v ∧ KF [13, 14, 27] u.2 f ∧ XI u.1 ∧ u.1 0 = v 0 ∧ u.1 1 = v 1 ∧ u.1 7 = v 7 ∧ u.1 8 = v 8 ∧ u.1 9 = v 9 ∧ u.1 10 = v 10 ∧ u.1 31 = v 31 ∧ u.1 32 = v 32) (fun u => XW cy x0 x u.1 u.2) := by
  refine ctI_of (by decide) (Nat.le_of_ble_eq_true rfl) (fun p e s m below meth c A ls Q hx hb hml hts hown hE hP hD hA hl ret => ?_)
  have hM_v : KV [] v v := fun _ _ => rfl
  have hA_f : KF [13, 14, 27] f f := fun _ _ => rfl
  have hown : s.vm.findClass RX8 = some m.cls := hown
  have hS : va_S A s.heap s.heap [] := va_S.rf
  have hl : lv_has ls 6 [(0, .ref (x 35)), (1, .int p1)] := hl
  refine lv_aload_n hx hb dX8_growthsAt_0 rfl (lv_at hl 0 rfl) ?_
  refine va_get (D := (dC, dI)) (ci := 8) (v := .ref (x 26)) (C := RX8) (T := TX8) (N := 7) hx hb hts inB_8 hown hE.1 hP 36 rfl rfl 0 (by decide) (hts _ k_467) (fun _ h9 => h9) rfl dX8_growthsAt_1 ?_
  refine va_getN (D := (dC, dI)) (ci := 7) (v := .int (v 31)) (C := RX7) (T := TX7) (N := 10) hx hb hts inB_7 hown hE.1 hP 27 rfl rfl 3 (by decide) (va_Nw.use rfl (hE.2 _ k_215)) (fun _ h9 => h9) rfl dX8_growthsAt_4 ?_
  have b31_v : 0 ≤ (v 31).toInt ∧ (v 31).toInt ≤ 6 := XI.b hIv 31 (by decide)
  refine lv_if_eq (tgt := 20) hx hb dX8_growthsAt_7 (by decide) (fun c1 => ?_) (fun c1 => ?_)
  · skip
    have zc1 : (v 31).toInt = 0 := by rw [fa_eq, show (0 : Int32).toInt = 0 from by decide] at c1; exact c1
    refine lv_iconst (v := 0) hx hb dX8_growthsAt_20 (by decide) ?_
    exact ret 0 (v, f) _ _ _ _ _ _ rfl ⟨hM_v, hA_f, hIv, rfl, rfl, rfl, rfl, rfl, rfl, rfl, rfl⟩ hP hD hS dX8_growthsAt_21 (Nat.le_refl _) (Nat.le_refl _)
  · skip
    have zc1 : ¬ ((v 31).toInt = 0) := by rw [fa_eq, show (0 : Int32).toInt = 0 from by decide] at c1; exact c1
    refine lv_aload_n hx hb dX8_growthsAt_10 rfl (lv_at hl 0 rfl) ?_
    refine va_get (D := (dC, dI)) (ci := 8) (v := .ref (x 26)) (C := RX8) (T := TX8) (N := 7) hx hb hts inB_8 hown hE.1 hP 36 rfl rfl 0 (by decide) (hts _ k_467) (fun _ h9 => h9) rfl dX8_growthsAt_11 ?_
    refine va_getN (D := (dC, dI)) (ci := 7) (v := .int (v 32)) (C := RX7) (T := TX7) (N := 10) hx hb hts inB_7 hown hE.1 hP 27 rfl rfl 4 (by decide) (va_Nw.use rfl (hE.2 _ k_221)) (fun _ h9 => h9) rfl dX8_growthsAt_14 ?_
    have b32_v : 0 ≤ (v 32).toInt ∧ (v 32).toInt ≤ 6 := XI.b hIv 32 (by decide)
    refine lv_if_ne (tgt := 22) hx hb dX8_growthsAt_17 (by decide) (fun c2 => ?_) (fun c2 => ?_)
    · skip
      have zc2 : ¬ ((v 32).toInt = 0) := by rw [fa_eq, show (0 : Int32).toInt = 0 from by decide] at c2; exact c2
      refine lv_ldc (v := 2147483647) hx hb hown (hts _ k_1251) dX8_growthsAt_22 ?_
      refine lv_istore_n (lv' := [(2, .int 2147483647), (0, .ref (x 35)), (1, .int p1)]) hx hb dX8_growthsAt_24 rfl hl (by decide) rfl (fun ls hl => ?_)
      refine lv_iconst (v := 0) hx hb dX8_growthsAt_25 (by decide) ?_
      refine lv_istore_n (lv' := [(3, .int 0), (2, .int 2147483647), (0, .ref (x 35)), (1, .int p1)]) hx hb dX8_growthsAt_26 rfl hl (by decide) rfl (fun ls hl => ?_)
      have lp3 : ∀ (n3 : Nat) (l2_3 : Int32) (l3_3 : Int32) (v3 : Nat → Int32) (f3 : Nat → Nat → Int32), XI v3 → v3 0 = (v 0) → v3 1 = (v 1) → v3 7 = (v 7) → v3 8 = (v 8) → v3 9 = (v 9) → v3 10 = (v 10) → v3 31 = (v 31) → v3 32 = (v 32) → ((0 : Int) ≤ l3_3.toInt ∧ l3_3.toInt ≤ 2147483647) → KV [] v3 v → KF [13, 14, 27] f3 f → (2147483647 - l3_3.toInt).toNat < n3 → ∀ (H : Heap) (locs : List Loc) (ls : Array Slot), va_P (dC, dI) vwCl (XW cy x0 x v3 f3) H → va_D A (XW cy x0 x v3 f3) → va_S A s.heap H locs → lv_has ls 6 [(3, .int l3_3), (2, .int l2_3), (0, .ref (x 35)), (1, .int p1)] → W p l e { frames := 5, cells := 0, slots := 0, locals := 158 } s m ([.ref (x 35), .int p1] : List Value).toArray below meth c H locs 0 0 Q (F0 m 27 ls []) := by
        intro n3
        induction n3 with
        | zero => intro l2_3 l3_3 v3 f3 hIv3 hq0_v3 hq1_v3 hq7_v3 hq8_v3 hq9_v3 hq10_v3 hq31_v3 hq32_v3 hr3_3 hM_v3 hA_f3 hm; exact absurd hm (Nat.not_lt_zero _)
        | succ n3 ih3 =>
          intro l2_3 l3_3 v3 f3 hIv3 hq0_v3 hq1_v3 hq7_v3 hq8_v3 hq9_v3 hq10_v3 hq31_v3 hq32_v3 hr3_3 hM_v3 hA_f3 hm3 H locs ls hP hD hS hl
          refine lv_iload_n hx hb dX8_growthsAt_27 rfl (lv_at hl 0 rfl) ?_
          refine lv_aload_n hx hb dX8_growthsAt_28 rfl (lv_at hl 2 rfl) ?_
          refine va_get (D := (dC, dI)) (ci := 8) (v := .int (v3 41)) (C := RX8) (T := TX8) (N := 7) hx hb hts inB_8 hown hE.1 hP 36 rfl rfl 5 (by decide) (hts _ k_472) (fun _ h9 => h9) rfl dX8_growthsAt_29 ?_
          have b41_v3 : 0 ≤ (v3 41).toInt ∧ (v3 41).toInt ≤ 30 := XI.b hIv3 41 (by decide)
          refine lv_icmp_ge (tgt := 122) hx hb dX8_growthsAt_32 (by decide) (fun c4 => ?_) (fun c4 => ?_)
          · skip
            have zc4 : (v3 41).toInt ≤ l3_3.toInt := by rw [fa_le] at c4; exact c4
            have rg5 := fb_rng l3_3
            have rg6 := fb_rng (v3 41)
            refine lv_iload_n hx hb dX8_growthsAt_122 rfl (lv_at hl 1 rfl) ?_
            exact ret l2_3 (v3, f3) _ _ _ _ _ _ rfl ⟨hM_v3, hA_f3, hIv3, (show v3 0 = v 0 from hq0_v3), (show v3 1 = v 1 from hq1_v3), (show v3 7 = v 7 from hq7_v3), (show v3 8 = v 8 from hq8_v3), (show v3 9 = v 9 from hq9_v3), (show v3 10 = v 10 from hq10_v3), (show v3 31 = v 31 from hq31_v3), (show v3 32 = v 32 from hq32_v3)⟩ hP hD hS dX8_growthsAt_123 (Nat.le_refl _) (Nat.le_refl _)
          · skip
            have zc4 : ¬ ((v3 41).toInt ≤ l3_3.toInt) := by rw [fa_le] at c4; exact c4
            have rg7 := fb_rng l3_3
            have rg8 := fb_rng (v3 41)
            refine lv_iload_n hx hb dX8_growthsAt_35 rfl (lv_at hl 0 rfl) ?_
            refine lv_bipush (v := 30) hx hb dX8_growthsAt_36 (by decide) ?_
            refine lv_icmp_ge (tgt := 122) hx hb dX8_growthsAt_38 (by decide) (fun c9 => ?_) (fun c9 => ?_)
            · skip
              have zc9 : 30 ≤ l3_3.toInt := by rw [fa_le, show (30 : Int32).toInt = 30 from by decide] at c9; exact c9
              refine lv_iload_n hx hb dX8_growthsAt_122 rfl (lv_at hl 1 rfl) ?_
              exact ret l2_3 (v3, f3) _ _ _ _ _ _ rfl ⟨hM_v3, hA_f3, hIv3, (show v3 0 = v 0 from hq0_v3), (show v3 1 = v 1 from hq1_v3), (show v3 7 = v 7 from hq7_v3), (show v3 8 = v 8 from hq8_v3), (show v3 9 = v 9 from hq9_v3), (show v3 10 = v 10 from hq10_v3), (show v3 31 = v 31 from hq31_v3), (show v3 32 = v 32 from hq32_v3)⟩ hP hD hS dX8_growthsAt_123 (Nat.le_refl _) (Nat.le_refl _)
            · skip
              have zc9 : ¬ (30 ≤ l3_3.toInt) := by rw [fa_le, show (30 : Int32).toInt = 30 from by decide] at c9; exact c9
              refine lv_aload_n hx hb dX8_growthsAt_41 rfl (lv_at hl 2 rfl) ?_
              refine va_get (D := (dC, dI)) (ci := 8) (v := .ref (x 39)) (C := RX8) (T := TX8) (N := 7) hx hb hts inB_8 hown hE.1 hP 36 rfl rfl 4 (by decide) (hts _ k_471) (fun _ h9 => h9) rfl dX8_growthsAt_42 ?_
              refine lv_iload_n hx hb dX8_growthsAt_45 rfl (lv_at hl 0 rfl) ?_
              refine ldI hx hb hE hP 40 rfl (vp_in_iff.mpr ⟨by omega, by omega⟩) rfl rfl dX8_growthsAt_46 ?_
              refine lv_topi (fun t10 et10 => ?_)
              refine lv_iconst (v := (-1)) hx hb dX8_growthsAt_47 (by decide) ?_
              refine lv_icmp_eq (tgt := 65) hx hb dX8_growthsAt_48 (by decide) (fun c11 => ?_) (fun c11 => ?_)
              · skip
                have zc11 : t10.toInt = (-1) := by rw [fa_eq, show ((-1) : Int32).toInt = -1 from by decide] at c11; exact c11
                refine lv_iconst (v := 0) hx hb dX8_growthsAt_65 (by decide) ?_
                refine lv_istore (lv' := [(4, .int 0), (3, .int l3_3), (2, .int l2_3), (0, .ref (x 35)), (1, .int p1)]) hx hb dX8_growthsAt_66 hl (by decide) rfl (fun ls hl => ?_)
                refine lv_aload_n hx hb dX8_growthsAt_68 rfl (lv_at hl 3 rfl) ?_
                refine va_get (D := (dC, dI)) (ci := 8) (v := .ref (x 38)) (C := RX8) (T := TX8) (N := 7) hx hb hts inB_8 hown hE.1 hP 36 rfl rfl 3 (by decide) (hts _ k_470) (fun _ h9 => h9) rfl dX8_growthsAt_69 ?_
                refine lv_iload_n hx hb dX8_growthsAt_72 rfl (lv_at hl 1 rfl) ?_
                refine ldI hx hb hE hP 39 rfl (vp_in_iff.mpr ⟨by omega, by omega⟩) rfl rfl dX8_growthsAt_73 ?_
                refine lv_topi (fun t12 et12 => ?_)
                refine lv_iload_n hx hb dX8_growthsAt_74 rfl (lv_at hl 4 rfl) ?_
                refine lv_icmp_gt (tgt := 116) hx hb dX8_growthsAt_75 (by decide) (fun c13 => ?_) (fun c13 => ?_)
                · skip
                  have zc13 : p1.toInt < t12.toInt := by rw [fa_lt] at c13; exact c13
                  have rg14 := fb_rng t12
                  have rg15 := fb_rng p1
                  obtain ⟨t16, et16⟩ : ∃ y : Int32, y = l3_3 + 1 := ⟨_, rfl⟩
                  have zt16 : t16.toInt = l3_3.toInt + 1 := by rw [et16]; exact add_i rfl (by decide) (by omega) (by omega)
                  refine lv_iinc (v := t16) (lv' := [(3, .int t16), (4, .int 0), (2, .int l2_3), (0, .ref (x 35)), (1, .int p1)]) hx hb dX8_growthsAt_116 hl (k := 1) rfl (by rw [et16]; rfl) (by decide) rfl (fun ls hl => ?_)
                  refine lv_goto (tgt := 27) hx hb dX8_growthsAt_119 (by decide) ?_
                  have rg17 := fb_rng t16
                  exact ih3 l2_3 t16 v3 f3 hIv3 hq0_v3 hq1_v3 hq7_v3 hq8_v3 hq9_v3 hq10_v3 hq31_v3 hq32_v3 ⟨show (0 : Int) ≤ t16.toInt by omega, show t16.toInt ≤ (2147483647 : Int) by omega⟩ hM_v3 hA_f3 (by show (2147483647 - t16.toInt).toNat < n3; omega) _ _ _ hP hD hS (lv_sub hl [0, 2, 3, 4] rfl)
                · skip
                  have zc13 : ¬ (p1.toInt < t12.toInt) := by rw [fa_lt] at c13; exact c13
                  have rg18 := fb_rng t12
                  have rg19 := fb_rng p1
                  refine lv_iload hx hb dX8_growthsAt_78 (lv_at hl 0 rfl) ?_
                  refine lv_if_ne (tgt := 116) hx hb dX8_growthsAt_80 (by decide) (fun c0 => absurd (by decide) c0) (fun _ => ?_)
                  refine lv_aload_n hx hb dX8_growthsAt_83 rfl (lv_at hl 3 rfl) ?_
                  refine lv_aload_n hx hb dX8_growthsAt_84 rfl (lv_at hl 3 rfl) ?_
                  refine va_get (D := (dC, dI)) (ci := 8) (v := .ref (x 36)) (C := RX8) (T := TX8) (N := 7) hx hb hts inB_8 hown hE.1 hP 36 rfl rfl 1 (by decide) (hts _ k_468) (fun _ h9 => h9) rfl dX8_growthsAt_85 ?_
                  refine lv_iload_n hx hb dX8_growthsAt_88 rfl (lv_at hl 1 rfl) ?_
                  refine ldI hx hb hE hP 37 rfl (vp_in_iff.mpr ⟨by omega, by omega⟩) rfl rfl dX8_growthsAt_89 ?_
                  refine lv_topi (fun t20 et20 => ?_)
                  refine cbVi (n := 1) (rest := []) hx hb hml hown hts hE hP hD hS hA (sX_X8_fittingBehind_1 l dC dI cy x0 x t20 v3 f3 hIv3 ) k_1252 k_1254 k_38 k_112 k_1255 (by decide +kernel) ⟨Nat.le_of_ble_eq_true rfl, Nat.le_of_ble_eq_true rfl⟩ 36 8 rfl rfl (rfl) hl.1 rfl (Nat.le_of_ble_eq_true rfl) dX8_growthsAt_90 (fun r21 u H locs hw hP hD hS => ?_)
                  obtain ⟨v22, f23⟩ := u
                  obtain ⟨kV_v22, kF_f23, hIv22, hk0_v22, hk1_v22, hk7_v22, hk8_v22, hk9_v22, hk10_v22, hk31_v22, hk32_v22⟩ := hw
                  have hM_v22 : KV [] v22 v := KV.tr kV_v22 hM_v3 rfl
                  have hA_f23 : KF [13, 14, 27] f23 f := KF.tr kF_f23 hA_f3 rfl
                  have hP : va_P (dC, dI) vwCl (XW cy x0 x v22 f23) H := hP
                  have hD : va_D A (XW cy x0 x v22 f23) := hD
                  have hq0_v22 : v22 0 = (v 0) := hk0_v22.trans hq0_v3
                  have hq1_v22 : v22 1 = (v 1) := hk1_v22.trans hq1_v3
                  have hq7_v22 : v22 7 = (v 7) := hk7_v22.trans hq7_v3
                  have hq8_v22 : v22 8 = (v 8) := hk8_v22.trans hq8_v3
                  have hq9_v22 : v22 9 = (v 9) := hk9_v22.trans hq9_v3
                  have hq10_v22 : v22 10 = (v 10) := hk10_v22.trans hq10_v3
                  have hq31_v22 : v22 31 = (v 31) := hk31_v22.trans hq31_v3
                  have hq32_v22 : v22 32 = (v 32) := hk32_v22.trans hq32_v3
                  refine lv_istore (lv' := [(5, .int r21), (4, .int 0), (3, .int l3_3), (2, .int l2_3), (0, .ref (x 35)), (1, .int p1)]) hx hb dX8_growthsAt_93 hl (by decide) rfl (fun ls hl => ?_)
                  refine lv_iload_n hx hb dX8_growthsAt_95 rfl (lv_at hl 3 rfl) ?_
                  refine lv_aload_n hx hb dX8_growthsAt_96 rfl (lv_at hl 4 rfl) ?_
                  refine va_get (D := (dC, dI)) (ci := 8) (v := .ref (x 37)) (C := RX8) (T := TX8) (N := 7) hx hb hts inB_8 hown hE.1 hP 36 rfl rfl 2 (by decide) (hts _ k_469) (fun _ h9 => h9) rfl dX8_growthsAt_97 ?_
                  refine lv_iload_n hx hb dX8_growthsAt_100 rfl (lv_at hl 2 rfl) ?_
                  refine ldZ hx hb hE hP 38 rfl (vp_in_iff.mpr ⟨by omega, by omega⟩) rfl rfl dX8_growthsAt_101 ?_
                  refine lv_topi (fun t24 et24 => ?_)
                  refine lv_if_eq (tgt := 110) hx hb dX8_growthsAt_102 (by decide) (fun c25 => ?_) (fun c25 => ?_)
                  · skip
                    have zc25 : t24.toInt = 0 := by rw [fa_eq, show (0 : Int32).toInt = 0 from by decide] at c25; exact c25
                    refine lv_iload hx hb dX8_growthsAt_110 (lv_at hl 0 rfl) ?_
                    refine lv_iconst (v := (-1)) hx hb dX8_growthsAt_112 (by decide) ?_
                    refine lv_ixor hx hb dX8_growthsAt_113 ?_
                    refine lv_topi (fun t26 et26 => ?_)
                    refine lv_iand hx hb dX8_growthsAt_114 ?_
                    refine lv_topi (fun t27 et27 => ?_)
                    refine lv_istore_n (lv' := [(2, .int t27), (5, .int r21), (4, .int 0), (3, .int l3_3), (0, .ref (x 35)), (1, .int p1)]) hx hb dX8_growthsAt_115 rfl hl (by decide) rfl (fun ls hl => ?_)
                    obtain ⟨t28, et28⟩ : ∃ y : Int32, y = l3_3 + 1 := ⟨_, rfl⟩
                    have zt28 : t28.toInt = l3_3.toInt + 1 := by rw [et28]; exact add_i rfl (by decide) (by omega) (by omega)
                    refine lv_iinc (v := t28) (lv' := [(3, .int t28), (2, .int t27), (5, .int r21), (4, .int 0), (0, .ref (x 35)), (1, .int p1)]) hx hb dX8_growthsAt_116 hl (k := 3) rfl (by rw [et28]; rfl) (by decide) rfl (fun ls hl => ?_)
                    refine lv_goto (tgt := 27) hx hb dX8_growthsAt_119 (by decide) ?_
                    have rg29 := fb_rng t28
                    exact ih3 t27 t28 v22 f23 hIv22 hq0_v22 hq1_v22 hq7_v22 hq8_v22 hq9_v22 hq10_v22 hq31_v22 hq32_v22 ⟨show (0 : Int) ≤ t28.toInt by omega, show t28.toInt ≤ (2147483647 : Int) by omega⟩ hM_v22 hA_f23 (by show (2147483647 - t28.toInt).toNat < n3; omega) _ _ _ hP hD hS (lv_sub hl [0, 1, 4, 5] rfl)
                  · skip
                    have zc25 : ¬ (t24.toInt = 0) := by rw [fa_eq, show (0 : Int32).toInt = 0 from by decide] at c25; exact c25
                    refine lv_iload hx hb dX8_growthsAt_105 (lv_at hl 0 rfl) ?_
                    refine lv_goto (tgt := 114) hx hb dX8_growthsAt_107 (by decide) ?_
                    refine lv_iand hx hb dX8_growthsAt_114 ?_
                    refine lv_topi (fun t30 et30 => ?_)
                    refine lv_istore_n (lv' := [(2, .int t30), (5, .int r21), (4, .int 0), (3, .int l3_3), (0, .ref (x 35)), (1, .int p1)]) hx hb dX8_growthsAt_115 rfl hl (by decide) rfl (fun ls hl => ?_)
                    obtain ⟨t31, et31⟩ : ∃ y : Int32, y = l3_3 + 1 := ⟨_, rfl⟩
                    have zt31 : t31.toInt = l3_3.toInt + 1 := by rw [et31]; exact add_i rfl (by decide) (by omega) (by omega)
                    refine lv_iinc (v := t31) (lv' := [(3, .int t31), (2, .int t30), (5, .int r21), (4, .int 0), (0, .ref (x 35)), (1, .int p1)]) hx hb dX8_growthsAt_116 hl (k := 3) rfl (by rw [et31]; rfl) (by decide) rfl (fun ls hl => ?_)
                    refine lv_goto (tgt := 27) hx hb dX8_growthsAt_119 (by decide) ?_
                    have rg32 := fb_rng t31
                    exact ih3 t30 t31 v22 f23 hIv22 hq0_v22 hq1_v22 hq7_v22 hq8_v22 hq9_v22 hq10_v22 hq31_v22 hq32_v22 ⟨show (0 : Int) ≤ t31.toInt by omega, show t31.toInt ≤ (2147483647 : Int) by omega⟩ hM_v22 hA_f23 (by show (2147483647 - t31.toInt).toNat < n3; omega) _ _ _ hP hD hS (lv_sub hl [0, 1, 4, 5] rfl)
              · skip
                have zc11 : ¬ (t10.toInt = (-1)) := by rw [fa_eq, show ((-1) : Int32).toInt = -1 from by decide] at c11; exact c11
                refine lv_aload_n hx hb dX8_growthsAt_51 rfl (lv_at hl 2 rfl) ?_
                refine va_get (D := (dC, dI)) (ci := 8) (v := .ref (x 39)) (C := RX8) (T := TX8) (N := 7) hx hb hts inB_8 hown hE.1 hP 36 rfl rfl 4 (by decide) (hts _ k_471) (fun _ h9 => h9) rfl dX8_growthsAt_52 ?_
                refine lv_iload_n hx hb dX8_growthsAt_55 rfl (lv_at hl 0 rfl) ?_
                refine ldI hx hb hE hP 40 rfl (vp_in_iff.mpr ⟨by omega, by omega⟩) rfl rfl dX8_growthsAt_56 ?_
                refine lv_topi (fun t33 et33 => ?_)
                refine lv_iload_n hx hb dX8_growthsAt_57 rfl (lv_at hl 3 rfl) ?_
                refine lv_icmp_gt (tgt := 65) hx hb dX8_growthsAt_58 (by decide) (fun c34 => ?_) (fun c34 => ?_)
                · skip
                  have zc34 : p1.toInt < t33.toInt := by rw [fa_lt] at c34; exact c34
                  have rg35 := fb_rng t33
                  have rg36 := fb_rng p1
                  refine lv_iconst (v := 0) hx hb dX8_growthsAt_65 (by decide) ?_
                  refine lv_istore (lv' := [(4, .int 0), (3, .int l3_3), (2, .int l2_3), (0, .ref (x 35)), (1, .int p1)]) hx hb dX8_growthsAt_66 hl (by decide) rfl (fun ls hl => ?_)
                  refine lv_aload_n hx hb dX8_growthsAt_68 rfl (lv_at hl 3 rfl) ?_
                  refine va_get (D := (dC, dI)) (ci := 8) (v := .ref (x 38)) (C := RX8) (T := TX8) (N := 7) hx hb hts inB_8 hown hE.1 hP 36 rfl rfl 3 (by decide) (hts _ k_470) (fun _ h9 => h9) rfl dX8_growthsAt_69 ?_
                  refine lv_iload_n hx hb dX8_growthsAt_72 rfl (lv_at hl 1 rfl) ?_
                  refine ldI hx hb hE hP 39 rfl (vp_in_iff.mpr ⟨by omega, by omega⟩) rfl rfl dX8_growthsAt_73 ?_
                  refine lv_topi (fun t37 et37 => ?_)
                  refine lv_iload_n hx hb dX8_growthsAt_74 rfl (lv_at hl 4 rfl) ?_
                  refine lv_icmp_gt (tgt := 116) hx hb dX8_growthsAt_75 (by decide) (fun c38 => ?_) (fun c38 => ?_)
                  · skip
                    have zc38 : p1.toInt < t37.toInt := by rw [fa_lt] at c38; exact c38
                    have rg39 := fb_rng t37
                    obtain ⟨t40, et40⟩ : ∃ y : Int32, y = l3_3 + 1 := ⟨_, rfl⟩
                    have zt40 : t40.toInt = l3_3.toInt + 1 := by rw [et40]; exact add_i rfl (by decide) (by omega) (by omega)
                    refine lv_iinc (v := t40) (lv' := [(3, .int t40), (4, .int 0), (2, .int l2_3), (0, .ref (x 35)), (1, .int p1)]) hx hb dX8_growthsAt_116 hl (k := 1) rfl (by rw [et40]; rfl) (by decide) rfl (fun ls hl => ?_)
                    refine lv_goto (tgt := 27) hx hb dX8_growthsAt_119 (by decide) ?_
                    have rg41 := fb_rng t40
                    exact ih3 l2_3 t40 v3 f3 hIv3 hq0_v3 hq1_v3 hq7_v3 hq8_v3 hq9_v3 hq10_v3 hq31_v3 hq32_v3 ⟨show (0 : Int) ≤ t40.toInt by omega, show t40.toInt ≤ (2147483647 : Int) by omega⟩ hM_v3 hA_f3 (by show (2147483647 - t40.toInt).toNat < n3; omega) _ _ _ hP hD hS (lv_sub hl [0, 2, 3, 4] rfl)
                  · skip
                    have zc38 : ¬ (p1.toInt < t37.toInt) := by rw [fa_lt] at c38; exact c38
                    have rg42 := fb_rng t37
                    refine lv_iload hx hb dX8_growthsAt_78 (lv_at hl 0 rfl) ?_
                    refine lv_if_ne (tgt := 116) hx hb dX8_growthsAt_80 (by decide) (fun c0 => absurd (by decide) c0) (fun _ => ?_)
                    refine lv_aload_n hx hb dX8_growthsAt_83 rfl (lv_at hl 3 rfl) ?_
                    refine lv_aload_n hx hb dX8_growthsAt_84 rfl (lv_at hl 3 rfl) ?_
                    refine va_get (D := (dC, dI)) (ci := 8) (v := .ref (x 36)) (C := RX8) (T := TX8) (N := 7) hx hb hts inB_8 hown hE.1 hP 36 rfl rfl 1 (by decide) (hts _ k_468) (fun _ h9 => h9) rfl dX8_growthsAt_85 ?_
                    refine lv_iload_n hx hb dX8_growthsAt_88 rfl (lv_at hl 1 rfl) ?_
                    refine ldI hx hb hE hP 37 rfl (vp_in_iff.mpr ⟨by omega, by omega⟩) rfl rfl dX8_growthsAt_89 ?_
                    refine lv_topi (fun t43 et43 => ?_)
                    refine cbVi (n := 1) (rest := []) hx hb hml hown hts hE hP hD hS hA (sX_X8_fittingBehind_1 l dC dI cy x0 x t43 v3 f3 hIv3 ) k_1252 k_1254 k_38 k_112 k_1255 (by decide +kernel) ⟨Nat.le_of_ble_eq_true rfl, Nat.le_of_ble_eq_true rfl⟩ 36 8 rfl rfl (rfl) hl.1 rfl (Nat.le_of_ble_eq_true rfl) dX8_growthsAt_90 (fun r44 u H locs hw hP hD hS => ?_)
                    obtain ⟨v45, f46⟩ := u
                    obtain ⟨kV_v45, kF_f46, hIv45, hk0_v45, hk1_v45, hk7_v45, hk8_v45, hk9_v45, hk10_v45, hk31_v45, hk32_v45⟩ := hw
                    have hM_v45 : KV [] v45 v := KV.tr kV_v45 hM_v3 rfl
                    have hA_f46 : KF [13, 14, 27] f46 f := KF.tr kF_f46 hA_f3 rfl
                    have hP : va_P (dC, dI) vwCl (XW cy x0 x v45 f46) H := hP
                    have hD : va_D A (XW cy x0 x v45 f46) := hD
                    have hq0_v45 : v45 0 = (v 0) := hk0_v45.trans hq0_v3
                    have hq1_v45 : v45 1 = (v 1) := hk1_v45.trans hq1_v3
                    have hq7_v45 : v45 7 = (v 7) := hk7_v45.trans hq7_v3
                    have hq8_v45 : v45 8 = (v 8) := hk8_v45.trans hq8_v3
                    have hq9_v45 : v45 9 = (v 9) := hk9_v45.trans hq9_v3
                    have hq10_v45 : v45 10 = (v 10) := hk10_v45.trans hq10_v3
                    have hq31_v45 : v45 31 = (v 31) := hk31_v45.trans hq31_v3
                    have hq32_v45 : v45 32 = (v 32) := hk32_v45.trans hq32_v3
                    refine lv_istore (lv' := [(5, .int r44), (4, .int 0), (3, .int l3_3), (2, .int l2_3), (0, .ref (x 35)), (1, .int p1)]) hx hb dX8_growthsAt_93 hl (by decide) rfl (fun ls hl => ?_)
                    refine lv_iload_n hx hb dX8_growthsAt_95 rfl (lv_at hl 3 rfl) ?_
                    refine lv_aload_n hx hb dX8_growthsAt_96 rfl (lv_at hl 4 rfl) ?_
                    refine va_get (D := (dC, dI)) (ci := 8) (v := .ref (x 37)) (C := RX8) (T := TX8) (N := 7) hx hb hts inB_8 hown hE.1 hP 36 rfl rfl 2 (by decide) (hts _ k_469) (fun _ h9 => h9) rfl dX8_growthsAt_97 ?_
                    refine lv_iload_n hx hb dX8_growthsAt_100 rfl (lv_at hl 2 rfl) ?_
                    refine ldZ hx hb hE hP 38 rfl (vp_in_iff.mpr ⟨by omega, by omega⟩) rfl rfl dX8_growthsAt_101 ?_
                    refine lv_topi (fun t47 et47 => ?_)
                    refine lv_if_eq (tgt := 110) hx hb dX8_growthsAt_102 (by decide) (fun c48 => ?_) (fun c48 => ?_)
                    · skip
                      have zc48 : t47.toInt = 0 := by rw [fa_eq, show (0 : Int32).toInt = 0 from by decide] at c48; exact c48
                      refine lv_iload hx hb dX8_growthsAt_110 (lv_at hl 0 rfl) ?_
                      refine lv_iconst (v := (-1)) hx hb dX8_growthsAt_112 (by decide) ?_
                      refine lv_ixor hx hb dX8_growthsAt_113 ?_
                      refine lv_topi (fun t49 et49 => ?_)
                      refine lv_iand hx hb dX8_growthsAt_114 ?_
                      refine lv_topi (fun t50 et50 => ?_)
                      refine lv_istore_n (lv' := [(2, .int t50), (5, .int r44), (4, .int 0), (3, .int l3_3), (0, .ref (x 35)), (1, .int p1)]) hx hb dX8_growthsAt_115 rfl hl (by decide) rfl (fun ls hl => ?_)
                      obtain ⟨t51, et51⟩ : ∃ y : Int32, y = l3_3 + 1 := ⟨_, rfl⟩
                      have zt51 : t51.toInt = l3_3.toInt + 1 := by rw [et51]; exact add_i rfl (by decide) (by omega) (by omega)
                      refine lv_iinc (v := t51) (lv' := [(3, .int t51), (2, .int t50), (5, .int r44), (4, .int 0), (0, .ref (x 35)), (1, .int p1)]) hx hb dX8_growthsAt_116 hl (k := 3) rfl (by rw [et51]; rfl) (by decide) rfl (fun ls hl => ?_)
                      refine lv_goto (tgt := 27) hx hb dX8_growthsAt_119 (by decide) ?_
                      have rg52 := fb_rng t51
                      exact ih3 t50 t51 v45 f46 hIv45 hq0_v45 hq1_v45 hq7_v45 hq8_v45 hq9_v45 hq10_v45 hq31_v45 hq32_v45 ⟨show (0 : Int) ≤ t51.toInt by omega, show t51.toInt ≤ (2147483647 : Int) by omega⟩ hM_v45 hA_f46 (by show (2147483647 - t51.toInt).toNat < n3; omega) _ _ _ hP hD hS (lv_sub hl [0, 1, 4, 5] rfl)
                    · skip
                      have zc48 : ¬ (t47.toInt = 0) := by rw [fa_eq, show (0 : Int32).toInt = 0 from by decide] at c48; exact c48
                      refine lv_iload hx hb dX8_growthsAt_105 (lv_at hl 0 rfl) ?_
                      refine lv_goto (tgt := 114) hx hb dX8_growthsAt_107 (by decide) ?_
                      refine lv_iand hx hb dX8_growthsAt_114 ?_
                      refine lv_topi (fun t53 et53 => ?_)
                      refine lv_istore_n (lv' := [(2, .int t53), (5, .int r44), (4, .int 0), (3, .int l3_3), (0, .ref (x 35)), (1, .int p1)]) hx hb dX8_growthsAt_115 rfl hl (by decide) rfl (fun ls hl => ?_)
                      obtain ⟨t54, et54⟩ : ∃ y : Int32, y = l3_3 + 1 := ⟨_, rfl⟩
                      have zt54 : t54.toInt = l3_3.toInt + 1 := by rw [et54]; exact add_i rfl (by decide) (by omega) (by omega)
                      refine lv_iinc (v := t54) (lv' := [(3, .int t54), (2, .int t53), (5, .int r44), (4, .int 0), (0, .ref (x 35)), (1, .int p1)]) hx hb dX8_growthsAt_116 hl (k := 3) rfl (by rw [et54]; rfl) (by decide) rfl (fun ls hl => ?_)
                      refine lv_goto (tgt := 27) hx hb dX8_growthsAt_119 (by decide) ?_
                      have rg55 := fb_rng t54
                      exact ih3 t53 t54 v45 f46 hIv45 hq0_v45 hq1_v45 hq7_v45 hq8_v45 hq9_v45 hq10_v45 hq31_v45 hq32_v45 ⟨show (0 : Int) ≤ t54.toInt by omega, show t54.toInt ≤ (2147483647 : Int) by omega⟩ hM_v45 hA_f46 (by show (2147483647 - t54.toInt).toNat < n3; omega) _ _ _ hP hD hS (lv_sub hl [0, 1, 4, 5] rfl)
                · skip
                  have zc34 : ¬ (p1.toInt < t33.toInt) := by rw [fa_lt] at c34; exact c34
                  have rg56 := fb_rng t33
                  have rg57 := fb_rng p1
                  refine lv_iconst (v := 1) hx hb dX8_growthsAt_61 (by decide) ?_
                  refine lv_goto (tgt := 66) hx hb dX8_growthsAt_62 (by decide) ?_
                  refine lv_istore (lv' := [(4, .int 1), (3, .int l3_3), (2, .int l2_3), (0, .ref (x 35)), (1, .int p1)]) hx hb dX8_growthsAt_66 hl (by decide) rfl (fun ls hl => ?_)
                  refine lv_aload_n hx hb dX8_growthsAt_68 rfl (lv_at hl 3 rfl) ?_
                  refine va_get (D := (dC, dI)) (ci := 8) (v := .ref (x 38)) (C := RX8) (T := TX8) (N := 7) hx hb hts inB_8 hown hE.1 hP 36 rfl rfl 3 (by decide) (hts _ k_470) (fun _ h9 => h9) rfl dX8_growthsAt_69 ?_
                  refine lv_iload_n hx hb dX8_growthsAt_72 rfl (lv_at hl 1 rfl) ?_
                  refine ldI hx hb hE hP 39 rfl (vp_in_iff.mpr ⟨by omega, by omega⟩) rfl rfl dX8_growthsAt_73 ?_
                  refine lv_topi (fun t58 et58 => ?_)
                  refine lv_iload_n hx hb dX8_growthsAt_74 rfl (lv_at hl 4 rfl) ?_
                  refine lv_icmp_gt (tgt := 116) hx hb dX8_growthsAt_75 (by decide) (fun c59 => ?_) (fun c59 => ?_)
                  · skip
                    have zc59 : p1.toInt < t58.toInt := by rw [fa_lt] at c59; exact c59
                    have rg60 := fb_rng t58
                    obtain ⟨t61, et61⟩ : ∃ y : Int32, y = l3_3 + 1 := ⟨_, rfl⟩
                    have zt61 : t61.toInt = l3_3.toInt + 1 := by rw [et61]; exact add_i rfl (by decide) (by omega) (by omega)
                    refine lv_iinc (v := t61) (lv' := [(3, .int t61), (4, .int 1), (2, .int l2_3), (0, .ref (x 35)), (1, .int p1)]) hx hb dX8_growthsAt_116 hl (k := 1) rfl (by rw [et61]; rfl) (by decide) rfl (fun ls hl => ?_)
                    refine lv_goto (tgt := 27) hx hb dX8_growthsAt_119 (by decide) ?_
                    have rg62 := fb_rng t61
                    exact ih3 l2_3 t61 v3 f3 hIv3 hq0_v3 hq1_v3 hq7_v3 hq8_v3 hq9_v3 hq10_v3 hq31_v3 hq32_v3 ⟨show (0 : Int) ≤ t61.toInt by omega, show t61.toInt ≤ (2147483647 : Int) by omega⟩ hM_v3 hA_f3 (by show (2147483647 - t61.toInt).toNat < n3; omega) _ _ _ hP hD hS (lv_sub hl [0, 2, 3, 4] rfl)
                  · skip
                    have zc59 : ¬ (p1.toInt < t58.toInt) := by rw [fa_lt] at c59; exact c59
                    have rg63 := fb_rng t58
                    refine lv_iload hx hb dX8_growthsAt_78 (lv_at hl 0 rfl) ?_
                    refine lv_if_ne (tgt := 116) hx hb dX8_growthsAt_80 (by decide) (fun _ => ?_) (fun c0 => absurd c0 (by decide))
                    obtain ⟨t64, et64⟩ : ∃ y : Int32, y = l3_3 + 1 := ⟨_, rfl⟩
                    have zt64 : t64.toInt = l3_3.toInt + 1 := by rw [et64]; exact add_i rfl (by decide) (by omega) (by omega)
                    refine lv_iinc (v := t64) (lv' := [(3, .int t64), (4, .int 1), (2, .int l2_3), (0, .ref (x 35)), (1, .int p1)]) hx hb dX8_growthsAt_116 hl (k := 1) rfl (by rw [et64]; rfl) (by decide) rfl (fun ls hl => ?_)
                    refine lv_goto (tgt := 27) hx hb dX8_growthsAt_119 (by decide) ?_
                    have rg65 := fb_rng t64
                    exact ih3 l2_3 t64 v3 f3 hIv3 hq0_v3 hq1_v3 hq7_v3 hq8_v3 hq9_v3 hq10_v3 hq31_v3 hq32_v3 ⟨show (0 : Int) ≤ t64.toInt by omega, show t64.toInt ≤ (2147483647 : Int) by omega⟩ hM_v3 hA_f3 (by show (2147483647 - t64.toInt).toNat < n3; omega) _ _ _ hP hD hS (lv_sub hl [0, 2, 3, 4] rfl)
      exact lp3 _ 2147483647 0 v f hIv rfl rfl rfl rfl rfl rfl rfl rfl ⟨by decide, by decide⟩ hM_v hA_f (Nat.lt_succ_self _) _ _ _ hP hD hS (lv_sub hl [0, 1, 2, 3] rfl)
    · skip
      have zc2 : (v 32).toInt = 0 := by rw [fa_eq, show (0 : Int32).toInt = 0 from by decide] at c2; exact c2
      refine lv_iconst (v := 0) hx hb dX8_growthsAt_20 (by decide) ?_
      exact ret 0 (v, f) _ _ _ _ _ _ rfl ⟨hM_v, hA_f, hIv, rfl, rfl, rfl, rfl, rfl, rfl, rfl, rfl⟩ hP hD hS dX8_growthsAt_21 (Nat.le_refl _) (Nat.le_refl _)
