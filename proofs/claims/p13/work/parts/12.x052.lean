set_option maxHeartbeats 4000000 in
set_option maxRecDepth 100000 in
theorem sX_X0_reckonGains_1 (l : Launch) (dC : Nat → ClassId) (dI : Nat → Nat → Nat) (cy : Nat → ClassId) (x0 : Nat) (x : Nat → Nat)  (v : Nat → Int32) (f : Nat → Nat → Int32) (hIv : XI v)  : ctV l (dC, dI) cy yX0_reckonGains cX0_reckonGains 4 4 133 0 0 ((Nat → Int32) × (Nat → Nat → Int32)) [.ref (x 31)] (XW cy x0 x v f) (fun u => KV [] u.1 v ∧ KF [13, 14, 22] u.2 f ∧ XI u.1 ∧ u.1 0 = v 0 ∧ u.1 1 = v 1 ∧ u.1 7 = v 7 ∧ u.1 8 = v 8 ∧ u.1 9 = v 9 ∧ u.1 10 = v 10 ∧ u.1 31 = v 31 ∧ u.1 32 = v 32) (fun u => XW cy x0 x u.1 u.2) := by
  refine ctV_of (by decide) (Nat.le_of_ble_eq_true rfl) (fun p e s m below meth c A ls Q hx hb hml hts hown hnm hE hP hD hA hl ret => ?_)
  have hM_v : KV [] v v := fun _ _ => rfl
  have hA_f : KF [13, 14, 22] f f := fun _ _ => rfl
  have hown : s.vm.findClass RX0 = some m.cls := hown
  have hS : va_S A s.heap s.heap [] := va_S.rf
  have hl : lv_has ls 4 [(0, .ref (x 31))] := hl
  refine lv_iconst (v := 0) hx hb dX0_reckonGains_0 (by decide) ?_
  refine lv_istore_n (lv' := [(1, .int 0), (0, .ref (x 31))]) hx hb dX0_reckonGains_1 rfl hl (by decide) rfl (fun ls hl => ?_)
  have lp1 : ∀ (n1 : Nat) (l1_1 : Int32) (v1 : Nat → Int32) (f1 : Nat → Nat → Int32), XI v1 → v1 0 = (v 0) → v1 1 = (v 1) → v1 7 = (v 7) → v1 8 = (v 8) → v1 9 = (v 9) → v1 10 = (v 10) → v1 31 = (v 31) → v1 32 = (v 32) → ((0 : Int) ≤ l1_1.toInt ∧ l1_1.toInt ≤ 2147483647) → KV [] v1 v → KF [13, 14, 22] f1 f → (2147483647 - l1_1.toInt).toNat < n1 → ∀ (H : Heap) (locs : List Loc) (ls : Array Slot), va_P (dC, dI) vwCl (XW cy x0 x v1 f1) H → va_D A (XW cy x0 x v1 f1) → va_S A s.heap H locs → lv_has ls 4 [(1, .int l1_1), (0, .ref (x 31))] → W p l e { frames := 4, cells := 0, slots := 0, locals := 133 } s m ([.ref (x 31)] : List Value).toArray below meth c H locs 0 0 Q (F0 m 2 ls []) := by
    intro n1
    induction n1 with
    | zero => intro l1_1 v1 f1 hIv1 hq0_v1 hq1_v1 hq7_v1 hq8_v1 hq9_v1 hq10_v1 hq31_v1 hq32_v1 hr1_1 hM_v1 hA_f1 hm; exact absurd hm (Nat.not_lt_zero _)
    | succ n1 ih1 =>
      intro l1_1 v1 f1 hIv1 hq0_v1 hq1_v1 hq7_v1 hq8_v1 hq9_v1 hq10_v1 hq31_v1 hq32_v1 hr1_1 hM_v1 hA_f1 hm1 H locs ls hP hD hS hl
      refine lv_iload_n hx hb dX0_reckonGains_2 rfl (lv_at hl 0 rfl) ?_
      refine lv_aload_n hx hb dX0_reckonGains_3 rfl (lv_at hl 1 rfl) ?_
      refine va_get (D := (dC, dI)) (ci := 0) (v := .ref (x 26)) (C := RX0) (T := TX0) (N := 8) hx hb hts inB_0 hown hE.1 hP 32 rfl rfl 0 (by decide) (hts _ k_430) (fun _ h9 => h9) rfl dX0_reckonGains_4 ?_
      refine va_getN (D := (dC, dI)) (ci := 7) (v := .int (v1 31)) (C := RX7) (T := TX7) (N := 10) hx hb hts inB_7 hown hE.1 hP 27 rfl rfl 3 (by decide) (va_Nw.use rfl (hE.2 _ k_216)) (fun _ h9 => h9) rfl dX0_reckonGains_7 ?_
      refine tI (y := (v 31)) hq31_v1 ?_
      have b31_v : 0 ≤ (v 31).toInt ∧ (v 31).toInt ≤ 6 := XI.b hIv 31 (by decide)
      refine lv_icmp_ge (tgt := 79) hx hb dX0_reckonGains_10 (by decide) (fun c2 => ?_) (fun c2 => ?_)
      · skip
        have zc2 : (v 31).toInt ≤ l1_1.toInt := by rw [fa_le] at c2; exact c2
        have rg3 := fb_rng l1_1
        have rg4 := fb_rng (v 31)
        exact ret (v1, f1) _ _ _ _ _ _ ⟨hM_v1, hA_f1, hIv1, (show v1 0 = v 0 from hq0_v1), (show v1 1 = v 1 from hq1_v1), (show v1 7 = v 7 from hq7_v1), (show v1 8 = v 8 from hq8_v1), (show v1 9 = v 9 from hq9_v1), (show v1 10 = v 10 from hq10_v1), (show v1 31 = v 31 from hq31_v1), (show v1 32 = v 32 from hq32_v1)⟩ hP hD hS dX0_reckonGains_79 (Nat.le_refl _) (Nat.le_refl _)
      · skip
        have zc2 : ¬ ((v 31).toInt ≤ l1_1.toInt) := by rw [fa_le] at c2; exact c2
        have rg5 := fb_rng l1_1
        have rg6 := fb_rng (v 31)
        refine lv_iconst (v := 0) hx hb dX0_reckonGains_13 (by decide) ?_
        refine lv_istore_n (lv' := [(2, .int 0), (1, .int l1_1), (0, .ref (x 31))]) hx hb dX0_reckonGains_14 rfl hl (by decide) rfl (fun ls hl => ?_)
        have lp7 : ∀ (n7 : Nat) (l2_7 : Int32) (v7 : Nat → Int32) (f7 : Nat → Nat → Int32), XI v7 → v7 0 = (v 0) → v7 1 = (v 1) → v7 7 = (v 7) → v7 8 = (v 8) → v7 9 = (v 9) → v7 10 = (v 10) → v7 31 = (v 31) → v7 32 = (v 32) → ((0 : Int) ≤ l2_7.toInt ∧ l2_7.toInt ≤ 2147483647) → KV [] v7 v → KF [13, 14, 22] f7 f → (2147483647 - l2_7.toInt).toNat < n7 → ∀ (H : Heap) (locs : List Loc) (ls : Array Slot), va_P (dC, dI) vwCl (XW cy x0 x v7 f7) H → va_D A (XW cy x0 x v7 f7) → va_S A s.heap H locs → lv_has ls 4 [(2, .int l2_7), (1, .int l1_1), (0, .ref (x 31))] → W p l e { frames := 4, cells := 0, slots := 0, locals := 133 } s m ([.ref (x 31)] : List Value).toArray below meth c H locs 0 0 Q (F0 m 15 ls []) := by
          intro n7
          induction n7 with
          | zero => intro l2_7 v7 f7 hIv7 hq0_v7 hq1_v7 hq7_v7 hq8_v7 hq9_v7 hq10_v7 hq31_v7 hq32_v7 hr2_7 hM_v7 hA_f7 hm; exact absurd hm (Nat.not_lt_zero _)
          | succ n7 ih7 =>
            intro l2_7 v7 f7 hIv7 hq0_v7 hq1_v7 hq7_v7 hq8_v7 hq9_v7 hq10_v7 hq31_v7 hq32_v7 hr2_7 hM_v7 hA_f7 hm7 H locs ls hP hD hS hl
            refine lv_iload_n hx hb dX0_reckonGains_15 rfl (lv_at hl 0 rfl) ?_
            refine lv_aload_n hx hb dX0_reckonGains_16 rfl (lv_at hl 2 rfl) ?_
            refine va_get (D := (dC, dI)) (ci := 0) (v := .ref (x 26)) (C := RX0) (T := TX0) (N := 8) hx hb hts inB_0 hown hE.1 hP 32 rfl rfl 0 (by decide) (hts _ k_430) (fun _ h9 => h9) rfl dX0_reckonGains_17 ?_
            refine va_getN (D := (dC, dI)) (ci := 7) (v := .int (v7 32)) (C := RX7) (T := TX7) (N := 10) hx hb hts inB_7 hown hE.1 hP 27 rfl rfl 4 (by decide) (va_Nw.use rfl (hE.2 _ k_222)) (fun _ h9 => h9) rfl dX0_reckonGains_20 ?_
            refine tI (y := (v 32)) hq32_v7 ?_
            have b32_v : 0 ≤ (v 32).toInt ∧ (v 32).toInt ≤ 6 := XI.b hIv 32 (by decide)
            refine lv_icmp_ge (tgt := 73) hx hb dX0_reckonGains_23 (by decide) (fun c8 => ?_) (fun c8 => ?_)
            · skip
              have zc8 : (v 32).toInt ≤ l2_7.toInt := by rw [fa_le] at c8; exact c8
              have rg9 := fb_rng l2_7
              have rg10 := fb_rng (v 32)
              obtain ⟨t11, et11⟩ : ∃ y : Int32, y = l1_1 + 1 := ⟨_, rfl⟩
              have zt11 : t11.toInt = l1_1.toInt + 1 := by rw [et11]; exact add_i rfl (by decide) (by omega) (by omega)
              refine lv_iinc (v := t11) (lv' := [(1, .int t11), (2, .int l2_7), (0, .ref (x 31))]) hx hb dX0_reckonGains_73 hl (k := 1) rfl (by rw [et11]; rfl) (by decide) rfl (fun ls hl => ?_)
              refine lv_goto (tgt := 2) hx hb dX0_reckonGains_76 (by decide) ?_
              have rg12 := fb_rng t11
              exact ih1 t11 v7 f7 hIv7 hq0_v7 hq1_v7 hq7_v7 hq8_v7 hq9_v7 hq10_v7 hq31_v7 hq32_v7 ⟨show (0 : Int) ≤ t11.toInt by omega, show t11.toInt ≤ (2147483647 : Int) by omega⟩ hM_v7 hA_f7 (by show (2147483647 - t11.toInt).toNat < n1; omega) _ _ _ hP hD hS (lv_sub hl [0, 2] rfl)
            · skip
              have zc8 : ¬ ((v 32).toInt ≤ l2_7.toInt) := by rw [fa_le] at c8; exact c8
              have rg13 := fb_rng l2_7
              have rg14 := fb_rng (v 32)
              refine lv_aload_n hx hb dX0_reckonGains_26 rfl (lv_at hl 2 rfl) ?_
              refine va_get (D := (dC, dI)) (ci := 0) (v := .ref (x 21)) (C := RX0) (T := TX0) (N := 8) hx hb hts inB_0 hown hE.1 hP 32 rfl rfl 1 (by decide) (hts _ k_431) (fun _ h9 => h9) rfl dX0_reckonGains_27 ?_
              refine lv_iload_n hx hb dX0_reckonGains_30 rfl (lv_at hl 1 rfl) ?_
              refine lv_iload_n hx hb dX0_reckonGains_31 rfl (lv_at hl 0 rfl) ?_
              refine cbVi (n := 2) (rest := []) hx hb hml hown hts hE hP hD hS hA (sX_X1_illness_1 0 l dC dI cy x0 x l1_1 l2_7 v7 f7 hIv7 ) k_979 k_823 k_824 k_106 k_825 (by decide +kernel) ⟨Nat.le_of_ble_eq_true rfl, Nat.le_of_ble_eq_true rfl⟩ 22 1 rfl rfl (rfl) hl.1 rfl (Nat.le_of_ble_eq_true rfl) dX0_reckonGains_32 (fun r15 u H locs hw hP hD hS => ?_)
              obtain ⟨hG16, hw⟩ := hw
              obtain ⟨v17, f18⟩ := u
              obtain ⟨kV_v17, kF_f18, hIv17, hk0_v17, hk1_v17, hk7_v17, hk8_v17, hk9_v17, hk10_v17, hk31_v17, hk32_v17⟩ := hw
              have hM_v17 : KV [] v17 v := KV.tr kV_v17 hM_v7 rfl
              have hA_f18 : KF [13, 14, 22] f18 f := KF.tr kF_f18 hA_f7 rfl
              have hP : va_P (dC, dI) vwCl (XW cy x0 x v17 f18) H := hP
              have hD : va_D A (XW cy x0 x v17 f18) := hD
              have hq0_v17 : v17 0 = (v 0) := hk0_v17.trans hq0_v7
              have hq1_v17 : v17 1 = (v 1) := hk1_v17.trans hq1_v7
              have hq7_v17 : v17 7 = (v 7) := hk7_v17.trans hq7_v7
              have hq8_v17 : v17 8 = (v 8) := hk8_v17.trans hq8_v7
              have hq9_v17 : v17 9 = (v 9) := hk9_v17.trans hq9_v7
              have hq10_v17 : v17 10 = (v 10) := hk10_v17.trans hq10_v7
              have hq31_v17 : v17 31 = (v 31) := hk31_v17.trans hq31_v7
              have hq32_v17 : v17 32 = (v 32) := hk32_v17.trans hq32_v7
              refine lv_istore_n (lv' := [(3, .int r15), (2, .int l2_7), (1, .int l1_1), (0, .ref (x 31))]) hx hb dX0_reckonGains_35 rfl hl (by decide) rfl (fun ls hl => ?_)
              refine lv_aload_n hx hb dX0_reckonGains_36 rfl (lv_at hl 3 rfl) ?_
              refine va_get (D := (dC, dI)) (ci := 0) (v := .ref (x 34)) (C := RX0) (T := TX0) (N := 8) hx hb hts inB_0 hown hE.1 hP 32 rfl rfl 5 (by decide) (hts _ k_436) (fun _ h9 => h9) rfl dX0_reckonGains_37 ?_
              refine lv_iload_n hx hb dX0_reckonGains_40 rfl (lv_at hl 2 rfl) ?_
              refine lv_bipush (v := 6) hx hb dX0_reckonGains_41 (by decide) ?_
              refine lv_imul hx hb dX0_reckonGains_43 ?_
              refine lv_topi (fun t19 et19 => ?_)
              have zt19 : t19.toInt = l1_1.toInt * 6 := by rw [et19]; exact mul_i rfl (by decide) (by omega) (by omega)
              refine lv_iload_n hx hb dX0_reckonGains_44 rfl (lv_at hl 1 rfl) ?_
              refine lv_iadd hx hb dX0_reckonGains_45 ?_
              refine lv_topi (fun t20 et20 => ?_)
              have rg21 := fb_rng t19
              have zt20 : t20.toInt = t19.toInt + l2_7.toInt := by rw [et20]; exact add_i rfl rfl (by omega) (by omega)
              refine lv_iload_n hx hb dX0_reckonGains_46 rfl (lv_at hl 0 rfl) ?_
              refine lv_aload_n hx hb dX0_reckonGains_47 rfl (lv_at hl 3 rfl) ?_
              refine va_get (D := (dC, dI)) (ci := 0) (v := .ref (x 26)) (C := RX0) (T := TX0) (N := 8) hx hb hts inB_0 hown hE.1 hP 32 rfl rfl 0 (by decide) (hts _ k_430) (fun _ h9 => h9) rfl dX0_reckonGains_48 ?_
              refine va_getN (D := (dC, dI)) (ci := 7) (v := .int (v17 33)) (C := RX7) (T := TX7) (N := 10) hx hb hts inB_7 hown hE.1 hP 27 rfl rfl 5 (by decide) (va_Nw.use rfl (hE.2 _ k_229)) (fun _ h9 => h9) rfl dX0_reckonGains_51 ?_
              refine lv_icmp_gt (tgt := 65) hx hb dX0_reckonGains_54 (by decide) (fun c22 => ?_) (fun c22 => ?_)
              · skip
                have zc22 : (v17 33).toInt < r15.toInt := by rw [fa_lt] at c22; exact c22
                have rg23 := fb_rng r15
                have rg24 := fb_rng (v17 33)
                refine lv_iconst (v := (-1)) hx hb dX0_reckonGains_65 (by decide) ?_
                refine stI hx hb hE hP hD hS 35 rfl (vp_in_iff.mpr ⟨by omega, by omega⟩) rfl dX0_reckonGains_66 (fun H locs hP hD hS => ?_)
                obtain ⟨f25, ef25, hP, hD⟩ : ∃ fz9, fz9 = upd2 f18 22 (upd (f18 22) t20.toNatClampNeg (-1)) ∧ va_P (dC, dI) vwCl (XW cy x0 x v17 fz9) H ∧ va_D A (XW cy x0 x v17 fz9) := ⟨_, rfl, hP, hD⟩
                have hA_f25 : KF [13, 14, 22] f25 f := by rw [ef25]; exact KF.up hA_f18 rfl
                obtain ⟨t26, et26⟩ : ∃ y : Int32, y = l2_7 + 1 := ⟨_, rfl⟩
                have zt26 : t26.toInt = l2_7.toInt + 1 := by rw [et26]; exact add_i rfl (by decide) (by omega) (by omega)
                refine lv_iinc (v := t26) (lv' := [(2, .int t26), (3, .int r15), (1, .int l1_1), (0, .ref (x 31))]) hx hb dX0_reckonGains_67 hl (k := 1) rfl (by rw [et26]; rfl) (by decide) rfl (fun ls hl => ?_)
                refine lv_goto (tgt := 15) hx hb dX0_reckonGains_70 (by decide) ?_
                have rg27 := fb_rng t26
                exact ih7 t26 v17 f25 hIv17 hq0_v17 hq1_v17 hq7_v17 hq8_v17 hq9_v17 hq10_v17 hq31_v17 hq32_v17 ⟨show (0 : Int) ≤ t26.toInt by omega, show t26.toInt ≤ (2147483647 : Int) by omega⟩ hM_v17 hA_f25 (by show (2147483647 - t26.toInt).toNat < n7; omega) _ _ _ hP hD hS (lv_sub hl [0, 2, 3] rfl)
              · skip
                have zc22 : ¬ ((v17 33).toInt < r15.toInt) := by rw [fa_lt] at c22; exact c22
                have rg28 := fb_rng r15
                have rg29 := fb_rng (v17 33)
                refine lv_sipush (v := 10000) hx hb dX0_reckonGains_57 (by decide) ?_
                refine lv_iload_n hx hb dX0_reckonGains_60 rfl (lv_at hl 0 rfl) ?_
                refine lv_isub hx hb dX0_reckonGains_61 ?_
                refine lv_topi (fun t30 et30 => ?_)
                refine lv_goto (tgt := 66) hx hb dX0_reckonGains_62 (by decide) ?_
                refine stI hx hb hE hP hD hS 35 rfl (vp_in_iff.mpr ⟨by omega, by omega⟩) rfl dX0_reckonGains_66 (fun H locs hP hD hS => ?_)
                obtain ⟨f31, ef31, hP, hD⟩ : ∃ fz9, fz9 = upd2 f18 22 (upd (f18 22) t20.toNatClampNeg t30) ∧ va_P (dC, dI) vwCl (XW cy x0 x v17 fz9) H ∧ va_D A (XW cy x0 x v17 fz9) := ⟨_, rfl, hP, hD⟩
                have hA_f31 : KF [13, 14, 22] f31 f := by rw [ef31]; exact KF.up hA_f18 rfl
                obtain ⟨t32, et32⟩ : ∃ y : Int32, y = l2_7 + 1 := ⟨_, rfl⟩
                have zt32 : t32.toInt = l2_7.toInt + 1 := by rw [et32]; exact add_i rfl (by decide) (by omega) (by omega)
                refine lv_iinc (v := t32) (lv' := [(2, .int t32), (3, .int r15), (1, .int l1_1), (0, .ref (x 31))]) hx hb dX0_reckonGains_67 hl (k := 1) rfl (by rw [et32]; rfl) (by decide) rfl (fun ls hl => ?_)
                refine lv_goto (tgt := 15) hx hb dX0_reckonGains_70 (by decide) ?_
                have rg33 := fb_rng t32
                exact ih7 t32 v17 f31 hIv17 hq0_v17 hq1_v17 hq7_v17 hq8_v17 hq9_v17 hq10_v17 hq31_v17 hq32_v17 ⟨show (0 : Int) ≤ t32.toInt by omega, show t32.toInt ≤ (2147483647 : Int) by omega⟩ hM_v17 hA_f31 (by show (2147483647 - t32.toInt).toNat < n7; omega) _ _ _ hP hD hS (lv_sub hl [0, 2, 3] rfl)
        exact lp7 _ 0 v1 f1 hIv1 hq0_v1 hq1_v1 hq7_v1 hq8_v1 hq9_v1 hq10_v1 hq31_v1 hq32_v1 ⟨by decide, by decide⟩ hM_v1 hA_f1 (Nat.lt_succ_self _) _ _ _ hP hD hS (lv_sub hl [0, 1, 2] rfl)
  exact lp1 _ 0 v f hIv rfl rfl rfl rfl rfl rfl rfl rfl ⟨by decide, by decide⟩ hM_v hA_f (Nat.lt_succ_self _) _ _ _ hP hD hS (lv_sub hl [0, 1] rfl)
def gsX_J7_fill_53178_2_L1 (NF : Nat) (p1 : Int32) : Nat → (Int32) → (Nat → Int32) → (Nat → Nat → Int32) → (Nat → Int32) × (Nat → Nat → Int32)
  | 0, _, _, _ => ((fun _ => 0), (fun _ _ => 0))
  | n1 + 1, l2_1, v1, f1 =>
    if 448 ≤ l2_1 then
      (v1, f1)
    else
      let f3 : Nat → Nat → Int32 := upd2 f1 21 (upd (f1 21) l2_1.toNatClampNeg p1)
      let t4 : Int32 := l2_1 + 1
      gsX_J7_fill_53178_2_L1 NF p1 n1 t4 v1 f3
def gsX_J7_fill_53178_2 (NF : Nat) (p1 : Int32) (v : Nat → Int32) (f : Nat → Nat → Int32) : (Nat → Int32) × (Nat → Nat → Int32) :=
  gsX_J7_fill_53178_2_L1 NF p1 (4294967296 + NF) 0 v f
theorem gsX_J7_fill_53178_2_q2 {NF : Nat} {p1 : Int32} {v : Nat → Int32} {f : Nat → Nat → Int32}  : gsX_J7_fill_53178_2 NF p1 v f = gsX_J7_fill_53178_2_L1 NF p1 (4294967296 + NF) 0 v f := by
  simp only [gsX_J7_fill_53178_2]
theorem gsX_J7_fill_53178_2_q0 {NF : Nat} {p1 : Int32} {n1 : Nat} {l2_1 : Int32} {v1 : Nat → Int32} {f1 : Nat → Nat → Int32} (h0 : (448 ≤ l2_1)) : gsX_J7_fill_53178_2_L1 NF p1 (n1 + 1) l2_1 v1 f1 = (v1, f1) := by
  simp only [gsX_J7_fill_53178_2_L1, if_pos h0]
theorem gsX_J7_fill_53178_2_q1 {NF : Nat} {p1 : Int32} {n1 : Nat} {l2_1 : Int32} {v1 : Nat → Int32} {f1 : Nat → Nat → Int32} {f3 : Nat → Nat → Int32} {t4 : Int32} (h0 : ¬ (448 ≤ l2_1)) (h1 : f3 = upd2 f1 21 (upd (f1 21) l2_1.toNatClampNeg p1)) (h2 : t4 = l2_1 + 1) : gsX_J7_fill_53178_2_L1 NF p1 (n1 + 1) l2_1 v1 f1 = gsX_J7_fill_53178_2_L1 NF p1 n1 t4 v1 f3 := by
  subst h1 h2
  simp only [gsX_J7_fill_53178_2_L1, if_neg h0]
set_option maxHeartbeats 4000000 in
set_option maxRecDepth 100000 in
theorem sX_J7_fill_53178_2 (NF : Nat) (l : Launch) (dC : Nat → ClassId) (dI : Nat → Nat → Nat) (cy : Nat → ClassId) (x0 : Nat) (x : Nat → Nat) (p1 : Int32) (v : Nat → Int32) (f : Nat → Nat → Int32) (hIv : XI v)  : ctV l (dC, dI) cy yJ7_fill_53178 cJ7_fill_53178 4 1 60 0 0 ((Nat → Int32) × (Nat → Nat → Int32)) [.ref (x 33), .int p1] (XW cy x0 x v f) (fun u => gsX_J7_fill_53178_2 NF p1 v f = u ∧ KV [] u.1 v ∧ KF [21] u.2 f ∧ XI u.1 ∧ u.1 0 = v 0 ∧ u.1 1 = v 1 ∧ u.1 7 = v 7 ∧ u.1 8 = v 8 ∧ u.1 9 = v 9 ∧ u.1 10 = v 10 ∧ u.1 31 = v 31 ∧ u.1 32 = v 32) (fun u => XW cy x0 x u.1 u.2) := by
  refine ctV_of (by decide) (Nat.le_of_ble_eq_true rfl) (fun p e s m below meth c A ls Q hx hb hml hts hown hnm hE hP hD hA hl ret => ?_)
  have hM_v : KV [] v v := fun _ _ => rfl
  have hA_f : KF [21] f f := fun _ _ => rfl
  have hown : s.vm.findClass RJ7 = some m.cls := hown
  have hS : va_S A s.heap s.heap [] := va_S.rf
  have hl : lv_has ls 4 [(0, .ref (x 33)), (1, .int p1)] := hl
  refine lv_iconst (v := 0) hx hb dJ7_fill_53178_0 (by decide) ?_
  refine lv_istore_n (lv' := [(2, .int 0), (0, .ref (x 33)), (1, .int p1)]) hx hb dJ7_fill_53178_1 rfl hl (by decide) rfl (fun ls hl => ?_)
  refine lv_aload_n hx hb dJ7_fill_53178_2 rfl (lv_at hl 1 rfl) ?_
  refine va_alen (v := 448) hx hb hE.1 hP 34 1 rfl rfl rfl dJ7_fill_53178_3 ?_
  refine lv_istore_n (lv' := [(3, .int 448), (2, .int 0), (0, .ref (x 33)), (1, .int p1)]) hx hb dJ7_fill_53178_4 rfl hl (by decide) rfl (fun ls hl => ?_)
  have lp1 : ∀ (n1 : Nat) (l2_1 : Int32) (v1 : Nat → Int32) (f1 : Nat → Nat → Int32), XI v1 → v1 0 = (v 0) → v1 1 = (v 1) → v1 7 = (v 7) → v1 8 = (v 8) → v1 9 = (v 9) → v1 10 = (v 10) → v1 31 = (v 31) → v1 32 = (v 32) → gsX_J7_fill_53178_2_L1 NF p1 n1 l2_1 v1 f1 = (gsX_J7_fill_53178_2 NF p1 v f) → ((0 : Int) ≤ l2_1.toInt ∧ l2_1.toInt ≤ 2147483647) → KV [] v1 v → KF [21] f1 f → (2147483647 - l2_1.toInt).toNat < n1 → ∀ (H : Heap) (locs : List Loc) (ls : Array Slot), va_P (dC, dI) vwCl (XW cy x0 x v1 f1) H → va_D A (XW cy x0 x v1 f1) → va_S A s.heap H locs → lv_has ls 4 [(3, .int 448), (2, .int l2_1), (0, .ref (x 33)), (1, .int p1)] → W p l e { frames := 1, cells := 0, slots := 0, locals := 60 } s m ([.ref (x 33), .int p1] : List Value).toArray below meth c H locs 0 0 Q (F0 m 5 ls []) := by
    intro n1
    induction n1 with
    | zero => intro l2_1 v1 f1 hIv1 hq0_v1 hq1_v1 hq7_v1 hq8_v1 hq9_v1 hq10_v1 hq31_v1 hq32_v1 hT1 hr2_1 hM_v1 hA_f1 hm; exact absurd hm (Nat.not_lt_zero _)
    | succ n1 ih1 =>
      intro l2_1 v1 f1 hIv1 hq0_v1 hq1_v1 hq7_v1 hq8_v1 hq9_v1 hq10_v1 hq31_v1 hq32_v1 hT1 hr2_1 hM_v1 hA_f1 hm1 H locs ls hP hD hS hl
      refine lv_iload_n hx hb dJ7_fill_53178_5 rfl (lv_at hl 1 rfl) ?_
      refine lv_iload_n hx hb dJ7_fill_53178_6 rfl (lv_at hl 0 rfl) ?_
      refine lv_icmp_ge (tgt := 20) hx hb dJ7_fill_53178_7 (by decide) (fun c2 => ?_) (fun c2 => ?_)
      · skip
        have zc2 : 448 ≤ l2_1.toInt := by rw [fa_le, show (448 : Int32).toInt = 448 from by decide] at c2; exact c2
        exact ret (v1, f1) _ _ _ _ _ _ ⟨(hT1.symm.trans (gsX_J7_fill_53178_2_q0 c2)), hM_v1, hA_f1, hIv1, (show v1 0 = v 0 from hq0_v1), (show v1 1 = v 1 from hq1_v1), (show v1 7 = v 7 from hq7_v1), (show v1 8 = v 8 from hq8_v1), (show v1 9 = v 9 from hq9_v1), (show v1 10 = v 10 from hq10_v1), (show v1 31 = v 31 from hq31_v1), (show v1 32 = v 32 from hq32_v1)⟩ hP hD hS dJ7_fill_53178_20 (Nat.le_refl _) (Nat.le_refl _)
      · skip
        have zc2 : ¬ (448 ≤ l2_1.toInt) := by rw [fa_le, show (448 : Int32).toInt = 448 from by decide] at c2; exact c2
        refine lv_aload_n hx hb dJ7_fill_53178_10 rfl (lv_at hl 2 rfl) ?_
        refine lv_iload_n hx hb dJ7_fill_53178_11 rfl (lv_at hl 1 rfl) ?_
        refine lv_iload_n hx hb dJ7_fill_53178_12 rfl (lv_at hl 3 rfl) ?_
        refine stI hx hb hE hP hD hS 34 rfl (vp_in_iff.mpr ⟨by omega, by omega⟩) rfl dJ7_fill_53178_13 (fun H locs hP hD hS => ?_)
        obtain ⟨f3, ef3, hP, hD⟩ : ∃ fz9, fz9 = upd2 f1 21 (upd (f1 21) l2_1.toNatClampNeg p1) ∧ va_P (dC, dI) vwCl (XW cy x0 x v1 fz9) H ∧ va_D A (XW cy x0 x v1 fz9) := ⟨_, rfl, hP, hD⟩
        have hA_f3 : KF [21] f3 f := by rw [ef3]; exact KF.up hA_f1 rfl
        obtain ⟨t4, et4⟩ : ∃ y : Int32, y = l2_1 + 1 := ⟨_, rfl⟩
        have rg5 := fb_rng l2_1
        have zt4 : t4.toInt = l2_1.toInt + 1 := by rw [et4]; exact add_i rfl (by decide) (by omega) (by omega)
        refine lv_iinc (v := t4) (lv' := [(2, .int t4), (3, .int 448), (0, .ref (x 33)), (1, .int p1)]) hx hb dJ7_fill_53178_14 hl (k := 1) rfl (by rw [et4]; rfl) (by decide) rfl (fun ls hl => ?_)
        refine lv_goto (tgt := 5) hx hb dJ7_fill_53178_17 (by decide) ?_
        have rg6 := fb_rng t4
        exact ih1 t4 v1 f3 hIv1 hq0_v1 hq1_v1 hq7_v1 hq8_v1 hq9_v1 hq10_v1 hq31_v1 hq32_v1 ((gsX_J7_fill_53178_2_q1 c2 ef3 et4).symm.trans hT1) ⟨show (0 : Int) ≤ t4.toInt by omega, show t4.toInt ≤ (2147483647 : Int) by omega⟩ hM_v1 hA_f3 (by show (2147483647 - t4.toInt).toNat < n1; omega) _ _ _ hP hD hS (lv_sub hl [1, 0, 2, 3] rfl)
  exact lp1 (4294967296 + NF) 0 v f hIv rfl rfl rfl rfl rfl rfl rfl rfl gsX_J7_fill_53178_2_q2.symm ⟨by decide, by decide⟩ hM_v hA_f (by have q3 : (448 : Int32).toInt = 448 := (by decide); have q2 : (0 : Int32).toInt = 0 := (by decide); show (2147483647 - (0 : Int32).toInt).toNat < 4294967296 + NF; omega) _ _ _ hP hD hS (lv_sub hl [0, 1, 2, 3] rfl)
set_option maxHeartbeats 4000000 in
set_option maxRecDepth 100000 in
theorem sX_X0_worthOf_1 (l : Launch) (dC : Nat → ClassId) (dI : Nat → Nat → Nat) (cy : Nat → ClassId) (x0 : Nat) (x : Nat → Nat) (p1 : Int32) (p2 : Int32) (p3 : Int32) (v : Nat → Int32) (f : Nat → Nat → Int32) (hIv : XI v) (hp1 : (0 : Int) ≤ p1.toInt ∧ p1.toInt ≤ 5) (hp2 : (0 : Int) ≤ p2.toInt ∧ p2.toInt ≤ 5) (hp3 : (0 : Int) ≤ p3.toInt ∧ p3.toInt ≤ 63) : ctI l (dC, dI) cy yX0_worthOf cX0_worthOf 5 .int 1 60 0 0 Unit [.ref (x 31), .int p1, .int p2, .int p3] (XW cy x0 x v f) (fun r u => True) (fun u => XW cy x0 x v f) := by
  refine ctI_of (by decide) (Nat.le_of_ble_eq_true rfl) (fun p e s m below meth c A ls Q hx hb hml hts hown hE hP hD hA hl ret => ?_)
  have hown : s.vm.findClass RX0 = some m.cls := hown
  have hS : va_S A s.heap s.heap [] := va_S.rf
  have hl : lv_has ls 5 [(0, .ref (x 31)), (1, .int p1), (2, .int p2), (3, .int p3)] := hl
  refine lv_aload_n hx hb dX0_worthOf_0 rfl (lv_at hl 0 rfl) ?_
  refine va_get (D := (dC, dI)) (ci := 0) (v := .ref (x 34)) (C := RX0) (T := TX0) (N := 8) hx hb hts inB_0 hown hE.1 hP 32 rfl rfl 5 (by decide) (hts _ k_436) (fun _ h9 => h9) rfl dX0_worthOf_1 ?_
  refine lv_iload_n hx hb dX0_worthOf_4 rfl (lv_at hl 1 rfl) ?_
  refine lv_bipush (v := 6) hx hb dX0_worthOf_5 (by decide) ?_
  refine lv_imul hx hb dX0_worthOf_7 ?_
  refine lv_topi (fun t1 et1 => ?_)
  have rg2 := fb_rng p1
  have zt1 : t1.toInt = p1.toInt * 6 := by rw [et1]; exact mul_i rfl (by decide) (by omega) (by omega)
  refine lv_iload_n hx hb dX0_worthOf_8 rfl (lv_at hl 2 rfl) ?_
  refine lv_iadd hx hb dX0_worthOf_9 ?_
  refine lv_topi (fun t3 et3 => ?_)
  have rg4 := fb_rng t1
  have rg5 := fb_rng p2
  have zt3 : t3.toInt = t1.toInt + p2.toInt := by rw [et3]; exact add_i rfl rfl (by omega) (by omega)
  refine ldI hx hb hE hP 35 rfl (vp_in_iff.mpr ⟨by omega, by omega⟩) rfl rfl dX0_worthOf_10 ?_
  refine lv_topi (fun t6 et6 => ?_)
  refine lv_istore (lv' := [(4, .int t6), (0, .ref (x 31)), (1, .int p1), (2, .int p2), (3, .int p3)]) hx hb dX0_worthOf_11 hl (by decide) rfl (fun ls hl => ?_)
  refine lv_iload hx hb dX0_worthOf_13 (lv_at hl 0 rfl) ?_
  refine lv_iconst (v := (-1)) hx hb dX0_worthOf_15 (by decide) ?_
  refine lv_icmp_eq (tgt := 27) hx hb dX0_worthOf_16 (by decide) (fun c7 => ?_) (fun c7 => ?_)
  · skip
    have zc7 : t6.toInt = (-1) := by rw [fa_eq, show ((-1) : Int32).toInt = -1 from by decide] at c7; exact c7
    refine lv_iconst (v := (-1)) hx hb dX0_worthOf_27 (by decide) ?_
    exact ret (-1) () _ _ _ _ _ _ rfl trivial hP hD hS dX0_worthOf_28 (Nat.le_refl _) (Nat.le_refl _)
  · skip
    have zc7 : ¬ (t6.toInt = (-1)) := by rw [fa_eq, show ((-1) : Int32).toInt = -1 from by decide] at c7; exact c7
    refine lv_iload_n hx hb dX0_worthOf_19 rfl (lv_at hl 4 rfl) ?_
    refine lv_iload_n hx hb dX0_worthOf_20 rfl (lv_at hl 3 rfl) ?_
    refine lv_ishr hx hb dX0_worthOf_21 ?_
    refine lv_topi (fun t8 et8 => ?_)
    refine lv_iconst (v := 1) hx hb dX0_worthOf_22 (by decide) ?_
    refine lv_iand hx hb dX0_worthOf_23 ?_
    refine lv_topi (fun t9 et9 => ?_)
    have zt9 : 0 ≤ t9.toInt ∧ t9.toInt < 2 := by rw [et9]; exact and_rng _ (k := 1) (by decide) (by decide)
    refine lv_if_eq (tgt := 29) hx hb dX0_worthOf_24 (by decide) (fun c10 => ?_) (fun c10 => ?_)
    · skip
      have zc10 : t9.toInt = 0 := by rw [fa_eq, show (0 : Int32).toInt = 0 from by decide] at c10; exact c10
      refine lv_iload hx hb dX0_worthOf_29 (lv_at hl 0 rfl) ?_
      refine lv_aload_n hx hb dX0_worthOf_31 rfl (lv_at hl 1 rfl) ?_
      refine va_get (D := (dC, dI)) (ci := 0) (v := .ref (x 33)) (C := RX0) (T := TX0) (N := 8) hx hb hts inB_0 hown hE.1 hP 32 rfl rfl 4 (by decide) (hts _ k_435) (fun _ h9 => h9) rfl dX0_worthOf_32 ?_
      refine lv_iload_n hx hb dX0_worthOf_35 rfl (lv_at hl 2 rfl) ?_
      refine lv_iconst (v := 1) hx hb dX0_worthOf_36 (by decide) ?_
      refine lv_iadd hx hb dX0_worthOf_37 ?_
      refine lv_topi (fun t11 et11 => ?_)
      have zt11 : t11.toInt = p1.toInt + 1 := by rw [et11]; exact add_i rfl (by decide) (by omega) (by omega)
      refine lv_bipush (v := 64) hx hb dX0_worthOf_38 (by decide) ?_
      refine lv_imul hx hb dX0_worthOf_40 ?_
      refine lv_topi (fun t12 et12 => ?_)
      have rg13 := fb_rng t11
      have zt12 : t12.toInt = t11.toInt * 64 := by rw [et12]; exact mul_i rfl (by decide) (by omega) (by omega)
      refine lv_iload_n hx hb dX0_worthOf_41 rfl (lv_at hl 4 rfl) ?_
      refine lv_iconst (v := 1) hx hb dX0_worthOf_42 (by decide) ?_
      refine lv_iload_n hx hb dX0_worthOf_43 rfl (lv_at hl 3 rfl) ?_
      refine lv_ishl hx hb dX0_worthOf_44 ?_
      refine lv_topi (fun t14 et14 => ?_)
      have zt14 : 1 ≤ t14.toInt ∧ t14.toInt ≤ 32 := by rw [et14]; exact shl1_rng (by omega) (by omega)
      refine lv_ior hx hb dX0_worthOf_45 ?_
      refine lv_topi (fun t15 et15 => ?_)
      have zt15 : 0 ≤ t15.toInt ∧ t15.toInt ≤ 63 := by rw [et15]; exact or_rng (by omega) (by omega) (by omega) (by omega)
      refine lv_iadd hx hb dX0_worthOf_46 ?_
      refine lv_topi (fun t16 et16 => ?_)
      have rg17 := fb_rng t12
      have rg18 := fb_rng t15
      have zt16 : t16.toInt = t12.toInt + t15.toInt := by rw [et16]; exact add_i rfl rfl (by omega) (by omega)
      refine ldI hx hb hE hP 34 rfl (vp_in_iff.mpr ⟨by omega, by omega⟩) rfl rfl dX0_worthOf_47 ?_
      refine lv_topi (fun t19 et19 => ?_)
      refine lv_iadd hx hb dX0_worthOf_48 ?_
      refine lv_topi (fun t20 et20 => ?_)
      exact ret t20 () _ _ _ _ _ _ rfl trivial hP hD hS dX0_worthOf_49 (Nat.le_refl _) (Nat.le_refl _)
    · skip
      have zc10 : ¬ (t9.toInt = 0) := by rw [fa_eq, show (0 : Int32).toInt = 0 from by decide] at c10; exact c10
      refine lv_iconst (v := (-1)) hx hb dX0_worthOf_27 (by decide) ?_
      exact ret (-1) () _ _ _ _ _ _ rfl trivial hP hD hS dX0_worthOf_28 (Nat.le_refl _) (Nat.le_refl _)
set_option maxHeartbeats 4000000 in
set_option maxRecDepth 100000 in
theorem sX_X0_reckonBest_1 (l : Launch) (dC : Nat → ClassId) (dI : Nat → Nat → Nat) (cy : Nat → ClassId) (x0 : Nat) (x : Nat → Nat)  (v : Nat → Int32) (f : Nat → Nat → Int32) (hIv : XI v)  : ctV l (dC, dI) cy yX0_reckonBest cX0_reckonBest 5 2 84 0 0 ((Nat → Int32) × (Nat → Nat → Int32)) [.ref (x 31)] (XW cy x0 x v f) (fun u => KV [] u.1 v ∧ KF [21] u.2 f ∧ XI u.1 ∧ u.1 0 = v 0 ∧ u.1 1 = v 1 ∧ u.1 7 = v 7 ∧ u.1 8 = v 8 ∧ u.1 9 = v 9 ∧ u.1 10 = v 10 ∧ u.1 31 = v 31 ∧ u.1 32 = v 32) (fun u => XW cy x0 x u.1 u.2) := by
  refine ctV_of (by decide) (Nat.le_of_ble_eq_true rfl) (fun p e s m below meth c A ls Q hx hb hml hts hown hnm hE hP hD hA hl ret => ?_)
  have hM_v : KV [] v v := fun _ _ => rfl
  have hA_f : KF [21] f f := fun _ _ => rfl
  have hown : s.vm.findClass RX0 = some m.cls := hown
  have hS : va_S A s.heap s.heap [] := va_S.rf
  have hl : lv_has ls 5 [(0, .ref (x 31))] := hl
  refine lv_aload_n hx hb dX0_reckonBest_0 rfl (lv_at hl 0 rfl) ?_
  refine va_get (D := (dC, dI)) (ci := 0) (v := .ref (x 33)) (C := RX0) (T := TX0) (N := 8) hx hb hts inB_0 hown hE.1 hP 32 rfl rfl 4 (by decide) (hts _ k_435) (fun _ h9 => h9) rfl dX0_reckonBest_1 ?_
  refine lv_iconst (v := 0) hx hb dX0_reckonBest_4 (by decide) ?_
  refine cbSv (n := 2) (rest := []) hx hb hml hown hts hE hP hD hS hA (sX_J7_fill_53178_2 0 l dC dI cy x0 x 0 v f hIv ) k_984 k_465 k_113 k_466 (by decide +kernel) ⟨Nat.le_of_ble_eq_true rfl, Nat.le_of_ble_eq_true rfl⟩ (rfl) hl.1 rfl (Nat.le_of_ble_eq_true rfl) dX0_reckonBest_5 (fun u H locs hw hP hD hS => ?_)
  obtain ⟨hG1, hw⟩ := hw
  obtain ⟨v2, f3⟩ := u
  obtain ⟨kV_v2, kF_f3, hIv2, hk0_v2, hk1_v2, hk7_v2, hk8_v2, hk9_v2, hk10_v2, hk31_v2, hk32_v2⟩ := hw
  have hM_v2 : KV [] v2 v := KV.tr kV_v2 hM_v rfl
  have hA_f3 : KF [21] f3 f := KF.tr kF_f3 hA_f rfl
  have hP : va_P (dC, dI) vwCl (XW cy x0 x v2 f3) H := hP
  have hD : va_D A (XW cy x0 x v2 f3) := hD
  have hq0_v2 : v2 0 = (v 0) := hk0_v2
  have hq1_v2 : v2 1 = (v 1) := hk1_v2
  have hq7_v2 : v2 7 = (v 7) := hk7_v2
  have hq8_v2 : v2 8 = (v 8) := hk8_v2
  have hq9_v2 : v2 9 = (v 9) := hk9_v2
  have hq10_v2 : v2 10 = (v 10) := hk10_v2
  have hq31_v2 : v2 31 = (v 31) := hk31_v2
  have hq32_v2 : v2 32 = (v 32) := hk32_v2
  refine lv_aload_n hx hb dX0_reckonBest_8 rfl (lv_at hl 0 rfl) ?_
  refine va_get (D := (dC, dI)) (ci := 0) (v := .ref (x 26)) (C := RX0) (T := TX0) (N := 8) hx hb hts inB_0 hown hE.1 hP 32 rfl rfl 0 (by decide) (hts _ k_430) (fun _ h9 => h9) rfl dX0_reckonBest_9 ?_
  refine va_getN (D := (dC, dI)) (ci := 7) (v := .int (v2 31)) (C := RX7) (T := TX7) (N := 10) hx hb hts inB_7 hown hE.1 hP 27 rfl rfl 3 (by decide) (va_Nw.use rfl (hE.2 _ k_216)) (fun _ h9 => h9) rfl dX0_reckonBest_12 ?_
  refine tI (y := (v 31)) hq31_v2 ?_
  have b31_v : 0 ≤ (v 31).toInt ∧ (v 31).toInt ≤ 6 := XI.b hIv 31 (by decide)
  refine lv_iconst (v := 1) hx hb dX0_reckonBest_15 (by decide) ?_
  refine lv_isub hx hb dX0_reckonBest_16 ?_
  refine lv_topi (fun t4 et4 => ?_)
  have rg5 := fb_rng (v 31)
  have zt4 : t4.toInt = (v 31).toInt - 1 := by rw [et4]; exact sub_i rfl (by decide) (by omega) (by omega)
  refine lv_istore_n (lv' := [(1, .int t4), (0, .ref (x 31))]) hx hb dX0_reckonBest_17 rfl hl (by decide) rfl (fun ls hl => ?_)
  have lp6 : ∀ (n6 : Nat) (l1_6 : Int32) (v6 : Nat → Int32) (f6 : Nat → Nat → Int32), XI v6 → v6 0 = (v 0) → v6 1 = (v 1) → v6 7 = (v 7) → v6 8 = (v 8) → v6 9 = (v 9) → v6 10 = (v 10) → v6 31 = (v 31) → v6 32 = (v 32) → ((-2147483648 : Int) ≤ l1_6.toInt ∧ l1_6.toInt ≤ 5) → KV [] v6 v → KF [21] f6 f → (l1_6.toInt + 2147483648).toNat < n6 → ∀ (H : Heap) (locs : List Loc) (ls : Array Slot), va_P (dC, dI) vwCl (XW cy x0 x v6 f6) H → va_D A (XW cy x0 x v6 f6) → va_S A s.heap H locs → lv_has ls 5 [(1, .int l1_6), (0, .ref (x 31))] → W p l e { frames := 2, cells := 0, slots := 0, locals := 84 } s m ([.ref (x 31)] : List Value).toArray below meth c H locs 0 0 Q (F0 m 18 ls []) := by
    intro n6
    induction n6 with
    | zero => intro l1_6 v6 f6 hIv6 hq0_v6 hq1_v6 hq7_v6 hq8_v6 hq9_v6 hq10_v6 hq31_v6 hq32_v6 hr1_6 hM_v6 hA_f6 hm; exact absurd hm (Nat.not_lt_zero _)
    | succ n6 ih6 =>
      intro l1_6 v6 f6 hIv6 hq0_v6 hq1_v6 hq7_v6 hq8_v6 hq9_v6 hq10_v6 hq31_v6 hq32_v6 hr1_6 hM_v6 hA_f6 hm6 H locs ls hP hD hS hl
      refine lv_iload_n hx hb dX0_reckonBest_18 rfl (lv_at hl 0 rfl) ?_
      refine lv_if_lt (tgt := 102) hx hb dX0_reckonBest_19 (by decide) (fun c7 => ?_) (fun c7 => ?_)
      · skip
        have zc7 : l1_6.toInt < 0 := by rw [fa_lt, show (0 : Int32).toInt = 0 from by decide] at c7; exact c7
        exact ret (v6, f6) _ _ _ _ _ _ ⟨hM_v6, hA_f6, hIv6, hq0_v6, hq1_v6, hq7_v6, hq8_v6, hq9_v6, hq10_v6, hq31_v6, hq32_v6⟩ hP hD hS dX0_reckonBest_102 (Nat.le_refl _) (Nat.le_refl _)
      · skip
        have zc7 : ¬ (l1_6.toInt < 0) := by rw [fa_lt, show (0 : Int32).toInt = 0 from by decide] at c7; exact c7
        refine lv_iconst (v := 0) hx hb dX0_reckonBest_22 (by decide) ?_
        refine lv_istore_n (lv' := [(2, .int 0), (1, .int l1_6), (0, .ref (x 31))]) hx hb dX0_reckonBest_23 rfl hl (by decide) rfl (fun ls hl => ?_)
        have lp8 : ∀ (n8 : Nat) (l2_8 : Int32) (v8 : Nat → Int32) (f8 : Nat → Nat → Int32), XI v8 → v8 0 = (v 0) → v8 1 = (v 1) → v8 7 = (v 7) → v8 8 = (v 8) → v8 9 = (v 9) → v8 10 = (v 10) → v8 31 = (v 31) → v8 32 = (v 32) → ((0 : Int) ≤ l2_8.toInt ∧ l2_8.toInt ≤ 2147483647) → KV [] v8 v → KF [21] f8 f → (2147483647 - l2_8.toInt).toNat < n8 → ∀ (H : Heap) (locs : List Loc) (ls : Array Slot), va_P (dC, dI) vwCl (XW cy x0 x v8 f8) H → va_D A (XW cy x0 x v8 f8) → va_S A s.heap H locs → lv_has ls 5 [(2, .int l2_8), (1, .int l1_6), (0, .ref (x 31))] → W p l e { frames := 2, cells := 0, slots := 0, locals := 84 } s m ([.ref (x 31)] : List Value).toArray below meth c H locs 0 0 Q (F0 m 24 ls []) := by
          intro n8
          induction n8 with
          | zero => intro l2_8 v8 f8 hIv8 hq0_v8 hq1_v8 hq7_v8 hq8_v8 hq9_v8 hq10_v8 hq31_v8 hq32_v8 hr2_8 hM_v8 hA_f8 hm; exact absurd hm (Nat.not_lt_zero _)
          | succ n8 ih8 =>
            intro l2_8 v8 f8 hIv8 hq0_v8 hq1_v8 hq7_v8 hq8_v8 hq9_v8 hq10_v8 hq31_v8 hq32_v8 hr2_8 hM_v8 hA_f8 hm8 H locs ls hP hD hS hl
            refine lv_iload_n hx hb dX0_reckonBest_24 rfl (lv_at hl 0 rfl) ?_
            refine lv_bipush (v := 64) hx hb dX0_reckonBest_25 (by decide) ?_
            refine lv_icmp_ge (tgt := 96) hx hb dX0_reckonBest_27 (by decide) (fun c9 => ?_) (fun c9 => ?_)
            · skip
              have zc9 : 64 ≤ l2_8.toInt := by rw [fa_le, show (64 : Int32).toInt = 64 from by decide] at c9; exact c9
              obtain ⟨t10, et10⟩ : ∃ y : Int32, y = l1_6 + (-1) := ⟨_, rfl⟩
              have rg11 := fb_rng l1_6
              have zt10 : t10.toInt = l1_6.toInt + (-1) := by rw [et10]; exact add_i rfl (by decide) (by omega) (by omega)
              refine lv_iinc (v := t10) (lv' := [(1, .int t10), (2, .int l2_8), (0, .ref (x 31))]) hx hb dX0_reckonBest_96 hl (k := 1) rfl (by rw [et10]; rfl) (by decide) rfl (fun ls hl => ?_)
              refine lv_goto (tgt := 18) hx hb dX0_reckonBest_99 (by decide) ?_
              have rg12 := fb_rng t10
              exact ih6 t10 v8 f8 hIv8 hq0_v8 hq1_v8 hq7_v8 hq8_v8 hq9_v8 hq10_v8 hq31_v8 hq32_v8 ⟨show (-2147483648 : Int) ≤ t10.toInt by omega, show t10.toInt ≤ (5 : Int) by omega⟩ hM_v8 hA_f8 (by show (t10.toInt + 2147483648).toNat < n6; omega) _ _ _ hP hD hS (lv_sub hl [0, 2] rfl)
            · skip
              have zc9 : ¬ (64 ≤ l2_8.toInt) := by rw [fa_le, show (64 : Int32).toInt = 64 from by decide] at c9; exact c9
              refine lv_aload_n hx hb dX0_reckonBest_30 rfl (lv_at hl 2 rfl) ?_
              refine va_get (D := (dC, dI)) (ci := 0) (v := .ref (x 33)) (C := RX0) (T := TX0) (N := 8) hx hb hts inB_0 hown hE.1 hP 32 rfl rfl 4 (by decide) (hts _ k_435) (fun _ h9 => h9) rfl dX0_reckonBest_31 ?_
              refine lv_iload_n hx hb dX0_reckonBest_34 rfl (lv_at hl 1 rfl) ?_
              refine lv_iconst (v := 1) hx hb dX0_reckonBest_35 (by decide) ?_
              refine lv_iadd hx hb dX0_reckonBest_36 ?_
              refine lv_topi (fun t13 et13 => ?_)
              have rg14 := fb_rng l1_6
              have zt13 : t13.toInt = l1_6.toInt + 1 := by rw [et13]; exact add_i rfl (by decide) (by omega) (by omega)
              refine lv_bipush (v := 64) hx hb dX0_reckonBest_37 (by decide) ?_
              refine lv_imul hx hb dX0_reckonBest_39 ?_
              refine lv_topi (fun t15 et15 => ?_)
              have rg16 := fb_rng t13
              have zt15 : t15.toInt = t13.toInt * 64 := by rw [et15]; exact mul_i rfl (by decide) (by omega) (by omega)
              refine lv_iload_n hx hb dX0_reckonBest_40 rfl (lv_at hl 0 rfl) ?_
              refine lv_iadd hx hb dX0_reckonBest_41 ?_
              refine lv_topi (fun t17 et17 => ?_)
              have rg18 := fb_rng t15
              have rg19 := fb_rng l2_8
              have zt17 : t17.toInt = t15.toInt + l2_8.toInt := by rw [et17]; exact add_i rfl rfl (by omega) (by omega)
              refine ldI hx hb hE hP 34 rfl (vp_in_iff.mpr ⟨by omega, by omega⟩) rfl rfl dX0_reckonBest_42 ?_
              refine lv_topi (fun t20 et20 => ?_)
              refine lv_istore_n (lv' := [(3, .int t20), (2, .int l2_8), (1, .int l1_6), (0, .ref (x 31))]) hx hb dX0_reckonBest_43 rfl hl (by decide) rfl (fun ls hl => ?_)
              refine lv_iconst (v := 0) hx hb dX0_reckonBest_44 (by decide) ?_
              refine lv_istore (lv' := [(4, .int 0), (3, .int t20), (2, .int l2_8), (1, .int l1_6), (0, .ref (x 31))]) hx hb dX0_reckonBest_45 hl (by decide) rfl (fun ls hl => ?_)
              have lp21 : ∀ (n21 : Nat) (l3_21 : Int32) (l4_21 : Int32), ((0 : Int) ≤ l4_21.toInt ∧ l4_21.toInt ≤ 2147483647) → (2147483647 - l4_21.toInt).toNat < n21 → ∀ (H : Heap) (locs : List Loc) (ls : Array Slot), va_P (dC, dI) vwCl (XW cy x0 x v8 f8) H → va_D A (XW cy x0 x v8 f8) → va_S A s.heap H locs → lv_has ls 5 [(4, .int l4_21), (3, .int l3_21), (2, .int l2_8), (1, .int l1_6), (0, .ref (x 31))] → W p l e { frames := 2, cells := 0, slots := 0, locals := 84 } s m ([.ref (x 31)] : List Value).toArray below meth c H locs 0 0 Q (F0 m 47 ls []) := by
                intro n21
                induction n21 with
                | zero => intro l3_21 l4_21 hr4_21 hm; exact absurd hm (Nat.not_lt_zero _)
                | succ n21 ih21 =>
                  intro l3_21 l4_21 hr4_21 hm21 H locs ls hP hD hS hl
                  refine lv_iload hx hb dX0_reckonBest_47 (lv_at hl 0 rfl) ?_
                  refine lv_aload_n hx hb dX0_reckonBest_49 rfl (lv_at hl 4 rfl) ?_
                  refine va_get (D := (dC, dI)) (ci := 0) (v := .ref (x 26)) (C := RX0) (T := TX0) (N := 8) hx hb hts inB_0 hown hE.1 hP 32 rfl rfl 0 (by decide) (hts _ k_430) (fun _ h9 => h9) rfl dX0_reckonBest_50 ?_
                  refine va_getN (D := (dC, dI)) (ci := 7) (v := .int (v8 32)) (C := RX7) (T := TX7) (N := 10) hx hb hts inB_7 hown hE.1 hP 27 rfl rfl 4 (by decide) (va_Nw.use rfl (hE.2 _ k_222)) (fun _ h9 => h9) rfl dX0_reckonBest_53 ?_
                  refine tI (y := (v 32)) hq32_v8 ?_
                  have b32_v : 0 ≤ (v 32).toInt ∧ (v 32).toInt ≤ 6 := XI.b hIv 32 (by decide)
                  refine lv_icmp_ge (tgt := 78) hx hb dX0_reckonBest_56 (by decide) (fun c22 => ?_) (fun c22 => ?_)
                  · skip
                    have zc22 : (v 32).toInt ≤ l4_21.toInt := by rw [fa_le] at c22; exact c22
                    have rg23 := fb_rng l4_21
                    have rg24 := fb_rng (v 32)
                    refine lv_aload_n hx hb dX0_reckonBest_78 rfl (lv_at hl 4 rfl) ?_
                    refine va_get (D := (dC, dI)) (ci := 0) (v := .ref (x 33)) (C := RX0) (T := TX0) (N := 8) hx hb hts inB_0 hown hE.1 hP 32 rfl rfl 4 (by decide) (hts _ k_435) (fun _ h9 => h9) rfl dX0_reckonBest_79 ?_
                    refine lv_iload_n hx hb dX0_reckonBest_82 rfl (lv_at hl 3 rfl) ?_
                    refine lv_bipush (v := 64) hx hb dX0_reckonBest_83 (by decide) ?_
                    refine lv_imul hx hb dX0_reckonBest_85 ?_
                    refine lv_topi (fun t25 et25 => ?_)
                    have zt25 : t25.toInt = l1_6.toInt * 64 := by rw [et25]; exact mul_i rfl (by decide) (by omega) (by omega)
                    refine lv_iload_n hx hb dX0_reckonBest_86 rfl (lv_at hl 2 rfl) ?_
                    refine lv_iadd hx hb dX0_reckonBest_87 ?_
                    refine lv_topi (fun t26 et26 => ?_)
                    have rg27 := fb_rng t25
                    have zt26 : t26.toInt = t25.toInt + l2_8.toInt := by rw [et26]; exact add_i rfl rfl (by omega) (by omega)
                    refine lv_iload_n hx hb dX0_reckonBest_88 rfl (lv_at hl 1 rfl) ?_
                    refine stI hx hb hE hP hD hS 34 rfl (vp_in_iff.mpr ⟨by omega, by omega⟩) rfl dX0_reckonBest_89 (fun H locs hP hD hS => ?_)
                    obtain ⟨f28, ef28, hP, hD⟩ : ∃ fz9, fz9 = upd2 f8 21 (upd (f8 21) t26.toNatClampNeg l3_21) ∧ va_P (dC, dI) vwCl (XW cy x0 x v8 fz9) H ∧ va_D A (XW cy x0 x v8 fz9) := ⟨_, rfl, hP, hD⟩
                    have hA_f28 : KF [21] f28 f := by rw [ef28]; exact KF.up hA_f8 rfl
                    obtain ⟨t29, et29⟩ : ∃ y : Int32, y = l2_8 + 1 := ⟨_, rfl⟩
                    have zt29 : t29.toInt = l2_8.toInt + 1 := by rw [et29]; exact add_i rfl (by decide) (by omega) (by omega)
                    refine lv_iinc (v := t29) (lv' := [(2, .int t29), (4, .int l4_21), (3, .int l3_21), (1, .int l1_6), (0, .ref (x 31))]) hx hb dX0_reckonBest_90 hl (k := 2) rfl (by rw [et29]; rfl) (by decide) rfl (fun ls hl => ?_)
                    refine lv_goto (tgt := 24) hx hb dX0_reckonBest_93 (by decide) ?_
                    have rg30 := fb_rng t29
                    exact ih8 t29 v8 f28 hIv8 hq0_v8 hq1_v8 hq7_v8 hq8_v8 hq9_v8 hq10_v8 hq31_v8 hq32_v8 ⟨show (0 : Int) ≤ t29.toInt by omega, show t29.toInt ≤ (2147483647 : Int) by omega⟩ hM_v8 hA_f28 (by show (2147483647 - t29.toInt).toNat < n8; omega) _ _ _ hP hD hS (lv_sub hl [0, 3, 4] rfl)
                  · skip
                    have zc22 : ¬ ((v 32).toInt ≤ l4_21.toInt) := by rw [fa_le] at c22; exact c22
                    have rg31 := fb_rng l4_21
                    have rg32 := fb_rng (v 32)
                    refine lv_iload_n hx hb dX0_reckonBest_59 rfl (lv_at hl 1 rfl) ?_
                    refine lv_aload_n hx hb dX0_reckonBest_60 rfl (lv_at hl 4 rfl) ?_
                    refine lv_iload_n hx hb dX0_reckonBest_61 rfl (lv_at hl 3 rfl) ?_
                    refine lv_iload hx hb dX0_reckonBest_62 (lv_at hl 0 rfl) ?_
                    refine lv_iload_n hx hb dX0_reckonBest_64 rfl (lv_at hl 2 rfl) ?_
                    refine cbVi (n := 3) (rest := [.int l3_21]) hx hb hml hown hts hE hP hD hS hA (sX_X0_worthOf_1 l dC dI cy x0 x l1_6 l4_21 l2_8 v8 f8 hIv8 ⟨show (0 : Int) ≤ l1_6.toInt by omega, show l1_6.toInt ≤ (5 : Int) by omega⟩ ⟨show (0 : Int) ≤ l4_21.toInt by omega, show l4_21.toInt ≤ (5 : Int) by omega⟩ ⟨show (0 : Int) ≤ l2_8.toInt by omega, show l2_8.toInt ≤ (63 : Int) by omega⟩) k_985 k_987 k_24 k_111 k_988 (by decide +kernel) ⟨Nat.le_of_ble_eq_true rfl, Nat.le_of_ble_eq_true rfl⟩ 32 0 rfl rfl (rfl) hl.1 rfl (Nat.le_of_ble_eq_true rfl) dX0_reckonBest_65 (fun r33 u H locs hw hP hD hS => ?_)
                    refine va_mmax hx hb (by rw [hml]; exact hl.1.symm) hown (hts _ k_989) (hts _ k_640) (hts _ k_119) (hts _ k_641) (Nat.le_of_ble_eq_true rfl) (Nat.le_of_ble_eq_true rfl) (Nat.le_of_ble_eq_true rfl) (Nat.le_of_ble_eq_true rfl) dX0_reckonBest_68 ?_
                    refine lv_topi (fun t34 et34 => ?_)
                    have zt34 : t34.toInt = max (l3_21.toInt) (r33.toInt) := by rw [et34]; exact mmax_i rfl rfl
                    refine lv_istore_n (lv' := [(3, .int t34), (4, .int l4_21), (2, .int l2_8), (1, .int l1_6), (0, .ref (x 31))]) hx hb dX0_reckonBest_71 rfl hl (by decide) rfl (fun ls hl => ?_)
                    obtain ⟨t35, et35⟩ : ∃ y : Int32, y = l4_21 + 1 := ⟨_, rfl⟩
                    have zt35 : t35.toInt = l4_21.toInt + 1 := by rw [et35]; exact add_i rfl (by decide) (by omega) (by omega)
                    refine lv_iinc (v := t35) (lv' := [(4, .int t35), (3, .int t34), (2, .int l2_8), (1, .int l1_6), (0, .ref (x 31))]) hx hb dX0_reckonBest_72 hl (k := 1) rfl (by rw [et35]; rfl) (by decide) rfl (fun ls hl => ?_)
                    refine lv_goto (tgt := 47) hx hb dX0_reckonBest_75 (by decide) ?_
                    have rg36 := fb_rng t35
                    exact ih21 t34 t35 ⟨show (0 : Int) ≤ t35.toInt by omega, show t35.toInt ≤ (2147483647 : Int) by omega⟩ (by show (2147483647 - t35.toInt).toNat < n21; omega) _ _ _ hP hD hS (lv_sub hl [0, 1, 2, 3, 4] rfl)
              exact lp21 _ t20 0 ⟨by decide, by decide⟩ (Nat.lt_succ_self _) _ _ _ hP hD hS (lv_sub hl [0, 1, 2, 3, 4] rfl)
        exact lp8 _ 0 v6 f6 hIv6 hq0_v6 hq1_v6 hq7_v6 hq8_v6 hq9_v6 hq10_v6 hq31_v6 hq32_v6 ⟨by decide, by decide⟩ hM_v6 hA_f6 (Nat.lt_succ_self _) _ _ _ hP hD hS (lv_sub hl [0, 1, 2] rfl)
  have rg37 := fb_rng t4
  exact lp6 _ t4 v2 f3 hIv2 hq0_v2 hq1_v2 hq7_v2 hq8_v2 hq9_v2 hq10_v2 hq31_v2 hq32_v2 ⟨show (-2147483648 : Int) ≤ t4.toInt by omega, show t4.toInt ≤ (5 : Int) by omega⟩ hM_v2 hA_f3 (Nat.lt_succ_self _) _ _ _ hP hD hS (lv_sub hl [0, 1] rfl)
