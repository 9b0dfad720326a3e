set_option maxHeartbeats 4000000 in
set_option maxRecDepth 100000 in
theorem sX_X9_rewind_1 (NF : Nat) (l : Launch) (dC : Nat → ClassId) (dI : Nat → Nat → Nat) (cy : Nat → ClassId) (x0 : Nat) (x : Nat → Nat)  (v : Nat → Int32) (f : Nat → Nat → Int32) (hIv : XI v)  : ctVS l (dC, dI) cy yX9_rewind cX9_rewind 1 7 191 0 0 ((Nat → Int32) × (Nat → Nat → Int32)) [.ref (x 0)] (XW cy x0 x v f) (fun u => gsX_X9_rewind_1 NF v f = u ∧ KV [2, 3, 4, 5] u.1 v ∧ KF [] u.2 f ∧ XI u.1 ∧ u.1 0 = v 0 ∧ u.1 1 = v 1 ∧ u.1 7 = v 7 ∧ u.1 8 = v 8 ∧ u.1 9 = v 9 ∧ u.1 10 = v 10 ∧ u.1 31 = v 31 ∧ u.1 32 = v 32) (fun u => XW cy x0 x u.1 u.2) := by
  refine ctVS_of (by decide) (Nat.le_of_ble_eq_true rfl) (fun p e s m below meth c A ls Q hx hb hml hts hown hnm hE hF hT hP hD hA hl ret => ?_)
  have hM_v : KV [2, 3, 4, 5] v v := fun _ _ => rfl
  have hA_f : KF [] f f := fun _ _ => rfl
  have hown : s.vm.findClass RX9 = some m.cls := hown
  have hS : va_S A s.heap s.heap [] := va_S.rf
  have hl : lv_has ls 1 [(0, .ref (x 0))] := hl
  refine lv_aload_n hx hb dX9_rewind_0 rfl (lv_at hl 0 rfl) ?_
  refine lv_iconst (v := 0) hx hb dX9_rewind_1 (by decide) ?_
  refine va_put (D := (dC, dI)) (ci := 9) (v := .int 0) (ty := tyX9 4) (C := RX9) (T := TX9) (N := 6) hx hb hts inB_9 tyX9 tyX9_ok nmX9 hown hE.1 hP hD hS 1 rfl rfl 4 (by decide) (hts _ k_143) (fun _ h9 => h9) rfl (tyX9_ok 4 (by decide)) rfl rfl (Nat.le_of_ble_eq_true rfl) dX9_rewind_2 (fun H locs hP hD hS => ?_)
  have hP : va_P (dC, dI) vwCl (XW cy x0 x (upd v 4 0) f) H := hP
  have hD : va_D A (XW cy x0 x (upd v 4 0) f) := hD
  refine lv_aload_n hx hb dX9_rewind_5 rfl (lv_at hl 0 rfl) ?_
  refine csVv (n := 0) (rest := []) hx hb hml hown hts hE hP hD hS hA hF hT (sX_X9_advance_1 NF l dC dI cy x0 x  (upd v 4 0) f (XI.upd (j := 4) (x := 0) hIv (by decide) (by decide)) ) k_558 k_559 k_560 k_102 k_561 (by decide +kernel) ⟨Nat.le_of_ble_eq_true rfl, Nat.le_of_ble_eq_true rfl⟩ 1 9 rfl rfl (rfl) hl.1 rfl (Nat.le_of_ble_eq_true rfl) dX9_rewind_6 (fun u H locs hw hP hD hS => ?_)
  obtain ⟨hG1, hw⟩ := hw
  obtain ⟨v2, f3⟩ := u
  obtain ⟨kV_v2, kF_f3, hIv2, hk0_v2, hk1_v2, hk7_v2, hk8_v2, hk9_v2, hk10_v2, hk31_v2, hk32_v2⟩ := hw
  have hM_v2 : KV [2, 3, 4, 5] v2 v := KV.tr kV_v2 (KV.up (j := 4) (x := 0) hM_v rfl) rfl
  have hA_f3 : KF [] f3 f := KF.tr kF_f3 hA_f rfl
  have hP : va_P (dC, dI) vwCl (XW cy x0 x v2 f3) H := hP
  have hD : va_D A (XW cy x0 x v2 f3) := hD
  have hq0_v2 : v2 0 = (v 0) := hk0_v2
  have hq1_v2 : v2 1 = (v 1) := hk1_v2
  have hq7_v2 : v2 7 = (v 7) := hk7_v2
  have hq8_v2 : v2 8 = (v 8) := hk8_v2
  have hq9_v2 : v2 9 = (v 9) := hk9_v2
  have hq10_v2 : v2 10 = (v 10) := hk10_v2
  have hq31_v2 : v2 31 = (v 31) := hk31_v2
  have hq32_v2 : v2 32 = (v 32) := hk32_v2
  exact ret (v2, f3) _ _ _ _ _ _ ⟨(gsX_X9_rewind_1_q0 hG1), hM_v2, hA_f3, hIv2, hk0_v2, hk1_v2, hk7_v2, hk8_v2, hk9_v2, hk10_v2, hk31_v2, hk32_v2⟩ hP hD hS dX9_rewind_9 (Nat.le_refl _) (Nat.le_refl _)
set_option maxHeartbeats 4000000 in
set_option maxRecDepth 100000 in
theorem sX_X9_sameWord_1 (NF : Nat) (l : Launch) (dC : Nat → ClassId) (dI : Nat → Nat → Nat) (cy : Nat → ClassId) (x0 : Nat) (x : Nat → Nat) (p1 : Int32) (p2 : Int32) (v : Nat → Int32) (f : Nat → Nat → Int32) (hIv : XI v)  : ctI l (dC, dI) cy yX9_sameWord cX9_sameWord 4 .boolean 2 81 0 0 Unit [.ref (x 0), .int p1, .int p2] (XW cy x0 x v f) (fun r u => gsX_X9_sameWord_1 NF p1 p2 v f = r ∧ ((r = 1) ∨ (r = 0))) (fun u => XW cy x0 x v f) := by
  refine ctI_of (by decide) (Nat.le_of_ble_eq_true rfl) (fun p e s m below meth c A ls Q hx hb hml hts hown hE hP hD hA hl ret => ?_)
  have hown : s.vm.findClass RX9 = some m.cls := hown
  have hS : va_S A s.heap s.heap [] := va_S.rf
  have hl : lv_has ls 4 [(0, .ref (x 0)), (1, .int p1), (2, .int p2)] := hl
  refine lv_iconst (v := 0) hx hb dX9_sameWord_0 (by decide) ?_
  refine lv_istore_n (lv' := [(3, .int 0), (0, .ref (x 0)), (1, .int p1), (2, .int p2)]) hx hb dX9_sameWord_1 rfl hl (by decide) rfl (fun ls hl => ?_)
  have lp1 : ∀ (n1 : Nat) (l3_1 : Int32), gsX_X9_sameWord_1_L1 NF p1 p2 v f n1 l3_1 = (gsX_X9_sameWord_1 NF p1 p2 v f) → ((0 : Int) ≤ l3_1.toInt ∧ l3_1.toInt ≤ 2147483647) → (2147483647 - l3_1.toInt).toNat < n1 → ∀ (H : Heap) (locs : List Loc) (ls : Array Slot), va_P (dC, dI) vwCl (XW cy x0 x v f) H → va_D A (XW cy x0 x v f) → va_S A s.heap H locs → lv_has ls 4 [(3, .int l3_1), (0, .ref (x 0)), (1, .int p1), (2, .int p2)] → W p l e { frames := 2, cells := 0, slots := 0, locals := 81 } s m ([.ref (x 0), .int p1, .int p2] : List Value).toArray below meth c H locs 0 0 Q (F0 m 2 ls []) := by
    intro n1
    induction n1 with
    | zero => intro l3_1 hT1 hr3_1 hm; exact absurd hm (Nat.not_lt_zero _)
    | succ n1 ih1 =>
      intro l3_1 hT1 hr3_1 hm1 H locs ls hP hD hS hl
      refine lv_iload_n hx hb dX9_sameWord_2 rfl (lv_at hl 0 rfl) ?_
      refine lv_bipush (v := 8) hx hb dX9_sameWord_3 (by decide) ?_
      refine lv_icmp_gt (tgt := 78) hx hb dX9_sameWord_5 (by decide) (fun c2 => ?_) (fun c2 => ?_)
      · skip
        have zc2 : 8 < l3_1.toInt := by rw [fa_lt, show (8 : Int32).toInt = 8 from by decide] at c2; exact c2
        refine lv_iconst (v := 1) hx hb dX9_sameWord_78 (by decide) ?_
        exact ret 1 () _ _ _ _ _ _ rfl ⟨(hT1.symm.trans (gsX_X9_sameWord_1_q0 c2)), (Or.inl rfl)⟩ hP hD hS dX9_sameWord_79 (Nat.le_refl _) (Nat.le_refl _)
      · skip
        have zc2 : ¬ (8 < l3_1.toInt) := by rw [fa_lt, show (8 : Int32).toInt = 8 from by decide] at c2; exact c2
        refine lv_aload_n hx hb dX9_sameWord_8 rfl (lv_at hl 1 rfl) ?_
        refine lv_iload_n hx hb dX9_sameWord_9 rfl (lv_at hl 2 rfl) ?_
        refine lv_iload_n hx hb dX9_sameWord_10 rfl (lv_at hl 0 rfl) ?_
        refine lv_iadd hx hb dX9_sameWord_11 ?_
        refine lv_topi (fun t3 et3 => ?_)
        refine cbVi (n := 1) (rest := []) hx hb hml hown hts hE hP hD hS hA (sX_X9_isLetter_1 NF l dC dI cy x0 x t3 v f hIv ) k_562 k_564 k_1 k_102 k_565 (by decide +kernel) ⟨Nat.le_of_ble_eq_true rfl, Nat.le_of_ble_eq_true rfl⟩ 1 9 rfl rfl (rfl) hl.1 rfl (Nat.le_of_ble_eq_true rfl) dX9_sameWord_12 (fun r4 u H locs hw hP hD hS => ?_)
        obtain ⟨hG5, hw⟩ := hw
        rcases hw with ⟨g6, g6_0, g6_1, g6_2⟩ | ⟨g6⟩
        · skip
          subst g6
          refine lv_if_eq (tgt := 28) hx hb dX9_sameWord_15 (by decide) (fun c0 => absurd c0 (by decide)) (fun _ => ?_)
          refine lv_aload_n hx hb dX9_sameWord_18 rfl (lv_at hl 1 rfl) ?_
          refine lv_iload_n hx hb dX9_sameWord_19 rfl (lv_at hl 3 rfl) ?_
          refine lv_iload_n hx hb dX9_sameWord_20 rfl (lv_at hl 0 rfl) ?_
          refine lv_iadd hx hb dX9_sameWord_21 ?_
          refine lv_topi (fun t7 et7 => ?_)
          refine cbVi (n := 1) (rest := []) hx hb hml hown hts hE hP hD hS hA (sX_X9_isLetter_1 NF l dC dI cy x0 x t7 v f hIv ) k_562 k_564 k_1 k_102 k_565 (by decide +kernel) ⟨Nat.le_of_ble_eq_true rfl, Nat.le_of_ble_eq_true rfl⟩ 1 9 rfl rfl (rfl) hl.1 rfl (Nat.le_of_ble_eq_true rfl) dX9_sameWord_22 (fun r8 u H locs hw hP hD hS => ?_)
          obtain ⟨hG9, hw⟩ := hw
          rcases hw with ⟨g10, g10_0, g10_1, g10_2⟩ | ⟨g10⟩
          · skip
            subst g10
            refine lv_if_ne (tgt := 51) hx hb dX9_sameWord_25 (by decide) (fun _ => ?_) (fun c0 => absurd c0 (by decide))
            refine lv_aload_n hx hb dX9_sameWord_51 rfl (lv_at hl 1 rfl) ?_
            refine va_get (D := (dC, dI)) (ci := 9) (v := .ref (x 1)) (C := RX9) (T := TX9) (N := 6) hx hb hts inB_9 hown hE.1 hP 1 rfl rfl 0 (by decide) (hts _ k_136) (fun _ h9 => h9) rfl dX9_sameWord_52 ?_
            refine lv_iload_n hx hb dX9_sameWord_55 rfl (lv_at hl 2 rfl) ?_
            refine lv_iload_n hx hb dX9_sameWord_56 rfl (lv_at hl 0 rfl) ?_
            refine lv_iadd hx hb dX9_sameWord_57 ?_
            refine tI (y := t3) et3.symm ?_
            refine ldB hx hb hE hP 2 rfl (vp_in_iff.mpr ⟨by omega, by omega⟩) rfl rfl dX9_sameWord_58 ?_
            refine lv_topi (fun t11 et11 => ?_)
            refine lv_aload_n hx hb dX9_sameWord_59 rfl (lv_at hl 1 rfl) ?_
            refine va_get (D := (dC, dI)) (ci := 9) (v := .ref (x 1)) (C := RX9) (T := TX9) (N := 6) hx hb hts inB_9 hown hE.1 hP 1 rfl rfl 0 (by decide) (hts _ k_136) (fun _ h9 => h9) rfl dX9_sameWord_60 ?_
            refine lv_iload_n hx hb dX9_sameWord_63 rfl (lv_at hl 3 rfl) ?_
            refine lv_iload_n hx hb dX9_sameWord_64 rfl (lv_at hl 0 rfl) ?_
            refine lv_iadd hx hb dX9_sameWord_65 ?_
            refine tI (y := t7) et7.symm ?_
            refine ldB hx hb hE hP 2 rfl (vp_in_iff.mpr ⟨by omega, by omega⟩) rfl rfl dX9_sameWord_66 ?_
            refine lv_topi (fun t12 et12 => ?_)
            refine lv_icmp_eq (tgt := 72) hx hb dX9_sameWord_67 (by decide) (fun c13 => ?_) (fun c13 => ?_)
            · skip
              have zc13 : t11.toInt = t12.toInt := by rw [fa_eq] at c13; exact c13
              have rg14 := fb_rng t11
              have rg15 := fb_rng t12
              obtain ⟨t16, et16⟩ : ∃ y : Int32, y = l3_1 + 1 := ⟨_, rfl⟩
              have rg17 := fb_rng l3_1
              have zt16 : t16.toInt = l3_1.toInt + 1 := by rw [et16]; exact add_i rfl (by decide) (by omega) (by omega)
              refine lv_iinc (v := t16) (lv' := [(3, .int t16), (0, .ref (x 0)), (1, .int p1), (2, .int p2)]) hx hb dX9_sameWord_72 hl (k := 0) rfl (by rw [et16]; rfl) (by decide) rfl (fun ls hl => ?_)
              refine lv_goto (tgt := 2) hx hb dX9_sameWord_75 (by decide) ?_
              have rg18 := fb_rng t16
              exact ih1 t16 ((gsX_X9_sameWord_1_q1 c2 et3 hG5 et7 hG9 et11 et12 c13 et16).symm.trans hT1) ⟨show (0 : Int) ≤ t16.toInt by omega, show t16.toInt ≤ (2147483647 : Int) by omega⟩ (by show (2147483647 - t16.toInt).toNat < n1; omega) _ _ _ hP hD hS (lv_sub hl [0, 1, 2, 3] rfl)
            · skip
              have zc13 : ¬ (t11.toInt = t12.toInt) := by rw [fa_eq] at c13; exact c13
              have rg19 := fb_rng t11
              have rg20 := fb_rng t12
              refine lv_iconst (v := 0) hx hb dX9_sameWord_70 (by decide) ?_
              exact ret 0 () _ _ _ _ _ _ rfl ⟨(hT1.symm.trans (gsX_X9_sameWord_1_q2 c2 et3 hG5 et7 hG9 et11 et12 c13)), (Or.inr rfl)⟩ hP hD hS dX9_sameWord_71 (Nat.le_refl _) (Nat.le_refl _)
          · skip
            subst g10
            refine lv_if_ne (tgt := 51) hx hb dX9_sameWord_25 (by decide) (fun c0 => absurd (by decide) c0) (fun _ => ?_)
            refine lv_aload_n hx hb dX9_sameWord_28 rfl (lv_at hl 1 rfl) ?_
            refine lv_iload_n hx hb dX9_sameWord_29 rfl (lv_at hl 2 rfl) ?_
            refine lv_iload_n hx hb dX9_sameWord_30 rfl (lv_at hl 0 rfl) ?_
            refine lv_iadd hx hb dX9_sameWord_31 ?_
            refine tI (y := t3) et3.symm ?_
            refine cbVi (n := 1) (rest := []) hx hb hml hown hts hE hP hD hS hA (sX_X9_isLetter_1 NF l dC dI cy x0 x t3 v f hIv ) k_562 k_564 k_1 k_102 k_565 (by decide +kernel) ⟨Nat.le_of_ble_eq_true rfl, Nat.le_of_ble_eq_true rfl⟩ 1 9 rfl rfl (rfl) hl.1 rfl (Nat.le_of_ble_eq_true rfl) dX9_sameWord_32 (fun r21 u H locs hw hP hD hS => ?_)
            obtain ⟨hG22, hw⟩ := hw
            rcases hw with ⟨g23, g23_0, g23_1, g23_2⟩ | ⟨g23⟩
            · skip
              subst g23
              refine lv_aload_n hx hb dX9_sameWord_35 rfl (lv_at hl 1 rfl) ?_
              refine lv_iload_n hx hb dX9_sameWord_36 rfl (lv_at hl 3 rfl) ?_
              refine lv_iload_n hx hb dX9_sameWord_37 rfl (lv_at hl 0 rfl) ?_
              refine lv_iadd hx hb dX9_sameWord_38 ?_
              refine tI (y := t7) et7.symm ?_
              refine cbVi (n := 1) (rest := [.int 1]) hx hb hml hown hts hE hP hD hS hA (sX_X9_isLetter_1 NF l dC dI cy x0 x t7 v f hIv ) k_562 k_564 k_1 k_102 k_565 (by decide +kernel) ⟨Nat.le_of_ble_eq_true rfl, Nat.le_of_ble_eq_true rfl⟩ 1 9 rfl rfl (rfl) hl.1 rfl (Nat.le_of_ble_eq_true rfl) dX9_sameWord_39 (fun r24 u H locs hw hP hD hS => ?_)
              obtain ⟨hG25, hw⟩ := hw
              rcases hw with ⟨g26, g26_0, g26_1, g26_2⟩ | ⟨g26⟩
              · skip
                subst g26
                refine lv_icmp_ne (tgt := 49) hx hb dX9_sameWord_42 (by decide) (fun c0 => absurd (by decide) c0) (fun _ => ?_)
                refine lv_iconst (v := 1) hx hb dX9_sameWord_45 (by decide) ?_
                refine lv_goto (tgt := 50) hx hb dX9_sameWord_46 (by decide) ?_
                exact ret 1 () _ _ _ _ _ _ rfl ⟨(hT1.symm.trans (gsX_X9_sameWord_1_q3 c2 et3 hG5 et7 hG9 hG22 hG25)), (Or.inl rfl)⟩ hP hD hS dX9_sameWord_50 (Nat.le_refl _) (Nat.le_refl _)
              · skip
                subst g26
                refine lv_icmp_ne (tgt := 49) hx hb dX9_sameWord_42 (by decide) (fun _ => ?_) (fun c0 => absurd c0 (by decide))
                refine lv_iconst (v := 0) hx hb dX9_sameWord_49 (by decide) ?_
                exact ret 0 () _ _ _ _ _ _ rfl ⟨(hT1.symm.trans (gsX_X9_sameWord_1_q4 c2 et3 hG5 et7 hG9 hG22 hG25)), (Or.inr rfl)⟩ hP hD hS dX9_sameWord_50 (Nat.le_refl _) (Nat.le_refl _)
            · skip
              subst g23
              refine lv_aload_n hx hb dX9_sameWord_35 rfl (lv_at hl 1 rfl) ?_
              refine lv_iload_n hx hb dX9_sameWord_36 rfl (lv_at hl 3 rfl) ?_
              refine lv_iload_n hx hb dX9_sameWord_37 rfl (lv_at hl 0 rfl) ?_
              refine lv_iadd hx hb dX9_sameWord_38 ?_
              refine tI (y := t7) et7.symm ?_
              refine cbVi (n := 1) (rest := [.int 0]) hx hb hml hown hts hE hP hD hS hA (sX_X9_isLetter_1 NF l dC dI cy x0 x t7 v f hIv ) k_562 k_564 k_1 k_102 k_565 (by decide +kernel) ⟨Nat.le_of_ble_eq_true rfl, Nat.le_of_ble_eq_true rfl⟩ 1 9 rfl rfl (rfl) hl.1 rfl (Nat.le_of_ble_eq_true rfl) dX9_sameWord_39 (fun r27 u H locs hw hP hD hS => ?_)
              obtain ⟨hG28, hw⟩ := hw
              rcases hw with ⟨g29, g29_0, g29_1, g29_2⟩ | ⟨g29⟩
              · skip
                subst g29
                refine lv_icmp_ne (tgt := 49) hx hb dX9_sameWord_42 (by decide) (fun _ => ?_) (fun c0 => absurd c0 (by decide))
                refine lv_iconst (v := 0) hx hb dX9_sameWord_49 (by decide) ?_
                exact ret 0 () _ _ _ _ _ _ rfl ⟨(hT1.symm.trans (gsX_X9_sameWord_1_q5 c2 et3 hG5 et7 hG9 hG22 hG28)), (Or.inr rfl)⟩ hP hD hS dX9_sameWord_50 (Nat.le_refl _) (Nat.le_refl _)
              · skip
                subst g29
                refine lv_icmp_ne (tgt := 49) hx hb dX9_sameWord_42 (by decide) (fun c0 => absurd (by decide) c0) (fun _ => ?_)
                refine lv_iconst (v := 1) hx hb dX9_sameWord_45 (by decide) ?_
                refine lv_goto (tgt := 50) hx hb dX9_sameWord_46 (by decide) ?_
                exact ret 1 () _ _ _ _ _ _ rfl ⟨(hT1.symm.trans (gsX_X9_sameWord_1_q6 c2 et3 hG5 et7 hG9 hG22 hG28)), (Or.inl rfl)⟩ hP hD hS dX9_sameWord_50 (Nat.le_refl _) (Nat.le_refl _)
        · skip
          subst g6
          refine lv_if_eq (tgt := 28) hx hb dX9_sameWord_15 (by decide) (fun _ => ?_) (fun c0 => absurd (by decide) c0)
          refine lv_aload_n hx hb dX9_sameWord_28 rfl (lv_at hl 1 rfl) ?_
          refine lv_iload_n hx hb dX9_sameWord_29 rfl (lv_at hl 2 rfl) ?_
          refine lv_iload_n hx hb dX9_sameWord_30 rfl (lv_at hl 0 rfl) ?_
          refine lv_iadd hx hb dX9_sameWord_31 ?_
          refine tI (y := t3) et3.symm ?_
          refine cbVi (n := 1) (rest := []) hx hb hml hown hts hE hP hD hS hA (sX_X9_isLetter_1 NF l dC dI cy x0 x t3 v f hIv ) k_562 k_564 k_1 k_102 k_565 (by decide +kernel) ⟨Nat.le_of_ble_eq_true rfl, Nat.le_of_ble_eq_true rfl⟩ 1 9 rfl rfl (rfl) hl.1 rfl (Nat.le_of_ble_eq_true rfl) dX9_sameWord_32 (fun r30 u H locs hw hP hD hS => ?_)
          obtain ⟨hG31, hw⟩ := hw
          rcases hw with ⟨g32, g32_0, g32_1, g32_2⟩ | ⟨g32⟩
          · skip
            subst g32
            refine lv_aload_n hx hb dX9_sameWord_35 rfl (lv_at hl 1 rfl) ?_
            refine lv_iload_n hx hb dX9_sameWord_36 rfl (lv_at hl 3 rfl) ?_
            refine lv_iload_n hx hb dX9_sameWord_37 rfl (lv_at hl 0 rfl) ?_
            refine lv_iadd hx hb dX9_sameWord_38 ?_
            refine lv_topi (fun t33 et33 => ?_)
            refine cbVi (n := 1) (rest := [.int 1]) hx hb hml hown hts hE hP hD hS hA (sX_X9_isLetter_1 NF l dC dI cy x0 x t33 v f hIv ) k_562 k_564 k_1 k_102 k_565 (by decide +kernel) ⟨Nat.le_of_ble_eq_true rfl, Nat.le_of_ble_eq_true rfl⟩ 1 9 rfl rfl (rfl) hl.1 rfl (Nat.le_of_ble_eq_true rfl) dX9_sameWord_39 (fun r34 u H locs hw hP hD hS => ?_)
            obtain ⟨hG35, hw⟩ := hw
            rcases hw with ⟨g36, g36_0, g36_1, g36_2⟩ | ⟨g36⟩
            · skip
              subst g36
              refine lv_icmp_ne (tgt := 49) hx hb dX9_sameWord_42 (by decide) (fun c0 => absurd (by decide) c0) (fun _ => ?_)
              refine lv_iconst (v := 1) hx hb dX9_sameWord_45 (by decide) ?_
              refine lv_goto (tgt := 50) hx hb dX9_sameWord_46 (by decide) ?_
              exact ret 1 () _ _ _ _ _ _ rfl ⟨(hT1.symm.trans (gsX_X9_sameWord_1_q7 c2 et3 hG5 hG31 et33 hG35)), (Or.inl rfl)⟩ hP hD hS dX9_sameWord_50 (Nat.le_refl _) (Nat.le_refl _)
            · skip
              subst g36
              refine lv_icmp_ne (tgt := 49) hx hb dX9_sameWord_42 (by decide) (fun _ => ?_) (fun c0 => absurd c0 (by decide))
              refine lv_iconst (v := 0) hx hb dX9_sameWord_49 (by decide) ?_
              exact ret 0 () _ _ _ _ _ _ rfl ⟨(hT1.symm.trans (gsX_X9_sameWord_1_q8 c2 et3 hG5 hG31 et33 hG35)), (Or.inr rfl)⟩ hP hD hS dX9_sameWord_50 (Nat.le_refl _) (Nat.le_refl _)
          · skip
            subst g32
            refine lv_aload_n hx hb dX9_sameWord_35 rfl (lv_at hl 1 rfl) ?_
            refine lv_iload_n hx hb dX9_sameWord_36 rfl (lv_at hl 3 rfl) ?_
            refine lv_iload_n hx hb dX9_sameWord_37 rfl (lv_at hl 0 rfl) ?_
            refine lv_iadd hx hb dX9_sameWord_38 ?_
            refine lv_topi (fun t37 et37 => ?_)
            refine cbVi (n := 1) (rest := [.int 0]) hx hb hml hown hts hE hP hD hS hA (sX_X9_isLetter_1 NF l dC dI cy x0 x t37 v f hIv ) k_562 k_564 k_1 k_102 k_565 (by decide +kernel) ⟨Nat.le_of_ble_eq_true rfl, Nat.le_of_ble_eq_true rfl⟩ 1 9 rfl rfl (rfl) hl.1 rfl (Nat.le_of_ble_eq_true rfl) dX9_sameWord_39 (fun r38 u H locs hw hP hD hS => ?_)
            obtain ⟨hG39, hw⟩ := hw
            rcases hw with ⟨g40, g40_0, g40_1, g40_2⟩ | ⟨g40⟩
            · skip
              subst g40
              refine lv_icmp_ne (tgt := 49) hx hb dX9_sameWord_42 (by decide) (fun _ => ?_) (fun c0 => absurd c0 (by decide))
              refine lv_iconst (v := 0) hx hb dX9_sameWord_49 (by decide) ?_
              exact ret 0 () _ _ _ _ _ _ rfl ⟨(hT1.symm.trans (gsX_X9_sameWord_1_q9 c2 et3 hG5 hG31 et37 hG39)), (Or.inr rfl)⟩ hP hD hS dX9_sameWord_50 (Nat.le_refl _) (Nat.le_refl _)
            · skip
              subst g40
              refine lv_icmp_ne (tgt := 49) hx hb dX9_sameWord_42 (by decide) (fun c0 => absurd (by decide) c0) (fun _ => ?_)
              refine lv_iconst (v := 1) hx hb dX9_sameWord_45 (by decide) ?_
              refine lv_goto (tgt := 50) hx hb dX9_sameWord_46 (by decide) ?_
              exact ret 1 () _ _ _ _ _ _ rfl ⟨(hT1.symm.trans (gsX_X9_sameWord_1_q10 c2 et3 hG5 hG31 et37 hG39)), (Or.inl rfl)⟩ hP hD hS dX9_sameWord_50 (Nat.le_refl _) (Nat.le_refl _)
  exact lp1 (4294967296 + NF) 0 gsX_X9_sameWord_1_q11.symm ⟨by decide, by decide⟩ (by have q3 : (0 : Int32).toInt = 0 := (by decide); show (2147483647 - (0 : Int32).toInt).toNat < 4294967296 + NF; omega) _ _ _ hP hD hS (lv_sub hl [0, 1, 2, 3] rfl)
set_option maxHeartbeats 4000000 in
set_option maxRecDepth 100000 in
theorem sX_X6_refuseAs_1 (NF : Nat) (l : Launch) (dC : Nat → ClassId) (dI : Nat → Nat → Nat) (cy : Nat → ClassId) (x0 : Nat) (x : Nat → Nat) (p1 : Int32) (v : Nat → Int32) (f : Nat → Nat → Int32) (hIv : XI v)  : ctI l (dC, dI) cy yX6_refuseAs cX6_refuseAs 2 .boolean 1 60 0 0 ((Nat → Int32) × (Nat → Nat → Int32)) [.ref (x 2), .int p1] (XW cy x0 x v f) (fun r u => gsX_X6_refuseAs_1 NF p1 v f = (r, u) ∧ KV [7, 8] u.1 v ∧ KF [] u.2 f ∧ XI u.1 ∧ u.1 0 = v 0 ∧ u.1 1 = v 1 ∧ u.1 9 = v 9 ∧ u.1 10 = v 10 ∧ u.1 31 = v 31 ∧ u.1 32 = v 32 ∧ ((r = 1) ∨ (r = 0))) (fun u => XW cy x0 x u.1 u.2) := by
  refine ctI_of (by decide) (Nat.le_of_ble_eq_true rfl) (fun p e s m below meth c A ls Q hx hb hml hts hown hE hP hD hA hl ret => ?_)
  have hM_v : KV [7, 8] v v := fun _ _ => rfl
  have hA_f : KF [] f f := fun _ _ => rfl
  have hown : s.vm.findClass RX6 = some m.cls := hown
  have hS : va_S A s.heap s.heap [] := va_S.rf
  have hl : lv_has ls 2 [(0, .ref (x 2)), (1, .int p1)] := hl
  refine lv_aload_n hx hb dX6_refuseAs_0 rfl (lv_at hl 0 rfl) ?_
  refine lv_iload_n hx hb dX6_refuseAs_1 rfl (lv_at hl 1 rfl) ?_
  refine va_put (D := (dC, dI)) (ci := 6) (v := .int p1) (ty := tyX6 5) (C := RX6) (T := TX6) (N := 7) hx hb hts inB_6 tyX6 tyX6_ok nmX6 hown hE.1 hP hD hS 3 rfl rfl 5 (by decide) (hts _ k_271) (fun _ h9 => h9) rfl (tyX6_ok 5 (by decide)) rfl rfl (Nat.le_of_ble_eq_true rfl) dX6_refuseAs_2 (fun H locs hP hD hS => ?_)
  have hP : va_P (dC, dI) vwCl (XW cy x0 x (upd v 7 p1) f) H := hP
  have hD : va_D A (XW cy x0 x (upd v 7 p1) f) := hD
  refine lv_aload_n hx hb dX6_refuseAs_5 rfl (lv_at hl 0 rfl) ?_
  refine lv_aload_n hx hb dX6_refuseAs_6 rfl (lv_at hl 0 rfl) ?_
  refine va_get (D := (dC, dI)) (ci := 6) (v := .ref (x 0)) (C := RX6) (T := TX6) (N := 7) hx hb hts inB_6 hown hE.1 hP 3 rfl rfl 0 (by decide) (hts _ k_265) (fun _ h9 => h9) rfl dX6_refuseAs_7 ?_
  refine va_getN (D := (dC, dI)) (ci := 9) (v := .int (v 3)) (C := RX9) (T := TX9) (N := 6) hx hb hts inB_9 hown hE.1 hP 1 rfl rfl 3 (by decide) (va_Nw.use rfl (hE.2 _ k_142)) (fun _ h9 => h9) rfl dX6_refuseAs_10 ?_
  have b3_v : 0 ≤ (v 3).toInt ∧ (v 3).toInt ≤ 1600 := XI.b hIv 3 (by decide)
  refine va_put (D := (dC, dI)) (ci := 6) (v := .int (v 3)) (ty := tyX6 6) (C := RX6) (T := TX6) (N := 7) hx hb hts inB_6 tyX6 tyX6_ok nmX6 hown hE.1 hP hD hS 3 rfl rfl 6 (by decide) (hts _ k_273) (fun _ h9 => h9) rfl (tyX6_ok 6 (by decide)) rfl rfl (Nat.le_of_ble_eq_true rfl) dX6_refuseAs_13 (fun H locs hP hD hS => ?_)
  have hP : va_P (dC, dI) vwCl (XW cy x0 x (upd (upd v 7 p1) 8 (v 3)) f) H := hP
  have hD : va_D A (XW cy x0 x (upd (upd v 7 p1) 8 (v 3)) f) := hD
  refine lv_iconst (v := 0) hx hb dX6_refuseAs_16 (by decide) ?_
  exact ret 0 ((upd (upd v 7 p1) 8 (v 3)), f) _ _ _ _ _ _ rfl ⟨gsX_X6_refuseAs_1_q0, (KV.up (j := 8) (x := (v 3)) (KV.up (j := 7) (x := p1) hM_v rfl) rfl), hA_f, (XI.upd (j := 8) (x := (v 3)) (XI.upd (j := 7) (x := p1) hIv (rlo _) (rhi _)) (rlo _) (rhi _)), rfl, rfl, rfl, rfl, rfl, rfl, (Or.inr rfl)⟩ hP hD hS dX6_refuseAs_17 (Nat.le_refl _) (Nat.le_refl _)
set_option maxHeartbeats 4000000 in
set_option maxRecDepth 100000 in
theorem sX_X6_refuse_1 (NF : Nat) (l : Launch) (dC : Nat → ClassId) (dI : Nat → Nat → Nat) (cy : Nat → ClassId) (x0 : Nat) (x : Nat → Nat)  (v : Nat → Int32) (f : Nat → Nat → Int32) (hIv : XI v)  : ctI l (dC, dI) cy yX6_refuse cX6_refuse 1 .boolean 2 81 0 0 ((Nat → Int32) × (Nat → Nat → Int32)) [.ref (x 2)] (XW cy x0 x v f) (fun r u => gsX_X6_refuse_1 NF v f = (r, u) ∧ KV [7, 8] u.1 v ∧ KF [] u.2 f ∧ XI u.1 ∧ u.1 0 = v 0 ∧ u.1 1 = v 1 ∧ u.1 9 = v 9 ∧ u.1 10 = v 10 ∧ u.1 31 = v 31 ∧ u.1 32 = v 32 ∧ ((r = 1) ∨ (r = 0))) (fun u => XW cy x0 x u.1 u.2) := by
  refine ctI_of (by decide) (Nat.le_of_ble_eq_true rfl) (fun p e s m below meth c A ls Q hx hb hml hts hown hE hP hD hA hl ret => ?_)
  have hM_v : KV [7, 8] v v := fun _ _ => rfl
  have hA_f : KF [] f f := fun _ _ => rfl
  have hown : s.vm.findClass RX6 = some m.cls := hown
  have hS : va_S A s.heap s.heap [] := va_S.rf
  have hl : lv_has ls 1 [(0, .ref (x 2))] := hl
  refine lv_aload_n hx hb dX6_refuse_0 rfl (lv_at hl 0 rfl) ?_
  refine lv_aload_n hx hb dX6_refuse_1 rfl (lv_at hl 0 rfl) ?_
  refine va_get (D := (dC, dI)) (ci := 6) (v := .ref (x 0)) (C := RX6) (T := TX6) (N := 7) hx hb hts inB_6 hown hE.1 hP 3 rfl rfl 0 (by decide) (hts _ k_265) (fun _ h9 => h9) rfl dX6_refuse_2 ?_
  refine va_getN (D := (dC, dI)) (ci := 9) (v := .int (v 2)) (C := RX9) (T := TX9) (N := 6) hx hb hts inB_9 hown hE.1 hP 1 rfl rfl 2 (by decide) (va_Nw.use rfl (hE.2 _ k_139)) (fun _ h9 => h9) rfl dX6_refuse_5 ?_
  refine lv_iconst (v := 1) hx hb dX6_refuse_8 (by decide) ?_
  refine lv_icmp_ne (tgt := 16) hx hb dX6_refuse_9 (by decide) (fun c1 => ?_) (fun c1 => ?_)
  · skip
    have zc1 : ¬ ((v 2).toInt = 1) := by rw [fa_eq, show (1 : Int32).toInt = 1 from by decide] at c1; exact c1
    refine lv_iconst (v := 2) hx hb dX6_refuse_16 (by decide) ?_
    refine cbVi (n := 1) (rest := []) hx hb hml hown hts hE hP hD hS hA (sX_X6_refuseAs_1 NF l dC dI cy x0 x 2 v f hIv ) k_695 k_697 k_7 k_103 k_698 (by decide +kernel) ⟨Nat.le_of_ble_eq_true rfl, Nat.le_of_ble_eq_true rfl⟩ 3 6 rfl rfl (rfl) hl.1 rfl (Nat.le_of_ble_eq_true rfl) dX6_refuse_17 (fun r2 u H locs hw hP hD hS => ?_)
    obtain ⟨hG3, hw⟩ := hw
    obtain ⟨v4, f5⟩ := u
    obtain ⟨kV_v4, kF_f5, hIv4, hk0_v4, hk1_v4, hk9_v4, hk10_v4, hk31_v4, hk32_v4, hw⟩ := hw
    have hM_v4 : KV [7, 8] v4 v := KV.tr kV_v4 hM_v rfl
    have hA_f5 : KF [] f5 f := KF.tr kF_f5 hA_f rfl
    have hP : va_P (dC, dI) vwCl (XW cy x0 x v4 f5) H := hP
    have hD : va_D A (XW cy x0 x v4 f5) := hD
    have hq0_v4 : v4 0 = (v 0) := hk0_v4
    have hq1_v4 : v4 1 = (v 1) := hk1_v4
    have hq9_v4 : v4 9 = (v 9) := hk9_v4
    have hq10_v4 : v4 10 = (v 10) := hk10_v4
    have hq31_v4 : v4 31 = (v 31) := hk31_v4
    have hq32_v4 : v4 32 = (v 32) := hk32_v4
    rcases hw with ⟨g6⟩ | ⟨g6⟩
    · skip
      subst g6
      exact ret 1 (v4, f5) _ _ _ _ _ _ rfl ⟨(gsX_X6_refuse_1_q0 c1 hG3), hM_v4, hA_f5, hIv4, hk0_v4, hk1_v4, hk9_v4, hk10_v4, hk31_v4, hk32_v4, (Or.inl rfl)⟩ hP hD hS dX6_refuse_20 (Nat.le_refl _) (Nat.le_refl _)
    · skip
      subst g6
      exact ret 0 (v4, f5) _ _ _ _ _ _ rfl ⟨(gsX_X6_refuse_1_q1 c1 hG3), hM_v4, hA_f5, hIv4, hk0_v4, hk1_v4, hk9_v4, hk10_v4, hk31_v4, hk32_v4, (Or.inr rfl)⟩ hP hD hS dX6_refuse_20 (Nat.le_refl _) (Nat.le_refl _)
  · skip
    have zc1 : (v 2).toInt = 1 := by rw [fa_eq, show (1 : Int32).toInt = 1 from by decide] at c1; exact c1
    refine lv_iconst (v := 1) hx hb dX6_refuse_12 (by decide) ?_
    refine lv_goto (tgt := 17) hx hb dX6_refuse_13 (by decide) ?_
    refine cbVi (n := 1) (rest := []) hx hb hml hown hts hE hP hD hS hA (sX_X6_refuseAs_1 NF l dC dI cy x0 x 1 v f hIv ) k_695 k_697 k_7 k_103 k_698 (by decide +kernel) ⟨Nat.le_of_ble_eq_true rfl, Nat.le_of_ble_eq_true rfl⟩ 3 6 rfl rfl (rfl) hl.1 rfl (Nat.le_of_ble_eq_true rfl) dX6_refuse_17 (fun r7 u H locs hw hP hD hS => ?_)
    obtain ⟨hG8, hw⟩ := hw
    obtain ⟨v9, f10⟩ := u
    obtain ⟨kV_v9, kF_f10, hIv9, hk0_v9, hk1_v9, hk9_v9, hk10_v9, hk31_v9, hk32_v9, hw⟩ := hw
    have hM_v9 : KV [7, 8] v9 v := KV.tr kV_v9 hM_v rfl
    have hA_f10 : KF [] f10 f := KF.tr kF_f10 hA_f rfl
    have hP : va_P (dC, dI) vwCl (XW cy x0 x v9 f10) H := hP
    have hD : va_D A (XW cy x0 x v9 f10) := hD
    have hq0_v9 : v9 0 = (v 0) := hk0_v9
    have hq1_v9 : v9 1 = (v 1) := hk1_v9
    have hq9_v9 : v9 9 = (v 9) := hk9_v9
    have hq10_v9 : v9 10 = (v 10) := hk10_v9
    have hq31_v9 : v9 31 = (v 31) := hk31_v9
    have hq32_v9 : v9 32 = (v 32) := hk32_v9
    rcases hw with ⟨g11⟩ | ⟨g11⟩
    · skip
      subst g11
      exact ret 1 (v9, f10) _ _ _ _ _ _ rfl ⟨(gsX_X6_refuse_1_q2 c1 hG8), hM_v9, hA_f10, hIv9, hk0_v9, hk1_v9, hk9_v9, hk10_v9, hk31_v9, hk32_v9, (Or.inl rfl)⟩ hP hD hS dX6_refuse_20 (Nat.le_refl _) (Nat.le_refl _)
    · skip
      subst g11
      exact ret 0 (v9, f10) _ _ _ _ _ _ rfl ⟨(gsX_X6_refuse_1_q3 c1 hG8), hM_v9, hA_f10, hIv9, hk0_v9, hk1_v9, hk9_v9, hk10_v9, hk31_v9, hk32_v9, (Or.inr rfl)⟩ hP hD hS dX6_refuse_20 (Nat.le_refl _) (Nat.le_refl _)
