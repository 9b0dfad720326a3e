set_option maxHeartbeats 4000000 in
set_option maxRecDepth 100000 in
theorem sX_X9_rewind_1 (NF : Nat) (l : Launch) (dC : Nat → ClassId) (dI : Nat → Nat → Nat) (cy : Nat → ClassId) (x0 : Nat) (x : Nat → Nat)  (v : Nat → Int32) (f : Nat → Nat → Int32) (hIv : XI v)  : ctVS l (dC, dI) cy yX9_rewind cX9_rewind 1 7 191 0 0 ((Nat → Int32) × (Nat → Nat → Int32)) [.ref (x 0)] (XW cy x0 x v f) (fun u => gsX_X9_rewind_1 NF v f = u ∧ KV [2, 3, 4, 5] u.1 v ∧ KF [] u.2 f ∧ XI u.1 ∧ u.1 0 = v 0 ∧ u.1 1 = v 1 ∧ u.1 7 = v 7 ∧ u.1 8 = v 8 ∧ u.1 9 = v 9 ∧ u.1 10 = v 10 ∧ u.1 31 = v 31 ∧ u.1 32 = v 32) (fun u => XW cy x0 x u.1 u.2) := by
  refine ctVS_of (by decide) (Nat.le_of_ble_eq_true rfl) (fun p e s m below meth c A ls Q hx hb hml hts hown hnm hE hF hT hP hD hA hl ret => ?_)
  have hM_v : KV [2, 3, 4, 5] v v := fun _ _ => rfl
  have hA_f : KF [] f f := fun _ _ => rfl
  have hown : s.vm.findClass RX9 = some m.cls := hown
  have hS : va_S A s.heap s.heap [] := va_S.rf
  have hl : lv_has ls 1 [(0, .ref (x 0))] := hl
  refine lv_aload_n hx hb dX9_rewind_0 rfl (lv_at hl 0 rfl) ?_
  refine lv_iconst (v := 0) hx hb dX9_rewind_1 (by decide) ?_
  refine va_put (D := (dC, dI)) (ci := 9) (v := .int 0) (ty := tyX9 4) (C := RX9) (T := TX9) (N := 6) hx hb hts inB_9 tyX9 tyX9_ok nmX9 hown hE.1 hP hD hS 1 rfl rfl 4 (by decide) (hts _ k_143) (fun _ h9 => h9) rfl (tyX9_ok 4 (by decide)) rfl rfl (Nat.le_of_ble_eq_true rfl) dX9_rewind_2 (fun H locs hP hD hS => ?_)
  have hP : va_P (dC, dI) vwCl (XW cy x0 x (upd v 4 0) f) H := hP
  have hD : va_D A (XW cy x0 x (upd v 4 0) f) := hD
  refine lv_aload_n hx hb dX9_rewind_5 rfl (lv_at hl 0 rfl) ?_
  refine csVv (n := 0) (rest := []) hx hb hml hown hts hE hP hD hS hA hF hT (sX_X9_advance_1 NF l dC dI cy x0 x  (upd v 4 0) f (XI.upd (j := 4) (x := 0) hIv (by decide) (by decide)) ) k_558 k_559 k_560 k_102 k_561 (by decide +kernel) ⟨Nat.le_of_ble_eq_true rfl, Nat.le_of_ble_eq_true rfl⟩ 1 9 rfl rfl (rfl) hl.1 rfl (Nat.le_of_ble_eq_true rfl) dX9_rewind_6 (fun u H locs hw hP hD hS => ?_)
  obtain ⟨hG1, hw⟩ := hw
  obtain ⟨v2, f3⟩ := u
  obtain ⟨kV_v2, kF_f3, hIv2, hk0_v2, hk1_v2, hk7_v2, hk8_v2, hk9_v2, hk10_v2, hk31_v2, hk32_v2⟩ := hw
  have hM_v2 : KV [2, 3, 4, 5] v2 v := KV.tr kV_v2 (KV.up (j := 4) (x := 0) hM_v rfl) rfl
  have hA_f3 : KF [] f3 f := KF.tr kF_f3 hA_f rfl
  have hP : va_P (dC, dI) vwCl (XW cy x0 x v2 f3) H := hP
  have hD : va_D A (XW cy x0 x v2 f3) := hD
  have hq0_v2 : v2 0 = (v 0) := hk0_v2
  have hq1_v2 : v2 1 = (v 1) := hk1_v2
  have hq7_v2 : v2 7 = (v 7) := hk7_v2
  have hq8_v2 : v2 8 = (v 8) := hk8_v2
  have hq9_v2 : v2 9 = (v 9) := hk9_v2
  have hq10_v2 : v2 10 = (v 10) := hk10_v2
  have hq31_v2 : v2 31 = (v 31) := hk31_v2
  have hq32_v2 : v2 32 = (v 32) := hk32_v2
  exact ret (v2, f3) _ _ _ _ _ _ ⟨(gsX_X9_rewind_1_q0 hG1), hM_v2, hA_f3, hIv2, hk0_v2, hk1_v2, hk7_v2, hk8_v2, hk9_v2, hk10_v2, hk31_v2, hk32_v2⟩ hP hD hS dX9_rewind_9 (Nat.le_refl _) (Nat.le_refl _)
set_option maxHeartbeats 4000000 in
set_option maxRecDepth 100000 in
theorem sX_X9_sameWord_1 (NF : Nat) (l : Launch) (dC : Nat → ClassId) (dI : Nat → Nat → Nat) (cy : Nat → ClassId) (x0 : Nat) (x : Nat → Nat) (p1 : Int32) (p2 : Int32) (v : Nat → Int32) (f : Nat → Nat → Int32) (hIv : XI v)  : ctI l (dC, dI) cy yX9_sameWord cX9_sameWord 4 .boolean 2 81 0 0 Unit [.ref (x 0), .int p1, .int p2] (XW cy x0 x v f) (fun r u => gsX_X9_sameWord_1 NF p1 p2 v f = r ∧ ((r = 1) ∨ (r = 0))) (fun u => XW cy x0 x v f) := by
  refine ctI_of (by decide) (Nat.le_of_ble_eq_true rfl) (fun p e s m below meth c A ls Q hx hb hml hts hown hE hP hD hA hl ret => ?_)
  have hown : s.vm.findClass RX9 = some m.cls := hown
  have hS : va_S A s.heap s.heap [] := va_S.rf
  have hl : lv_has ls 4 [(0, .ref (x 0)), (1, .int p1), (2, .int p2)] := hl
  refine lv_iconst (v := 0) hx hb dX9_sameWord_0 (by decide) ?_
  refine lv_istore_n (lv' := [(3, .int 0), (0, .ref (x 0)), (1, .int p1), (2, .int p2)]) hx hb dX9_sameWord_1 rfl hl (by decide) rfl (fun ls hl => ?_)
  have lp1 : ∀ (n1 : Nat) (l3_1 : Int32), gsX_X9_sameWord_1_L1 NF p1 p2 v f n1 l3_1 = (gsX_X9_sameWord_1 NF p1 p2 v f) → ((0 : Int) ≤ l3_1.toInt ∧ l3_1.toInt ≤ 2147483647) → (2147483647 - l3_1.toInt).toNat < n1 → ∀ (H : Heap) (locs : List Loc) (ls : Array Slot), va_P (dC, dI) vwCl (XW cy x0 x v f) H → va_D A (XW cy x0 x v f) → va_S A s.heap H locs → lv_has ls 4 [(3, .int l3_1), (0, .ref (x 0)), (1, .int p1), (2, .int p2)] → W p l e { frames := 2, cells := 0, slots := 0, locals := 81 } s m ([.ref (x 0), .int p1, .int p2] : List Value).toArray below meth c H locs 0 0 Q (F0 m 2 ls []) := by
    intro n1
    induction n1 with
    | zero => intro l3_1 hT1 hr3_1 hm; exact absurd hm (Nat.not_lt_zero _)
    | succ n1 ih1 =>
      intro l3_1 hT1 hr3_1 hm1 H locs ls hP hD hS hl
      refine lv_iload_n hx hb dX9_sameWord_2 rfl (lv_at hl 0 rfl) ?_
      refine lv_bipush (v := 8) hx hb dX9_sameWord_3 (by decide) ?_
      refine lv_icmp_gt (tgt := 78) hx hb dX9_sameWord_5 (by decide) (fun c2 => ?_) (fun c2 => ?_)
      · skip
        have zc2 : 8 < l3_1.toInt := by rw [fa_lt, show (8 : Int32).toInt = 8 from by decide] at c2; exact c2
        refine lv_iconst (v := 1) hx hb dX9_sameWord_78 (by decide) ?_
        exact ret 1 () _ _ _ _ _ _ rfl ⟨(hT1.symm.trans (gsX_X9_sameWord_1_q0 c2)), (Or.inl rfl)⟩ hP hD hS dX9_sameWord_79 (Nat.le_refl _) (Nat.le_refl _)
      · skip
        have zc2 : ¬ (8 < l3_1.toInt) := by rw [fa_lt, show (8 : Int32).toInt = 8 from by decide] at c2; exact c2
        refine lv_aload_n hx hb dX9_sameWord_8 rfl (lv_at hl 1 rfl) ?_
        refine lv_iload_n hx hb dX9_sameWord_9 rfl (lv_at hl 2 rfl) ?_
        refine lv_iload_n hx hb dX9_sameWord_10 rfl (lv_at hl 0 rfl) ?_
        refine lv_iadd hx hb dX9_sameWord_11 ?_
        refine lv_topi (fun t3 et3 => ?_)
        refine cbVi (n := 1) (rest := []) hx hb hml hown hts hE hP hD hS hA (sX_X9_isLetter_1 NF l dC dI cy x0 x t3 v f hIv ) k_562 k_564 k_1 k_102 k_565 (by decide +kernel) ⟨Nat.le_of_ble_eq_true rfl, Nat.le_of_ble_eq_true rfl⟩ 1 9 rfl rfl (rfl) hl.1 rfl (Nat.le_of_ble_eq_true rfl) dX9_sameWord_12 (fun r4 u H locs hw hP hD hS => ?_)
        obtain ⟨hG5, hw⟩ := hw
        rcases hw with ⟨g6, g6_0, g6_1, g6_2⟩ | ⟨g6⟩
        · skip
          subst g6
          refine lv_if_eq (tgt := 28) hx hb dX9_sameWord_15 (by decide) (fun c0 => absurd c0 (by decide)) (fun _ => ?_)
          refine lv_aload_n hx hb dX9_sameWord_18 rfl (lv_at hl 1 rfl) ?_
          refine lv_iload_n hx hb dX9_sameWord_19 rfl (lv_at hl 3 rfl) ?_
          refine lv_iload_n hx hb dX9_sameWord_20 rfl (lv_at hl 0 rfl) ?_
          refine lv_iadd hx hb dX9_sameWord_21 ?_
          refine lv_topi (fun t7 et7 => ?_)
          refine cbVi (n := 1) (rest := []) hx hb hml hown hts hE hP hD hS hA (sX_X9_isLetter_1 NF l dC dI cy x0 x t7 v f hIv ) k_562 k_564 k_1 k_102 k_565 (by decide +kernel) ⟨Nat.le_of_ble_eq_true rfl, Nat.le_of_ble_eq_true rfl⟩ 1 9 rfl rfl (rfl) hl.1 rfl (Nat.le_of_ble_eq_true rfl) dX9_sameWord_22 (fun r8 u H locs hw hP hD hS => ?_)
          obtain ⟨hG9, hw⟩ := hw
          rcases hw with ⟨g10, g10_0, g10_1, g10_2⟩ | ⟨g10⟩
          · skip
            subst g10
            refine lv_if_ne (tgt := 51) hx hb dX9_sameWord_25 (by decide) (fun _ => ?_) (fun c0 => absurd c0 (by decide))
            refine lv_aload_n hx hb dX9_sameWord_51 rfl (lv_at hl 1 rfl) ?_
            refine va_get (D := (dC, dI)) (ci := 9) (v := .ref (x 1)) (C := RX9) (T := TX9) (N := 6) hx hb hts inB_9 hown hE.1 hP 1 rfl rfl 0 (by decide) (hts _ k_136) (fun _ h9 => h9) rfl dX9_sameWord_52 ?_
            refine lv_iload_n hx hb dX9_sameWord_55 rfl (lv_at hl 2 rfl) ?_
            refine lv_iload_n hx hb dX9_sameWord_56 rfl (lv_at hl 0 rfl) ?_
            refine lv_iadd hx hb dX9_sameWord_57 ?_
            refine tI (y := t3) et3.symm ?_
            refine ldB hx hb hE hP 2 rfl (vp_in_iff.mpr ⟨by omega, by omega⟩) rfl rfl dX9_sameWord_58 ?_
            refine lv_topi (fun t11 et11 => ?_)
            refine lv_aload_n hx hb dX9_sameWord_59 rfl (lv_at hl 1 rfl) ?_
            refine va_get (D := (dC, dI)) (ci := 9) (v := .ref (x 1)) (C := RX9) (T := TX9) (N := 6) hx hb hts inB_9 hown hE.1 hP 1 rfl rfl 0 (by decide) (hts _ k_136) (fun _ h9 => h9) rfl dX9_sameWord_60 ?_
            refine lv_iload_n hx hb dX9_sameWord_63 rfl (lv_at hl 3 rfl) ?_
            refine lv_iload_n hx hb dX9_sameWord_64 rfl (lv_at hl 0 rfl) ?_
            refine lv_iadd hx hb dX9_sameWord_65 ?_
            refine tI (y := t7) et7.symm ?_
            refine ldB hx hb hE hP 2 rfl (vp_in_iff.mpr ⟨by omega, by omega⟩) rfl rfl dX9_sameWord_66 ?_
            refine lv_topi (fun t12 et12 => ?_)
            refine lv_icmp_eq (tgt := 72) hx hb dX9_sameWord_67 (by decide) (fun c13 => ?_) (fun c13 => ?_)
            · skip
              have zc13 : t11.toInt = t12.toInt := by rw [fa_eq] at c13; exact c13
              have rg14 := fb_rng t11
              have rg15 := fb_rng t12
              obtain ⟨t16, et16⟩ : ∃ y : Int32, y = l3_1 + 1 := ⟨_, rfl⟩
              have rg17 := fb_rng l3_1
              have zt16 : t16.toInt = l3_1.toInt + 1 := by rw [et16]; exact add_i rfl (by decide) (by omega) (by omega)
              refine lv_iinc (v := t16) (lv' := [(3, .int t16), (0, .ref (x 0)), (1, .int p1), (2, .int p2)]) hx hb dX9_sameWord_72 hl (k := 0) rfl (by rw [et16]; rfl) (by decide) rfl (fun ls hl => ?_)
              refine lv_goto (tgt := 2) hx hb dX9_sameWord_75 (by decide) ?_
              have rg18 := fb_rng t16
              exact ih1 t16 ((gsX_X9_sameWord_1_q1 c2 et3 hG5 et7 hG9 et11 et12 c13 et16).symm.trans hT1) ⟨show (0 : Int) ≤ t16.toInt by omega, show t16.toInt ≤ (2147483647 : Int) by omega⟩ (by show (2147483647 - t16.toInt).toNat < n1; omega) _ _ _ hP hD hS (lv_sub hl [0, 1, 2, 3] rfl)
            · skip
              have zc13 : ¬ (t11.toInt = t12.toInt) := by rw [fa_eq] at c13; exact c13
              have rg19 := fb_rng t11
              have rg20 := fb_rng t12
              refine lv_iconst (v := 0) hx hb dX9_sameWord_70 (by decide) ?_
              exact ret 0 () _ _ _ _ _ _ rfl ⟨(hT1.symm.trans (gsX_X9_sameWord_1_q2 c2 et3 hG5 et7 hG9 et11 et12 c13)), (Or.inr rfl)⟩ hP hD hS dX9_sameWord_71 (Nat.le_refl _) (Nat.le_refl _)
          · skip
            subst g10
            refine lv_if_ne (tgt := 51) hx hb dX9_sameWord_25 (by decide) (fun c0 => absurd (by decide) c0) (fun _ => ?_)
            refine lv_aload_n hx hb dX9_sameWord_28 rfl (lv_at hl 1 rfl) ?_
            refine lv_iload_n hx hb dX9_sameWord_29 rfl (lv_at hl 2 rfl) ?_
            refine lv_iload_n hx hb dX9_sameWord_30 rfl (lv_at hl 0 rfl) ?_
            refine lv_iadd hx hb dX9_sameWord_31 ?_
            refine tI (y := t3) et3.symm ?_
            refine cbVi (n := 1) (rest := []) hx hb hml hown hts hE hP hD hS hA (sX_X9_isLetter_1 NF l dC dI cy x0 x t3 v f hIv ) k_562 k_564 k_1 k_102 k_565 (by decide +kernel) ⟨Nat.le_of_ble_eq_true rfl, Nat.le_of_ble_eq_true rfl⟩ 1 9 rfl rfl (rfl) hl.1 rfl (Nat.le_of_ble_eq_true rfl) dX9_sameWord_32 (fun r21 u H locs hw hP hD hS => ?_)
            obtain ⟨hG22, hw⟩ := hw
            rcases hw with ⟨g23, g23_0, g23_1, g23_2⟩ | ⟨g23⟩
            · skip
              subst g23
              refine lv_aload_n hx hb dX9_sameWord_35 rfl (lv_at hl 1 rfl) ?_
              refine lv_iload_n hx hb dX9_sameWord_36 rfl (lv_at hl 3 rfl) ?_
              refine lv_iload_n hx hb dX9_sameWord_37 rfl (lv_at hl 0 rfl) ?_
              refine lv_iadd hx hb dX9_sameWord_38 ?_
              refine tI (y := t7) et7.symm ?_
              refine cbVi (n := 1) (rest := [.int 1]) hx hb hml hown hts hE hP hD hS hA (sX_X9_isLetter_1 NF l dC dI cy x0 x t7 v f hIv ) k_562 k_564 k_1 k_102 k_565 (by decide +kernel) ⟨Nat.le_of_ble_eq_true rfl, Nat.le_of_ble_eq_true rfl⟩ 1 9 rfl rfl (rfl) hl.1 rfl (Nat.le_of_ble_eq_true rfl) dX9_sameWord_39 (fun r24 u H locs hw hP hD hS => ?_)
              obtain ⟨hG25, hw⟩ := hw
              rcases hw with ⟨g26, g26_0, g26_1, g26_2⟩ | ⟨g26⟩
              · skip
                subst g26
                refine lv_icmp_ne (tgt := 49) hx hb dX9_sameWord_42 (by decide) (fun c0 => absurd (by decide) c0) (fun _ => ?_)
                refine lv_iconst (v := 1) hx hb dX9_sameWord_45 (by decide) ?_
                refine lv_goto (tgt := 50) hx hb dX9_sameWord_46 (by decide) ?_
                exact ret 1 () _ _ _ _ _ _ rfl ⟨(hT1.symm.trans (gsX_X9_sameWord_1_q3 c2 et3 hG5 et7 hG9 hG22 hG25)), (Or.inl rfl)⟩ hP hD hS dX9_sameWord_50 (Nat.le_refl _) (Nat.le_refl _)
              · skip
                subst g26
                refine lv_icmp_ne (tgt := 49) hx hb dX9_sameWord_42 (by decide) (fun _ => ?_) (fun c0 => absurd c0 (by decide))
                refine lv_iconst (v := 0) hx hb dX9_sameWord_49 (by decide) ?_
                exact ret 0 () _ _ _ _ _ _ rfl ⟨(hT1.symm.trans (gsX_X9_sameWord_1_q4 c2 et3 hG5 et7 hG9 hG22 hG25)), (Or.inr rfl)⟩ hP hD hS dX9_sameWord_50 (Nat.le_refl _) (Nat.le_refl _)
            · skip
              subst g23
              refine lv_aload_n hx hb dX9_sameWord_35 rfl (lv_at hl 1 rfl) ?_
              refine lv_iload_n hx hb dX9_sameWord_36 rfl (lv_at hl 3 rfl) ?_
              refine lv_iload_n hx hb dX9_sameWord_37 rfl (lv_at hl 0 rfl) ?_
              refine lv_iadd hx hb dX9_sameWord_38 ?_
              refine tI (y := t7) et7.symm ?_
              refine cbVi (n := 1) (rest := [.int 0]) hx hb hml hown hts hE hP hD hS hA (sX_X9_isLetter_1 NF l dC dI cy x0 x t7 v f hIv ) k_562 k_564 k_1 k_102 k_565 (by decide +kernel) ⟨Nat.le_of_ble_eq_true rfl, Nat.le_of_ble_eq_true rfl⟩ 1 9 rfl rfl (rfl) hl.1 rfl (Nat.le_of_ble_eq_true rfl) dX9_sameWord_39 (fun r27 u H locs hw hP hD hS => ?_)
              obtain ⟨hG28, hw⟩ := hw
              rcases hw with ⟨g29, g29_0, g29_1, g29_2⟩ | ⟨g29⟩
              · skip
                subst g29
                refine lv_icmp_ne (tgt := 49) hx hb dX9_sameWord_42 (by decide) (fun _ => ?_) (fun c0 => absurd c0 (by decide))
                refine lv_iconst (v := 0) hx hb dX9_sameWord_49 (by decide) ?_
                exact ret 0 () _ _ _ _ _ _ rfl ⟨(hT1.symm.trans (gsX_X9_sameWord_1_q5 c2 et3 hG5 et7 hG9 hG22 hG28)), (Or.inr rfl)⟩ hP hD hS dX9_sameWord_50 (Nat.le_refl _) (Nat.le_refl _)
              · skip
                subst g29
                refine lv_icmp_ne (tgt := 49) hx hb dX9_sameWord_42 (by decide) (fun c0 => absurd (by decide) c0) (fun _ => ?_)
                refine lv_iconst (v := 1) hx hb dX9_sameWord_45 (by decide) ?_
                refine lv_goto (tgt := 50) hx hb dX9_sameWord_46 (by decide) ?_
                exact ret 1 () _ _ _ _ _ _ rfl ⟨(hT1.symm.trans (gsX_X9_sameWord_1_q6 c2 et3 hG5 et7 hG9 hG22 hG28)), (Or.inl rfl)⟩ hP hD hS dX9_sameWord_50 (Nat.le_refl _) (Nat.le_refl _)
        · skip
          subst g6
          refine lv_if_eq (tgt := 28) hx hb dX9_sameWord_15 (by decide) (fun _ => ?_) (fun c0 => absurd (by decide) c0)
          refine lv_aload_n hx hb dX9_sameWord_28 rfl (lv_at hl 1 rfl) ?_
          refine lv_iload_n hx hb dX9_sameWord_29 rfl (lv_at hl 2 rfl) ?_
          refine lv_iload_n hx hb dX9_sameWord_30 rfl (lv_at hl 0 rfl) ?_
          refine lv_iadd hx hb dX9_sameWord_31 ?_
          refine tI (y := t3) et3.symm ?_
          refine cbVi (n := 1) (rest := []) hx hb hml hown hts hE hP hD hS hA (sX_X9_isLetter_1 NF l dC dI cy x0 x t3 v f hIv ) k_562 k_564 k_1 k_102 k_565 (by decide +kernel) ⟨Nat.le_of_ble_eq_true rfl, Nat.le_of_ble_eq_true rfl⟩ 1 9 rfl rfl (rfl) hl.1 rfl (Nat.le_of_ble_eq_true rfl) dX9_sameWord_32 (fun r30 u H locs hw hP hD hS => ?_)
          obtain ⟨hG31, hw⟩ := hw
          rcases hw with ⟨g32, g32_0, g32_1, g32_2⟩ | ⟨g32⟩
          · skip
            subst g32
            refine lv_aload_n hx hb dX9_sameWord_35 rfl (lv_at hl 1 rfl) ?_
            refine lv_iload_n hx hb dX9_sameWord_36 rfl (lv_at hl 3 rfl) ?_
            refine lv_iload_n hx hb dX9_sameWord_37 rfl (lv_at hl 0 rfl) ?_
            refine lv_iadd hx hb dX9_sameWord_38 ?_
            refine lv_topi (fun t33 et33 => ?_)
            refine cbVi (n := 1) (rest := [.int 1]) hx hb hml hown hts hE hP hD hS hA (sX_X9_isLetter_1 NF l dC dI cy x0 x t33 v f hIv ) k_562 k_564 k_1 k_102 k_565 (by decide +kernel) ⟨Nat.le_of_ble_eq_true rfl, Nat.le_of_ble_eq_true rfl⟩ 1 9 rfl rfl (rfl) hl.1 rfl (Nat.le_of_ble_eq_true rfl) dX9_sameWord_39 (fun r34 u H locs hw hP hD hS => ?_)
            obtain ⟨hG35, hw⟩ := hw
            rcases hw with ⟨g36, g36_0, g36_1, g36_2⟩ | ⟨g36⟩
            · skip
              subst g36
              refine lv_icmp_ne (tgt := 49) hx hb dX9_sameWord_42 (by decide) (fun c0 => absurd (by decide) c0) (fun _ => ?_)
              refine lv_iconst (v := 1) hx hb dX9_sameWord_45 (by decide) ?_
              refine lv_goto (tgt := 50) hx hb dX9_sameWord_46 (by decide) ?_
              exact ret 1 () _ _ _ _ _ _ rfl ⟨(hT1.symm.trans (gsX_X9_sameWord_1_q7 c2 et3 hG5 hG31 et33 hG35)), (Or.inl rfl)⟩ hP hD hS dX9_sameWord_50 (Nat.le_refl _) (Nat.le_refl _)
            · skip
              subst g36
              refine lv_icmp_ne (tgt := 49) hx hb dX9_sameWord_42 (by decide) (fun _ => ?_) (fun c0 => absurd c0 (by decide))
              refine lv_iconst (v := 0) hx hb dX9_sameWord_49 (by decide) ?_
              exact ret 0 () _ _ _ _ _ _ rfl ⟨(hT1.symm.trans (gsX_X9_sameWord_1_q8 c2 et3 hG5 hG31 et33 hG35)), (Or.inr rfl)⟩ hP hD hS dX9_sameWord_50 (Nat.le_refl _) (Nat.le_refl _)
          · skip
            subst g32
            refine lv_aload_n hx hb dX9_sameWord_35 rfl (lv_at hl 1 rfl) ?_
            refine lv_iload_n hx hb dX9_sameWord_36 rfl (lv_at hl 3 rfl) ?_
            refine lv_iload_n hx hb dX9_sameWord_37 rfl (lv_at hl 0 rfl) ?_
            refine lv_iadd hx hb dX9_sameWord_38 ?_
            refine lv_topi (fun t37 et37 => ?_)
            refine cbVi (n := 1) (rest := [.int 0]) hx hb hml hown hts hE hP hD hS hA (sX_X9_isLetter_1 NF l dC dI cy x0 x t37 v f hIv ) k_562 k_564 k_1 k_102 k_565 (by decide +kernel) ⟨Nat.le_of_ble_eq_true rfl, Nat.le_of_ble_eq_true rfl⟩ 1 9 rfl rfl (rfl) hl.1 rfl (Nat.le_of_ble_eq_true rfl) dX9_sameWord_39 (fun r38 u H locs hw hP hD hS => ?_)
            obtain ⟨hG39, hw⟩ := hw
            rcases hw with ⟨g40, g40_0, g40_1, g40_2⟩ | ⟨g40⟩
            · skip
              subst g40
              refine lv_icmp_ne (tgt := 49) hx hb dX9_sameWord_42 (by decide) (fun _ => ?_) (fun c0 => absurd c0 (by decide))
              refine lv_iconst (v := 0) hx hb dX9_sameWord_49 (by decide) ?_
              exact ret 0 () _ _ _ _ _ _ rfl ⟨(hT1.symm.trans (gsX_X9_sameWord_1_q9 c2 et3 hG5 hG31 et37 hG39)), (Or.inr rfl)⟩ hP hD hS dX9_sameWord_50 (Nat.le_refl _) (Nat.le_refl _)
            · skip
              subst g40
              refine lv_icmp_ne (tgt := 49) hx hb dX9_sameWord_42 (by decide) (fun c0 => absurd (by decide) c0) (fun _ => ?_)
              refine lv_iconst (v := 1) hx hb dX9_sameWord_45 (by decide) ?_
              refine lv_goto (tgt := 50) hx hb dX9_sameWord_46 (by decide) ?_
              exact ret 1 () _ _ _ _ _ _ rfl ⟨(hT1.symm.trans (gsX_X9_sameWord_1_q10 c2 et3 hG5 hG31 et37 hG39)), (Or.inl rfl)⟩ hP hD hS dX9_sameWord_50 (Nat.le_refl _) (Nat.le_refl _)
  exact lp1 (4294967296 + NF) 0 gsX_X9_sameWord_1_q11.symm ⟨by decide, by decide⟩ (by have q3 : (0 : Int32).toInt = 0 := (by decide); show (2147483647 - (0 : Int32).toInt).toNat < 4294967296 + NF; omega) _ _ _ hP hD hS (lv_sub hl [0, 1, 2, 3] rfl)
set_option maxHeartbeats 4000000 in
set_option maxRecDepth 100000 in
theorem sX_X6_refuseAs_1 (NF : Nat) (l : Launch) (dC : Nat → ClassId) (dI : Nat → Nat → Nat) (cy : Nat → ClassId) (x0 : Nat) (x : Nat → Nat) (p1 : Int32) (v : Nat → Int32) (f : Nat → Nat → Int32) (hIv : XI v)  : ctI l (dC, dI) cy yX6_refuseAs cX6_refuseAs 2 .boolean 1 60 0 0 ((Nat → Int32) × (Nat → Nat → Int32)) [.ref (x 2), .int p1] (XW cy x0 x v f) (fun r u => gsX_X6_refuseAs_1 NF p1 v f = (r, u) ∧ KV [7, 8] u.1 v ∧ KF [] u.2 f ∧ XI u.1 ∧ u.1 0 = v 0 ∧ u.1 1 = v 1 ∧ u.1 9 = v 9 ∧ u.1 10 = v 10 ∧ u.1 31 = v 31 ∧ u.1 32 = v 32 ∧ ((r = 1) ∨ (r = 0))) (fun u => XW cy x0 x u.1 u.2) := by
  refine ctI_of (by decide) (Nat.le_of_ble_eq_true rfl) (fun p e s m below meth c A ls Q hx hb hml hts hown hE hP hD hA hl ret => ?_)
  have hM_v : KV [7, 8] v v := fun _ _ => rfl
  have hA_f : KF [] f f := fun _ _ => rfl
  have hown : s.vm.findClass RX6 = some m.cls := hown
  have hS : va_S A s.heap s.heap [] := va_S.rf
  have hl : lv_has ls 2 [(0, .ref (x 2)), (1, .int p1)] := hl
  refine lv_aload_n hx hb dX6_refuseAs_0 rfl (lv_at hl 0 rfl) ?_
  refine lv_iload_n hx hb dX6_refuseAs_1 rfl (lv_at hl 1 rfl) ?_
  refine va_put (D := (dC, dI)) (ci := 6) (v := .int p1) (ty := tyX6 5) (C := RX6) (T := TX6) (N := 7) hx hb hts inB_6 tyX6 tyX6_ok nmX6 hown hE.1 hP hD hS 3 rfl rfl 5 (by decide) (hts _ k_271) (fun _ h9 => h9) rfl (tyX6_ok 5 (by decide)) rfl rfl (Nat.le_of_ble_eq_true rfl) dX6_refuseAs_2 (fun H locs hP hD hS => ?_)
  have hP : va_P (dC, dI) vwCl (XW cy x0 x (upd v 7 p1) f) H := hP
  have hD : va_D A (XW cy x0 x (upd v 7 p1) f) := hD
  refine lv_aload_n hx hb dX6_refuseAs_5 rfl (lv_at hl 0 rfl) ?_
  refine lv_aload_n hx hb dX6_refuseAs_6 rfl (lv_at hl 0 rfl) ?_
  refine va_get (D := (dC, dI)) (ci := 6) (v := .ref (x 0)) (C := RX6) (T := TX6) (N := 7) hx hb hts inB_6 hown hE.1 hP 3 rfl rfl 0 (by decide) (hts _ k_265) (fun _ h9 => h9) rfl dX6_refuseAs_7 ?_
  refine va_getN (D := (dC, dI)) (ci := 9) (v := .int (v 3)) (C := RX9) (T := TX9) (N := 6) hx hb hts inB_9 hown hE.1 hP 1 rfl rfl 3 (by decide) (va_Nw.use rfl (hE.2 _ k_142)) (fun _ h9 => h9) rfl dX6_refuseAs_10 ?_
  have b3_v : 0 ≤ (v 3).toInt ∧ (v 3).toInt ≤ 1600 := XI.b hIv 3 (by decide)
  refine va_put (D := (dC, dI)) (ci := 6) (v := .int (v 3)) (ty := tyX6 6) (C := RX6) (T := TX6) (N := 7) hx hb hts inB_6 tyX6 tyX6_ok nmX6 hown hE.1 hP hD hS 3 rfl rfl 6 (by decide) (hts _ k_273) (fun _ h9 => h9) rfl (tyX6_ok 6 (by decide)) rfl rfl (Nat.le_of_ble_eq_true rfl) dX6_refuseAs_13 (fun H locs hP hD hS => ?_)
  have hP : va_P (dC, dI) vwCl (XW cy x0 x (upd (upd v 7 p1) 8 (v 3)) f) H := hP
  have hD : va_D A (XW cy x0 x (upd (upd v 7 p1) 8 (v 3)) f) := hD
  refine lv_iconst (v := 0) hx hb dX6_refuseAs_16 (by decide) ?_
  exact ret 0 ((upd (upd v 7 p1) 8 (v 3)), f) _ _ _ _ _ _ rfl ⟨gsX_X6_refuseAs_1_q0, (KV.up (j := 8) (x := (v 3)) (KV.up (j := 7) (x := p1) hM_v rfl) rfl), hA_f, (XI.upd (j := 8) (x := (v 3)) (XI.upd (j := 7) (x := p1) hIv (rlo _) (rhi _)) (rlo _) (rhi _)), rfl, rfl, rfl, rfl, rfl, rfl, (Or.inr rfl)⟩ hP hD hS dX6_refuseAs_17 (Nat.le_refl _) (Nat.le_refl _)
set_option maxHeartbeats 4000000 in
set_option maxRecDepth 100000 in
theorem sX_X6_refuse_1 (NF : Nat) (l : Launch) (dC : Nat → ClassId) (dI : Nat → Nat → Nat) (cy : Nat → ClassId) (x0 : Nat) (x : Nat → Nat)  (v : Nat → Int32) (f : Nat → Nat → Int32) (hIv : XI v)  : ctI l (dC, dI) cy yX6_refuse cX6_refuse 1 .boolean 2 81 0 0 ((Nat → Int32) × (Nat → Nat → Int32)) [.ref (x 2)] (XW cy x0 x v f) (fun r u => gsX_X6_refuse_1 NF v f = (r, u) ∧ KV [7, 8] u.1 v ∧ KF [] u.2 f ∧ XI u.1 ∧ u.1 0 = v 0 ∧ u.1 1 = v 1 ∧ u.1 9 = v 9 ∧ u.1 10 = v 10 ∧ u.1 31 = v 31 ∧ u.1 32 = v 32 ∧ ((r = 1) ∨ (r = 0))) (fun u => XW cy x0 x u.1 u.2) := by
  refine ctI_of (by decide) (Nat.le_of_ble_eq_true rfl) (fun p e s m below meth c A ls Q hx hb hml hts hown hE hP hD hA hl ret => ?_)
  have hM_v : KV [7, 8] v v := fun _ _ => rfl
  have hA_f : KF [] f f := fun _ _ => rfl
  have hown : s.vm.findClass RX6 = some m.cls := hown
  have hS : va_S A s.heap s.heap [] := va_S.rf
  have hl : lv_has ls 1 [(0, .ref (x 2))] := hl
  refine lv_aload_n hx hb dX6_refuse_0 rfl (lv_at hl 0 rfl) ?_
  refine lv_aload_n hx hb dX6_refuse_1 rfl (lv_at hl 0 rfl) ?_
  refine va_get (D := (dC, dI)) (ci := 6) (v := .ref (x 0)) (C := RX6) (T := TX6) (N := 7) hx hb hts inB_6 hown hE.1 hP 3 rfl rfl 0 (by decide) (hts _ k_265) (fun _ h9 => h9) rfl dX6_refuse_2 ?_
  refine va_getN (D := (dC, dI)) (ci := 9) (v := .int (v 2)) (C := RX9) (T := TX9) (N := 6) hx hb hts inB_9 hown hE.1 hP 1 rfl rfl 2 (by decide) (va_Nw.use rfl (hE.2 _ k_139)) (fun _ h9 => h9) rfl dX6_refuse_5 ?_
  refine lv_iconst (v := 1) hx hb dX6_refuse_8 (by decide) ?_
  refine lv_icmp_ne (tgt := 16) hx hb dX6_refuse_9 (by decide) (fun c1 => ?_) (fun c1 => ?_)
  · skip
    have zc1 : ¬ ((v 2).toInt = 1) := by rw [fa_eq, show (1 : Int32).toInt = 1 from by decide] at c1; exact c1
    refine lv_iconst (v := 2) hx hb dX6_refuse_16 (by decide) ?_
    refine cbVi (n := 1) (rest := []) hx hb hml hown hts hE hP hD hS hA (sX_X6_refuseAs_1 NF l dC dI cy x0 x 2 v f hIv ) k_695 k_697 k_7 k_103 k_698 (by decide +kernel) ⟨Nat.le_of_ble_eq_true rfl, Nat.le_of_ble_eq_true rfl⟩ 3 6 rfl rfl (rfl) hl.1 rfl (Nat.le_of_ble_eq_true rfl) dX6_refuse_17 (fun r2 u H locs hw hP hD hS => ?_)
    obtain ⟨hG3, hw⟩ := hw
    obtain ⟨v4, f5⟩ := u
    obtain ⟨kV_v4, kF_f5, hIv4, hk0_v4, hk1_v4, hk9_v4, hk10_v4, hk31_v4, hk32_v4, hw⟩ := hw
    have hM_v4 : KV [7, 8] v4 v := KV.tr kV_v4 hM_v rfl
    have hA_f5 : KF [] f5 f := KF.tr kF_f5 hA_f rfl
    have hP : va_P (dC, dI) vwCl (XW cy x0 x v4 f5) H := hP
    have hD : va_D A (XW cy x0 x v4 f5) := hD
    have hq0_v4 : v4 0 = (v 0) := hk0_v4
    have hq1_v4 : v4 1 = (v 1) := hk1_v4
    have hq9_v4 : v4 9 = (v 9) := hk9_v4
    have hq10_v4 : v4 10 = (v 10) := hk10_v4
    have hq31_v4 : v4 31 = (v 31) := hk31_v4
    have hq32_v4 : v4 32 = (v 32) := hk32_v4
    rcases hw with ⟨g6⟩ | ⟨g6⟩
    · skip
      subst g6
      exact ret 1 (v4, f5) _ _ _ _ _ _ rfl ⟨(gsX_X6_refuse_1_q0 c1 hG3), hM_v4, hA_f5, hIv4, hk0_v4, hk1_v4, hk9_v4, hk10_v4, hk31_v4, hk32_v4, (Or.inl rfl)⟩ hP hD hS dX6_refuse_20 (Nat.le_refl _) (Nat.le_refl _)
    · skip
      subst g6
      exact ret 0 (v4, f5) _ _ _ _ _ _ rfl ⟨(gsX_X6_refuse_1_q1 c1 hG3), hM_v4, hA_f5, hIv4, hk0_v4, hk1_v4, hk9_v4, hk10_v4, hk31_v4, hk32_v4, (Or.inr rfl)⟩ hP hD hS dX6_refuse_20 (Nat.le_refl _) (Nat.le_refl _)
  · skip
    have zc1 : (v 2).toInt = 1 := by rw [fa_eq, show (1 : Int32).toInt = 1 from by decide] at c1; exact c1
    refine lv_iconst (v := 1) hx hb dX6_refuse_12 (by decide) ?_
    refine lv_goto (tgt := 17) hx hb dX6_refuse_13 (by decide) ?_
    refine cbVi (n := 1) (rest := []) hx hb hml hown hts hE hP hD hS hA (sX_X6_refuseAs_1 NF l dC dI cy x0 x 1 v f hIv ) k_695 k_697 k_7 k_103 k_698 (by decide +kernel) ⟨Nat.le_of_ble_eq_true rfl, Nat.le_of_ble_eq_true rfl⟩ 3 6 rfl rfl (rfl) hl.1 rfl (Nat.le_of_ble_eq_true rfl) dX6_refuse_17 (fun r7 u H locs hw hP hD hS => ?_)
    obtain ⟨hG8, hw⟩ := hw
    obtain ⟨v9, f10⟩ := u
    obtain ⟨kV_v9, kF_f10, hIv9, hk0_v9, hk1_v9, hk9_v9, hk10_v9, hk31_v9, hk32_v9, hw⟩ := hw
    have hM_v9 : KV [7, 8] v9 v := KV.tr kV_v9 hM_v rfl
    have hA_f10 : KF [] f10 f := KF.tr kF_f10 hA_f rfl
    have hP : va_P (dC, dI) vwCl (XW cy x0 x v9 f10) H := hP
    have hD : va_D A (XW cy x0 x v9 f10) := hD
    have hq0_v9 : v9 0 = (v 0) := hk0_v9
    have hq1_v9 : v9 1 = (v 1) := hk1_v9
    have hq9_v9 : v9 9 = (v 9) := hk9_v9
    have hq10_v9 : v9 10 = (v 10) := hk10_v9
    have hq31_v9 : v9 31 = (v 31) := hk31_v9
    have hq32_v9 : v9 32 = (v 32) := hk32_v9
    rcases hw with ⟨g11⟩ | ⟨g11⟩
    · skip
      subst g11
      exact ret 1 (v9, f10) _ _ _ _ _ _ rfl ⟨(gsX_X6_refuse_1_q2 c1 hG8), hM_v9, hA_f10, hIv9, hk0_v9, hk1_v9, hk9_v9, hk10_v9, hk31_v9, hk32_v9, (Or.inl rfl)⟩ hP hD hS dX6_refuse_20 (Nat.le_refl _) (Nat.le_refl _)
    · skip
      subst g11
      exact ret 0 (v9, f10) _ _ _ _ _ _ rfl ⟨(gsX_X6_refuse_1_q3 c1 hG8), hM_v9, hA_f10, hIv9, hk0_v9, hk1_v9, hk9_v9, hk10_v9, hk31_v9, hk32_v9, (Or.inr rfl)⟩ hP hD hS dX6_refuse_20 (Nat.le_refl _) (Nat.le_refl _)
set_option maxHeartbeats 4000000 in
set_option maxRecDepth 100000 in
theorem sX_X6_name_1 (NF : Nat) (l : Launch) (dC : Nat → ClassId) (dI : Nat → Nat → Nat) (cy : Nat → ClassId) (x0 : Nat) (x : Nat → Nat) (p2 : Int32) (v : Nat → Int32) (f : Nat → Nat → Int32) (hIv : XI v)  : ctIS l (dC, dI) cy yX6_name cX6_name 4 .boolean 7 191 0 0 ((Nat → Int32) × (Nat → Nat → Int32)) [.ref (x 2), .ref (x 11), .int p2] (XW cy x0 x v f) (fun r u => gsX_X6_name_1 NF p2 v f = (r, u) ∧ KV [2, 3, 4, 5, 7, 8] u.1 v ∧ KF [7] u.2 f ∧ XI u.1 ∧ u.1 0 = v 0 ∧ u.1 1 = v 1 ∧ u.1 9 = v 9 ∧ u.1 10 = v 10 ∧ u.1 31 = v 31 ∧ u.1 32 = v 32 ∧ ((r = 1) ∨ (r = 0))) (fun u => XW cy x0 x u.1 u.2) := by
  refine ctIS_of (by decide) (Nat.le_of_ble_eq_true rfl) (fun p e s m below meth c A ls Q hx hb hml hts hown hE hF hT hP hD hA hl ret => ?_)
  have hM_v : KV [2, 3, 4, 5, 7, 8] v v := fun _ _ => rfl
  have hA_f : KF [7] f f := fun _ _ => rfl
  have hown : s.vm.findClass RX6 = some m.cls := hown
  have hS : va_S A s.heap s.heap [] := va_S.rf
  have hl : lv_has ls 4 [(0, .ref (x 2)), (1, .ref (x 11)), (2, .int p2)] := hl
  refine lv_aload_n hx hb dX6_name_0 rfl (lv_at hl 0 rfl) ?_
  refine va_get (D := (dC, dI)) (ci := 6) (v := .ref (x 0)) (C := RX6) (T := TX6) (N := 7) hx hb hts inB_6 hown hE.1 hP 3 rfl rfl 0 (by decide) (hts _ k_265) (fun _ h9 => h9) rfl dX6_name_1 ?_
  refine va_getN (D := (dC, dI)) (ci := 9) (v := .int (v 2)) (C := RX9) (T := TX9) (N := 6) hx hb hts inB_9 hown hE.1 hP 1 rfl rfl 2 (by decide) (va_Nw.use rfl (hE.2 _ k_139)) (fun _ h9 => h9) rfl dX6_name_4 ?_
  refine lv_iconst (v := 3) hx hb dX6_name_7 (by decide) ?_
  refine lv_icmp_eq (tgt := 16) hx hb dX6_name_8 (by decide) (fun c1 => ?_) (fun c1 => ?_)
  · skip
    have zc1 : (v 2).toInt = 3 := by rw [fa_eq, show (3 : Int32).toInt = 3 from by decide] at c1; exact c1
    refine lv_iconst (v := 0) hx hb dX6_name_16 (by decide) ?_
    refine lv_istore_n (lv' := [(3, .int 0), (0, .ref (x 2)), (1, .ref (x 11)), (2, .int p2)]) hx hb dX6_name_17 rfl hl (by decide) rfl (fun ls hl => ?_)
    have lp2 : ∀ (n2 : Nat) (l3_2 : Int32) (v2 : Nat → Int32) (f2 : Nat → Nat → Int32), XI v2 → v2 0 = (v 0) → v2 1 = (v 1) → v2 9 = (v 9) → v2 10 = (v 10) → v2 31 = (v 31) → v2 32 = (v 32) → gsX_X6_name_1_L2 NF p2 n2 l3_2 v2 f2 = (gsX_X6_name_1 NF p2 v f) → ((0 : Int) ≤ l3_2.toInt ∧ l3_2.toInt ≤ 2147483647) → KV [2, 3, 4, 5, 7, 8] v2 v → KF [7] f2 f → (2147483647 - l3_2.toInt).toNat < n2 → ∀ (H : Heap) (locs : List Loc) (ls : Array Slot), va_P (dC, dI) vwCl (XW cy x0 x v2 f2) H → va_D A (XW cy x0 x v2 f2) → va_S A s.heap H locs → lv_has ls 4 [(3, .int l3_2), (0, .ref (x 2)), (1, .ref (x 11)), (2, .int p2)] → W p l e { frames := 7, cells := 0, slots := 0, locals := 191 } s m ([.ref (x 2), .ref (x 11), .int p2] : List Value).toArray below meth c H locs 0 0 Q (F0 m 18 ls []) := by
      intro n2
      induction n2 with
      | zero => intro l3_2 v2 f2 hIv2 hq0_v2 hq1_v2 hq9_v2 hq10_v2 hq31_v2 hq32_v2 hT2 hr3_2 hM_v2 hA_f2 hm; exact absurd hm (Nat.not_lt_zero _)
      | succ n2 ih2 =>
        intro l3_2 v2 f2 hIv2 hq0_v2 hq1_v2 hq9_v2 hq10_v2 hq31_v2 hq32_v2 hT2 hr3_2 hM_v2 hA_f2 hm2 H locs ls hP hD hS hl
        refine lv_iload_n hx hb dX6_name_18 rfl (lv_at hl 0 rfl) ?_
        refine lv_iload_n hx hb dX6_name_19 rfl (lv_at hl 3 rfl) ?_
        refine lv_icmp_ge (tgt := 61) hx hb dX6_name_20 (by decide) (fun c3 => ?_) (fun c3 => ?_)
        · skip
          have zc3 : p2.toInt ≤ l3_2.toInt := by rw [fa_le] at c3; exact c3
          have rg4 := fb_rng l3_2
          have rg5 := fb_rng p2
          refine lv_iload_n hx hb dX6_name_61 rfl (lv_at hl 3 rfl) ?_
          refine lv_if_lt (tgt := 81) hx hb dX6_name_62 (by decide) (fun c6 => ?_) (fun c6 => ?_)
          · skip
            have zc6 : p2.toInt < 0 := by rw [fa_lt, show (0 : Int32).toInt = 0 from by decide] at c6; exact c6
            refine lv_aload_n hx hb dX6_name_81 rfl (lv_at hl 1 rfl) ?_
            refine va_get (D := (dC, dI)) (ci := 6) (v := .ref (x 0)) (C := RX6) (T := TX6) (N := 7) hx hb hts inB_6 hown hE.1 hP 3 rfl rfl 0 (by decide) (hts _ k_265) (fun _ h9 => h9) rfl dX6_name_82 ?_
            refine csVv (n := 0) (rest := []) hx hb hml hown hts hE hP hD hS hA hF hT (sX_X9_advance_1 NF l dC dI cy x0 x  v2 f2 hIv2 ) k_699 k_559 k_560 k_102 k_561 (by decide +kernel) ⟨Nat.le_of_ble_eq_true rfl, Nat.le_of_ble_eq_true rfl⟩ 1 9 rfl rfl (rfl) hl.1 rfl (Nat.le_of_ble_eq_true rfl) dX6_name_85 (fun u H locs hw hP hD hS => ?_)
            obtain ⟨hG7, hw⟩ := hw
            obtain ⟨v8, f9⟩ := u
            obtain ⟨kV_v8, kF_f9, hIv8, hk0_v8, hk1_v8, hk7_v8, hk8_v8, hk9_v8, hk10_v8, hk31_v8, hk32_v8⟩ := hw
            have hM_v8 : KV [2, 3, 4, 5, 7, 8] v8 v := KV.tr kV_v8 hM_v2 rfl
            have hA_f9 : KF [7] f9 f := KF.tr kF_f9 hA_f2 rfl
            have hP : va_P (dC, dI) vwCl (XW cy x0 x v8 f9) H := hP
            have hD : va_D A (XW cy x0 x v8 f9) := hD
            have hq0_v8 : v8 0 = (v 0) := hk0_v8.trans hq0_v2
            have hq1_v8 : v8 1 = (v 1) := hk1_v8.trans hq1_v2
            have hq7_v8 : v8 7 = (v2 7) := hk7_v8
            have hq8_v8 : v8 8 = (v2 8) := hk8_v8
            have hq9_v8 : v8 9 = (v 9) := hk9_v8.trans hq9_v2
            have hq10_v8 : v8 10 = (v 10) := hk10_v8.trans hq10_v2
            have hq31_v8 : v8 31 = (v 31) := hk31_v8.trans hq31_v2
            have hq32_v8 : v8 32 = (v 32) := hk32_v8.trans hq32_v2
            refine lv_iconst (v := 1) hx hb dX6_name_88 (by decide) ?_
            exact ret 1 (v8, f9) _ _ _ _ _ _ rfl ⟨(hT2.symm.trans (gsX_X6_name_1_q0 c3 c6 hG7)), hM_v8, hA_f9, hIv8, (hk0_v8.trans (show v2 0 = v 0 from hq0_v2)), (hk1_v8.trans (show v2 1 = v 1 from hq1_v2)), (hk9_v8.trans (show v2 9 = v 9 from hq9_v2)), (hk10_v8.trans (show v2 10 = v 10 from hq10_v2)), (hk31_v8.trans (show v2 31 = v 31 from hq31_v2)), (hk32_v8.trans (show v2 32 = v 32 from hq32_v2)), (Or.inl rfl)⟩ hP hD hS dX6_name_89 (Nat.le_refl _) (Nat.le_refl _)
          · skip
            have zc6 : ¬ (p2.toInt < 0) := by rw [fa_lt, show (0 : Int32).toInt = 0 from by decide] at c6; exact c6
            refine lv_iload_n hx hb dX6_name_65 rfl (lv_at hl 3 rfl) ?_
            refine lv_aload_n hx hb dX6_name_66 rfl (lv_at hl 2 rfl) ?_
            refine va_alen (v := 6) hx hb hE.1 hP 12 1 rfl rfl rfl dX6_name_67 ?_
            refine lv_icmp_ge (tgt := 81) hx hb dX6_name_68 (by decide) (fun c10 => ?_) (fun c10 => ?_)
            · skip
              have zc10 : 6 ≤ p2.toInt := by rw [fa_le, show (6 : Int32).toInt = 6 from by decide] at c10; exact c10
              refine lv_aload_n hx hb dX6_name_81 rfl (lv_at hl 1 rfl) ?_
              refine va_get (D := (dC, dI)) (ci := 6) (v := .ref (x 0)) (C := RX6) (T := TX6) (N := 7) hx hb hts inB_6 hown hE.1 hP 3 rfl rfl 0 (by decide) (hts _ k_265) (fun _ h9 => h9) rfl dX6_name_82 ?_
              refine csVv (n := 0) (rest := []) hx hb hml hown hts hE hP hD hS hA hF hT (sX_X9_advance_1 NF l dC dI cy x0 x  v2 f2 hIv2 ) k_699 k_559 k_560 k_102 k_561 (by decide +kernel) ⟨Nat.le_of_ble_eq_true rfl, Nat.le_of_ble_eq_true rfl⟩ 1 9 rfl rfl (rfl) hl.1 rfl (Nat.le_of_ble_eq_true rfl) dX6_name_85 (fun u H locs hw hP hD hS => ?_)
              obtain ⟨hG11, hw⟩ := hw
              obtain ⟨v12, f13⟩ := u
              obtain ⟨kV_v12, kF_f13, hIv12, hk0_v12, hk1_v12, hk7_v12, hk8_v12, hk9_v12, hk10_v12, hk31_v12, hk32_v12⟩ := hw
              have hM_v12 : KV [2, 3, 4, 5, 7, 8] v12 v := KV.tr kV_v12 hM_v2 rfl
              have hA_f13 : KF [7] f13 f := KF.tr kF_f13 hA_f2 rfl
              have hP : va_P (dC, dI) vwCl (XW cy x0 x v12 f13) H := hP
              have hD : va_D A (XW cy x0 x v12 f13) := hD
              have hq0_v12 : v12 0 = (v 0) := hk0_v12.trans hq0_v2
              have hq1_v12 : v12 1 = (v 1) := hk1_v12.trans hq1_v2
              have hq7_v12 : v12 7 = (v2 7) := hk7_v12
              have hq8_v12 : v12 8 = (v2 8) := hk8_v12
              have hq9_v12 : v12 9 = (v 9) := hk9_v12.trans hq9_v2
              have hq10_v12 : v12 10 = (v 10) := hk10_v12.trans hq10_v2
              have hq31_v12 : v12 31 = (v 31) := hk31_v12.trans hq31_v2
              have hq32_v12 : v12 32 = (v 32) := hk32_v12.trans hq32_v2
              refine lv_iconst (v := 1) hx hb dX6_name_88 (by decide) ?_
              exact ret 1 (v12, f13) _ _ _ _ _ _ rfl ⟨(hT2.symm.trans (gsX_X6_name_1_q1 c3 c6 c10 hG11)), hM_v12, hA_f13, hIv12, (hk0_v12.trans (show v2 0 = v 0 from hq0_v2)), (hk1_v12.trans (show v2 1 = v 1 from hq1_v2)), (hk9_v12.trans (show v2 9 = v 9 from hq9_v2)), (hk10_v12.trans (show v2 10 = v 10 from hq10_v2)), (hk31_v12.trans (show v2 31 = v 31 from hq31_v2)), (hk32_v12.trans (show v2 32 = v 32 from hq32_v2)), (Or.inl rfl)⟩ hP hD hS dX6_name_89 (Nat.le_refl _) (Nat.le_refl _)
            · skip
              have zc10 : ¬ (6 ≤ p2.toInt) := by rw [fa_le, show (6 : Int32).toInt = 6 from by decide] at c10; exact c10
              refine lv_aload_n hx hb dX6_name_71 rfl (lv_at hl 2 rfl) ?_
              refine lv_iload_n hx hb dX6_name_72 rfl (lv_at hl 3 rfl) ?_
              refine lv_aload_n hx hb dX6_name_73 rfl (lv_at hl 1 rfl) ?_
              refine va_get (D := (dC, dI)) (ci := 6) (v := .ref (x 0)) (C := RX6) (T := TX6) (N := 7) hx hb hts inB_6 hown hE.1 hP 3 rfl rfl 0 (by decide) (hts _ k_265) (fun _ h9 => h9) rfl dX6_name_74 ?_
              refine va_getN (D := (dC, dI)) (ci := 9) (v := .int (v2 3)) (C := RX9) (T := TX9) (N := 6) hx hb hts inB_9 hown hE.1 hP 1 rfl rfl 3 (by decide) (va_Nw.use rfl (hE.2 _ k_142)) (fun _ h9 => h9) rfl dX6_name_77 ?_
              have b3_v2 : 0 ≤ (v2 3).toInt ∧ (v2 3).toInt ≤ 1600 := XI.b hIv2 3 (by decide)
              refine stI hx hb hE hP hD hS 12 rfl (vp_in_iff.mpr ⟨by omega, by omega⟩) rfl dX6_name_80 (fun H locs hP hD hS => ?_)
              obtain ⟨f14, ef14, hP, hD⟩ : ∃ fz9, fz9 = upd2 f2 7 (upd (f2 7) p2.toNatClampNeg (v2 3)) ∧ va_P (dC, dI) vwCl (XW cy x0 x v2 fz9) H ∧ va_D A (XW cy x0 x v2 fz9) := ⟨_, rfl, hP, hD⟩
              have hA_f14 : KF [7] f14 f := by rw [ef14]; exact KF.up hA_f2 rfl
              refine lv_aload_n hx hb dX6_name_81 rfl (lv_at hl 1 rfl) ?_
              refine va_get (D := (dC, dI)) (ci := 6) (v := .ref (x 0)) (C := RX6) (T := TX6) (N := 7) hx hb hts inB_6 hown hE.1 hP 3 rfl rfl 0 (by decide) (hts _ k_265) (fun _ h9 => h9) rfl dX6_name_82 ?_
              refine csVv (n := 0) (rest := []) hx hb hml hown hts hE hP hD hS hA hF hT (sX_X9_advance_1 NF l dC dI cy x0 x  v2 f14 hIv2 ) k_699 k_559 k_560 k_102 k_561 (by decide +kernel) ⟨Nat.le_of_ble_eq_true rfl, Nat.le_of_ble_eq_true rfl⟩ 1 9 rfl rfl (rfl) hl.1 rfl (Nat.le_of_ble_eq_true rfl) dX6_name_85 (fun u H locs hw hP hD hS => ?_)
              obtain ⟨hG15, hw⟩ := hw
              obtain ⟨v16, f17⟩ := u
              obtain ⟨kV_v16, kF_f17, hIv16, hk0_v16, hk1_v16, hk7_v16, hk8_v16, hk9_v16, hk10_v16, hk31_v16, hk32_v16⟩ := hw
              have hM_v16 : KV [2, 3, 4, 5, 7, 8] v16 v := KV.tr kV_v16 hM_v2 rfl
              have hA_f17 : KF [7] f17 f := KF.tr kF_f17 hA_f14 rfl
              have hP : va_P (dC, dI) vwCl (XW cy x0 x v16 f17) H := hP
              have hD : va_D A (XW cy x0 x v16 f17) := hD
              have hq0_v16 : v16 0 = (v 0) := hk0_v16.trans hq0_v2
              have hq1_v16 : v16 1 = (v 1) := hk1_v16.trans hq1_v2
              have hq7_v16 : v16 7 = (v2 7) := hk7_v16
              have hq8_v16 : v16 8 = (v2 8) := hk8_v16
              have hq9_v16 : v16 9 = (v 9) := hk9_v16.trans hq9_v2
              have hq10_v16 : v16 10 = (v 10) := hk10_v16.trans hq10_v2
              have hq31_v16 : v16 31 = (v 31) := hk31_v16.trans hq31_v2
              have hq32_v16 : v16 32 = (v 32) := hk32_v16.trans hq32_v2
              refine lv_iconst (v := 1) hx hb dX6_name_88 (by decide) ?_
              exact ret 1 (v16, f17) _ _ _ _ _ _ rfl ⟨(hT2.symm.trans (gsX_X6_name_1_q2 c3 c6 c10 ef14 hG15)), hM_v16, hA_f17, hIv16, (hk0_v16.trans (show v2 0 = v 0 from hq0_v2)), (hk1_v16.trans (show v2 1 = v 1 from hq1_v2)), (hk9_v16.trans (show v2 9 = v 9 from hq9_v2)), (hk10_v16.trans (show v2 10 = v 10 from hq10_v2)), (hk31_v16.trans (show v2 31 = v 31 from hq31_v2)), (hk32_v16.trans (show v2 32 = v 32 from hq32_v2)), (Or.inl rfl)⟩ hP hD hS dX6_name_89 (Nat.le_refl _) (Nat.le_refl _)
        · skip
          have zc3 : ¬ (p2.toInt ≤ l3_2.toInt) := by rw [fa_le] at c3; exact c3
          have rg18 := fb_rng l3_2
          have rg19 := fb_rng p2
          refine lv_iload_n hx hb dX6_name_23 rfl (lv_at hl 0 rfl) ?_
          refine lv_aload_n hx hb dX6_name_24 rfl (lv_at hl 2 rfl) ?_
          refine va_alen (v := 6) hx hb hE.1 hP 12 1 rfl rfl rfl dX6_name_25 ?_
          refine lv_icmp_ge (tgt := 61) hx hb dX6_name_26 (by decide) (fun c20 => ?_) (fun c20 => ?_)
          · skip
            have zc20 : 6 ≤ l3_2.toInt := by rw [fa_le, show (6 : Int32).toInt = 6 from by decide] at c20; exact c20
            refine lv_iload_n hx hb dX6_name_61 rfl (lv_at hl 3 rfl) ?_
            refine lv_if_lt (tgt := 81) hx hb dX6_name_62 (by decide) (fun c21 => ?_) (fun c21 => ?_)
            · skip
              have zc21 : p2.toInt < 0 := by rw [fa_lt, show (0 : Int32).toInt = 0 from by decide] at c21; exact c21
              refine lv_aload_n hx hb dX6_name_81 rfl (lv_at hl 1 rfl) ?_
              refine va_get (D := (dC, dI)) (ci := 6) (v := .ref (x 0)) (C := RX6) (T := TX6) (N := 7) hx hb hts inB_6 hown hE.1 hP 3 rfl rfl 0 (by decide) (hts _ k_265) (fun _ h9 => h9) rfl dX6_name_82 ?_
              refine csVv (n := 0) (rest := []) hx hb hml hown hts hE hP hD hS hA hF hT (sX_X9_advance_1 NF l dC dI cy x0 x  v2 f2 hIv2 ) k_699 k_559 k_560 k_102 k_561 (by decide +kernel) ⟨Nat.le_of_ble_eq_true rfl, Nat.le_of_ble_eq_true rfl⟩ 1 9 rfl rfl (rfl) hl.1 rfl (Nat.le_of_ble_eq_true rfl) dX6_name_85 (fun u H locs hw hP hD hS => ?_)
              obtain ⟨hG22, hw⟩ := hw
              obtain ⟨v23, f24⟩ := u
              obtain ⟨kV_v23, kF_f24, hIv23, hk0_v23, hk1_v23, hk7_v23, hk8_v23, hk9_v23, hk10_v23, hk31_v23, hk32_v23⟩ := hw
              have hM_v23 : KV [2, 3, 4, 5, 7, 8] v23 v := KV.tr kV_v23 hM_v2 rfl
              have hA_f24 : KF [7] f24 f := KF.tr kF_f24 hA_f2 rfl
              have hP : va_P (dC, dI) vwCl (XW cy x0 x v23 f24) H := hP
              have hD : va_D A (XW cy x0 x v23 f24) := hD
              have hq0_v23 : v23 0 = (v 0) := hk0_v23.trans hq0_v2
              have hq1_v23 : v23 1 = (v 1) := hk1_v23.trans hq1_v2
              have hq7_v23 : v23 7 = (v2 7) := hk7_v23
              have hq8_v23 : v23 8 = (v2 8) := hk8_v23
              have hq9_v23 : v23 9 = (v 9) := hk9_v23.trans hq9_v2
              have hq10_v23 : v23 10 = (v 10) := hk10_v23.trans hq10_v2
              have hq31_v23 : v23 31 = (v 31) := hk31_v23.trans hq31_v2
              have hq32_v23 : v23 32 = (v 32) := hk32_v23.trans hq32_v2
              refine lv_iconst (v := 1) hx hb dX6_name_88 (by decide) ?_
              exact ret 1 (v23, f24) _ _ _ _ _ _ rfl ⟨(hT2.symm.trans (gsX_X6_name_1_q3 c3 c20 c21 hG22)), hM_v23, hA_f24, hIv23, (hk0_v23.trans (show v2 0 = v 0 from hq0_v2)), (hk1_v23.trans (show v2 1 = v 1 from hq1_v2)), (hk9_v23.trans (show v2 9 = v 9 from hq9_v2)), (hk10_v23.trans (show v2 10 = v 10 from hq10_v2)), (hk31_v23.trans (show v2 31 = v 31 from hq31_v2)), (hk32_v23.trans (show v2 32 = v 32 from hq32_v2)), (Or.inl rfl)⟩ hP hD hS dX6_name_89 (Nat.le_refl _) (Nat.le_refl _)
            · skip
              have zc21 : ¬ (p2.toInt < 0) := by rw [fa_lt, show (0 : Int32).toInt = 0 from by decide] at c21; exact c21
              refine lv_iload_n hx hb dX6_name_65 rfl (lv_at hl 3 rfl) ?_
              refine lv_aload_n hx hb dX6_name_66 rfl (lv_at hl 2 rfl) ?_
              refine va_alen (v := 6) hx hb hE.1 hP 12 1 rfl rfl rfl dX6_name_67 ?_
              refine lv_icmp_ge (tgt := 81) hx hb dX6_name_68 (by decide) (fun c25 => ?_) (fun c25 => ?_)
              · skip
                have zc25 : 6 ≤ p2.toInt := by rw [fa_le, show (6 : Int32).toInt = 6 from by decide] at c25; exact c25
                refine lv_aload_n hx hb dX6_name_81 rfl (lv_at hl 1 rfl) ?_
                refine va_get (D := (dC, dI)) (ci := 6) (v := .ref (x 0)) (C := RX6) (T := TX6) (N := 7) hx hb hts inB_6 hown hE.1 hP 3 rfl rfl 0 (by decide) (hts _ k_265) (fun _ h9 => h9) rfl dX6_name_82 ?_
                refine csVv (n := 0) (rest := []) hx hb hml hown hts hE hP hD hS hA hF hT (sX_X9_advance_1 NF l dC dI cy x0 x  v2 f2 hIv2 ) k_699 k_559 k_560 k_102 k_561 (by decide +kernel) ⟨Nat.le_of_ble_eq_true rfl, Nat.le_of_ble_eq_true rfl⟩ 1 9 rfl rfl (rfl) hl.1 rfl (Nat.le_of_ble_eq_true rfl) dX6_name_85 (fun u H locs hw hP hD hS => ?_)
                obtain ⟨hG26, hw⟩ := hw
                obtain ⟨v27, f28⟩ := u
                obtain ⟨kV_v27, kF_f28, hIv27, hk0_v27, hk1_v27, hk7_v27, hk8_v27, hk9_v27, hk10_v27, hk31_v27, hk32_v27⟩ := hw
                have hM_v27 : KV [2, 3, 4, 5, 7, 8] v27 v := KV.tr kV_v27 hM_v2 rfl
                have hA_f28 : KF [7] f28 f := KF.tr kF_f28 hA_f2 rfl
                have hP : va_P (dC, dI) vwCl (XW cy x0 x v27 f28) H := hP
                have hD : va_D A (XW cy x0 x v27 f28) := hD
                have hq0_v27 : v27 0 = (v 0) := hk0_v27.trans hq0_v2
                have hq1_v27 : v27 1 = (v 1) := hk1_v27.trans hq1_v2
                have hq7_v27 : v27 7 = (v2 7) := hk7_v27
                have hq8_v27 : v27 8 = (v2 8) := hk8_v27
                have hq9_v27 : v27 9 = (v 9) := hk9_v27.trans hq9_v2
                have hq10_v27 : v27 10 = (v 10) := hk10_v27.trans hq10_v2
                have hq31_v27 : v27 31 = (v 31) := hk31_v27.trans hq31_v2
                have hq32_v27 : v27 32 = (v 32) := hk32_v27.trans hq32_v2
                refine lv_iconst (v := 1) hx hb dX6_name_88 (by decide) ?_
                exact ret 1 (v27, f28) _ _ _ _ _ _ rfl ⟨(hT2.symm.trans (gsX_X6_name_1_q4 c3 c20 c21 c25 hG26)), hM_v27, hA_f28, hIv27, (hk0_v27.trans (show v2 0 = v 0 from hq0_v2)), (hk1_v27.trans (show v2 1 = v 1 from hq1_v2)), (hk9_v27.trans (show v2 9 = v 9 from hq9_v2)), (hk10_v27.trans (show v2 10 = v 10 from hq10_v2)), (hk31_v27.trans (show v2 31 = v 31 from hq31_v2)), (hk32_v27.trans (show v2 32 = v 32 from hq32_v2)), (Or.inl rfl)⟩ hP hD hS dX6_name_89 (Nat.le_refl _) (Nat.le_refl _)
              · skip
                have zc25 : ¬ (6 ≤ p2.toInt) := by rw [fa_le, show (6 : Int32).toInt = 6 from by decide] at c25; exact c25
                refine lv_aload_n hx hb dX6_name_71 rfl (lv_at hl 2 rfl) ?_
                refine lv_iload_n hx hb dX6_name_72 rfl (lv_at hl 3 rfl) ?_
                refine lv_aload_n hx hb dX6_name_73 rfl (lv_at hl 1 rfl) ?_
                refine va_get (D := (dC, dI)) (ci := 6) (v := .ref (x 0)) (C := RX6) (T := TX6) (N := 7) hx hb hts inB_6 hown hE.1 hP 3 rfl rfl 0 (by decide) (hts _ k_265) (fun _ h9 => h9) rfl dX6_name_74 ?_
                refine va_getN (D := (dC, dI)) (ci := 9) (v := .int (v2 3)) (C := RX9) (T := TX9) (N := 6) hx hb hts inB_9 hown hE.1 hP 1 rfl rfl 3 (by decide) (va_Nw.use rfl (hE.2 _ k_142)) (fun _ h9 => h9) rfl dX6_name_77 ?_
                have b3_v2 : 0 ≤ (v2 3).toInt ∧ (v2 3).toInt ≤ 1600 := XI.b hIv2 3 (by decide)
                refine stI hx hb hE hP hD hS 12 rfl (vp_in_iff.mpr ⟨by omega, by omega⟩) rfl dX6_name_80 (fun H locs hP hD hS => ?_)
                obtain ⟨f29, ef29, hP, hD⟩ : ∃ fz9, fz9 = upd2 f2 7 (upd (f2 7) p2.toNatClampNeg (v2 3)) ∧ va_P (dC, dI) vwCl (XW cy x0 x v2 fz9) H ∧ va_D A (XW cy x0 x v2 fz9) := ⟨_, rfl, hP, hD⟩
                have hA_f29 : KF [7] f29 f := by rw [ef29]; exact KF.up hA_f2 rfl
                refine lv_aload_n hx hb dX6_name_81 rfl (lv_at hl 1 rfl) ?_
                refine va_get (D := (dC, dI)) (ci := 6) (v := .ref (x 0)) (C := RX6) (T := TX6) (N := 7) hx hb hts inB_6 hown hE.1 hP 3 rfl rfl 0 (by decide) (hts _ k_265) (fun _ h9 => h9) rfl dX6_name_82 ?_
                refine csVv (n := 0) (rest := []) hx hb hml hown hts hE hP hD hS hA hF hT (sX_X9_advance_1 NF l dC dI cy x0 x  v2 f29 hIv2 ) k_699 k_559 k_560 k_102 k_561 (by decide +kernel) ⟨Nat.le_of_ble_eq_true rfl, Nat.le_of_ble_eq_true rfl⟩ 1 9 rfl rfl (rfl) hl.1 rfl (Nat.le_of_ble_eq_true rfl) dX6_name_85 (fun u H locs hw hP hD hS => ?_)
                obtain ⟨hG30, hw⟩ := hw
                obtain ⟨v31, f32⟩ := u
                obtain ⟨kV_v31, kF_f32, hIv31, hk0_v31, hk1_v31, hk7_v31, hk8_v31, hk9_v31, hk10_v31, hk31_v31, hk32_v31⟩ := hw
                have hM_v31 : KV [2, 3, 4, 5, 7, 8] v31 v := KV.tr kV_v31 hM_v2 rfl
                have hA_f32 : KF [7] f32 f := KF.tr kF_f32 hA_f29 rfl
                have hP : va_P (dC, dI) vwCl (XW cy x0 x v31 f32) H := hP
                have hD : va_D A (XW cy x0 x v31 f32) := hD
                have hq0_v31 : v31 0 = (v 0) := hk0_v31.trans hq0_v2
                have hq1_v31 : v31 1 = (v 1) := hk1_v31.trans hq1_v2
                have hq7_v31 : v31 7 = (v2 7) := hk7_v31
                have hq8_v31 : v31 8 = (v2 8) := hk8_v31
                have hq9_v31 : v31 9 = (v 9) := hk9_v31.trans hq9_v2
                have hq10_v31 : v31 10 = (v 10) := hk10_v31.trans hq10_v2
                have hq31_v31 : v31 31 = (v 31) := hk31_v31.trans hq31_v2
                have hq32_v31 : v31 32 = (v 32) := hk32_v31.trans hq32_v2
                refine lv_iconst (v := 1) hx hb dX6_name_88 (by decide) ?_
                exact ret 1 (v31, f32) _ _ _ _ _ _ rfl ⟨(hT2.symm.trans (gsX_X6_name_1_q5 c3 c20 c21 c25 ef29 hG30)), hM_v31, hA_f32, hIv31, (hk0_v31.trans (show v2 0 = v 0 from hq0_v2)), (hk1_v31.trans (show v2 1 = v 1 from hq1_v2)), (hk9_v31.trans (show v2 9 = v 9 from hq9_v2)), (hk10_v31.trans (show v2 10 = v 10 from hq10_v2)), (hk31_v31.trans (show v2 31 = v 31 from hq31_v2)), (hk32_v31.trans (show v2 32 = v 32 from hq32_v2)), (Or.inl rfl)⟩ hP hD hS dX6_name_89 (Nat.le_refl _) (Nat.le_refl _)
          · skip
            have zc20 : ¬ (6 ≤ l3_2.toInt) := by rw [fa_le, show (6 : Int32).toInt = 6 from by decide] at c20; exact c20
            refine lv_aload_n hx hb dX6_name_29 rfl (lv_at hl 1 rfl) ?_
            refine va_get (D := (dC, dI)) (ci := 6) (v := .ref (x 0)) (C := RX6) (T := TX6) (N := 7) hx hb hts inB_6 hown hE.1 hP 3 rfl rfl 0 (by decide) (hts _ k_265) (fun _ h9 => h9) rfl dX6_name_30 ?_
            refine lv_aload_n hx hb dX6_name_33 rfl (lv_at hl 2 rfl) ?_
            refine lv_iload_n hx hb dX6_name_34 rfl (lv_at hl 0 rfl) ?_
            refine ldI hx hb hE hP 12 rfl (vp_in_iff.mpr ⟨by omega, by omega⟩) rfl rfl dX6_name_35 ?_
            refine lv_topi (fun t33 et33 => ?_)
            refine lv_aload_n hx hb dX6_name_36 rfl (lv_at hl 1 rfl) ?_
            refine va_get (D := (dC, dI)) (ci := 6) (v := .ref (x 0)) (C := RX6) (T := TX6) (N := 7) hx hb hts inB_6 hown hE.1 hP 3 rfl rfl 0 (by decide) (hts _ k_265) (fun _ h9 => h9) rfl dX6_name_37 ?_
            refine va_getN (D := (dC, dI)) (ci := 9) (v := .int (v2 3)) (C := RX9) (T := TX9) (N := 6) hx hb hts inB_9 hown hE.1 hP 1 rfl rfl 3 (by decide) (va_Nw.use rfl (hE.2 _ k_142)) (fun _ h9 => h9) rfl dX6_name_40 ?_
            have b3_v2 : 0 ≤ (v2 3).toInt ∧ (v2 3).toInt ≤ 1600 := XI.b hIv2 3 (by decide)
            refine cbVi (n := 2) (rest := []) hx hb hml hown hts hE hP hD hS hA (sX_X9_sameWord_1 NF l dC dI cy x0 x t33 (v2 3) v2 f2 hIv2 ) k_704 k_705 k_706 k_102 k_707 (by decide +kernel) ⟨Nat.le_of_ble_eq_true rfl, Nat.le_of_ble_eq_true rfl⟩ 1 9 rfl rfl (rfl) hl.1 rfl (Nat.le_of_ble_eq_true rfl) dX6_name_43 (fun r34 u H locs hw hP hD hS => ?_)
            obtain ⟨hG35, hw⟩ := hw
            rcases hw with ⟨g36⟩ | ⟨g36⟩
            · skip
              subst g36
              refine lv_if_eq (tgt := 55) hx hb dX6_name_46 (by decide) (fun c0 => absurd c0 (by decide)) (fun _ => ?_)
              refine lv_aload_n hx hb dX6_name_49 rfl (lv_at hl 1 rfl) ?_
              refine lv_iconst (v := 3) hx hb dX6_name_50 (by decide) ?_
              refine cbVi (n := 1) (rest := []) hx hb hml hown hts hE hP hD hS hA (sX_X6_refuseAs_1 NF l dC dI cy x0 x 3 v2 f2 hIv2 ) k_695 k_697 k_7 k_103 k_698 (by decide +kernel) ⟨Nat.le_of_ble_eq_true rfl, Nat.le_of_ble_eq_true rfl⟩ 3 6 rfl rfl (rfl) hl.1 rfl (Nat.le_of_ble_eq_true rfl) dX6_name_51 (fun r37 u H locs hw hP hD hS => ?_)
              obtain ⟨hG38, hw⟩ := hw
              obtain ⟨v39, f40⟩ := u
              obtain ⟨kV_v39, kF_f40, hIv39, hk0_v39, hk1_v39, hk9_v39, hk10_v39, hk31_v39, hk32_v39, hw⟩ := hw
              have hM_v39 : KV [2, 3, 4, 5, 7, 8] v39 v := KV.tr kV_v39 hM_v2 rfl
              have hA_f40 : KF [7] f40 f := KF.tr kF_f40 hA_f2 rfl
              have hP : va_P (dC, dI) vwCl (XW cy x0 x v39 f40) H := hP
              have hD : va_D A (XW cy x0 x v39 f40) := hD
              have hq0_v39 : v39 0 = (v 0) := hk0_v39.trans hq0_v2
              have hq1_v39 : v39 1 = (v 1) := hk1_v39.trans hq1_v2
              have hq9_v39 : v39 9 = (v 9) := hk9_v39.trans hq9_v2
              have hq10_v39 : v39 10 = (v 10) := hk10_v39.trans hq10_v2
              have hq31_v39 : v39 31 = (v 31) := hk31_v39.trans hq31_v2
              have hq32_v39 : v39 32 = (v 32) := hk32_v39.trans hq32_v2
              rcases hw with ⟨g41⟩ | ⟨g41⟩
              · skip
                subst g41
                exact ret 1 (v39, f40) _ _ _ _ _ _ rfl ⟨(hT2.symm.trans (gsX_X6_name_1_q6 c3 c20 et33 hG35 hG38)), hM_v39, hA_f40, hIv39, (hk0_v39.trans (show v2 0 = v 0 from hq0_v2)), (hk1_v39.trans (show v2 1 = v 1 from hq1_v2)), (hk9_v39.trans (show v2 9 = v 9 from hq9_v2)), (hk10_v39.trans (show v2 10 = v 10 from hq10_v2)), (hk31_v39.trans (show v2 31 = v 31 from hq31_v2)), (hk32_v39.trans (show v2 32 = v 32 from hq32_v2)), (Or.inl rfl)⟩ hP hD hS dX6_name_54 (Nat.le_refl _) (Nat.le_refl _)
              · skip
                subst g41
                exact ret 0 (v39, f40) _ _ _ _ _ _ rfl ⟨(hT2.symm.trans (gsX_X6_name_1_q7 c3 c20 et33 hG35 hG38)), hM_v39, hA_f40, hIv39, (hk0_v39.trans (show v2 0 = v 0 from hq0_v2)), (hk1_v39.trans (show v2 1 = v 1 from hq1_v2)), (hk9_v39.trans (show v2 9 = v 9 from hq9_v2)), (hk10_v39.trans (show v2 10 = v 10 from hq10_v2)), (hk31_v39.trans (show v2 31 = v 31 from hq31_v2)), (hk32_v39.trans (show v2 32 = v 32 from hq32_v2)), (Or.inr rfl)⟩ hP hD hS dX6_name_54 (Nat.le_refl _) (Nat.le_refl _)
            · skip
              subst g36
              refine lv_if_eq (tgt := 55) hx hb dX6_name_46 (by decide) (fun _ => ?_) (fun c0 => absurd (by decide) c0)
              obtain ⟨t42, et42⟩ : ∃ y : Int32, y = l3_2 + 1 := ⟨_, rfl⟩
              have zt42 : t42.toInt = l3_2.toInt + 1 := by rw [et42]; exact add_i rfl (by decide) (by omega) (by omega)
              refine lv_iinc (v := t42) (lv' := [(3, .int t42), (0, .ref (x 2)), (1, .ref (x 11)), (2, .int p2)]) hx hb dX6_name_55 hl (k := 0) rfl (by rw [et42]; rfl) (by decide) rfl (fun ls hl => ?_)
              refine lv_goto (tgt := 18) hx hb dX6_name_58 (by decide) ?_
              have rg43 := fb_rng t42
              exact ih2 t42 v2 f2 hIv2 hq0_v2 hq1_v2 hq9_v2 hq10_v2 hq31_v2 hq32_v2 ((gsX_X6_name_1_q8 c3 c20 et33 hG35 et42).symm.trans hT2) ⟨show (0 : Int) ≤ t42.toInt by omega, show t42.toInt ≤ (2147483647 : Int) by omega⟩ hM_v2 hA_f2 (by show (2147483647 - t42.toInt).toNat < n2; omega) _ _ _ hP hD hS (lv_sub hl [0, 1, 2, 3] rfl)
    exact lp2 (4294967296 + NF) 0 v f hIv rfl rfl rfl rfl rfl rfl (gsX_X6_name_1_q9 c1).symm ⟨by decide, by decide⟩ hM_v hA_f (by have q3 : (0 : Int32).toInt = 0 := (by decide); show (2147483647 - (0 : Int32).toInt).toNat < 4294967296 + NF; omega) _ _ _ hP hD hS (lv_sub hl [0, 1, 2, 3] rfl)
  · skip
    have zc1 : ¬ ((v 2).toInt = 3) := by rw [fa_eq, show (3 : Int32).toInt = 3 from by decide] at c1; exact c1
    refine lv_aload_n hx hb dX6_name_11 rfl (lv_at hl 0 rfl) ?_
    refine cbVi (n := 0) (rest := []) hx hb hml hown hts hE hP hD hS hA (sX_X6_refuse_1 NF l dC dI cy x0 x  v f hIv ) k_691 k_693 k_6 k_103 k_694 (by decide +kernel) ⟨Nat.le_of_ble_eq_true rfl, Nat.le_of_ble_eq_true rfl⟩ 3 6 rfl rfl (rfl) hl.1 rfl (Nat.le_of_ble_eq_true rfl) dX6_name_12 (fun r44 u H locs hw hP hD hS => ?_)
    obtain ⟨hG45, hw⟩ := hw
    obtain ⟨v46, f47⟩ := u
    obtain ⟨kV_v46, kF_f47, hIv46, hk0_v46, hk1_v46, hk9_v46, hk10_v46, hk31_v46, hk32_v46, hw⟩ := hw
    have hM_v46 : KV [2, 3, 4, 5, 7, 8] v46 v := KV.tr kV_v46 hM_v rfl
    have hA_f47 : KF [7] f47 f := KF.tr kF_f47 hA_f rfl
    have hP : va_P (dC, dI) vwCl (XW cy x0 x v46 f47) H := hP
    have hD : va_D A (XW cy x0 x v46 f47) := hD
    have hq0_v46 : v46 0 = (v 0) := hk0_v46
    have hq1_v46 : v46 1 = (v 1) := hk1_v46
    have hq9_v46 : v46 9 = (v 9) := hk9_v46
    have hq10_v46 : v46 10 = (v 10) := hk10_v46
    have hq31_v46 : v46 31 = (v 31) := hk31_v46
    have hq32_v46 : v46 32 = (v 32) := hk32_v46
    rcases hw with ⟨g48⟩ | ⟨g48⟩
    · skip
      subst g48
      exact ret 1 (v46, f47) _ _ _ _ _ _ rfl ⟨(gsX_X6_name_1_q10 c1 hG45), hM_v46, hA_f47, hIv46, hk0_v46, hk1_v46, hk9_v46, hk10_v46, hk31_v46, hk32_v46, (Or.inl rfl)⟩ hP hD hS dX6_name_15 (Nat.le_refl _) (Nat.le_refl _)
    · skip
      subst g48
      exact ret 0 (v46, f47) _ _ _ _ _ _ rfl ⟨(gsX_X6_name_1_q11 c1 hG45), hM_v46, hA_f47, hIv46, hk0_v46, hk1_v46, hk9_v46, hk10_v46, hk31_v46, hk32_v46, (Or.inr rfl)⟩ hP hD hS dX6_name_15 (Nat.le_refl _) (Nat.le_refl _)
set_option maxHeartbeats 4000000 in
set_option maxRecDepth 100000 in
theorem sX_X6_numbered_1 (NF : Nat) (l : Launch) (dC : Nat → ClassId) (dI : Nat → Nat → Nat) (cy : Nat → ClassId) (x0 : Nat) (x : Nat → Nat) (p1 : Int32) (v : Nat → Int32) (f : Nat → Nat → Int32) (hIv : XI v)  : ctIS l (dC, dI) cy yX6_numbered cX6_numbered 3 .int 7 191 0 0 ((Nat → Int32) × (Nat → Nat → Int32)) [.ref (x 2), .int p1] (XW cy x0 x v f) (fun r u => gsX_X6_numbered_1 NF p1 v f = (r, u) ∧ KV [2, 3, 4, 5, 7, 8] u.1 v ∧ KF [] u.2 f ∧ XI u.1 ∧ u.1 0 = v 0 ∧ u.1 1 = v 1 ∧ u.1 9 = v 9 ∧ u.1 10 = v 10 ∧ u.1 31 = v 31 ∧ u.1 32 = v 32) (fun u => XW cy x0 x u.1 u.2) := by
  refine ctIS_of (by decide) (Nat.le_of_ble_eq_true rfl) (fun p e s m below meth c A ls Q hx hb hml hts hown hE hF hT hP hD hA hl ret => ?_)
  have hM_v : KV [2, 3, 4, 5, 7, 8] v v := fun _ _ => rfl
  have hA_f : KF [] f f := fun _ _ => rfl
  have hown : s.vm.findClass RX6 = some m.cls := hown
  have hS : va_S A s.heap s.heap [] := va_S.rf
  have hl : lv_has ls 3 [(0, .ref (x 2)), (1, .int p1)] := hl
  refine lv_aload_n hx hb dX6_numbered_0 rfl (lv_at hl 0 rfl) ?_
  refine va_get (D := (dC, dI)) (ci := 6) (v := .ref (x 0)) (C := RX6) (T := TX6) (N := 7) hx hb hts inB_6 hown hE.1 hP 3 rfl rfl 0 (by decide) (hts _ k_265) (fun _ h9 => h9) rfl dX6_numbered_1 ?_
  refine va_getN (D := (dC, dI)) (ci := 9) (v := .int (v 5)) (C := RX9) (T := TX9) (N := 6) hx hb hts inB_9 hown hE.1 hP 1 rfl rfl 5 (by decide) (va_Nw.use rfl (hE.2 _ k_145)) (fun _ h9 => h9) rfl dX6_numbered_4 ?_
  refine lv_istore_n (lv' := [(2, .int (v 5)), (0, .ref (x 2)), (1, .int p1)]) hx hb dX6_numbered_7 rfl hl (by decide) rfl (fun ls hl => ?_)
  refine lv_aload_n hx hb dX6_numbered_8 rfl (lv_at hl 1 rfl) ?_
  refine va_get (D := (dC, dI)) (ci := 6) (v := .ref (x 0)) (C := RX6) (T := TX6) (N := 7) hx hb hts inB_6 hown hE.1 hP 3 rfl rfl 0 (by decide) (hts _ k_265) (fun _ h9 => h9) rfl dX6_numbered_9 ?_
  refine va_getN (D := (dC, dI)) (ci := 9) (v := .int (v 2)) (C := RX9) (T := TX9) (N := 6) hx hb hts inB_9 hown hE.1 hP 1 rfl rfl 2 (by decide) (va_Nw.use rfl (hE.2 _ k_139)) (fun _ h9 => h9) rfl dX6_numbered_12 ?_
  refine lv_iconst (v := 2) hx hb dX6_numbered_15 (by decide) ?_
  refine lv_icmp_eq (tgt := 26) hx hb dX6_numbered_16 (by decide) (fun c1 => ?_) (fun c1 => ?_)
  · skip
    have zc1 : (v 2).toInt = 2 := by rw [fa_eq, show (2 : Int32).toInt = 2 from by decide] at c1; exact c1
    refine lv_iload_n hx hb dX6_numbered_26 rfl (lv_at hl 0 rfl) ?_
    refine lv_iload_n hx hb dX6_numbered_27 rfl (lv_at hl 2 rfl) ?_
    refine lv_icmp_le (tgt := 39) hx hb dX6_numbered_28 (by decide) (fun c2 => ?_) (fun c2 => ?_)
    · skip
      have zc2 : (v 5).toInt ≤ p1.toInt := by rw [fa_le] at c2; exact c2
      have rg3 := fb_rng (v 5)
      have rg4 := fb_rng p1
      refine lv_aload_n hx hb dX6_numbered_39 rfl (lv_at hl 1 rfl) ?_
      refine va_get (D := (dC, dI)) (ci := 6) (v := .ref (x 0)) (C := RX6) (T := TX6) (N := 7) hx hb hts inB_6 hown hE.1 hP 3 rfl rfl 0 (by decide) (hts _ k_265) (fun _ h9 => h9) rfl dX6_numbered_40 ?_
      refine csVv (n := 0) (rest := []) hx hb hml hown hts hE hP hD hS hA hF hT (sX_X9_advance_1 NF l dC dI cy x0 x  v f hIv ) k_699 k_559 k_560 k_102 k_561 (by decide +kernel) ⟨Nat.le_of_ble_eq_true rfl, Nat.le_of_ble_eq_true rfl⟩ 1 9 rfl rfl (rfl) hl.1 rfl (Nat.le_of_ble_eq_true rfl) dX6_numbered_43 (fun u H locs hw hP hD hS => ?_)
      obtain ⟨hG5, hw⟩ := hw
      obtain ⟨v6, f7⟩ := u
      obtain ⟨kV_v6, kF_f7, hIv6, hk0_v6, hk1_v6, hk7_v6, hk8_v6, hk9_v6, hk10_v6, hk31_v6, hk32_v6⟩ := hw
      have hM_v6 : KV [2, 3, 4, 5, 7, 8] v6 v := KV.tr kV_v6 hM_v rfl
      have hA_f7 : KF [] f7 f := KF.tr kF_f7 hA_f rfl
      have hP : va_P (dC, dI) vwCl (XW cy x0 x v6 f7) H := hP
      have hD : va_D A (XW cy x0 x v6 f7) := hD
      have hq0_v6 : v6 0 = (v 0) := hk0_v6
      have hq1_v6 : v6 1 = (v 1) := hk1_v6
      have hq7_v6 : v6 7 = (v 7) := hk7_v6
      have hq8_v6 : v6 8 = (v 8) := hk8_v6
      have hq9_v6 : v6 9 = (v 9) := hk9_v6
      have hq10_v6 : v6 10 = (v 10) := hk10_v6
      have hq31_v6 : v6 31 = (v 31) := hk31_v6
      have hq32_v6 : v6 32 = (v 32) := hk32_v6
      refine lv_iload_n hx hb dX6_numbered_46 rfl (lv_at hl 0 rfl) ?_
      exact ret (v 5) (v6, f7) _ _ _ _ _ _ rfl ⟨(gsX_X6_numbered_1_q0 c1 c2 hG5), hM_v6, hA_f7, hIv6, hk0_v6, hk1_v6, hk9_v6, hk10_v6, hk31_v6, hk32_v6⟩ hP hD hS dX6_numbered_47 (Nat.le_refl _) (Nat.le_refl _)
    · skip
      have zc2 : ¬ ((v 5).toInt ≤ p1.toInt) := by rw [fa_le] at c2; exact c2
      have rg8 := fb_rng (v 5)
      have rg9 := fb_rng p1
      refine lv_aload_n hx hb dX6_numbered_31 rfl (lv_at hl 1 rfl) ?_
      refine lv_iconst (v := 4) hx hb dX6_numbered_32 (by decide) ?_
      refine cbVi (n := 1) (rest := []) hx hb hml hown hts hE hP hD hS hA (sX_X6_refuseAs_1 NF l dC dI cy x0 x 4 v f hIv ) k_695 k_697 k_7 k_103 k_698 (by decide +kernel) ⟨Nat.le_of_ble_eq_true rfl, Nat.le_of_ble_eq_true rfl⟩ 3 6 rfl rfl (rfl) hl.1 rfl (Nat.le_of_ble_eq_true rfl) dX6_numbered_33 (fun r10 u H locs hw hP hD hS => ?_)
      obtain ⟨hG11, hw⟩ := hw
      obtain ⟨v12, f13⟩ := u
      obtain ⟨kV_v12, kF_f13, hIv12, hk0_v12, hk1_v12, hk9_v12, hk10_v12, hk31_v12, hk32_v12, hw⟩ := hw
      have hM_v12 : KV [2, 3, 4, 5, 7, 8] v12 v := KV.tr kV_v12 hM_v rfl
      have hA_f13 : KF [] f13 f := KF.tr kF_f13 hA_f rfl
      have hP : va_P (dC, dI) vwCl (XW cy x0 x v12 f13) H := hP
      have hD : va_D A (XW cy x0 x v12 f13) := hD
      have hq0_v12 : v12 0 = (v 0) := hk0_v12
      have hq1_v12 : v12 1 = (v 1) := hk1_v12
      have hq9_v12 : v12 9 = (v 9) := hk9_v12
      have hq10_v12 : v12 10 = (v 10) := hk10_v12
      have hq31_v12 : v12 31 = (v 31) := hk31_v12
      have hq32_v12 : v12 32 = (v 32) := hk32_v12
      rcases hw with ⟨g14⟩ | ⟨g14⟩
      · skip
        subst g14
        refine lv_pop hx hb dX6_numbered_36 rfl ?_
        refine lv_iconst (v := (-1)) hx hb dX6_numbered_37 (by decide) ?_
        exact ret (-1) (v12, f13) _ _ _ _ _ _ rfl ⟨(gsX_X6_numbered_1_q1 c1 c2 hG11), hM_v12, hA_f13, hIv12, hk0_v12, hk1_v12, hk9_v12, hk10_v12, hk31_v12, hk32_v12⟩ hP hD hS dX6_numbered_38 (Nat.le_refl _) (Nat.le_refl _)
      · skip
        subst g14
        refine lv_pop hx hb dX6_numbered_36 rfl ?_
        refine lv_iconst (v := (-1)) hx hb dX6_numbered_37 (by decide) ?_
        exact ret (-1) (v12, f13) _ _ _ _ _ _ rfl ⟨(gsX_X6_numbered_1_q2 c1 c2 hG11), hM_v12, hA_f13, hIv12, hk0_v12, hk1_v12, hk9_v12, hk10_v12, hk31_v12, hk32_v12⟩ hP hD hS dX6_numbered_38 (Nat.le_refl _) (Nat.le_refl _)
  · skip
    have zc1 : ¬ ((v 2).toInt = 2) := by rw [fa_eq, show (2 : Int32).toInt = 2 from by decide] at c1; exact c1
    refine lv_aload_n hx hb dX6_numbered_19 rfl (lv_at hl 1 rfl) ?_
    refine cbVi (n := 0) (rest := []) hx hb hml hown hts hE hP hD hS hA (sX_X6_refuse_1 NF l dC dI cy x0 x  v f hIv ) k_691 k_693 k_6 k_103 k_694 (by decide +kernel) ⟨Nat.le_of_ble_eq_true rfl, Nat.le_of_ble_eq_true rfl⟩ 3 6 rfl rfl (rfl) hl.1 rfl (Nat.le_of_ble_eq_true rfl) dX6_numbered_20 (fun r15 u H locs hw hP hD hS => ?_)
    obtain ⟨hG16, hw⟩ := hw
    obtain ⟨v17, f18⟩ := u
    obtain ⟨kV_v17, kF_f18, hIv17, hk0_v17, hk1_v17, hk9_v17, hk10_v17, hk31_v17, hk32_v17, hw⟩ := hw
    have hM_v17 : KV [2, 3, 4, 5, 7, 8] v17 v := KV.tr kV_v17 hM_v rfl
    have hA_f18 : KF [] f18 f := KF.tr kF_f18 hA_f rfl
    have hP : va_P (dC, dI) vwCl (XW cy x0 x v17 f18) H := hP
    have hD : va_D A (XW cy x0 x v17 f18) := hD
    have hq0_v17 : v17 0 = (v 0) := hk0_v17
    have hq1_v17 : v17 1 = (v 1) := hk1_v17
    have hq9_v17 : v17 9 = (v 9) := hk9_v17
    have hq10_v17 : v17 10 = (v 10) := hk10_v17
    have hq31_v17 : v17 31 = (v 31) := hk31_v17
    have hq32_v17 : v17 32 = (v 32) := hk32_v17
    rcases hw with ⟨g19⟩ | ⟨g19⟩
    · skip
      subst g19
      refine lv_pop hx hb dX6_numbered_23 rfl ?_
      refine lv_iconst (v := (-1)) hx hb dX6_numbered_24 (by decide) ?_
      exact ret (-1) (v17, f18) _ _ _ _ _ _ rfl ⟨(gsX_X6_numbered_1_q3 c1 hG16), hM_v17, hA_f18, hIv17, hk0_v17, hk1_v17, hk9_v17, hk10_v17, hk31_v17, hk32_v17⟩ hP hD hS dX6_numbered_25 (Nat.le_refl _) (Nat.le_refl _)
    · skip
      subst g19
      refine lv_pop hx hb dX6_numbered_23 rfl ?_
      refine lv_iconst (v := (-1)) hx hb dX6_numbered_24 (by decide) ?_
      exact ret (-1) (v17, f18) _ _ _ _ _ _ rfl ⟨(gsX_X6_numbered_1_q4 c1 hG16), hM_v17, hA_f18, hIv17, hk0_v17, hk1_v17, hk9_v17, hk10_v17, hk31_v17, hk32_v17⟩ hP hD hS dX6_numbered_25 (Nat.le_refl _) (Nat.le_refl _)
set_option maxHeartbeats 4000000 in
set_option maxRecDepth 100000 in
theorem sX_X6_labelled_1 (NF : Nat) (l : Launch) (dC : Nat → ClassId) (dI : Nat → Nat → Nat) (cy : Nat → ClassId) (x0 : Nat) (x : Nat → Nat) (p1 : Int32) (p2 : Int32) (v : Nat → Int32) (f : Nat → Nat → Int32) (hIv : XI v)  : ctIS l (dC, dI) cy yX6_labelled cX6_labelled 3 .int 8 213 0 0 ((Nat → Int32) × (Nat → Nat → Int32)) [.ref (x 2), .int p1, .int p2] (XW cy x0 x v f) (fun r u => gsX_X6_labelled_1 NF p1 p2 v f = (r, u) ∧ KV [2, 3, 4, 5, 7, 8] u.1 v ∧ KF [] u.2 f ∧ XI u.1 ∧ u.1 0 = v 0 ∧ u.1 1 = v 1 ∧ u.1 9 = v 9 ∧ u.1 10 = v 10 ∧ u.1 31 = v 31 ∧ u.1 32 = v 32) (fun u => XW cy x0 x u.1 u.2) := by
  refine ctIS_of (by decide) (Nat.le_of_ble_eq_true rfl) (fun p e s m below meth c A ls Q hx hb hml hts hown hE hF hT hP hD hA hl ret => ?_)
  have hM_v : KV [2, 3, 4, 5, 7, 8] v v := fun _ _ => rfl
  have hA_f : KF [] f f := fun _ _ => rfl
  have hown : s.vm.findClass RX6 = some m.cls := hown
  have hS : va_S A s.heap s.heap [] := va_S.rf
  have hl : lv_has ls 3 [(0, .ref (x 2)), (1, .int p1), (2, .int p2)] := hl
  refine lv_aload_n hx hb dX6_labelled_0 rfl (lv_at hl 0 rfl) ?_
  refine va_get (D := (dC, dI)) (ci := 6) (v := .ref (x 0)) (C := RX6) (T := TX6) (N := 7) hx hb hts inB_6 hown hE.1 hP 3 rfl rfl 0 (by decide) (hts _ k_265) (fun _ h9 => h9) rfl dX6_labelled_1 ?_
  refine va_getN (D := (dC, dI)) (ci := 9) (v := .int (v 2)) (C := RX9) (T := TX9) (N := 6) hx hb hts inB_9 hown hE.1 hP 1 rfl rfl 2 (by decide) (va_Nw.use rfl (hE.2 _ k_139)) (fun _ h9 => h9) rfl dX6_labelled_4 ?_
  refine lv_iload_n hx hb dX6_labelled_7 rfl (lv_at hl 1 rfl) ?_
  refine lv_icmp_eq (tgt := 18) hx hb dX6_labelled_8 (by decide) (fun c1 => ?_) (fun c1 => ?_)
  · skip
    have zc1 : (v 2).toInt = p1.toInt := by rw [fa_eq] at c1; exact c1
    have rg2 := fb_rng (v 2)
    have rg3 := fb_rng p1
    refine lv_aload_n hx hb dX6_labelled_18 rfl (lv_at hl 0 rfl) ?_
    refine va_get (D := (dC, dI)) (ci := 6) (v := .ref (x 0)) (C := RX6) (T := TX6) (N := 7) hx hb hts inB_6 hown hE.1 hP 3 rfl rfl 0 (by decide) (hts _ k_265) (fun _ h9 => h9) rfl dX6_labelled_19 ?_
    refine csVv (n := 0) (rest := []) hx hb hml hown hts hE hP hD hS hA hF hT (sX_X9_advance_1 NF l dC dI cy x0 x  v f hIv ) k_699 k_559 k_560 k_102 k_561 (by decide +kernel) ⟨Nat.le_of_ble_eq_true rfl, Nat.le_of_ble_eq_true rfl⟩ 1 9 rfl rfl (rfl) hl.1 rfl (Nat.le_of_ble_eq_true rfl) dX6_labelled_22 (fun u H locs hw hP hD hS => ?_)
    obtain ⟨hG4, hw⟩ := hw
    obtain ⟨v5, f6⟩ := u
    obtain ⟨kV_v5, kF_f6, hIv5, hk0_v5, hk1_v5, hk7_v5, hk8_v5, hk9_v5, hk10_v5, hk31_v5, hk32_v5⟩ := hw
    have hM_v5 : KV [2, 3, 4, 5, 7, 8] v5 v := KV.tr kV_v5 hM_v rfl
    have hA_f6 : KF [] f6 f := KF.tr kF_f6 hA_f rfl
    have hP : va_P (dC, dI) vwCl (XW cy x0 x v5 f6) H := hP
    have hD : va_D A (XW cy x0 x v5 f6) := hD
    have hq0_v5 : v5 0 = (v 0) := hk0_v5
    have hq1_v5 : v5 1 = (v 1) := hk1_v5
    have hq7_v5 : v5 7 = (v 7) := hk7_v5
    have hq8_v5 : v5 8 = (v 8) := hk8_v5
    have hq9_v5 : v5 9 = (v 9) := hk9_v5
    have hq10_v5 : v5 10 = (v 10) := hk10_v5
    have hq31_v5 : v5 31 = (v 31) := hk31_v5
    have hq32_v5 : v5 32 = (v 32) := hk32_v5
    refine lv_aload_n hx hb dX6_labelled_25 rfl (lv_at hl 0 rfl) ?_
    refine lv_iload_n hx hb dX6_labelled_26 rfl (lv_at hl 2 rfl) ?_
    refine csVi (n := 1) (rest := []) hx hb hml hown hts hE hP hD hS hA hF hT (sX_X6_numbered_1 NF l dC dI cy x0 x p2 v5 f6 hIv5 ) k_712 k_714 k_10 k_103 k_715 (by decide +kernel) ⟨Nat.le_of_ble_eq_true rfl, Nat.le_of_ble_eq_true rfl⟩ 3 6 rfl rfl (rfl) hl.1 rfl (Nat.le_of_ble_eq_true rfl) dX6_labelled_27 (fun r7 u H locs hw hP hD hS => ?_)
    obtain ⟨hG8, hw⟩ := hw
    obtain ⟨v9, f10⟩ := u
    obtain ⟨kV_v9, kF_f10, hIv9, hk0_v9, hk1_v9, hk9_v9, hk10_v9, hk31_v9, hk32_v9⟩ := hw
    have hM_v9 : KV [2, 3, 4, 5, 7, 8] v9 v := KV.tr kV_v9 hM_v5 rfl
    have hA_f10 : KF [] f10 f := KF.tr kF_f10 hA_f6 rfl
    have hP : va_P (dC, dI) vwCl (XW cy x0 x v9 f10) H := hP
    have hD : va_D A (XW cy x0 x v9 f10) := hD
    have hq0_v9 : v9 0 = (v 0) := hk0_v9.trans hq0_v5
    have hq1_v9 : v9 1 = (v 1) := hk1_v9.trans hq1_v5
    have hq9_v9 : v9 9 = (v 9) := hk9_v9.trans hq9_v5
    have hq10_v9 : v9 10 = (v 10) := hk10_v9.trans hq10_v5
    have hq31_v9 : v9 31 = (v 31) := hk31_v9.trans hq31_v5
    have hq32_v9 : v9 32 = (v 32) := hk32_v9.trans hq32_v5
    exact ret r7 (v9, f10) _ _ _ _ _ _ rfl ⟨(gsX_X6_labelled_1_q0 c1 hG4 hG8), hM_v9, hA_f10, hIv9, (hk0_v9.trans hk0_v5), (hk1_v9.trans hk1_v5), (hk9_v9.trans hk9_v5), (hk10_v9.trans hk10_v5), (hk31_v9.trans hk31_v5), (hk32_v9.trans hk32_v5)⟩ hP hD hS dX6_labelled_30 (Nat.le_refl _) (Nat.le_refl _)
  · skip
    have zc1 : ¬ ((v 2).toInt = p1.toInt) := by rw [fa_eq] at c1; exact c1
    have rg11 := fb_rng (v 2)
    have rg12 := fb_rng p1
    refine lv_aload_n hx hb dX6_labelled_11 rfl (lv_at hl 0 rfl) ?_
    refine cbVi (n := 0) (rest := []) hx hb hml hown hts hE hP hD hS hA (sX_X6_refuse_1 NF l dC dI cy x0 x  v f hIv ) k_691 k_693 k_6 k_103 k_694 (by decide +kernel) ⟨Nat.le_of_ble_eq_true rfl, Nat.le_of_ble_eq_true rfl⟩ 3 6 rfl rfl (rfl) hl.1 rfl (Nat.le_of_ble_eq_true rfl) dX6_labelled_12 (fun r13 u H locs hw hP hD hS => ?_)
    obtain ⟨hG14, hw⟩ := hw
    obtain ⟨v15, f16⟩ := u
    obtain ⟨kV_v15, kF_f16, hIv15, hk0_v15, hk1_v15, hk9_v15, hk10_v15, hk31_v15, hk32_v15, hw⟩ := hw
    have hM_v15 : KV [2, 3, 4, 5, 7, 8] v15 v := KV.tr kV_v15 hM_v rfl
    have hA_f16 : KF [] f16 f := KF.tr kF_f16 hA_f rfl
    have hP : va_P (dC, dI) vwCl (XW cy x0 x v15 f16) H := hP
    have hD : va_D A (XW cy x0 x v15 f16) := hD
    have hq0_v15 : v15 0 = (v 0) := hk0_v15
    have hq1_v15 : v15 1 = (v 1) := hk1_v15
    have hq9_v15 : v15 9 = (v 9) := hk9_v15
    have hq10_v15 : v15 10 = (v 10) := hk10_v15
    have hq31_v15 : v15 31 = (v 31) := hk31_v15
    have hq32_v15 : v15 32 = (v 32) := hk32_v15
    rcases hw with ⟨g17⟩ | ⟨g17⟩
    · skip
      subst g17
      refine lv_pop hx hb dX6_labelled_15 rfl ?_
      refine lv_iconst (v := (-1)) hx hb dX6_labelled_16 (by decide) ?_
      exact ret (-1) (v15, f16) _ _ _ _ _ _ rfl ⟨(gsX_X6_labelled_1_q1 c1 hG14), hM_v15, hA_f16, hIv15, hk0_v15, hk1_v15, hk9_v15, hk10_v15, hk31_v15, hk32_v15⟩ hP hD hS dX6_labelled_17 (Nat.le_refl _) (Nat.le_refl _)
    · skip
      subst g17
      refine lv_pop hx hb dX6_labelled_15 rfl ?_
      refine lv_iconst (v := (-1)) hx hb dX6_labelled_16 (by decide) ?_
      exact ret (-1) (v15, f16) _ _ _ _ _ _ rfl ⟨(gsX_X6_labelled_1_q2 c1 hG14), hM_v15, hA_f16, hIv15, hk0_v15, hk1_v15, hk9_v15, hk10_v15, hk31_v15, hk32_v15⟩ hP hD hS dX6_labelled_17 (Nat.le_refl _) (Nat.le_refl _)
set_option maxHeartbeats 4000000 in
set_option maxRecDepth 100000 in
theorem sX_X7_addMan_1 (NF : Nat) (l : Launch) (dC : Nat → ClassId) (dI : Nat → Nat → Nat) (cy : Nat → ClassId) (x0 : Nat) (x : Nat → Nat) (p1 : Int32) (p2 : Int32) (p3 : Int32) (v : Nat → Int32) (f : Nat → Nat → Int32) (hIv : XI v)  : ctV l (dC, dI) cy yX7_addMan cX7_addMan 4 1 60 0 0 ((Nat → Int32) × (Nat → Nat → Int32)) [.ref (x 3), .int p1, .int p2, .int p3] (XW cy x0 x v f) (fun u => gsX_X7_addMan_1 NF p1 p2 p3 v f = u ∧ KV [9] u.1 v ∧ KF [1] u.2 f ∧ XI u.1 ∧ u.1 0 = v 0 ∧ u.1 1 = v 1 ∧ u.1 7 = v 7 ∧ u.1 8 = v 8 ∧ u.1 10 = v 10 ∧ u.1 32 = v 32) (fun u => XW cy x0 x u.1 u.2) := by
  refine ctV_of (by decide) (Nat.le_of_ble_eq_true rfl) (fun p e s m below meth c A ls Q hx hb hml hts hown hnm hE hP hD hA hl ret => ?_)
  have hM_v : KV [9] v v := fun _ _ => rfl
  have hA_f : KF [1] f f := fun _ _ => rfl
  have hown : s.vm.findClass RX7 = some m.cls := hown
  have hS : va_S A s.heap s.heap [] := va_S.rf
  have hl : lv_has ls 4 [(0, .ref (x 3)), (1, .int p1), (2, .int p2), (3, .int p3)] := hl
  refine lv_aload_n hx hb dX7_addMan_0 rfl (lv_at hl 0 rfl) ?_
  refine va_get (D := (dC, dI)) (ci := 7) (v := .int (v 9)) (C := RX7) (T := TX7) (N := 10) hx hb hts inB_7 hown hE.1 hP 4 rfl rfl 3 (by decide) (hts _ k_212) (fun _ h9 => h9) rfl dX7_addMan_1 ?_
  have b9_v : 0 ≤ (v 9).toInt ∧ (v 9).toInt ≤ 6 := XI.b hIv 9 (by decide)
  refine lv_bipush (v := 6) hx hb dX7_addMan_4 (by decide) ?_
  refine lv_icmp_ge (tgt := 57) hx hb dX7_addMan_6 (by decide) (fun c1 => ?_) (fun c1 => ?_)
  · skip
    have zc1 : 6 ≤ (v 9).toInt := by rw [fa_le, show (6 : Int32).toInt = 6 from by decide] at c1; exact c1
    exact ret (v, f) _ _ _ _ _ _ ⟨(gsX_X7_addMan_1_q0 c1), hM_v, hA_f, hIv, rfl, rfl, rfl, rfl, rfl, rfl⟩ hP hD hS dX7_addMan_57 (Nat.le_refl _) (Nat.le_refl _)
  · skip
    have zc1 : ¬ (6 ≤ (v 9).toInt) := by rw [fa_le, show (6 : Int32).toInt = 6 from by decide] at c1; exact c1
    refine lv_aload_n hx hb dX7_addMan_9 rfl (lv_at hl 0 rfl) ?_
    refine va_get (D := (dC, dI)) (ci := 7) (v := .ref (x 4)) (C := RX7) (T := TX7) (N := 10) hx hb hts inB_7 hown hE.1 hP 4 rfl rfl 0 (by decide) (hts _ k_204) (fun _ h9 => h9) rfl dX7_addMan_10 ?_
    refine lv_iconst (v := 0) hx hb dX7_addMan_13 (by decide) ?_
    refine lv_aload_n hx hb dX7_addMan_14 rfl (lv_at hl 0 rfl) ?_
    refine va_get (D := (dC, dI)) (ci := 7) (v := .int (v 9)) (C := RX7) (T := TX7) (N := 10) hx hb hts inB_7 hown hE.1 hP 4 rfl rfl 3 (by decide) (hts _ k_212) (fun _ h9 => h9) rfl dX7_addMan_15 ?_
    refine lv_iadd hx hb dX7_addMan_18 ?_
    refine lv_topi (fun t2 et2 => ?_)
    have rg3 := fb_rng (v 9)
    have zt2 : t2.toInt = 0 + (v 9).toInt := by rw [et2]; exact add_i (by decide) rfl (by omega) (by omega)
    refine lv_iload_n hx hb dX7_addMan_19 rfl (lv_at hl 1 rfl) ?_
    refine stI hx hb hE hP hD hS 5 rfl (vp_in_iff.mpr ⟨by omega, by omega⟩) rfl dX7_addMan_20 (fun H locs hP hD hS => ?_)
    obtain ⟨f4, ef4, hP, hD⟩ : ∃ fz9, fz9 = upd2 f 1 (upd (f 1) t2.toNatClampNeg p1) ∧ va_P (dC, dI) vwCl (XW cy x0 x v fz9) H ∧ va_D A (XW cy x0 x v fz9) := ⟨_, rfl, hP, hD⟩
    have hA_f4 : KF [1] f4 f := by rw [ef4]; exact KF.up hA_f rfl
    refine lv_aload_n hx hb dX7_addMan_21 rfl (lv_at hl 0 rfl) ?_
    refine va_get (D := (dC, dI)) (ci := 7) (v := .ref (x 4)) (C := RX7) (T := TX7) (N := 10) hx hb hts inB_7 hown hE.1 hP 4 rfl rfl 0 (by decide) (hts _ k_204) (fun _ h9 => h9) rfl dX7_addMan_22 ?_
    refine lv_bipush (v := 6) hx hb dX7_addMan_25 (by decide) ?_
    refine lv_aload_n hx hb dX7_addMan_27 rfl (lv_at hl 0 rfl) ?_
    refine va_get (D := (dC, dI)) (ci := 7) (v := .int (v 9)) (C := RX7) (T := TX7) (N := 10) hx hb hts inB_7 hown hE.1 hP 4 rfl rfl 3 (by decide) (hts _ k_212) (fun _ h9 => h9) rfl dX7_addMan_28 ?_
    refine lv_iadd hx hb dX7_addMan_31 ?_
    refine lv_topi (fun t5 et5 => ?_)
    have zt5 : t5.toInt = 6 + (v 9).toInt := by rw [et5]; exact add_i (by decide) rfl (by omega) (by omega)
    refine lv_iload_n hx hb dX7_addMan_32 rfl (lv_at hl 2 rfl) ?_
    refine stI hx hb hE hP hD hS 5 rfl (vp_in_iff.mpr ⟨by omega, by omega⟩) rfl dX7_addMan_33 (fun H locs hP hD hS => ?_)
    obtain ⟨f6, ef6, hP, hD⟩ : ∃ fz9, fz9 = upd2 f4 1 (upd (f4 1) t5.toNatClampNeg p2) ∧ va_P (dC, dI) vwCl (XW cy x0 x v fz9) H ∧ va_D A (XW cy x0 x v fz9) := ⟨_, rfl, hP, hD⟩
    have hA_f6 : KF [1] f6 f := by rw [ef6]; exact KF.up hA_f4 rfl
    refine lv_aload_n hx hb dX7_addMan_34 rfl (lv_at hl 0 rfl) ?_
    refine va_get (D := (dC, dI)) (ci := 7) (v := .ref (x 4)) (C := RX7) (T := TX7) (N := 10) hx hb hts inB_7 hown hE.1 hP 4 rfl rfl 0 (by decide) (hts _ k_204) (fun _ h9 => h9) rfl dX7_addMan_35 ?_
    refine lv_bipush (v := 12) hx hb dX7_addMan_38 (by decide) ?_
    refine lv_aload_n hx hb dX7_addMan_40 rfl (lv_at hl 0 rfl) ?_
    refine va_get (D := (dC, dI)) (ci := 7) (v := .int (v 9)) (C := RX7) (T := TX7) (N := 10) hx hb hts inB_7 hown hE.1 hP 4 rfl rfl 3 (by decide) (hts _ k_212) (fun _ h9 => h9) rfl dX7_addMan_41 ?_
    refine lv_iadd hx hb dX7_addMan_44 ?_
    refine lv_topi (fun t7 et7 => ?_)
    have zt7 : t7.toInt = 12 + (v 9).toInt := by rw [et7]; exact add_i (by decide) rfl (by omega) (by omega)
    refine lv_iload_n hx hb dX7_addMan_45 rfl (lv_at hl 3 rfl) ?_
    refine stI hx hb hE hP hD hS 5 rfl (vp_in_iff.mpr ⟨by omega, by omega⟩) rfl dX7_addMan_46 (fun H locs hP hD hS => ?_)
    obtain ⟨f8, ef8, hP, hD⟩ : ∃ fz9, fz9 = upd2 f6 1 (upd (f6 1) t7.toNatClampNeg p3) ∧ va_P (dC, dI) vwCl (XW cy x0 x v fz9) H ∧ va_D A (XW cy x0 x v fz9) := ⟨_, rfl, hP, hD⟩
    have hA_f8 : KF [1] f8 f := by rw [ef8]; exact KF.up hA_f6 rfl
    refine lv_aload_n hx hb dX7_addMan_47 rfl (lv_at hl 0 rfl) ?_
    refine lv_dup hx hb dX7_addMan_48 rfl ?_
    refine va_get (D := (dC, dI)) (ci := 7) (v := .int (v 9)) (C := RX7) (T := TX7) (N := 10) hx hb hts inB_7 hown hE.1 hP 4 rfl rfl 3 (by decide) (hts _ k_212) (fun _ h9 => h9) rfl dX7_addMan_49 ?_
    refine lv_iconst (v := 1) hx hb dX7_addMan_52 (by decide) ?_
    refine lv_iadd hx hb dX7_addMan_53 ?_
    refine lv_topi (fun t9 et9 => ?_)
    have zt9 : t9.toInt = (v 9).toInt + 1 := by rw [et9]; exact add_i rfl (by decide) (by omega) (by omega)
    refine va_put (D := (dC, dI)) (ci := 7) (v := .int t9) (ty := tyX7 3) (C := RX7) (T := TX7) (N := 10) hx hb hts inB_7 tyX7 tyX7_ok nmX7 hown hE.1 hP hD hS 4 rfl rfl 3 (by decide) (hts _ k_212) (fun _ h9 => h9) rfl (tyX7_ok 3 (by decide)) rfl rfl (Nat.le_of_ble_eq_true rfl) dX7_addMan_54 (fun H locs hP hD hS => ?_)
    have hP : va_P (dC, dI) vwCl (XW cy x0 x (upd v 9 t9) f8) H := hP
    have hD : va_D A (XW cy x0 x (upd v 9 t9) f8) := hD
    exact ret ((upd v 9 t9), f8) _ _ _ _ _ _ ⟨(gsX_X7_addMan_1_q1 c1 et2 ef4 et5 ef6 et7 ef8 et9), (KV.up (j := 9) (x := t9) hM_v rfl), hA_f8, (XI.upd (j := 9) (x := t9) hIv (show (0 : Int) ≤ t9.toInt by omega) (show t9.toInt ≤ (6 : Int) by omega)), rfl, rfl, rfl, rfl, rfl, rfl⟩ hP hD hS dX7_addMan_57 (Nat.le_refl _) (Nat.le_refl _)
set_option maxHeartbeats 4000000 in
set_option maxRecDepth 100000 in
theorem sX_X6_manLine_1 (NF : Nat) (l : Launch) (dC : Nat → ClassId) (dI : Nat → Nat → Nat) (cy : Nat → ClassId) (x0 : Nat) (x : Nat → Nat)  (v : Nat → Int32) (f : Nat → Nat → Int32) (hIv : XI v)  : ctIS l (dC, dI) cy yX6_manLine cX6_manLine 4 .boolean 9 235 0 0 ((Nat → Int32) × (Nat → Nat → Int32)) [.ref (x 2)] (XW cy x0 x v f) (fun r u => gsX_X6_manLine_1 NF v f = (r, u) ∧ KV [2, 3, 4, 5, 7, 8, 9] u.1 v ∧ KF [1, 7] u.2 f ∧ XI u.1 ∧ u.1 0 = v 0 ∧ u.1 1 = v 1 ∧ u.1 10 = v 10 ∧ u.1 32 = v 32 ∧ ((r = 1) ∨ (r = 0))) (fun u => XW cy x0 x u.1 u.2) := by
  refine ctIS_of (by decide) (Nat.le_of_ble_eq_true rfl) (fun p e s m below meth c A ls Q hx hb hml hts hown hE hF hT hP hD hA hl ret => ?_)
  have hM_v : KV [2, 3, 4, 5, 7, 8, 9] v v := fun _ _ => rfl
  have hA_f : KF [1, 7] f f := fun _ _ => rfl
  have hown : s.vm.findClass RX6 = some m.cls := hown
  have hS : va_S A s.heap s.heap [] := va_S.rf
  have hl : lv_has ls 4 [(0, .ref (x 2))] := hl
  refine lv_aload_n hx hb dX6_manLine_0 rfl (lv_at hl 0 rfl) ?_
  refine va_get (D := (dC, dI)) (ci := 6) (v := .ref (x 3)) (C := RX6) (T := TX6) (N := 7) hx hb hts inB_6 hown hE.1 hP 3 rfl rfl 1 (by decide) (hts _ k_266) (fun _ h9 => h9) rfl dX6_manLine_1 ?_
  refine va_getN (D := (dC, dI)) (ci := 7) (v := .int (v 9)) (C := RX7) (T := TX7) (N := 10) hx hb hts inB_7 hown hE.1 hP 4 rfl rfl 3 (by decide) (va_Nw.use rfl (hE.2 _ k_218)) (fun _ h9 => h9) rfl dX6_manLine_4 ?_
  have b9_v : 0 ≤ (v 9).toInt ∧ (v 9).toInt ≤ 6 := XI.b hIv 9 (by decide)
  refine lv_bipush (v := 6) hx hb dX6_manLine_7 (by decide) ?_
  refine lv_icmp_lt (tgt := 17) hx hb dX6_manLine_9 (by decide) (fun c1 => ?_) (fun c1 => ?_)
  · skip
    have zc1 : (v 9).toInt < 6 := by rw [fa_lt, show (6 : Int32).toInt = 6 from by decide] at c1; exact c1
    refine lv_aload_n hx hb dX6_manLine_17 rfl (lv_at hl 0 rfl) ?_
    refine va_get (D := (dC, dI)) (ci := 6) (v := .ref (x 0)) (C := RX6) (T := TX6) (N := 7) hx hb hts inB_6 hown hE.1 hP 3 rfl rfl 0 (by decide) (hts _ k_265) (fun _ h9 => h9) rfl dX6_manLine_18 ?_
    refine csVv (n := 0) (rest := []) hx hb hml hown hts hE hP hD hS hA hF hT (sX_X9_advance_1 NF l dC dI cy x0 x  v f hIv ) k_699 k_559 k_560 k_102 k_561 (by decide +kernel) ⟨Nat.le_of_ble_eq_true rfl, Nat.le_of_ble_eq_true rfl⟩ 1 9 rfl rfl (rfl) hl.1 rfl (Nat.le_of_ble_eq_true rfl) dX6_manLine_21 (fun u H locs hw hP hD hS => ?_)
    obtain ⟨hG2, hw⟩ := hw
    obtain ⟨v3, f4⟩ := u
    obtain ⟨kV_v3, kF_f4, hIv3, hk0_v3, hk1_v3, hk7_v3, hk8_v3, hk9_v3, hk10_v3, hk31_v3, hk32_v3⟩ := hw
    have hM_v3 : KV [2, 3, 4, 5, 7, 8, 9] v3 v := KV.tr kV_v3 hM_v rfl
    have hA_f4 : KF [1, 7] f4 f := KF.tr kF_f4 hA_f rfl
    have hP : va_P (dC, dI) vwCl (XW cy x0 x v3 f4) H := hP
    have hD : va_D A (XW cy x0 x v3 f4) := hD
    have hq0_v3 : v3 0 = (v 0) := hk0_v3
    have hq1_v3 : v3 1 = (v 1) := hk1_v3
    have hq7_v3 : v3 7 = (v 7) := hk7_v3
    have hq8_v3 : v3 8 = (v 8) := hk8_v3
    have hq9_v3 : v3 9 = (v 9) := hk9_v3
    have hq10_v3 : v3 10 = (v 10) := hk10_v3
    have hq31_v3 : v3 31 = (v 31) := hk31_v3
    have hq32_v3 : v3 32 = (v 32) := hk32_v3
    refine lv_aload_n hx hb dX6_manLine_24 rfl (lv_at hl 0 rfl) ?_
    refine lv_aload_n hx hb dX6_manLine_25 rfl (lv_at hl 0 rfl) ?_
    refine va_get (D := (dC, dI)) (ci := 6) (v := .ref (x 11)) (C := RX6) (T := TX6) (N := 7) hx hb hts inB_6 hown hE.1 hP 3 rfl rfl 2 (by decide) (hts _ k_268) (fun _ h9 => h9) rfl dX6_manLine_26 ?_
    refine lv_aload_n hx hb dX6_manLine_29 rfl (lv_at hl 0 rfl) ?_
    refine va_get (D := (dC, dI)) (ci := 6) (v := .ref (x 3)) (C := RX6) (T := TX6) (N := 7) hx hb hts inB_6 hown hE.1 hP 3 rfl rfl 1 (by decide) (hts _ k_266) (fun _ h9 => h9) rfl dX6_manLine_30 ?_
    refine va_getN (D := (dC, dI)) (ci := 7) (v := .int (v3 9)) (C := RX7) (T := TX7) (N := 10) hx hb hts inB_7 hown hE.1 hP 4 rfl rfl 3 (by decide) (va_Nw.use rfl (hE.2 _ k_218)) (fun _ h9 => h9) rfl dX6_manLine_33 ?_
    refine tI (y := (v 9)) hq9_v3 ?_
    have b9_v : 0 ≤ (v 9).toInt ∧ (v 9).toInt ≤ 6 := XI.b hIv 9 (by decide)
    refine csVi (n := 2) (rest := []) hx hb hml hown hts hE hP hD hS hA hF hT (sX_X6_name_1 NF l dC dI cy x0 x (v 9) v3 f4 hIv3 ) k_700 k_702 k_8 k_103 k_703 (by decide +kernel) ⟨Nat.le_of_ble_eq_true rfl, Nat.le_of_ble_eq_true rfl⟩ 3 6 rfl rfl (rfl) hl.1 rfl (Nat.le_of_ble_eq_true rfl) dX6_manLine_36 (fun r5 u H locs hw hP hD hS => ?_)
    obtain ⟨hG6, hw⟩ := hw
    obtain ⟨v7, f8⟩ := u
    obtain ⟨kV_v7, kF_f8, hIv7, hk0_v7, hk1_v7, hk9_v7, hk10_v7, hk31_v7, hk32_v7, hw⟩ := hw
    have hM_v7 : KV [2, 3, 4, 5, 7, 8, 9] v7 v := KV.tr kV_v7 hM_v3 rfl
    have hA_f8 : KF [1, 7] f8 f := KF.tr kF_f8 hA_f4 rfl
    have hP : va_P (dC, dI) vwCl (XW cy x0 x v7 f8) H := hP
    have hD : va_D A (XW cy x0 x v7 f8) := hD
    have hq0_v7 : v7 0 = (v 0) := hk0_v7.trans hq0_v3
    have hq1_v7 : v7 1 = (v 1) := hk1_v7.trans hq1_v3
    have hq9_v7 : v7 9 = (v 9) := hk9_v7.trans hq9_v3
    have hq10_v7 : v7 10 = (v 10) := hk10_v7.trans hq10_v3
    have hq31_v7 : v7 31 = (v 31) := hk31_v7.trans hq31_v3
    have hq32_v7 : v7 32 = (v 32) := hk32_v7.trans hq32_v3
    rcases hw with ⟨g9⟩ | ⟨g9⟩
    · skip
      subst g9
      refine lv_if_ne (tgt := 44) hx hb dX6_manLine_39 (by decide) (fun _ => ?_) (fun c0 => absurd c0 (by decide))
      refine lv_aload_n hx hb dX6_manLine_44 rfl (lv_at hl 0 rfl) ?_
      refine lv_bipush (v := 109) hx hb dX6_manLine_45 (by decide) ?_
      refine lv_bipush (v := 99) hx hb dX6_manLine_47 (by decide) ?_
      refine csVi (n := 2) (rest := []) hx hb hml hown hts hE hP hD hS hA hF hT (sX_X6_labelled_1 NF l dC dI cy x0 x 109 99 v7 f8 hIv7 ) k_708 k_710 k_9 k_103 k_711 (by decide +kernel) ⟨Nat.le_of_ble_eq_true rfl, Nat.le_of_ble_eq_true rfl⟩ 3 6 rfl rfl (rfl) hl.1 rfl (Nat.le_of_ble_eq_true rfl) dX6_manLine_49 (fun r10 u H locs hw hP hD hS => ?_)
      obtain ⟨hG11, hw⟩ := hw
      obtain ⟨v12, f13⟩ := u
      obtain ⟨kV_v12, kF_f13, hIv12, hk0_v12, hk1_v12, hk9_v12, hk10_v12, hk31_v12, hk32_v12⟩ := hw
      have hM_v12 : KV [2, 3, 4, 5, 7, 8, 9] v12 v := KV.tr kV_v12 hM_v7 rfl
      have hA_f13 : KF [1, 7] f13 f := KF.tr kF_f13 hA_f8 rfl
      have hP : va_P (dC, dI) vwCl (XW cy x0 x v12 f13) H := hP
      have hD : va_D A (XW cy x0 x v12 f13) := hD
      have hq0_v12 : v12 0 = (v 0) := hk0_v12.trans hq0_v7
      have hq1_v12 : v12 1 = (v 1) := hk1_v12.trans hq1_v7
      have hq9_v12 : v12 9 = (v 9) := hk9_v12.trans hq9_v7
      have hq10_v12 : v12 10 = (v 10) := hk10_v12.trans hq10_v7
      have hq31_v12 : v12 31 = (v 31) := hk31_v12.trans hq31_v7
      have hq32_v12 : v12 32 = (v 32) := hk32_v12.trans hq32_v7
      refine lv_istore_n (lv' := [(1, .int r10), (0, .ref (x 2))]) hx hb dX6_manLine_52 rfl hl (by decide) rfl (fun ls hl => ?_)
      refine lv_iload_n hx hb dX6_manLine_53 rfl (lv_at hl 0 rfl) ?_
      refine lv_if_ge (tgt := 61) hx hb dX6_manLine_54 (by decide) (fun c14 => ?_) (fun c14 => ?_)
      · skip
        have zc14 : 0 ≤ r10.toInt := by rw [fa_le, show (0 : Int32).toInt = 0 from by decide] at c14; exact c14
        refine lv_aload_n hx hb dX6_manLine_61 rfl (lv_at hl 1 rfl) ?_
        refine lv_bipush (v := 110) hx hb dX6_manLine_62 (by decide) ?_
        refine lv_bipush (v := 99) hx hb dX6_manLine_64 (by decide) ?_
        refine csVi (n := 2) (rest := []) hx hb hml hown hts hE hP hD hS hA hF hT (sX_X6_labelled_1 NF l dC dI cy x0 x 110 99 v12 f13 hIv12 ) k_708 k_710 k_9 k_103 k_711 (by decide +kernel) ⟨Nat.le_of_ble_eq_true rfl, Nat.le_of_ble_eq_true rfl⟩ 3 6 rfl rfl (rfl) hl.1 rfl (Nat.le_of_ble_eq_true rfl) dX6_manLine_66 (fun r15 u H locs hw hP hD hS => ?_)
        obtain ⟨hG16, hw⟩ := hw
        obtain ⟨v17, f18⟩ := u
        obtain ⟨kV_v17, kF_f18, hIv17, hk0_v17, hk1_v17, hk9_v17, hk10_v17, hk31_v17, hk32_v17⟩ := hw
        have hM_v17 : KV [2, 3, 4, 5, 7, 8, 9] v17 v := KV.tr kV_v17 hM_v12 rfl
        have hA_f18 : KF [1, 7] f18 f := KF.tr kF_f18 hA_f13 rfl
        have hP : va_P (dC, dI) vwCl (XW cy x0 x v17 f18) H := hP
        have hD : va_D A (XW cy x0 x v17 f18) := hD
        have hq0_v17 : v17 0 = (v 0) := hk0_v17.trans hq0_v12
        have hq1_v17 : v17 1 = (v 1) := hk1_v17.trans hq1_v12
        have hq9_v17 : v17 9 = (v 9) := hk9_v17.trans hq9_v12
        have hq10_v17 : v17 10 = (v 10) := hk10_v17.trans hq10_v12
        have hq31_v17 : v17 31 = (v 31) := hk31_v17.trans hq31_v12
        have hq32_v17 : v17 32 = (v 32) := hk32_v17.trans hq32_v12
        refine lv_istore_n (lv' := [(2, .int r15), (1, .int r10), (0, .ref (x 2))]) hx hb dX6_manLine_69 rfl hl (by decide) rfl (fun ls hl => ?_)
        refine lv_iload_n hx hb dX6_manLine_70 rfl (lv_at hl 0 rfl) ?_
        refine lv_if_ge (tgt := 78) hx hb dX6_manLine_71 (by decide) (fun c19 => ?_) (fun c19 => ?_)
        · skip
          have zc19 : 0 ≤ r15.toInt := by rw [fa_le, show (0 : Int32).toInt = 0 from by decide] at c19; exact c19
          refine lv_aload_n hx hb dX6_manLine_78 rfl (lv_at hl 2 rfl) ?_
          refine va_get (D := (dC, dI)) (ci := 6) (v := .ref (x 0)) (C := RX6) (T := TX6) (N := 7) hx hb hts inB_6 hown hE.1 hP 3 rfl rfl 0 (by decide) (hts _ k_265) (fun _ h9 => h9) rfl dX6_manLine_79 ?_
          refine va_getN (D := (dC, dI)) (ci := 9) (v := .int (v17 2)) (C := RX9) (T := TX9) (N := 6) hx hb hts inB_9 hown hE.1 hP 1 rfl rfl 2 (by decide) (va_Nw.use rfl (hE.2 _ k_139)) (fun _ h9 => h9) rfl dX6_manLine_82 ?_
          refine lv_bipush (v := 111) hx hb dX6_manLine_85 (by decide) ?_
          refine lv_icmp_ne (tgt := 101) hx hb dX6_manLine_87 (by decide) (fun c20 => ?_) (fun c20 => ?_)
          · skip
            have zc20 : ¬ ((v17 2).toInt = 111) := by rw [fa_eq, show (111 : Int32).toInt = 111 from by decide] at c20; exact c20
            refine lv_iconst (v := 0) hx hb dX6_manLine_101 (by decide) ?_
            refine lv_istore_n (lv' := [(3, .int 0), (2, .int r15), (1, .int r10), (0, .ref (x 2))]) hx hb dX6_manLine_102 rfl hl (by decide) rfl (fun ls hl => ?_)
            refine lv_iload_n hx hb dX6_manLine_103 rfl (lv_at hl 0 rfl) ?_
            refine lv_if_ge (tgt := 109) hx hb dX6_manLine_104 (by decide) (fun _ => ?_) (fun c0 => absurd (by decide) c0)
            refine lv_aload_n hx hb dX6_manLine_109 rfl (lv_at hl 3 rfl) ?_
            refine va_get (D := (dC, dI)) (ci := 6) (v := .ref (x 3)) (C := RX6) (T := TX6) (N := 7) hx hb hts inB_6 hown hE.1 hP 3 rfl rfl 1 (by decide) (hts _ k_266) (fun _ h9 => h9) rfl dX6_manLine_110 ?_
            refine lv_iload_n hx hb dX6_manLine_113 rfl (lv_at hl 2 rfl) ?_
            refine lv_iload_n hx hb dX6_manLine_114 rfl (lv_at hl 1 rfl) ?_
            refine lv_iload_n hx hb dX6_manLine_115 rfl (lv_at hl 0 rfl) ?_
            refine cbVv (n := 3) (rest := []) hx hb hml hown hts hE hP hD hS hA (sX_X7_addMan_1 NF l dC dI cy x0 x r10 r15 0 v17 f18 hIv17 ) k_716 k_717 k_718 k_104 k_719 (by decide +kernel) ⟨Nat.le_of_ble_eq_true rfl, Nat.le_of_ble_eq_true rfl⟩ 4 7 rfl rfl (rfl) hl.1 rfl (Nat.le_of_ble_eq_true rfl) dX6_manLine_116 (fun u H locs hw hP hD hS => ?_)
            obtain ⟨hG21, hw⟩ := hw
            obtain ⟨v22, f23⟩ := u
            obtain ⟨kV_v22, kF_f23, hIv22, hk0_v22, hk1_v22, hk7_v22, hk8_v22, hk10_v22, hk32_v22⟩ := hw
            have hM_v22 : KV [2, 3, 4, 5, 7, 8, 9] v22 v := KV.tr kV_v22 hM_v17 rfl
            have hA_f23 : KF [1, 7] f23 f := KF.tr kF_f23 hA_f18 rfl
            have hP : va_P (dC, dI) vwCl (XW cy x0 x v22 f23) H := hP
            have hD : va_D A (XW cy x0 x v22 f23) := hD
            have hq0_v22 : v22 0 = (v 0) := hk0_v22.trans hq0_v17
            have hq1_v22 : v22 1 = (v 1) := hk1_v22.trans hq1_v17
            have hq7_v22 : v22 7 = (v17 7) := hk7_v22
            have hq8_v22 : v22 8 = (v17 8) := hk8_v22
            have hq10_v22 : v22 10 = (v 10) := hk10_v22.trans hq10_v17
            have hq32_v22 : v22 32 = (v 32) := hk32_v22.trans hq32_v17
            refine lv_iconst (v := 1) hx hb dX6_manLine_119 (by decide) ?_
            exact ret 1 (v22, f23) _ _ _ _ _ _ rfl ⟨(gsX_X6_manLine_1_q0 c1 hG2 hG6 hG11 c14 hG16 c19 c20 hG21), hM_v22, hA_f23, hIv22, (hk0_v22.trans (hk0_v17.trans (hk0_v12.trans (hk0_v7.trans hk0_v3)))), (hk1_v22.trans (hk1_v17.trans (hk1_v12.trans (hk1_v7.trans hk1_v3)))), (hk10_v22.trans (hk10_v17.trans (hk10_v12.trans (hk10_v7.trans hk10_v3)))), (hk32_v22.trans (hk32_v17.trans (hk32_v12.trans (hk32_v7.trans hk32_v3)))), (Or.inl rfl)⟩ hP hD hS dX6_manLine_120 (Nat.le_refl _) (Nat.le_refl _)
          · skip
            have zc20 : (v17 2).toInt = 111 := by rw [fa_eq, show (111 : Int32).toInt = 111 from by decide] at c20; exact c20
            refine lv_aload_n hx hb dX6_manLine_90 rfl (lv_at hl 2 rfl) ?_
            refine lv_bipush (v := 111) hx hb dX6_manLine_91 (by decide) ?_
            refine lv_bipush (v := 9) hx hb dX6_manLine_93 (by decide) ?_
            refine csVi (n := 2) (rest := []) hx hb hml hown hts hE hP hD hS hA hF hT (sX_X6_labelled_1 NF l dC dI cy x0 x 111 9 v17 f18 hIv17 ) k_708 k_710 k_9 k_103 k_711 (by decide +kernel) ⟨Nat.le_of_ble_eq_true rfl, Nat.le_of_ble_eq_true rfl⟩ 3 6 rfl rfl (rfl) hl.1 rfl (Nat.le_of_ble_eq_true rfl) dX6_manLine_95 (fun r24 u H locs hw hP hD hS => ?_)
            obtain ⟨hG25, hw⟩ := hw
            obtain ⟨v26, f27⟩ := u
            obtain ⟨kV_v26, kF_f27, hIv26, hk0_v26, hk1_v26, hk9_v26, hk10_v26, hk31_v26, hk32_v26⟩ := hw
            have hM_v26 : KV [2, 3, 4, 5, 7, 8, 9] v26 v := KV.tr kV_v26 hM_v17 rfl
            have hA_f27 : KF [1, 7] f27 f := KF.tr kF_f27 hA_f18 rfl
            have hP : va_P (dC, dI) vwCl (XW cy x0 x v26 f27) H := hP
            have hD : va_D A (XW cy x0 x v26 f27) := hD
            have hq0_v26 : v26 0 = (v 0) := hk0_v26.trans hq0_v17
            have hq1_v26 : v26 1 = (v 1) := hk1_v26.trans hq1_v17
            have hq9_v26 : v26 9 = (v 9) := hk9_v26.trans hq9_v17
            have hq10_v26 : v26 10 = (v 10) := hk10_v26.trans hq10_v17
            have hq31_v26 : v26 31 = (v 31) := hk31_v26.trans hq31_v17
            have hq32_v26 : v26 32 = (v 32) := hk32_v26.trans hq32_v17
            refine lv_goto (tgt := 102) hx hb dX6_manLine_98 (by decide) ?_
            refine lv_istore_n (lv' := [(3, .int r24), (2, .int r15), (1, .int r10), (0, .ref (x 2))]) hx hb dX6_manLine_102 rfl hl (by decide) rfl (fun ls hl => ?_)
            refine lv_iload_n hx hb dX6_manLine_103 rfl (lv_at hl 0 rfl) ?_
            refine lv_if_ge (tgt := 109) hx hb dX6_manLine_104 (by decide) (fun c28 => ?_) (fun c28 => ?_)
            · skip
              have zc28 : 0 ≤ r24.toInt := by rw [fa_le, show (0 : Int32).toInt = 0 from by decide] at c28; exact c28
              refine lv_aload_n hx hb dX6_manLine_109 rfl (lv_at hl 3 rfl) ?_
              refine va_get (D := (dC, dI)) (ci := 6) (v := .ref (x 3)) (C := RX6) (T := TX6) (N := 7) hx hb hts inB_6 hown hE.1 hP 3 rfl rfl 1 (by decide) (hts _ k_266) (fun _ h9 => h9) rfl dX6_manLine_110 ?_
              refine lv_iload_n hx hb dX6_manLine_113 rfl (lv_at hl 2 rfl) ?_
              refine lv_iload_n hx hb dX6_manLine_114 rfl (lv_at hl 1 rfl) ?_
              refine lv_iload_n hx hb dX6_manLine_115 rfl (lv_at hl 0 rfl) ?_
              refine cbVv (n := 3) (rest := []) hx hb hml hown hts hE hP hD hS hA (sX_X7_addMan_1 NF l dC dI cy x0 x r10 r15 r24 v26 f27 hIv26 ) k_716 k_717 k_718 k_104 k_719 (by decide +kernel) ⟨Nat.le_of_ble_eq_true rfl, Nat.le_of_ble_eq_true rfl⟩ 4 7 rfl rfl (rfl) hl.1 rfl (Nat.le_of_ble_eq_true rfl) dX6_manLine_116 (fun u H locs hw hP hD hS => ?_)
              obtain ⟨hG29, hw⟩ := hw
              obtain ⟨v30, f31⟩ := u
              obtain ⟨kV_v30, kF_f31, hIv30, hk0_v30, hk1_v30, hk7_v30, hk8_v30, hk10_v30, hk32_v30⟩ := hw
              have hM_v30 : KV [2, 3, 4, 5, 7, 8, 9] v30 v := KV.tr kV_v30 hM_v26 rfl
              have hA_f31 : KF [1, 7] f31 f := KF.tr kF_f31 hA_f27 rfl
              have hP : va_P (dC, dI) vwCl (XW cy x0 x v30 f31) H := hP
              have hD : va_D A (XW cy x0 x v30 f31) := hD
              have hq0_v30 : v30 0 = (v 0) := hk0_v30.trans hq0_v26
              have hq1_v30 : v30 1 = (v 1) := hk1_v30.trans hq1_v26
              have hq7_v30 : v30 7 = (v26 7) := hk7_v30
              have hq8_v30 : v30 8 = (v26 8) := hk8_v30
              have hq10_v30 : v30 10 = (v 10) := hk10_v30.trans hq10_v26
              have hq32_v30 : v30 32 = (v 32) := hk32_v30.trans hq32_v26
              refine lv_iconst (v := 1) hx hb dX6_manLine_119 (by decide) ?_
              exact ret 1 (v30, f31) _ _ _ _ _ _ rfl ⟨(gsX_X6_manLine_1_q1 c1 hG2 hG6 hG11 c14 hG16 c19 c20 hG25 c28 hG29), hM_v30, hA_f31, hIv30, (hk0_v30.trans (hk0_v26.trans (hk0_v17.trans (hk0_v12.trans (hk0_v7.trans hk0_v3))))), (hk1_v30.trans (hk1_v26.trans (hk1_v17.trans (hk1_v12.trans (hk1_v7.trans hk1_v3))))), (hk10_v30.trans (hk10_v26.trans (hk10_v17.trans (hk10_v12.trans (hk10_v7.trans hk10_v3))))), (hk32_v30.trans (hk32_v26.trans (hk32_v17.trans (hk32_v12.trans (hk32_v7.trans hk32_v3))))), (Or.inl rfl)⟩ hP hD hS dX6_manLine_120 (Nat.le_refl _) (Nat.le_refl _)
            · skip
              have zc28 : ¬ (0 ≤ r24.toInt) := by rw [fa_le, show (0 : Int32).toInt = 0 from by decide] at c28; exact c28
              refine lv_iconst (v := 0) hx hb dX6_manLine_107 (by decide) ?_
              exact ret 0 (v26, f27) _ _ _ _ _ _ rfl ⟨(gsX_X6_manLine_1_q2 c1 hG2 hG6 hG11 c14 hG16 c19 c20 hG25 c28), hM_v26, hA_f27, hIv26, (hk0_v26.trans (hk0_v17.trans (hk0_v12.trans (hk0_v7.trans hk0_v3)))), (hk1_v26.trans (hk1_v17.trans (hk1_v12.trans (hk1_v7.trans hk1_v3)))), (hk10_v26.trans (hk10_v17.trans (hk10_v12.trans (hk10_v7.trans hk10_v3)))), (hk32_v26.trans (hk32_v17.trans (hk32_v12.trans (hk32_v7.trans hk32_v3)))), (Or.inr rfl)⟩ hP hD hS dX6_manLine_108 (Nat.le_refl _) (Nat.le_refl _)
        · skip
          have zc19 : ¬ (0 ≤ r15.toInt) := by rw [fa_le, show (0 : Int32).toInt = 0 from by decide] at c19; exact c19
          refine lv_iconst (v := (-1)) hx hb dX6_manLine_74 (by decide) ?_
          refine lv_goto (tgt := 102) hx hb dX6_manLine_75 (by decide) ?_
          refine lv_istore_n (lv' := [(3, .int (-1)), (2, .int r15), (1, .int r10), (0, .ref (x 2))]) hx hb dX6_manLine_102 rfl hl (by decide) rfl (fun ls hl => ?_)
          refine lv_iload_n hx hb dX6_manLine_103 rfl (lv_at hl 0 rfl) ?_
          refine lv_if_ge (tgt := 109) hx hb dX6_manLine_104 (by decide) (fun c0 => absurd c0 (by decide)) (fun _ => ?_)
          refine lv_iconst (v := 0) hx hb dX6_manLine_107 (by decide) ?_
          exact ret 0 (v17, f18) _ _ _ _ _ _ rfl ⟨(gsX_X6_manLine_1_q3 c1 hG2 hG6 hG11 c14 hG16 c19), hM_v17, hA_f18, hIv17, (hk0_v17.trans (hk0_v12.trans (hk0_v7.trans hk0_v3))), (hk1_v17.trans (hk1_v12.trans (hk1_v7.trans hk1_v3))), (hk10_v17.trans (hk10_v12.trans (hk10_v7.trans hk10_v3))), (hk32_v17.trans (hk32_v12.trans (hk32_v7.trans hk32_v3))), (Or.inr rfl)⟩ hP hD hS dX6_manLine_108 (Nat.le_refl _) (Nat.le_refl _)
      · skip
        have zc14 : ¬ (0 ≤ r10.toInt) := by rw [fa_le, show (0 : Int32).toInt = 0 from by decide] at c14; exact c14
        refine lv_iconst (v := (-1)) hx hb dX6_manLine_57 (by decide) ?_
        refine lv_goto (tgt := 69) hx hb dX6_manLine_58 (by decide) ?_
        refine lv_istore_n (lv' := [(2, .int (-1)), (1, .int r10), (0, .ref (x 2))]) hx hb dX6_manLine_69 rfl hl (by decide) rfl (fun ls hl => ?_)
        refine lv_iload_n hx hb dX6_manLine_70 rfl (lv_at hl 0 rfl) ?_
        refine lv_if_ge (tgt := 78) hx hb dX6_manLine_71 (by decide) (fun c0 => absurd c0 (by decide)) (fun _ => ?_)
        refine lv_iconst (v := (-1)) hx hb dX6_manLine_74 (by decide) ?_
        refine lv_goto (tgt := 102) hx hb dX6_manLine_75 (by decide) ?_
        refine lv_istore_n (lv' := [(3, .int (-1)), (2, .int (-1)), (1, .int r10), (0, .ref (x 2))]) hx hb dX6_manLine_102 rfl hl (by decide) rfl (fun ls hl => ?_)
        refine lv_iload_n hx hb dX6_manLine_103 rfl (lv_at hl 0 rfl) ?_
        refine lv_if_ge (tgt := 109) hx hb dX6_manLine_104 (by decide) (fun c0 => absurd c0 (by decide)) (fun _ => ?_)
        refine lv_iconst (v := 0) hx hb dX6_manLine_107 (by decide) ?_
        exact ret 0 (v12, f13) _ _ _ _ _ _ rfl ⟨(gsX_X6_manLine_1_q4 c1 hG2 hG6 hG11 c14), hM_v12, hA_f13, hIv12, (hk0_v12.trans (hk0_v7.trans hk0_v3)), (hk1_v12.trans (hk1_v7.trans hk1_v3)), (hk10_v12.trans (hk10_v7.trans hk10_v3)), (hk32_v12.trans (hk32_v7.trans hk32_v3)), (Or.inr rfl)⟩ hP hD hS dX6_manLine_108 (Nat.le_refl _) (Nat.le_refl _)
    · skip
      subst g9
      refine lv_if_ne (tgt := 44) hx hb dX6_manLine_39 (by decide) (fun c0 => absurd (by decide) c0) (fun _ => ?_)
      refine lv_iconst (v := 0) hx hb dX6_manLine_42 (by decide) ?_
      exact ret 0 (v7, f8) _ _ _ _ _ _ rfl ⟨(gsX_X6_manLine_1_q5 c1 hG2 hG6), hM_v7, hA_f8, hIv7, (hk0_v7.trans hk0_v3), (hk1_v7.trans hk1_v3), (hk10_v7.trans hk10_v3), (hk32_v7.trans hk32_v3), (Or.inr rfl)⟩ hP hD hS dX6_manLine_43 (Nat.le_refl _) (Nat.le_refl _)
  · skip
    have zc1 : ¬ ((v 9).toInt < 6) := by rw [fa_lt, show (6 : Int32).toInt = 6 from by decide] at c1; exact c1
    refine lv_aload_n hx hb dX6_manLine_12 rfl (lv_at hl 0 rfl) ?_
    refine cbVi (n := 0) (rest := []) hx hb hml hown hts hE hP hD hS hA (sX_X6_refuse_1 NF l dC dI cy x0 x  v f hIv ) k_691 k_693 k_6 k_103 k_694 (by decide +kernel) ⟨Nat.le_of_ble_eq_true rfl, Nat.le_of_ble_eq_true rfl⟩ 3 6 rfl rfl (rfl) hl.1 rfl (Nat.le_of_ble_eq_true rfl) dX6_manLine_13 (fun r32 u H locs hw hP hD hS => ?_)
    obtain ⟨hG33, hw⟩ := hw
    obtain ⟨v34, f35⟩ := u
    obtain ⟨kV_v34, kF_f35, hIv34, hk0_v34, hk1_v34, hk9_v34, hk10_v34, hk31_v34, hk32_v34, hw⟩ := hw
    have hM_v34 : KV [2, 3, 4, 5, 7, 8, 9] v34 v := KV.tr kV_v34 hM_v rfl
    have hA_f35 : KF [1, 7] f35 f := KF.tr kF_f35 hA_f rfl
    have hP : va_P (dC, dI) vwCl (XW cy x0 x v34 f35) H := hP
    have hD : va_D A (XW cy x0 x v34 f35) := hD
    have hq0_v34 : v34 0 = (v 0) := hk0_v34
    have hq1_v34 : v34 1 = (v 1) := hk1_v34
    have hq9_v34 : v34 9 = (v 9) := hk9_v34
    have hq10_v34 : v34 10 = (v 10) := hk10_v34
    have hq31_v34 : v34 31 = (v 31) := hk31_v34
    have hq32_v34 : v34 32 = (v 32) := hk32_v34
    rcases hw with ⟨g36⟩ | ⟨g36⟩
    · skip
      subst g36
      exact ret 1 (v34, f35) _ _ _ _ _ _ rfl ⟨(gsX_X6_manLine_1_q6 c1 hG33), hM_v34, hA_f35, hIv34, hk0_v34, hk1_v34, hk10_v34, hk32_v34, (Or.inl rfl)⟩ hP hD hS dX6_manLine_16 (Nat.le_refl _) (Nat.le_refl _)
    · skip
      subst g36
      exact ret 0 (v34, f35) _ _ _ _ _ _ rfl ⟨(gsX_X6_manLine_1_q7 c1 hG33), hM_v34, hA_f35, hIv34, hk0_v34, hk1_v34, hk10_v34, hk32_v34, (Or.inr rfl)⟩ hP hD hS dX6_manLine_16 (Nat.le_refl _) (Nat.le_refl _)
set_option maxHeartbeats 4000000 in
set_option maxRecDepth 100000 in
theorem sX_X6_taken_1 (NF : Nat) (l : Launch) (dC : Nat → ClassId) (dI : Nat → Nat → Nat) (cy : Nat → ClassId) (x0 : Nat) (x : Nat → Nat) (p1 : Int32) (v : Nat → Int32) (f : Nat → Nat → Int32) (hIv : XI v)  : ctIS l (dC, dI) cy yX6_taken cX6_taken 2 .boolean 7 191 0 0 ((Nat → Int32) × (Nat → Nat → Int32)) [.ref (x 2), .int p1] (XW cy x0 x v f) (fun r u => gsX_X6_taken_1 NF p1 v f = (r, u) ∧ KV [2, 3, 4, 5, 7, 8] u.1 v ∧ KF [] u.2 f ∧ XI u.1 ∧ u.1 0 = v 0 ∧ u.1 1 = v 1 ∧ u.1 9 = v 9 ∧ u.1 10 = v 10 ∧ u.1 31 = v 31 ∧ u.1 32 = v 32 ∧ ((r = 1) ∨ (r = 0))) (fun u => XW cy x0 x u.1 u.2) := by
  refine ctIS_of (by decide) (Nat.le_of_ble_eq_true rfl) (fun p e s m below meth c A ls Q hx hb hml hts hown hE hF hT hP hD hA hl ret => ?_)
  have hM_v : KV [2, 3, 4, 5, 7, 8] v v := fun _ _ => rfl
  have hA_f : KF [] f f := fun _ _ => rfl
  have hown : s.vm.findClass RX6 = some m.cls := hown
  have hS : va_S A s.heap s.heap [] := va_S.rf
  have hl : lv_has ls 2 [(0, .ref (x 2)), (1, .int p1)] := hl
  refine lv_aload_n hx hb dX6_taken_0 rfl (lv_at hl 0 rfl) ?_
  refine va_get (D := (dC, dI)) (ci := 6) (v := .ref (x 0)) (C := RX6) (T := TX6) (N := 7) hx hb hts inB_6 hown hE.1 hP 3 rfl rfl 0 (by decide) (hts _ k_265) (fun _ h9 => h9) rfl dX6_taken_1 ?_
  refine va_getN (D := (dC, dI)) (ci := 9) (v := .int (v 2)) (C := RX9) (T := TX9) (N := 6) hx hb hts inB_9 hown hE.1 hP 1 rfl rfl 2 (by decide) (va_Nw.use rfl (hE.2 _ k_139)) (fun _ h9 => h9) rfl dX6_taken_4 ?_
  refine lv_iload_n hx hb dX6_taken_7 rfl (lv_at hl 1 rfl) ?_
  refine lv_icmp_eq (tgt := 16) hx hb dX6_taken_8 (by decide) (fun c1 => ?_) (fun c1 => ?_)
  · skip
    have zc1 : (v 2).toInt = p1.toInt := by rw [fa_eq] at c1; exact c1
    have rg2 := fb_rng (v 2)
    have rg3 := fb_rng p1
    refine lv_aload_n hx hb dX6_taken_16 rfl (lv_at hl 0 rfl) ?_
    refine va_get (D := (dC, dI)) (ci := 6) (v := .ref (x 0)) (C := RX6) (T := TX6) (N := 7) hx hb hts inB_6 hown hE.1 hP 3 rfl rfl 0 (by decide) (hts _ k_265) (fun _ h9 => h9) rfl dX6_taken_17 ?_
    refine csVv (n := 0) (rest := []) hx hb hml hown hts hE hP hD hS hA hF hT (sX_X9_advance_1 NF l dC dI cy x0 x  v f hIv ) k_699 k_559 k_560 k_102 k_561 (by decide +kernel) ⟨Nat.le_of_ble_eq_true rfl, Nat.le_of_ble_eq_true rfl⟩ 1 9 rfl rfl (rfl) hl.1 rfl (Nat.le_of_ble_eq_true rfl) dX6_taken_20 (fun u H locs hw hP hD hS => ?_)
    obtain ⟨hG4, hw⟩ := hw
    obtain ⟨v5, f6⟩ := u
    obtain ⟨kV_v5, kF_f6, hIv5, hk0_v5, hk1_v5, hk7_v5, hk8_v5, hk9_v5, hk10_v5, hk31_v5, hk32_v5⟩ := hw
    have hM_v5 : KV [2, 3, 4, 5, 7, 8] v5 v := KV.tr kV_v5 hM_v rfl
    have hA_f6 : KF [] f6 f := KF.tr kF_f6 hA_f rfl
    have hP : va_P (dC, dI) vwCl (XW cy x0 x v5 f6) H := hP
    have hD : va_D A (XW cy x0 x v5 f6) := hD
    have hq0_v5 : v5 0 = (v 0) := hk0_v5
    have hq1_v5 : v5 1 = (v 1) := hk1_v5
    have hq7_v5 : v5 7 = (v 7) := hk7_v5
    have hq8_v5 : v5 8 = (v 8) := hk8_v5
    have hq9_v5 : v5 9 = (v 9) := hk9_v5
    have hq10_v5 : v5 10 = (v 10) := hk10_v5
    have hq31_v5 : v5 31 = (v 31) := hk31_v5
    have hq32_v5 : v5 32 = (v 32) := hk32_v5
    refine lv_iconst (v := 1) hx hb dX6_taken_23 (by decide) ?_
    exact ret 1 (v5, f6) _ _ _ _ _ _ rfl ⟨(gsX_X6_taken_1_q0 c1 hG4), hM_v5, hA_f6, hIv5, hk0_v5, hk1_v5, hk9_v5, hk10_v5, hk31_v5, hk32_v5, (Or.inl rfl)⟩ hP hD hS dX6_taken_24 (Nat.le_refl _) (Nat.le_refl _)
  · skip
    have zc1 : ¬ ((v 2).toInt = p1.toInt) := by rw [fa_eq] at c1; exact c1
    have rg7 := fb_rng (v 2)
    have rg8 := fb_rng p1
    refine lv_aload_n hx hb dX6_taken_11 rfl (lv_at hl 0 rfl) ?_
    refine cbVi (n := 0) (rest := []) hx hb hml hown hts hE hP hD hS hA (sX_X6_refuse_1 NF l dC dI cy x0 x  v f hIv ) k_691 k_693 k_6 k_103 k_694 (by decide +kernel) ⟨Nat.le_of_ble_eq_true rfl, Nat.le_of_ble_eq_true rfl⟩ 3 6 rfl rfl (rfl) hl.1 rfl (Nat.le_of_ble_eq_true rfl) dX6_taken_12 (fun r9 u H locs hw hP hD hS => ?_)
    obtain ⟨hG10, hw⟩ := hw
    obtain ⟨v11, f12⟩ := u
    obtain ⟨kV_v11, kF_f12, hIv11, hk0_v11, hk1_v11, hk9_v11, hk10_v11, hk31_v11, hk32_v11, hw⟩ := hw
    have hM_v11 : KV [2, 3, 4, 5, 7, 8] v11 v := KV.tr kV_v11 hM_v rfl
    have hA_f12 : KF [] f12 f := KF.tr kF_f12 hA_f rfl
    have hP : va_P (dC, dI) vwCl (XW cy x0 x v11 f12) H := hP
    have hD : va_D A (XW cy x0 x v11 f12) := hD
    have hq0_v11 : v11 0 = (v 0) := hk0_v11
    have hq1_v11 : v11 1 = (v 1) := hk1_v11
    have hq9_v11 : v11 9 = (v 9) := hk9_v11
    have hq10_v11 : v11 10 = (v 10) := hk10_v11
    have hq31_v11 : v11 31 = (v 31) := hk31_v11
    have hq32_v11 : v11 32 = (v 32) := hk32_v11
    rcases hw with ⟨g13⟩ | ⟨g13⟩
    · skip
      subst g13
      exact ret 1 (v11, f12) _ _ _ _ _ _ rfl ⟨(gsX_X6_taken_1_q1 c1 hG10), hM_v11, hA_f12, hIv11, hk0_v11, hk1_v11, hk9_v11, hk10_v11, hk31_v11, hk32_v11, (Or.inl rfl)⟩ hP hD hS dX6_taken_15 (Nat.le_refl _) (Nat.le_refl _)
    · skip
      subst g13
      exact ret 0 (v11, f12) _ _ _ _ _ _ rfl ⟨(gsX_X6_taken_1_q2 c1 hG10), hM_v11, hA_f12, hIv11, hk0_v11, hk1_v11, hk9_v11, hk10_v11, hk31_v11, hk32_v11, (Or.inr rfl)⟩ hP hD hS dX6_taken_15 (Nat.le_refl _) (Nat.le_refl _)
set_option maxHeartbeats 4000000 in
set_option maxRecDepth 100000 in
theorem sX_X6_closing_1 (NF : Nat) (l : Launch) (dC : Nat → ClassId) (dI : Nat → Nat → Nat) (cy : Nat → ClassId) (x0 : Nat) (x : Nat → Nat)  (v : Nat → Int32) (f : Nat → Nat → Int32) (hIv : XI v)  : ctIS l (dC, dI) cy yX6_closing cX6_closing 1 .boolean 8 212 0 0 ((Nat → Int32) × (Nat → Nat → Int32)) [.ref (x 2)] (XW cy x0 x v f) (fun r u => gsX_X6_closing_1 NF v f = (r, u) ∧ KV [2, 3, 4, 5, 7, 8] u.1 v ∧ KF [] u.2 f ∧ XI u.1 ∧ u.1 0 = v 0 ∧ u.1 1 = v 1 ∧ u.1 9 = v 9 ∧ u.1 10 = v 10 ∧ u.1 31 = v 31 ∧ u.1 32 = v 32 ∧ ((r = 1) ∨ (r = 0))) (fun u => XW cy x0 x u.1 u.2) := by
  refine ctIS_of (by decide) (Nat.le_of_ble_eq_true rfl) (fun p e s m below meth c A ls Q hx hb hml hts hown hE hF hT hP hD hA hl ret => ?_)
  have hM_v : KV [2, 3, 4, 5, 7, 8] v v := fun _ _ => rfl
  have hA_f : KF [] f f := fun _ _ => rfl
  have hown : s.vm.findClass RX6 = some m.cls := hown
  have hS : va_S A s.heap s.heap [] := va_S.rf
  have hl : lv_has ls 1 [(0, .ref (x 2))] := hl
  refine lv_aload_n hx hb dX6_closing_0 rfl (lv_at hl 0 rfl) ?_
  refine lv_bipush (v := 59) hx hb dX6_closing_1 (by decide) ?_
  refine csVi (n := 1) (rest := []) hx hb hml hown hts hE hP hD hS hA hF hT (sX_X6_taken_1 NF l dC dI cy x0 x 59 v f hIv ) k_724 k_726 k_12 k_103 k_727 (by decide +kernel) ⟨Nat.le_of_ble_eq_true rfl, Nat.le_of_ble_eq_true rfl⟩ 3 6 rfl rfl (rfl) hl.1 rfl (Nat.le_of_ble_eq_true rfl) dX6_closing_3 (fun r1 u H locs hw hP hD hS => ?_)
  obtain ⟨hG2, hw⟩ := hw
  obtain ⟨v3, f4⟩ := u
  obtain ⟨kV_v3, kF_f4, hIv3, hk0_v3, hk1_v3, hk9_v3, hk10_v3, hk31_v3, hk32_v3, hw⟩ := hw
  have hM_v3 : KV [2, 3, 4, 5, 7, 8] v3 v := KV.tr kV_v3 hM_v rfl
  have hA_f4 : KF [] f4 f := KF.tr kF_f4 hA_f rfl
  have hP : va_P (dC, dI) vwCl (XW cy x0 x v3 f4) H := hP
  have hD : va_D A (XW cy x0 x v3 f4) := hD
  have hq0_v3 : v3 0 = (v 0) := hk0_v3
  have hq1_v3 : v3 1 = (v 1) := hk1_v3
  have hq9_v3 : v3 9 = (v 9) := hk9_v3
  have hq10_v3 : v3 10 = (v 10) := hk10_v3
  have hq31_v3 : v3 31 = (v 31) := hk31_v3
  have hq32_v3 : v3 32 = (v 32) := hk32_v3
  rcases hw with ⟨g5⟩ | ⟨g5⟩
  · skip
    subst g5
    exact ret 1 (v3, f4) _ _ _ _ _ _ rfl ⟨(gsX_X6_closing_1_q0 hG2), hM_v3, hA_f4, hIv3, hk0_v3, hk1_v3, hk9_v3, hk10_v3, hk31_v3, hk32_v3, (Or.inl rfl)⟩ hP hD hS dX6_closing_6 (Nat.le_refl _) (Nat.le_refl _)
  · skip
    subst g5
    exact ret 0 (v3, f4) _ _ _ _ _ _ rfl ⟨(gsX_X6_closing_1_q1 hG2), hM_v3, hA_f4, hIv3, hk0_v3, hk1_v3, hk9_v3, hk10_v3, hk31_v3, hk32_v3, (Or.inr rfl)⟩ hP hD hS dX6_closing_6 (Nat.le_refl _) (Nat.le_refl _)
set_option maxHeartbeats 4000000 in
set_option maxRecDepth 100000 in
theorem sX_X6_name_2 (NF : Nat) (l : Launch) (dC : Nat → ClassId) (dI : Nat → Nat → Nat) (cy : Nat → ClassId) (x0 : Nat) (x : Nat → Nat) (p2 : Int32) (v : Nat → Int32) (f : Nat → Nat → Int32) (hIv : XI v)  : ctIS l (dC, dI) cy yX6_name cX6_name 4 .boolean 7 191 0 0 ((Nat → Int32) × (Nat → Nat → Int32)) [.ref (x 2), .ref (x 12), .int p2] (XW cy x0 x v f) (fun r u => gsX_X6_name_2 NF p2 v f = (r, u) ∧ KV [2, 3, 4, 5, 7, 8] u.1 v ∧ KF [8] u.2 f ∧ XI u.1 ∧ u.1 0 = v 0 ∧ u.1 1 = v 1 ∧ u.1 9 = v 9 ∧ u.1 10 = v 10 ∧ u.1 31 = v 31 ∧ u.1 32 = v 32 ∧ ((r = 1) ∨ (r = 0))) (fun u => XW cy x0 x u.1 u.2) := by
  refine ctIS_of (by decide) (Nat.le_of_ble_eq_true rfl) (fun p e s m below meth c A ls Q hx hb hml hts hown hE hF hT hP hD hA hl ret => ?_)
  have hM_v : KV [2, 3, 4, 5, 7, 8] v v := fun _ _ => rfl
  have hA_f : KF [8] f f := fun _ _ => rfl
  have hown : s.vm.findClass RX6 = some m.cls := hown
  have hS : va_S A s.heap s.heap [] := va_S.rf
  have hl : lv_has ls 4 [(0, .ref (x 2)), (1, .ref (x 12)), (2, .int p2)] := hl
  refine lv_aload_n hx hb dX6_name_0 rfl (lv_at hl 0 rfl) ?_
  refine va_get (D := (dC, dI)) (ci := 6) (v := .ref (x 0)) (C := RX6) (T := TX6) (N := 7) hx hb hts inB_6 hown hE.1 hP 3 rfl rfl 0 (by decide) (hts _ k_265) (fun _ h9 => h9) rfl dX6_name_1 ?_
  refine va_getN (D := (dC, dI)) (ci := 9) (v := .int (v 2)) (C := RX9) (T := TX9) (N := 6) hx hb hts inB_9 hown hE.1 hP 1 rfl rfl 2 (by decide) (va_Nw.use rfl (hE.2 _ k_139)) (fun _ h9 => h9) rfl dX6_name_4 ?_
  refine lv_iconst (v := 3) hx hb dX6_name_7 (by decide) ?_
  refine lv_icmp_eq (tgt := 16) hx hb dX6_name_8 (by decide) (fun c1 => ?_) (fun c1 => ?_)
  · skip
    have zc1 : (v 2).toInt = 3 := by rw [fa_eq, show (3 : Int32).toInt = 3 from by decide] at c1; exact c1
    refine lv_iconst (v := 0) hx hb dX6_name_16 (by decide) ?_
    refine lv_istore_n (lv' := [(3, .int 0), (0, .ref (x 2)), (1, .ref (x 12)), (2, .int p2)]) hx hb dX6_name_17 rfl hl (by decide) rfl (fun ls hl => ?_)
    have lp2 : ∀ (n2 : Nat) (l3_2 : Int32) (v2 : Nat → Int32) (f2 : Nat → Nat → Int32), XI v2 → v2 0 = (v 0) → v2 1 = (v 1) → v2 9 = (v 9) → v2 10 = (v 10) → v2 31 = (v 31) → v2 32 = (v 32) → gsX_X6_name_2_L2 NF p2 n2 l3_2 v2 f2 = (gsX_X6_name_2 NF p2 v f) → ((0 : Int) ≤ l3_2.toInt ∧ l3_2.toInt ≤ 2147483647) → KV [2, 3, 4, 5, 7, 8] v2 v → KF [8] f2 f → (2147483647 - l3_2.toInt).toNat < n2 → ∀ (H : Heap) (locs : List Loc) (ls : Array Slot), va_P (dC, dI) vwCl (XW cy x0 x v2 f2) H → va_D A (XW cy x0 x v2 f2) → va_S A s.heap H locs → lv_has ls 4 [(3, .int l3_2), (0, .ref (x 2)), (1, .ref (x 12)), (2, .int p2)] → W p l e { frames := 7, cells := 0, slots := 0, locals := 191 } s m ([.ref (x 2), .ref (x 12), .int p2] : List Value).toArray below meth c H locs 0 0 Q (F0 m 18 ls []) := by
      intro n2
      induction n2 with
      | zero => intro l3_2 v2 f2 hIv2 hq0_v2 hq1_v2 hq9_v2 hq10_v2 hq31_v2 hq32_v2 hT2 hr3_2 hM_v2 hA_f2 hm; exact absurd hm (Nat.not_lt_zero _)
      | succ n2 ih2 =>
        intro l3_2 v2 f2 hIv2 hq0_v2 hq1_v2 hq9_v2 hq10_v2 hq31_v2 hq32_v2 hT2 hr3_2 hM_v2 hA_f2 hm2 H locs ls hP hD hS hl
        refine lv_iload_n hx hb dX6_name_18 rfl (lv_at hl 0 rfl) ?_
        refine lv_iload_n hx hb dX6_name_19 rfl (lv_at hl 3 rfl) ?_
        refine lv_icmp_ge (tgt := 61) hx hb dX6_name_20 (by decide) (fun c3 => ?_) (fun c3 => ?_)
        · skip
          have zc3 : p2.toInt ≤ l3_2.toInt := by rw [fa_le] at c3; exact c3
          have rg4 := fb_rng l3_2
          have rg5 := fb_rng p2
          refine lv_iload_n hx hb dX6_name_61 rfl (lv_at hl 3 rfl) ?_
          refine lv_if_lt (tgt := 81) hx hb dX6_name_62 (by decide) (fun c6 => ?_) (fun c6 => ?_)
          · skip
            have zc6 : p2.toInt < 0 := by rw [fa_lt, show (0 : Int32).toInt = 0 from by decide] at c6; exact c6
            refine lv_aload_n hx hb dX6_name_81 rfl (lv_at hl 1 rfl) ?_
            refine va_get (D := (dC, dI)) (ci := 6) (v := .ref (x 0)) (C := RX6) (T := TX6) (N := 7) hx hb hts inB_6 hown hE.1 hP 3 rfl rfl 0 (by decide) (hts _ k_265) (fun _ h9 => h9) rfl dX6_name_82 ?_
            refine csVv (n := 0) (rest := []) hx hb hml hown hts hE hP hD hS hA hF hT (sX_X9_advance_1 NF l dC dI cy x0 x  v2 f2 hIv2 ) k_699 k_559 k_560 k_102 k_561 (by decide +kernel) ⟨Nat.le_of_ble_eq_true rfl, Nat.le_of_ble_eq_true rfl⟩ 1 9 rfl rfl (rfl) hl.1 rfl (Nat.le_of_ble_eq_true rfl) dX6_name_85 (fun u H locs hw hP hD hS => ?_)
            obtain ⟨hG7, hw⟩ := hw
            obtain ⟨v8, f9⟩ := u
            obtain ⟨kV_v8, kF_f9, hIv8, hk0_v8, hk1_v8, hk7_v8, hk8_v8, hk9_v8, hk10_v8, hk31_v8, hk32_v8⟩ := hw
            have hM_v8 : KV [2, 3, 4, 5, 7, 8] v8 v := KV.tr kV_v8 hM_v2 rfl
            have hA_f9 : KF [8] f9 f := KF.tr kF_f9 hA_f2 rfl
            have hP : va_P (dC, dI) vwCl (XW cy x0 x v8 f9) H := hP
            have hD : va_D A (XW cy x0 x v8 f9) := hD
            have hq0_v8 : v8 0 = (v 0) := hk0_v8.trans hq0_v2
            have hq1_v8 : v8 1 = (v 1) := hk1_v8.trans hq1_v2
            have hq7_v8 : v8 7 = (v2 7) := hk7_v8
            have hq8_v8 : v8 8 = (v2 8) := hk8_v8
            have hq9_v8 : v8 9 = (v 9) := hk9_v8.trans hq9_v2
            have hq10_v8 : v8 10 = (v 10) := hk10_v8.trans hq10_v2
            have hq31_v8 : v8 31 = (v 31) := hk31_v8.trans hq31_v2
            have hq32_v8 : v8 32 = (v 32) := hk32_v8.trans hq32_v2
            refine lv_iconst (v := 1) hx hb dX6_name_88 (by decide) ?_
            exact ret 1 (v8, f9) _ _ _ _ _ _ rfl ⟨(hT2.symm.trans (gsX_X6_name_2_q0 c3 c6 hG7)), hM_v8, hA_f9, hIv8, (hk0_v8.trans (show v2 0 = v 0 from hq0_v2)), (hk1_v8.trans (show v2 1 = v 1 from hq1_v2)), (hk9_v8.trans (show v2 9 = v 9 from hq9_v2)), (hk10_v8.trans (show v2 10 = v 10 from hq10_v2)), (hk31_v8.trans (show v2 31 = v 31 from hq31_v2)), (hk32_v8.trans (show v2 32 = v 32 from hq32_v2)), (Or.inl rfl)⟩ hP hD hS dX6_name_89 (Nat.le_refl _) (Nat.le_refl _)
          · skip
            have zc6 : ¬ (p2.toInt < 0) := by rw [fa_lt, show (0 : Int32).toInt = 0 from by decide] at c6; exact c6
            refine lv_iload_n hx hb dX6_name_65 rfl (lv_at hl 3 rfl) ?_
            refine lv_aload_n hx hb dX6_name_66 rfl (lv_at hl 2 rfl) ?_
            refine va_alen (v := 6) hx hb hE.1 hP 13 1 rfl rfl rfl dX6_name_67 ?_
            refine lv_icmp_ge (tgt := 81) hx hb dX6_name_68 (by decide) (fun c10 => ?_) (fun c10 => ?_)
            · skip
              have zc10 : 6 ≤ p2.toInt := by rw [fa_le, show (6 : Int32).toInt = 6 from by decide] at c10; exact c10
              refine lv_aload_n hx hb dX6_name_81 rfl (lv_at hl 1 rfl) ?_
              refine va_get (D := (dC, dI)) (ci := 6) (v := .ref (x 0)) (C := RX6) (T := TX6) (N := 7) hx hb hts inB_6 hown hE.1 hP 3 rfl rfl 0 (by decide) (hts _ k_265) (fun _ h9 => h9) rfl dX6_name_82 ?_
              refine csVv (n := 0) (rest := []) hx hb hml hown hts hE hP hD hS hA hF hT (sX_X9_advance_1 NF l dC dI cy x0 x  v2 f2 hIv2 ) k_699 k_559 k_560 k_102 k_561 (by decide +kernel) ⟨Nat.le_of_ble_eq_true rfl, Nat.le_of_ble_eq_true rfl⟩ 1 9 rfl rfl (rfl) hl.1 rfl (Nat.le_of_ble_eq_true rfl) dX6_name_85 (fun u H locs hw hP hD hS => ?_)
              obtain ⟨hG11, hw⟩ := hw
              obtain ⟨v12, f13⟩ := u
              obtain ⟨kV_v12, kF_f13, hIv12, hk0_v12, hk1_v12, hk7_v12, hk8_v12, hk9_v12, hk10_v12, hk31_v12, hk32_v12⟩ := hw
              have hM_v12 : KV [2, 3, 4, 5, 7, 8] v12 v := KV.tr kV_v12 hM_v2 rfl
              have hA_f13 : KF [8] f13 f := KF.tr kF_f13 hA_f2 rfl
              have hP : va_P (dC, dI) vwCl (XW cy x0 x v12 f13) H := hP
              have hD : va_D A (XW cy x0 x v12 f13) := hD
              have hq0_v12 : v12 0 = (v 0) := hk0_v12.trans hq0_v2
              have hq1_v12 : v12 1 = (v 1) := hk1_v12.trans hq1_v2
              have hq7_v12 : v12 7 = (v2 7) := hk7_v12
              have hq8_v12 : v12 8 = (v2 8) := hk8_v12
              have hq9_v12 : v12 9 = (v 9) := hk9_v12.trans hq9_v2
              have hq10_v12 : v12 10 = (v 10) := hk10_v12.trans hq10_v2
              have hq31_v12 : v12 31 = (v 31) := hk31_v12.trans hq31_v2
              have hq32_v12 : v12 32 = (v 32) := hk32_v12.trans hq32_v2
              refine lv_iconst (v := 1) hx hb dX6_name_88 (by decide) ?_
              exact ret 1 (v12, f13) _ _ _ _ _ _ rfl ⟨(hT2.symm.trans (gsX_X6_name_2_q1 c3 c6 c10 hG11)), hM_v12, hA_f13, hIv12, (hk0_v12.trans (show v2 0 = v 0 from hq0_v2)), (hk1_v12.trans (show v2 1 = v 1 from hq1_v2)), (hk9_v12.trans (show v2 9 = v 9 from hq9_v2)), (hk10_v12.trans (show v2 10 = v 10 from hq10_v2)), (hk31_v12.trans (show v2 31 = v 31 from hq31_v2)), (hk32_v12.trans (show v2 32 = v 32 from hq32_v2)), (Or.inl rfl)⟩ hP hD hS dX6_name_89 (Nat.le_refl _) (Nat.le_refl _)
            · skip
              have zc10 : ¬ (6 ≤ p2.toInt) := by rw [fa_le, show (6 : Int32).toInt = 6 from by decide] at c10; exact c10
              refine lv_aload_n hx hb dX6_name_71 rfl (lv_at hl 2 rfl) ?_
              refine lv_iload_n hx hb dX6_name_72 rfl (lv_at hl 3 rfl) ?_
              refine lv_aload_n hx hb dX6_name_73 rfl (lv_at hl 1 rfl) ?_
              refine va_get (D := (dC, dI)) (ci := 6) (v := .ref (x 0)) (C := RX6) (T := TX6) (N := 7) hx hb hts inB_6 hown hE.1 hP 3 rfl rfl 0 (by decide) (hts _ k_265) (fun _ h9 => h9) rfl dX6_name_74 ?_
              refine va_getN (D := (dC, dI)) (ci := 9) (v := .int (v2 3)) (C := RX9) (T := TX9) (N := 6) hx hb hts inB_9 hown hE.1 hP 1 rfl rfl 3 (by decide) (va_Nw.use rfl (hE.2 _ k_142)) (fun _ h9 => h9) rfl dX6_name_77 ?_
              have b3_v2 : 0 ≤ (v2 3).toInt ∧ (v2 3).toInt ≤ 1600 := XI.b hIv2 3 (by decide)
              refine stI hx hb hE hP hD hS 13 rfl (vp_in_iff.mpr ⟨by omega, by omega⟩) rfl dX6_name_80 (fun H locs hP hD hS => ?_)
              obtain ⟨f14, ef14, hP, hD⟩ : ∃ fz9, fz9 = upd2 f2 8 (upd (f2 8) p2.toNatClampNeg (v2 3)) ∧ va_P (dC, dI) vwCl (XW cy x0 x v2 fz9) H ∧ va_D A (XW cy x0 x v2 fz9) := ⟨_, rfl, hP, hD⟩
              have hA_f14 : KF [8] f14 f := by rw [ef14]; exact KF.up hA_f2 rfl
              refine lv_aload_n hx hb dX6_name_81 rfl (lv_at hl 1 rfl) ?_
              refine va_get (D := (dC, dI)) (ci := 6) (v := .ref (x 0)) (C := RX6) (T := TX6) (N := 7) hx hb hts inB_6 hown hE.1 hP 3 rfl rfl 0 (by decide) (hts _ k_265) (fun _ h9 => h9) rfl dX6_name_82 ?_
              refine csVv (n := 0) (rest := []) hx hb hml hown hts hE hP hD hS hA hF hT (sX_X9_advance_1 NF l dC dI cy x0 x  v2 f14 hIv2 ) k_699 k_559 k_560 k_102 k_561 (by decide +kernel) ⟨Nat.le_of_ble_eq_true rfl, Nat.le_of_ble_eq_true rfl⟩ 1 9 rfl rfl (rfl) hl.1 rfl (Nat.le_of_ble_eq_true rfl) dX6_name_85 (fun u H locs hw hP hD hS => ?_)
              obtain ⟨hG15, hw⟩ := hw
              obtain ⟨v16, f17⟩ := u
              obtain ⟨kV_v16, kF_f17, hIv16, hk0_v16, hk1_v16, hk7_v16, hk8_v16, hk9_v16, hk10_v16, hk31_v16, hk32_v16⟩ := hw
              have hM_v16 : KV [2, 3, 4, 5, 7, 8] v16 v := KV.tr kV_v16 hM_v2 rfl
              have hA_f17 : KF [8] f17 f := KF.tr kF_f17 hA_f14 rfl
              have hP : va_P (dC, dI) vwCl (XW cy x0 x v16 f17) H := hP
              have hD : va_D A (XW cy x0 x v16 f17) := hD
              have hq0_v16 : v16 0 = (v 0) := hk0_v16.trans hq0_v2
              have hq1_v16 : v16 1 = (v 1) := hk1_v16.trans hq1_v2
              have hq7_v16 : v16 7 = (v2 7) := hk7_v16
              have hq8_v16 : v16 8 = (v2 8) := hk8_v16
              have hq9_v16 : v16 9 = (v 9) := hk9_v16.trans hq9_v2
              have hq10_v16 : v16 10 = (v 10) := hk10_v16.trans hq10_v2
              have hq31_v16 : v16 31 = (v 31) := hk31_v16.trans hq31_v2
              have hq32_v16 : v16 32 = (v 32) := hk32_v16.trans hq32_v2
              refine lv_iconst (v := 1) hx hb dX6_name_88 (by decide) ?_
              exact ret 1 (v16, f17) _ _ _ _ _ _ rfl ⟨(hT2.symm.trans (gsX_X6_name_2_q2 c3 c6 c10 ef14 hG15)), hM_v16, hA_f17, hIv16, (hk0_v16.trans (show v2 0 = v 0 from hq0_v2)), (hk1_v16.trans (show v2 1 = v 1 from hq1_v2)), (hk9_v16.trans (show v2 9 = v 9 from hq9_v2)), (hk10_v16.trans (show v2 10 = v 10 from hq10_v2)), (hk31_v16.trans (show v2 31 = v 31 from hq31_v2)), (hk32_v16.trans (show v2 32 = v 32 from hq32_v2)), (Or.inl rfl)⟩ hP hD hS dX6_name_89 (Nat.le_refl _) (Nat.le_refl _)
        · skip
          have zc3 : ¬ (p2.toInt ≤ l3_2.toInt) := by rw [fa_le] at c3; exact c3
          have rg18 := fb_rng l3_2
          have rg19 := fb_rng p2
          refine lv_iload_n hx hb dX6_name_23 rfl (lv_at hl 0 rfl) ?_
          refine lv_aload_n hx hb dX6_name_24 rfl (lv_at hl 2 rfl) ?_
          refine va_alen (v := 6) hx hb hE.1 hP 13 1 rfl rfl rfl dX6_name_25 ?_
          refine lv_icmp_ge (tgt := 61) hx hb dX6_name_26 (by decide) (fun c20 => ?_) (fun c20 => ?_)
          · skip
            have zc20 : 6 ≤ l3_2.toInt := by rw [fa_le, show (6 : Int32).toInt = 6 from by decide] at c20; exact c20
            refine lv_iload_n hx hb dX6_name_61 rfl (lv_at hl 3 rfl) ?_
            refine lv_if_lt (tgt := 81) hx hb dX6_name_62 (by decide) (fun c21 => ?_) (fun c21 => ?_)
            · skip
              have zc21 : p2.toInt < 0 := by rw [fa_lt, show (0 : Int32).toInt = 0 from by decide] at c21; exact c21
              refine lv_aload_n hx hb dX6_name_81 rfl (lv_at hl 1 rfl) ?_
              refine va_get (D := (dC, dI)) (ci := 6) (v := .ref (x 0)) (C := RX6) (T := TX6) (N := 7) hx hb hts inB_6 hown hE.1 hP 3 rfl rfl 0 (by decide) (hts _ k_265) (fun _ h9 => h9) rfl dX6_name_82 ?_
              refine csVv (n := 0) (rest := []) hx hb hml hown hts hE hP hD hS hA hF hT (sX_X9_advance_1 NF l dC dI cy x0 x  v2 f2 hIv2 ) k_699 k_559 k_560 k_102 k_561 (by decide +kernel) ⟨Nat.le_of_ble_eq_true rfl, Nat.le_of_ble_eq_true rfl⟩ 1 9 rfl rfl (rfl) hl.1 rfl (Nat.le_of_ble_eq_true rfl) dX6_name_85 (fun u H locs hw hP hD hS => ?_)
              obtain ⟨hG22, hw⟩ := hw
              obtain ⟨v23, f24⟩ := u
              obtain ⟨kV_v23, kF_f24, hIv23, hk0_v23, hk1_v23, hk7_v23, hk8_v23, hk9_v23, hk10_v23, hk31_v23, hk32_v23⟩ := hw
              have hM_v23 : KV [2, 3, 4, 5, 7, 8] v23 v := KV.tr kV_v23 hM_v2 rfl
              have hA_f24 : KF [8] f24 f := KF.tr kF_f24 hA_f2 rfl
              have hP : va_P (dC, dI) vwCl (XW cy x0 x v23 f24) H := hP
              have hD : va_D A (XW cy x0 x v23 f24) := hD
              have hq0_v23 : v23 0 = (v 0) := hk0_v23.trans hq0_v2
              have hq1_v23 : v23 1 = (v 1) := hk1_v23.trans hq1_v2
              have hq7_v23 : v23 7 = (v2 7) := hk7_v23
              have hq8_v23 : v23 8 = (v2 8) := hk8_v23
              have hq9_v23 : v23 9 = (v 9) := hk9_v23.trans hq9_v2
              have hq10_v23 : v23 10 = (v 10) := hk10_v23.trans hq10_v2
              have hq31_v23 : v23 31 = (v 31) := hk31_v23.trans hq31_v2
              have hq32_v23 : v23 32 = (v 32) := hk32_v23.trans hq32_v2
              refine lv_iconst (v := 1) hx hb dX6_name_88 (by decide) ?_
              exact ret 1 (v23, f24) _ _ _ _ _ _ rfl ⟨(hT2.symm.trans (gsX_X6_name_2_q3 c3 c20 c21 hG22)), hM_v23, hA_f24, hIv23, (hk0_v23.trans (show v2 0 = v 0 from hq0_v2)), (hk1_v23.trans (show v2 1 = v 1 from hq1_v2)), (hk9_v23.trans (show v2 9 = v 9 from hq9_v2)), (hk10_v23.trans (show v2 10 = v 10 from hq10_v2)), (hk31_v23.trans (show v2 31 = v 31 from hq31_v2)), (hk32_v23.trans (show v2 32 = v 32 from hq32_v2)), (Or.inl rfl)⟩ hP hD hS dX6_name_89 (Nat.le_refl _) (Nat.le_refl _)
            · skip
              have zc21 : ¬ (p2.toInt < 0) := by rw [fa_lt, show (0 : Int32).toInt = 0 from by decide] at c21; exact c21
              refine lv_iload_n hx hb dX6_name_65 rfl (lv_at hl 3 rfl) ?_
              refine lv_aload_n hx hb dX6_name_66 rfl (lv_at hl 2 rfl) ?_
              refine va_alen (v := 6) hx hb hE.1 hP 13 1 rfl rfl rfl dX6_name_67 ?_
              refine lv_icmp_ge (tgt := 81) hx hb dX6_name_68 (by decide) (fun c25 => ?_) (fun c25 => ?_)
              · skip
                have zc25 : 6 ≤ p2.toInt := by rw [fa_le, show (6 : Int32).toInt = 6 from by decide] at c25; exact c25
                refine lv_aload_n hx hb dX6_name_81 rfl (lv_at hl 1 rfl) ?_
                refine va_get (D := (dC, dI)) (ci := 6) (v := .ref (x 0)) (C := RX6) (T := TX6) (N := 7) hx hb hts inB_6 hown hE.1 hP 3 rfl rfl 0 (by decide) (hts _ k_265) (fun _ h9 => h9) rfl dX6_name_82 ?_
                refine csVv (n := 0) (rest := []) hx hb hml hown hts hE hP hD hS hA hF hT (sX_X9_advance_1 NF l dC dI cy x0 x  v2 f2 hIv2 ) k_699 k_559 k_560 k_102 k_561 (by decide +kernel) ⟨Nat.le_of_ble_eq_true rfl, Nat.le_of_ble_eq_true rfl⟩ 1 9 rfl rfl (rfl) hl.1 rfl (Nat.le_of_ble_eq_true rfl) dX6_name_85 (fun u H locs hw hP hD hS => ?_)
                obtain ⟨hG26, hw⟩ := hw
                obtain ⟨v27, f28⟩ := u
                obtain ⟨kV_v27, kF_f28, hIv27, hk0_v27, hk1_v27, hk7_v27, hk8_v27, hk9_v27, hk10_v27, hk31_v27, hk32_v27⟩ := hw
                have hM_v27 : KV [2, 3, 4, 5, 7, 8] v27 v := KV.tr kV_v27 hM_v2 rfl
                have hA_f28 : KF [8] f28 f := KF.tr kF_f28 hA_f2 rfl
                have hP : va_P (dC, dI) vwCl (XW cy x0 x v27 f28) H := hP
                have hD : va_D A (XW cy x0 x v27 f28) := hD
                have hq0_v27 : v27 0 = (v 0) := hk0_v27.trans hq0_v2
                have hq1_v27 : v27 1 = (v 1) := hk1_v27.trans hq1_v2
                have hq7_v27 : v27 7 = (v2 7) := hk7_v27
                have hq8_v27 : v27 8 = (v2 8) := hk8_v27
                have hq9_v27 : v27 9 = (v 9) := hk9_v27.trans hq9_v2
                have hq10_v27 : v27 10 = (v 10) := hk10_v27.trans hq10_v2
                have hq31_v27 : v27 31 = (v 31) := hk31_v27.trans hq31_v2
                have hq32_v27 : v27 32 = (v 32) := hk32_v27.trans hq32_v2
                refine lv_iconst (v := 1) hx hb dX6_name_88 (by decide) ?_
                exact ret 1 (v27, f28) _ _ _ _ _ _ rfl ⟨(hT2.symm.trans (gsX_X6_name_2_q4 c3 c20 c21 c25 hG26)), hM_v27, hA_f28, hIv27, (hk0_v27.trans (show v2 0 = v 0 from hq0_v2)), (hk1_v27.trans (show v2 1 = v 1 from hq1_v2)), (hk9_v27.trans (show v2 9 = v 9 from hq9_v2)), (hk10_v27.trans (show v2 10 = v 10 from hq10_v2)), (hk31_v27.trans (show v2 31 = v 31 from hq31_v2)), (hk32_v27.trans (show v2 32 = v 32 from hq32_v2)), (Or.inl rfl)⟩ hP hD hS dX6_name_89 (Nat.le_refl _) (Nat.le_refl _)
              · skip
                have zc25 : ¬ (6 ≤ p2.toInt) := by rw [fa_le, show (6 : Int32).toInt = 6 from by decide] at c25; exact c25
                refine lv_aload_n hx hb dX6_name_71 rfl (lv_at hl 2 rfl) ?_
                refine lv_iload_n hx hb dX6_name_72 rfl (lv_at hl 3 rfl) ?_
                refine lv_aload_n hx hb dX6_name_73 rfl (lv_at hl 1 rfl) ?_
                refine va_get (D := (dC, dI)) (ci := 6) (v := .ref (x 0)) (C := RX6) (T := TX6) (N := 7) hx hb hts inB_6 hown hE.1 hP 3 rfl rfl 0 (by decide) (hts _ k_265) (fun _ h9 => h9) rfl dX6_name_74 ?_
                refine va_getN (D := (dC, dI)) (ci := 9) (v := .int (v2 3)) (C := RX9) (T := TX9) (N := 6) hx hb hts inB_9 hown hE.1 hP 1 rfl rfl 3 (by decide) (va_Nw.use rfl (hE.2 _ k_142)) (fun _ h9 => h9) rfl dX6_name_77 ?_
                have b3_v2 : 0 ≤ (v2 3).toInt ∧ (v2 3).toInt ≤ 1600 := XI.b hIv2 3 (by decide)
                refine stI hx hb hE hP hD hS 13 rfl (vp_in_iff.mpr ⟨by omega, by omega⟩) rfl dX6_name_80 (fun H locs hP hD hS => ?_)
                obtain ⟨f29, ef29, hP, hD⟩ : ∃ fz9, fz9 = upd2 f2 8 (upd (f2 8) p2.toNatClampNeg (v2 3)) ∧ va_P (dC, dI) vwCl (XW cy x0 x v2 fz9) H ∧ va_D A (XW cy x0 x v2 fz9) := ⟨_, rfl, hP, hD⟩
                have hA_f29 : KF [8] f29 f := by rw [ef29]; exact KF.up hA_f2 rfl
                refine lv_aload_n hx hb dX6_name_81 rfl (lv_at hl 1 rfl) ?_
                refine va_get (D := (dC, dI)) (ci := 6) (v := .ref (x 0)) (C := RX6) (T := TX6) (N := 7) hx hb hts inB_6 hown hE.1 hP 3 rfl rfl 0 (by decide) (hts _ k_265) (fun _ h9 => h9) rfl dX6_name_82 ?_
                refine csVv (n := 0) (rest := []) hx hb hml hown hts hE hP hD hS hA hF hT (sX_X9_advance_1 NF l dC dI cy x0 x  v2 f29 hIv2 ) k_699 k_559 k_560 k_102 k_561 (by decide +kernel) ⟨Nat.le_of_ble_eq_true rfl, Nat.le_of_ble_eq_true rfl⟩ 1 9 rfl rfl (rfl) hl.1 rfl (Nat.le_of_ble_eq_true rfl) dX6_name_85 (fun u H locs hw hP hD hS => ?_)
                obtain ⟨hG30, hw⟩ := hw
                obtain ⟨v31, f32⟩ := u
                obtain ⟨kV_v31, kF_f32, hIv31, hk0_v31, hk1_v31, hk7_v31, hk8_v31, hk9_v31, hk10_v31, hk31_v31, hk32_v31⟩ := hw
                have hM_v31 : KV [2, 3, 4, 5, 7, 8] v31 v := KV.tr kV_v31 hM_v2 rfl
                have hA_f32 : KF [8] f32 f := KF.tr kF_f32 hA_f29 rfl
                have hP : va_P (dC, dI) vwCl (XW cy x0 x v31 f32) H := hP
                have hD : va_D A (XW cy x0 x v31 f32) := hD
                have hq0_v31 : v31 0 = (v 0) := hk0_v31.trans hq0_v2
                have hq1_v31 : v31 1 = (v 1) := hk1_v31.trans hq1_v2
                have hq7_v31 : v31 7 = (v2 7) := hk7_v31
                have hq8_v31 : v31 8 = (v2 8) := hk8_v31
                have hq9_v31 : v31 9 = (v 9) := hk9_v31.trans hq9_v2
                have hq10_v31 : v31 10 = (v 10) := hk10_v31.trans hq10_v2
                have hq31_v31 : v31 31 = (v 31) := hk31_v31.trans hq31_v2
                have hq32_v31 : v31 32 = (v 32) := hk32_v31.trans hq32_v2
                refine lv_iconst (v := 1) hx hb dX6_name_88 (by decide) ?_
                exact ret 1 (v31, f32) _ _ _ _ _ _ rfl ⟨(hT2.symm.trans (gsX_X6_name_2_q5 c3 c20 c21 c25 ef29 hG30)), hM_v31, hA_f32, hIv31, (hk0_v31.trans (show v2 0 = v 0 from hq0_v2)), (hk1_v31.trans (show v2 1 = v 1 from hq1_v2)), (hk9_v31.trans (show v2 9 = v 9 from hq9_v2)), (hk10_v31.trans (show v2 10 = v 10 from hq10_v2)), (hk31_v31.trans (show v2 31 = v 31 from hq31_v2)), (hk32_v31.trans (show v2 32 = v 32 from hq32_v2)), (Or.inl rfl)⟩ hP hD hS dX6_name_89 (Nat.le_refl _) (Nat.le_refl _)
          · skip
            have zc20 : ¬ (6 ≤ l3_2.toInt) := by rw [fa_le, show (6 : Int32).toInt = 6 from by decide] at c20; exact c20
            refine lv_aload_n hx hb dX6_name_29 rfl (lv_at hl 1 rfl) ?_
            refine va_get (D := (dC, dI)) (ci := 6) (v := .ref (x 0)) (C := RX6) (T := TX6) (N := 7) hx hb hts inB_6 hown hE.1 hP 3 rfl rfl 0 (by decide) (hts _ k_265) (fun _ h9 => h9) rfl dX6_name_30 ?_
            refine lv_aload_n hx hb dX6_name_33 rfl (lv_at hl 2 rfl) ?_
            refine lv_iload_n hx hb dX6_name_34 rfl (lv_at hl 0 rfl) ?_
            refine ldI hx hb hE hP 13 rfl (vp_in_iff.mpr ⟨by omega, by omega⟩) rfl rfl dX6_name_35 ?_
            refine lv_topi (fun t33 et33 => ?_)
            refine lv_aload_n hx hb dX6_name_36 rfl (lv_at hl 1 rfl) ?_
            refine va_get (D := (dC, dI)) (ci := 6) (v := .ref (x 0)) (C := RX6) (T := TX6) (N := 7) hx hb hts inB_6 hown hE.1 hP 3 rfl rfl 0 (by decide) (hts _ k_265) (fun _ h9 => h9) rfl dX6_name_37 ?_
            refine va_getN (D := (dC, dI)) (ci := 9) (v := .int (v2 3)) (C := RX9) (T := TX9) (N := 6) hx hb hts inB_9 hown hE.1 hP 1 rfl rfl 3 (by decide) (va_Nw.use rfl (hE.2 _ k_142)) (fun _ h9 => h9) rfl dX6_name_40 ?_
            have b3_v2 : 0 ≤ (v2 3).toInt ∧ (v2 3).toInt ≤ 1600 := XI.b hIv2 3 (by decide)
            refine cbVi (n := 2) (rest := []) hx hb hml hown hts hE hP hD hS hA (sX_X9_sameWord_1 NF l dC dI cy x0 x t33 (v2 3) v2 f2 hIv2 ) k_704 k_705 k_706 k_102 k_707 (by decide +kernel) ⟨Nat.le_of_ble_eq_true rfl, Nat.le_of_ble_eq_true rfl⟩ 1 9 rfl rfl (rfl) hl.1 rfl (Nat.le_of_ble_eq_true rfl) dX6_name_43 (fun r34 u H locs hw hP hD hS => ?_)
            obtain ⟨hG35, hw⟩ := hw
            rcases hw with ⟨g36⟩ | ⟨g36⟩
            · skip
              subst g36
              refine lv_if_eq (tgt := 55) hx hb dX6_name_46 (by decide) (fun c0 => absurd c0 (by decide)) (fun _ => ?_)
              refine lv_aload_n hx hb dX6_name_49 rfl (lv_at hl 1 rfl) ?_
              refine lv_iconst (v := 3) hx hb dX6_name_50 (by decide) ?_
              refine cbVi (n := 1) (rest := []) hx hb hml hown hts hE hP hD hS hA (sX_X6_refuseAs_1 NF l dC dI cy x0 x 3 v2 f2 hIv2 ) k_695 k_697 k_7 k_103 k_698 (by decide +kernel) ⟨Nat.le_of_ble_eq_true rfl, Nat.le_of_ble_eq_true rfl⟩ 3 6 rfl rfl (rfl) hl.1 rfl (Nat.le_of_ble_eq_true rfl) dX6_name_51 (fun r37 u H locs hw hP hD hS => ?_)
              obtain ⟨hG38, hw⟩ := hw
              obtain ⟨v39, f40⟩ := u
              obtain ⟨kV_v39, kF_f40, hIv39, hk0_v39, hk1_v39, hk9_v39, hk10_v39, hk31_v39, hk32_v39, hw⟩ := hw
              have hM_v39 : KV [2, 3, 4, 5, 7, 8] v39 v := KV.tr kV_v39 hM_v2 rfl
              have hA_f40 : KF [8] f40 f := KF.tr kF_f40 hA_f2 rfl
              have hP : va_P (dC, dI) vwCl (XW cy x0 x v39 f40) H := hP
              have hD : va_D A (XW cy x0 x v39 f40) := hD
              have hq0_v39 : v39 0 = (v 0) := hk0_v39.trans hq0_v2
              have hq1_v39 : v39 1 = (v 1) := hk1_v39.trans hq1_v2
              have hq9_v39 : v39 9 = (v 9) := hk9_v39.trans hq9_v2
              have hq10_v39 : v39 10 = (v 10) := hk10_v39.trans hq10_v2
              have hq31_v39 : v39 31 = (v 31) := hk31_v39.trans hq31_v2
              have hq32_v39 : v39 32 = (v 32) := hk32_v39.trans hq32_v2
              rcases hw with ⟨g41⟩ | ⟨g41⟩
              · skip
                subst g41
                exact ret 1 (v39, f40) _ _ _ _ _ _ rfl ⟨(hT2.symm.trans (gsX_X6_name_2_q6 c3 c20 et33 hG35 hG38)), hM_v39, hA_f40, hIv39, (hk0_v39.trans (show v2 0 = v 0 from hq0_v2)), (hk1_v39.trans (show v2 1 = v 1 from hq1_v2)), (hk9_v39.trans (show v2 9 = v 9 from hq9_v2)), (hk10_v39.trans (show v2 10 = v 10 from hq10_v2)), (hk31_v39.trans (show v2 31 = v 31 from hq31_v2)), (hk32_v39.trans (show v2 32 = v 32 from hq32_v2)), (Or.inl rfl)⟩ hP hD hS dX6_name_54 (Nat.le_refl _) (Nat.le_refl _)
              · skip
                subst g41
                exact ret 0 (v39, f40) _ _ _ _ _ _ rfl ⟨(hT2.symm.trans (gsX_X6_name_2_q7 c3 c20 et33 hG35 hG38)), hM_v39, hA_f40, hIv39, (hk0_v39.trans (show v2 0 = v 0 from hq0_v2)), (hk1_v39.trans (show v2 1 = v 1 from hq1_v2)), (hk9_v39.trans (show v2 9 = v 9 from hq9_v2)), (hk10_v39.trans (show v2 10 = v 10 from hq10_v2)), (hk31_v39.trans (show v2 31 = v 31 from hq31_v2)), (hk32_v39.trans (show v2 32 = v 32 from hq32_v2)), (Or.inr rfl)⟩ hP hD hS dX6_name_54 (Nat.le_refl _) (Nat.le_refl _)
            · skip
              subst g36
              refine lv_if_eq (tgt := 55) hx hb dX6_name_46 (by decide) (fun _ => ?_) (fun c0 => absurd (by decide) c0)
              obtain ⟨t42, et42⟩ : ∃ y : Int32, y = l3_2 + 1 := ⟨_, rfl⟩
              have zt42 : t42.toInt = l3_2.toInt + 1 := by rw [et42]; exact add_i rfl (by decide) (by omega) (by omega)
              refine lv_iinc (v := t42) (lv' := [(3, .int t42), (0, .ref (x 2)), (1, .ref (x 12)), (2, .int p2)]) hx hb dX6_name_55 hl (k := 0) rfl (by rw [et42]; rfl) (by decide) rfl (fun ls hl => ?_)
              refine lv_goto (tgt := 18) hx hb dX6_name_58 (by decide) ?_
              have rg43 := fb_rng t42
              exact ih2 t42 v2 f2 hIv2 hq0_v2 hq1_v2 hq9_v2 hq10_v2 hq31_v2 hq32_v2 ((gsX_X6_name_2_q8 c3 c20 et33 hG35 et42).symm.trans hT2) ⟨show (0 : Int) ≤ t42.toInt by omega, show t42.toInt ≤ (2147483647 : Int) by omega⟩ hM_v2 hA_f2 (by show (2147483647 - t42.toInt).toNat < n2; omega) _ _ _ hP hD hS (lv_sub hl [0, 1, 2, 3] rfl)
    exact lp2 (4294967296 + NF) 0 v f hIv rfl rfl rfl rfl rfl rfl (gsX_X6_name_2_q9 c1).symm ⟨by decide, by decide⟩ hM_v hA_f (by have q3 : (0 : Int32).toInt = 0 := (by decide); show (2147483647 - (0 : Int32).toInt).toNat < 4294967296 + NF; omega) _ _ _ hP hD hS (lv_sub hl [0, 1, 2, 3] rfl)
  · skip
    have zc1 : ¬ ((v 2).toInt = 3) := by rw [fa_eq, show (3 : Int32).toInt = 3 from by decide] at c1; exact c1
    refine lv_aload_n hx hb dX6_name_11 rfl (lv_at hl 0 rfl) ?_
    refine cbVi (n := 0) (rest := []) hx hb hml hown hts hE hP hD hS hA (sX_X6_refuse_1 NF l dC dI cy x0 x  v f hIv ) k_691 k_693 k_6 k_103 k_694 (by decide +kernel) ⟨Nat.le_of_ble_eq_true rfl, Nat.le_of_ble_eq_true rfl⟩ 3 6 rfl rfl (rfl) hl.1 rfl (Nat.le_of_ble_eq_true rfl) dX6_name_12 (fun r44 u H locs hw hP hD hS => ?_)
    obtain ⟨hG45, hw⟩ := hw
    obtain ⟨v46, f47⟩ := u
    obtain ⟨kV_v46, kF_f47, hIv46, hk0_v46, hk1_v46, hk9_v46, hk10_v46, hk31_v46, hk32_v46, hw⟩ := hw
    have hM_v46 : KV [2, 3, 4, 5, 7, 8] v46 v := KV.tr kV_v46 hM_v rfl
    have hA_f47 : KF [8] f47 f := KF.tr kF_f47 hA_f rfl
    have hP : va_P (dC, dI) vwCl (XW cy x0 x v46 f47) H := hP
    have hD : va_D A (XW cy x0 x v46 f47) := hD
    have hq0_v46 : v46 0 = (v 0) := hk0_v46
    have hq1_v46 : v46 1 = (v 1) := hk1_v46
    have hq9_v46 : v46 9 = (v 9) := hk9_v46
    have hq10_v46 : v46 10 = (v 10) := hk10_v46
    have hq31_v46 : v46 31 = (v 31) := hk31_v46
    have hq32_v46 : v46 32 = (v 32) := hk32_v46
    rcases hw with ⟨g48⟩ | ⟨g48⟩
    · skip
      subst g48
      exact ret 1 (v46, f47) _ _ _ _ _ _ rfl ⟨(gsX_X6_name_2_q10 c1 hG45), hM_v46, hA_f47, hIv46, hk0_v46, hk1_v46, hk9_v46, hk10_v46, hk31_v46, hk32_v46, (Or.inl rfl)⟩ hP hD hS dX6_name_15 (Nat.le_refl _) (Nat.le_refl _)
    · skip
      subst g48
      exact ret 0 (v46, f47) _ _ _ _ _ _ rfl ⟨(gsX_X6_name_2_q11 c1 hG45), hM_v46, hA_f47, hIv46, hk0_v46, hk1_v46, hk9_v46, hk10_v46, hk31_v46, hk32_v46, (Or.inr rfl)⟩ hP hD hS dX6_name_15 (Nat.le_refl _) (Nat.le_refl _)
