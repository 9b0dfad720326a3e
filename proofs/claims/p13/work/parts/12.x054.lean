set_option maxHeartbeats 4000000 in
set_option maxRecDepth 100000 in
theorem sX_X3_findSewing_1 (l : Launch) (dC : Nat → ClassId) (dI : Nat → Nat → Nat) (cy : Nat → ClassId) (x0 : Nat) (x : Nat → Nat) (p1 : Int32) (p2 : Int32) (v : Nat → Int32) (f : Nat → Nat → Int32) (hIv : XI v)  : ctI l (dC, dI) cy yX3_findSewing cX3_findSewing 6 .boolean 4 137 0 0 ((Nat → Int32) × (Nat → Nat → Int32)) [.ref (x 25), .int p1, .int p2] (XW cy x0 x v f) (fun r u => KV [24, 25] u.1 v ∧ KF [13, 14] u.2 f ∧ XI u.1 ∧ u.1 0 = v 0 ∧ u.1 1 = v 1 ∧ u.1 7 = v 7 ∧ u.1 8 = v 8 ∧ u.1 9 = v 9 ∧ u.1 10 = v 10 ∧ u.1 31 = v 31 ∧ u.1 32 = v 32 ∧ ((r = 1) ∨ (r = 0))) (fun u => XW cy x0 x u.1 u.2) := by
  refine ctI_of (by decide) (Nat.le_of_ble_eq_true rfl) (fun p e s m below meth c A ls Q hx hb hml hts hown hE hP hD hA hl ret => ?_)
  have hM_v : KV [24, 25] v v := fun _ _ => rfl
  have hA_f : KF [13, 14] f f := fun _ _ => rfl
  have hown : s.vm.findClass RX3 = some m.cls := hown
  have hS : va_S A s.heap s.heap [] := va_S.rf
  have hl : lv_has ls 6 [(0, .ref (x 25)), (1, .int p1), (2, .int p2)] := hl
  refine lv_iconst (v := 0) hx hb dX3_findSewing_0 (by decide) ?_
  refine lv_istore_n (lv' := [(3, .int 0), (0, .ref (x 25)), (1, .int p1), (2, .int p2)]) hx hb dX3_findSewing_1 rfl hl (by decide) rfl (fun ls hl => ?_)
  have lp1 : ∀ (n1 : Nat) (l3_1 : Int32) (v1 : Nat → Int32) (f1 : Nat → Nat → Int32), XI v1 → v1 0 = (v 0) → v1 1 = (v 1) → v1 7 = (v 7) → v1 8 = (v 8) → v1 9 = (v 9) → v1 10 = (v 10) → v1 31 = (v 31) → v1 32 = (v 32) → ((0 : Int) ≤ l3_1.toInt ∧ l3_1.toInt ≤ 2147483647) → KV [24, 25] v1 v → KF [13, 14] f1 f → (2147483647 - l3_1.toInt).toNat < n1 → ∀ (H : Heap) (locs : List Loc) (ls : Array Slot), va_P (dC, dI) vwCl (XW cy x0 x v1 f1) H → va_D A (XW cy x0 x v1 f1) → va_S A s.heap H locs → lv_has ls 6 [(3, .int l3_1), (0, .ref (x 25)), (1, .int p1), (2, .int p2)] → W p l e { frames := 4, cells := 0, slots := 0, locals := 137 } s m ([.ref (x 25), .int p1, .int p2] : List Value).toArray below meth c H locs 0 0 Q (F0 m 2 ls []) := by
    intro n1
    induction n1 with
    | zero => intro l3_1 v1 f1 hIv1 hq0_v1 hq1_v1 hq7_v1 hq8_v1 hq9_v1 hq10_v1 hq31_v1 hq32_v1 hr3_1 hM_v1 hA_f1 hm; exact absurd hm (Nat.not_lt_zero _)
    | succ n1 ih1 =>
      intro l3_1 v1 f1 hIv1 hq0_v1 hq1_v1 hq7_v1 hq8_v1 hq9_v1 hq10_v1 hq31_v1 hq32_v1 hr3_1 hM_v1 hA_f1 hm1 H locs ls hP hD hS hl
      refine lv_iload_n hx hb dX3_findSewing_2 rfl (lv_at hl 0 rfl) ?_
      refine lv_bipush (v := 40) hx hb dX3_findSewing_3 (by decide) ?_
      refine lv_icmp_gt (tgt := 78) hx hb dX3_findSewing_5 (by decide) (fun c2 => ?_) (fun c2 => ?_)
      · skip
        have zc2 : 40 < l3_1.toInt := by rw [fa_lt, show (40 : Int32).toInt = 40 from by decide] at c2; exact c2
        refine lv_iconst (v := 0) hx hb dX3_findSewing_78 (by decide) ?_
        exact ret 0 (v1, f1) _ _ _ _ _ _ rfl ⟨hM_v1, hA_f1, hIv1, (show v1 0 = v 0 from hq0_v1), (show v1 1 = v 1 from hq1_v1), (show v1 7 = v 7 from hq7_v1), (show v1 8 = v 8 from hq8_v1), (show v1 9 = v 9 from hq9_v1), (show v1 10 = v 10 from hq10_v1), (show v1 31 = v 31 from hq31_v1), (show v1 32 = v 32 from hq32_v1), (Or.inr rfl)⟩ hP hD hS dX3_findSewing_79 (Nat.le_refl _) (Nat.le_refl _)
      · skip
        have zc2 : ¬ (40 < l3_1.toInt) := by rw [fa_lt, show (40 : Int32).toInt = 40 from by decide] at c2; exact c2
        refine lv_iconst (v := 0) hx hb dX3_findSewing_8 (by decide) ?_
        refine lv_iload_n hx hb dX3_findSewing_9 rfl (lv_at hl 0 rfl) ?_
        refine lv_bipush (v := 20) hx hb dX3_findSewing_10 (by decide) ?_
        refine lv_isub hx hb dX3_findSewing_12 ?_
        refine lv_topi (fun t3 et3 => ?_)
        have rg4 := fb_rng l3_1
        have zt3 : t3.toInt = l3_1.toInt - 20 := by rw [et3]; exact sub_i rfl (by decide) (by omega) (by omega)
        refine va_mmax hx hb (by rw [hml]; exact hl.1.symm) hown (hts _ k_1007) (hts _ k_640) (hts _ k_119) (hts _ k_641) (Nat.le_of_ble_eq_true rfl) (Nat.le_of_ble_eq_true rfl) (Nat.le_of_ble_eq_true rfl) (Nat.le_of_ble_eq_true rfl) dX3_findSewing_13 ?_
        refine lv_topi (fun t5 et5 => ?_)
        have zt5 : t5.toInt = max (0) (t3.toInt) := by rw [et5]; exact mmax_i (by decide) rfl
        refine lv_istore (lv' := [(4, .int t5), (3, .int l3_1), (0, .ref (x 25)), (1, .int p1), (2, .int p2)]) hx hb dX3_findSewing_16 hl (by decide) rfl (fun ls hl => ?_)
        have lp6 : ∀ (n6 : Nat) (l4_6 : Int32) (v6 : Nat → Int32) (f6 : Nat → Nat → Int32), XI v6 → v6 0 = (v 0) → v6 1 = (v 1) → v6 7 = (v 7) → v6 8 = (v 8) → v6 9 = (v 9) → v6 10 = (v 10) → v6 31 = (v 31) → v6 32 = (v 32) → ((0 : Int) ≤ l4_6.toInt ∧ l4_6.toInt ≤ 2147483647) → KV [24, 25] v6 v → KF [13, 14] f6 f → (2147483647 - l4_6.toInt).toNat < n6 → ∀ (H : Heap) (locs : List Loc) (ls : Array Slot), va_P (dC, dI) vwCl (XW cy x0 x v6 f6) H → va_D A (XW cy x0 x v6 f6) → va_S A s.heap H locs → lv_has ls 6 [(4, .int l4_6), (3, .int l3_1), (0, .ref (x 25)), (1, .int p1), (2, .int p2)] → W p l e { frames := 4, cells := 0, slots := 0, locals := 137 } s m ([.ref (x 25), .int p1, .int p2] : List Value).toArray below meth c H locs 0 0 Q (F0 m 18 ls []) := by
          intro n6
          induction n6 with
          | zero => intro l4_6 v6 f6 hIv6 hq0_v6 hq1_v6 hq7_v6 hq8_v6 hq9_v6 hq10_v6 hq31_v6 hq32_v6 hr4_6 hM_v6 hA_f6 hm; exact absurd hm (Nat.not_lt_zero _)
          | succ n6 ih6 =>
            intro l4_6 v6 f6 hIv6 hq0_v6 hq1_v6 hq7_v6 hq8_v6 hq9_v6 hq10_v6 hq31_v6 hq32_v6 hr4_6 hM_v6 hA_f6 hm6 H locs ls hP hD hS hl
            refine lv_iload hx hb dX3_findSewing_18 (lv_at hl 0 rfl) ?_
            refine lv_iload_n hx hb dX3_findSewing_20 rfl (lv_at hl 1 rfl) ?_
            refine lv_icmp_gt (tgt := 72) hx hb dX3_findSewing_21 (by decide) (fun c7 => ?_) (fun c7 => ?_)
            · skip
              have zc7 : l3_1.toInt < l4_6.toInt := by rw [fa_lt] at c7; exact c7
              have rg8 := fb_rng l4_6
              obtain ⟨t9, et9⟩ : ∃ y : Int32, y = l3_1 + 1 := ⟨_, rfl⟩
              have zt9 : t9.toInt = l3_1.toInt + 1 := by rw [et9]; exact add_i rfl (by decide) (by omega) (by omega)
              refine lv_iinc (v := t9) (lv' := [(3, .int t9), (4, .int l4_6), (0, .ref (x 25)), (1, .int p1), (2, .int p2)]) hx hb dX3_findSewing_72 hl (k := 1) rfl (by rw [et9]; rfl) (by decide) rfl (fun ls hl => ?_)
              refine lv_goto (tgt := 2) hx hb dX3_findSewing_75 (by decide) ?_
              have rg10 := fb_rng t9
              exact ih1 t9 v6 f6 hIv6 hq0_v6 hq1_v6 hq7_v6 hq8_v6 hq9_v6 hq10_v6 hq31_v6 hq32_v6 ⟨show (0 : Int) ≤ t9.toInt by omega, show t9.toInt ≤ (2147483647 : Int) by omega⟩ hM_v6 hA_f6 (by show (2147483647 - t9.toInt).toNat < n1; omega) _ _ _ hP hD hS (lv_sub hl [0, 2, 3, 4] rfl)
            · skip
              have zc7 : ¬ (l3_1.toInt < l4_6.toInt) := by rw [fa_lt] at c7; exact c7
              have rg11 := fb_rng l4_6
              refine lv_iload hx hb dX3_findSewing_24 (lv_at hl 0 rfl) ?_
              refine lv_bipush (v := 20) hx hb dX3_findSewing_26 (by decide) ?_
              refine lv_icmp_gt (tgt := 72) hx hb dX3_findSewing_28 (by decide) (fun c12 => ?_) (fun c12 => ?_)
              · skip
                have zc12 : 20 < l4_6.toInt := by rw [fa_lt, show (20 : Int32).toInt = 20 from by decide] at c12; exact c12
                obtain ⟨t13, et13⟩ : ∃ y : Int32, y = l3_1 + 1 := ⟨_, rfl⟩
                have zt13 : t13.toInt = l3_1.toInt + 1 := by rw [et13]; exact add_i rfl (by decide) (by omega) (by omega)
                refine lv_iinc (v := t13) (lv' := [(3, .int t13), (4, .int l4_6), (0, .ref (x 25)), (1, .int p1), (2, .int p2)]) hx hb dX3_findSewing_72 hl (k := 1) rfl (by rw [et13]; rfl) (by decide) rfl (fun ls hl => ?_)
                refine lv_goto (tgt := 2) hx hb dX3_findSewing_75 (by decide) ?_
                have rg14 := fb_rng t13
                exact ih1 t13 v6 f6 hIv6 hq0_v6 hq1_v6 hq7_v6 hq8_v6 hq9_v6 hq10_v6 hq31_v6 hq32_v6 ⟨show (0 : Int) ≤ t13.toInt by omega, show t13.toInt ≤ (2147483647 : Int) by omega⟩ hM_v6 hA_f6 (by show (2147483647 - t13.toInt).toNat < n1; omega) _ _ _ hP hD hS (lv_sub hl [0, 2, 3, 4] rfl)
              · skip
                have zc12 : ¬ (20 < l4_6.toInt) := by rw [fa_lt, show (20 : Int32).toInt = 20 from by decide] at c12; exact c12
                refine lv_iload_n hx hb dX3_findSewing_31 rfl (lv_at hl 1 rfl) ?_
                refine lv_iload hx hb dX3_findSewing_32 (lv_at hl 0 rfl) ?_
                refine lv_isub hx hb dX3_findSewing_34 ?_
                refine lv_topi (fun t15 et15 => ?_)
                have zt15 : t15.toInt = l3_1.toInt - l4_6.toInt := by rw [et15]; exact sub_i rfl rfl (by omega) (by omega)
                refine lv_istore (lv' := [(5, .int t15), (4, .int l4_6), (3, .int l3_1), (0, .ref (x 25)), (1, .int p1), (2, .int p2)]) hx hb dX3_findSewing_35 hl (by decide) rfl (fun ls hl => ?_)
                refine lv_aload_n hx hb dX3_findSewing_37 rfl (lv_at hl 3 rfl) ?_
                refine lv_iload_n hx hb dX3_findSewing_38 rfl (lv_at hl 4 rfl) ?_
                refine lv_iload_n hx hb dX3_findSewing_39 rfl (lv_at hl 5 rfl) ?_
                refine lv_iload hx hb dX3_findSewing_40 (lv_at hl 1 rfl) ?_
                refine lv_iload hx hb dX3_findSewing_42 (lv_at hl 0 rfl) ?_
                refine cbVi (n := 4) (rest := []) hx hb hml hown hts hE hP hD hS hA (sX_X3_sewnFits_1 l dC dI cy x0 x p1 p2 l4_6 t15 v6 f6 hIv6 ) k_1008 k_1010 k_27 k_109 k_1011 (by decide +kernel) ⟨Nat.le_of_ble_eq_true rfl, Nat.le_of_ble_eq_true rfl⟩ 26 3 rfl rfl (rfl) hl.1 rfl (Nat.le_of_ble_eq_true rfl) dX3_findSewing_44 (fun r16 u H locs hw hP hD hS => ?_)
                obtain ⟨v17, f18⟩ := u
                obtain ⟨kV_v17, kF_f18, hIv17, hk0_v17, hk1_v17, hk7_v17, hk8_v17, hk9_v17, hk10_v17, hk31_v17, hk32_v17, hw⟩ := hw
                have hM_v17 : KV [24, 25] v17 v := KV.tr kV_v17 hM_v6 rfl
                have hA_f18 : KF [13, 14] f18 f := KF.tr kF_f18 hA_f6 rfl
                have hP : va_P (dC, dI) vwCl (XW cy x0 x v17 f18) H := hP
                have hD : va_D A (XW cy x0 x v17 f18) := hD
                have hq0_v17 : v17 0 = (v 0) := hk0_v17.trans hq0_v6
                have hq1_v17 : v17 1 = (v 1) := hk1_v17.trans hq1_v6
                have hq7_v17 : v17 7 = (v 7) := hk7_v17.trans hq7_v6
                have hq8_v17 : v17 8 = (v 8) := hk8_v17.trans hq8_v6
                have hq9_v17 : v17 9 = (v 9) := hk9_v17.trans hq9_v6
                have hq10_v17 : v17 10 = (v 10) := hk10_v17.trans hq10_v6
                have hq31_v17 : v17 31 = (v 31) := hk31_v17.trans hq31_v6
                have hq32_v17 : v17 32 = (v 32) := hk32_v17.trans hq32_v6
                rcases hw with ⟨g19⟩ | ⟨g19⟩
                · skip
                  subst g19
                  refine lv_if_ne (tgt := 64) hx hb dX3_findSewing_47 (by decide) (fun _ => ?_) (fun c0 => absurd c0 (by decide))
                  refine lv_iconst (v := 1) hx hb dX3_findSewing_64 (by decide) ?_
                  exact ret 1 (v17, f18) _ _ _ _ _ _ rfl ⟨hM_v17, hA_f18, hIv17, (hk0_v17.trans hq0_v6), (hk1_v17.trans hq1_v6), (hk7_v17.trans hq7_v6), (hk8_v17.trans hq8_v6), (hk9_v17.trans hq9_v6), (hk10_v17.trans hq10_v6), (hk31_v17.trans hq31_v6), (hk32_v17.trans hq32_v6), (Or.inl rfl)⟩ hP hD hS dX3_findSewing_65 (Nat.le_refl _) (Nat.le_refl _)
                · skip
                  subst g19
                  refine lv_if_ne (tgt := 64) hx hb dX3_findSewing_47 (by decide) (fun c0 => absurd (by decide) c0) (fun _ => ?_)
                  refine lv_aload_n hx hb dX3_findSewing_50 rfl (lv_at hl 3 rfl) ?_
                  refine lv_iload_n hx hb dX3_findSewing_51 rfl (lv_at hl 4 rfl) ?_
                  refine lv_iload_n hx hb dX3_findSewing_52 rfl (lv_at hl 5 rfl) ?_
                  refine lv_iload hx hb dX3_findSewing_53 (lv_at hl 1 rfl) ?_
                  refine lv_iload hx hb dX3_findSewing_55 (lv_at hl 0 rfl) ?_
                  refine lv_ineg hx hb dX3_findSewing_57 ?_
                  refine lv_topi (fun t20 et20 => ?_)
                  refine cbVi (n := 4) (rest := []) hx hb hml hown hts hE hP hD hS hA (sX_X3_sewnFits_1 l dC dI cy x0 x p1 p2 l4_6 t20 v17 f18 hIv17 ) k_1008 k_1010 k_27 k_109 k_1011 (by decide +kernel) ⟨Nat.le_of_ble_eq_true rfl, Nat.le_of_ble_eq_true rfl⟩ 26 3 rfl rfl (rfl) hl.1 rfl (Nat.le_of_ble_eq_true rfl) dX3_findSewing_58 (fun r21 u H locs hw hP hD hS => ?_)
                  obtain ⟨v22, f23⟩ := u
                  obtain ⟨kV_v22, kF_f23, hIv22, hk0_v22, hk1_v22, hk7_v22, hk8_v22, hk9_v22, hk10_v22, hk31_v22, hk32_v22, hw⟩ := hw
                  have hM_v22 : KV [24, 25] v22 v := KV.tr kV_v22 hM_v17 rfl
                  have hA_f23 : KF [13, 14] f23 f := KF.tr kF_f23 hA_f18 rfl
                  have hP : va_P (dC, dI) vwCl (XW cy x0 x v22 f23) H := hP
                  have hD : va_D A (XW cy x0 x v22 f23) := hD
                  have hq0_v22 : v22 0 = (v 0) := hk0_v22.trans hq0_v17
                  have hq1_v22 : v22 1 = (v 1) := hk1_v22.trans hq1_v17
                  have hq7_v22 : v22 7 = (v 7) := hk7_v22.trans hq7_v17
                  have hq8_v22 : v22 8 = (v 8) := hk8_v22.trans hq8_v17
                  have hq9_v22 : v22 9 = (v 9) := hk9_v22.trans hq9_v17
                  have hq10_v22 : v22 10 = (v 10) := hk10_v22.trans hq10_v17
                  have hq31_v22 : v22 31 = (v 31) := hk31_v22.trans hq31_v17
                  have hq32_v22 : v22 32 = (v 32) := hk32_v22.trans hq32_v17
                  rcases hw with ⟨g24⟩ | ⟨g24⟩
                  · skip
                    subst g24
                    refine lv_if_eq (tgt := 66) hx hb dX3_findSewing_61 (by decide) (fun c0 => absurd c0 (by decide)) (fun _ => ?_)
                    refine lv_iconst (v := 1) hx hb dX3_findSewing_64 (by decide) ?_
                    exact ret 1 (v22, f23) _ _ _ _ _ _ rfl ⟨hM_v22, hA_f23, hIv22, (hk0_v22.trans (hk0_v17.trans hq0_v6)), (hk1_v22.trans (hk1_v17.trans hq1_v6)), (hk7_v22.trans (hk7_v17.trans hq7_v6)), (hk8_v22.trans (hk8_v17.trans hq8_v6)), (hk9_v22.trans (hk9_v17.trans hq9_v6)), (hk10_v22.trans (hk10_v17.trans hq10_v6)), (hk31_v22.trans (hk31_v17.trans hq31_v6)), (hk32_v22.trans (hk32_v17.trans hq32_v6)), (Or.inl rfl)⟩ hP hD hS dX3_findSewing_65 (Nat.le_refl _) (Nat.le_refl _)
                  · skip
                    subst g24
                    refine lv_if_eq (tgt := 66) hx hb dX3_findSewing_61 (by decide) (fun _ => ?_) (fun c0 => absurd (by decide) c0)
                    obtain ⟨t25, et25⟩ : ∃ y : Int32, y = l4_6 + 1 := ⟨_, rfl⟩
                    have zt25 : t25.toInt = l4_6.toInt + 1 := by rw [et25]; exact add_i rfl (by decide) (by omega) (by omega)
                    refine lv_iinc (v := t25) (lv' := [(4, .int t25), (5, .int t15), (3, .int l3_1), (0, .ref (x 25)), (1, .int p1), (2, .int p2)]) hx hb dX3_findSewing_66 hl (k := 1) rfl (by rw [et25]; rfl) (by decide) rfl (fun ls hl => ?_)
                    refine lv_goto (tgt := 18) hx hb dX3_findSewing_69 (by decide) ?_
                    have rg26 := fb_rng t25
                    exact ih6 t25 v22 f23 hIv22 hq0_v22 hq1_v22 hq7_v22 hq8_v22 hq9_v22 hq10_v22 hq31_v22 hq32_v22 ⟨show (0 : Int) ≤ t25.toInt by omega, show t25.toInt ≤ (2147483647 : Int) by omega⟩ hM_v22 hA_f23 (by show (2147483647 - t25.toInt).toNat < n6; omega) _ _ _ hP hD hS (lv_sub hl [0, 2, 3, 4, 5] rfl)
        have rg27 := fb_rng t5
        exact lp6 _ t5 v1 f1 hIv1 hq0_v1 hq1_v1 hq7_v1 hq8_v1 hq9_v1 hq10_v1 hq31_v1 hq32_v1 ⟨show (0 : Int) ≤ t5.toInt by omega, show t5.toInt ≤ (2147483647 : Int) by omega⟩ hM_v1 hA_f1 (Nat.lt_succ_self _) _ _ _ hP hD hS (lv_sub hl [0, 1, 2, 3, 4] rfl)
  exact lp1 _ 0 v f hIv rfl rfl rfl rfl rfl rfl rfl rfl ⟨by decide, by decide⟩ hM_v hA_f (Nat.lt_succ_self _) _ _ _ hP hD hS (lv_sub hl [0, 1, 2, 3] rfl)
set_option maxHeartbeats 4000000 in
set_option maxRecDepth 100000 in
theorem sX_X10_sewing_1 (l : Launch) (dC : Nat → ClassId) (dI : Nat → Nat → Nat) (cy : Nat → ClassId) (x0 : Nat) (x : Nat → Nat) (p1 : Int32) (p2 : Int32) (p3 : Int32) (v : Nat → Int32) (f : Nat → Nat → Int32) (hIv : XI v)  : ctI l (dC, dI) cy yX10_sewing cX10_sewing 4 .int 5 162 0 0 ((Nat → Int32) × (Nat → Nat → Int32)) [.ref x0, .int p1, .int p2, .int p3] (XW cy x0 x v f) (fun r u => KV [24, 25] u.1 v ∧ KF [13, 14] u.2 f ∧ XI u.1 ∧ u.1 0 = v 0 ∧ u.1 1 = v 1 ∧ u.1 7 = v 7 ∧ u.1 8 = v 8 ∧ u.1 9 = v 9 ∧ u.1 10 = v 10 ∧ u.1 31 = v 31 ∧ u.1 32 = v 32) (fun u => XW cy x0 x u.1 u.2) := by
  refine ctI_of (by decide) (Nat.le_of_ble_eq_true rfl) (fun p e s m below meth c A ls Q hx hb hml hts hown hE hP hD hA hl ret => ?_)
  have hM_v : KV [24, 25] v v := fun _ _ => rfl
  have hA_f : KF [13, 14] f f := fun _ _ => rfl
  have hown : s.vm.findClass RX10 = some m.cls := hown
  have hS : va_S A s.heap s.heap [] := va_S.rf
  have hl : lv_has ls 4 [(0, .ref x0), (1, .int p1), (2, .int p2), (3, .int p3)] := hl
  refine lv_aload_n hx hb dX10_sewing_0 rfl (lv_at hl 0 rfl) ?_
  refine va_get (D := (dC, dI)) (ci := 10) (v := .ref (x 26)) (C := RX10) (T := TX10) (N := 10) hx hb hts inB_10 hown hE.1 hP 0 rfl rfl 2 (by decide) (hts _ k_493) (fun _ h9 => h9) rfl dX10_sewing_1 ?_
  refine lv_iload_n hx hb dX10_sewing_4 rfl (lv_at hl 1 rfl) ?_
  refine cbVi (n := 1) (rest := []) hx hb hml hown hts hE hP hD hS hA (sX_X7_hasCoat_1 0 l dC dI cy x0 x p1 v f hIv ) k_848 k_315 k_316 k_104 k_317 (by decide +kernel) ⟨Nat.le_of_ble_eq_true rfl, Nat.le_of_ble_eq_true rfl⟩ 27 7 rfl rfl (rfl) hl.1 rfl (Nat.le_of_ble_eq_true rfl) dX10_sewing_5 (fun r1 u H locs hw hP hD hS => ?_)
  obtain ⟨hG2, hw⟩ := hw
  rcases hw with ⟨g3, g3_0, g3_1, g3_2⟩ | ⟨g3⟩
  · skip
    subst g3
    refine lv_if_eq (tgt := 31) hx hb dX10_sewing_8 (by decide) (fun c0 => absurd c0 (by decide)) (fun _ => ?_)
    refine lv_aload_n hx hb dX10_sewing_11 rfl (lv_at hl 0 rfl) ?_
    refine va_get (D := (dC, dI)) (ci := 10) (v := .ref (x 26)) (C := RX10) (T := TX10) (N := 10) hx hb hts inB_10 hown hE.1 hP 0 rfl rfl 2 (by decide) (hts _ k_493) (fun _ h9 => h9) rfl dX10_sewing_12 ?_
    refine lv_iload_n hx hb dX10_sewing_15 rfl (lv_at hl 2 rfl) ?_
    refine cbVi (n := 1) (rest := []) hx hb hml hown hts hE hP hD hS hA (sX_X7_hasMan_1 0 l dC dI cy x0 x p2 v f hIv ) k_802 k_307 k_308 k_104 k_309 (by decide +kernel) ⟨Nat.le_of_ble_eq_true rfl, Nat.le_of_ble_eq_true rfl⟩ 27 7 rfl rfl (rfl) hl.1 rfl (Nat.le_of_ble_eq_true rfl) dX10_sewing_16 (fun r4 u H locs hw hP hD hS => ?_)
    obtain ⟨hG5, hw⟩ := hw
    rcases hw with ⟨g6, g6_0, g6_1, g6_2⟩ | ⟨g6⟩
    · skip
      subst g6
      refine lv_if_eq (tgt := 31) hx hb dX10_sewing_19 (by decide) (fun c0 => absurd c0 (by decide)) (fun _ => ?_)
      refine lv_iload_n hx hb dX10_sewing_22 rfl (lv_at hl 3 rfl) ?_
      refine lv_if_lt (tgt := 31) hx hb dX10_sewing_23 (by decide) (fun c7 => ?_) (fun c7 => ?_)
      · skip
        have zc7 : p3.toInt < 0 := by rw [fa_lt, show (0 : Int32).toInt = 0 from by decide] at c7; exact c7
        refine lv_bipush (v := (-100)) hx hb dX10_sewing_31 (by decide) ?_
        exact ret (-100) (v, f) _ _ _ _ _ _ rfl ⟨hM_v, hA_f, hIv, rfl, rfl, rfl, rfl, rfl, rfl, rfl, rfl⟩ hP hD hS dX10_sewing_33 (Nat.le_refl _) (Nat.le_refl _)
      · skip
        have zc7 : ¬ (p3.toInt < 0) := by rw [fa_lt, show (0 : Int32).toInt = 0 from by decide] at c7; exact c7
        refine lv_iload_n hx hb dX10_sewing_26 rfl (lv_at hl 3 rfl) ?_
        refine lv_iconst (v := 2) hx hb dX10_sewing_27 (by decide) ?_
        refine lv_icmp_le (tgt := 34) hx hb dX10_sewing_28 (by decide) (fun c8 => ?_) (fun c8 => ?_)
        · skip
          have zc8 : p3.toInt ≤ 2 := by rw [fa_le, show (2 : Int32).toInt = 2 from by decide] at c8; exact c8
          refine lv_aload_n hx hb dX10_sewing_34 rfl (lv_at hl 0 rfl) ?_
          refine va_get (D := (dC, dI)) (ci := 10) (v := .ref (x 25)) (C := RX10) (T := TX10) (N := 10) hx hb hts inB_10 hown hE.1 hP 0 rfl rfl 5 (by decide) (hts _ k_496) (fun _ h9 => h9) rfl dX10_sewing_35 ?_
          refine lv_iload_n hx hb dX10_sewing_38 rfl (lv_at hl 1 rfl) ?_
          refine lv_iload_n hx hb dX10_sewing_39 rfl (lv_at hl 2 rfl) ?_
          refine cbVi (n := 2) (rest := []) hx hb hml hown hts hE hP hD hS hA (sX_X3_findSewing_1 l dC dI cy x0 x p1 p2 v f hIv ) k_1003 k_1004 k_1005 k_109 k_1006 (by decide +kernel) ⟨Nat.le_of_ble_eq_true rfl, Nat.le_of_ble_eq_true rfl⟩ 26 3 rfl rfl (rfl) hl.1 rfl (Nat.le_of_ble_eq_true rfl) dX10_sewing_40 (fun r9 u H locs hw hP hD hS => ?_)
          obtain ⟨v10, f11⟩ := u
          obtain ⟨kV_v10, kF_f11, hIv10, hk0_v10, hk1_v10, hk7_v10, hk8_v10, hk9_v10, hk10_v10, hk31_v10, hk32_v10, hw⟩ := hw
          have hM_v10 : KV [24, 25] v10 v := KV.tr kV_v10 hM_v rfl
          have hA_f11 : KF [13, 14] f11 f := KF.tr kF_f11 hA_f rfl
          have hP : va_P (dC, dI) vwCl (XW cy x0 x v10 f11) H := hP
          have hD : va_D A (XW cy x0 x v10 f11) := hD
          have hq0_v10 : v10 0 = (v 0) := hk0_v10
          have hq1_v10 : v10 1 = (v 1) := hk1_v10
          have hq7_v10 : v10 7 = (v 7) := hk7_v10
          have hq8_v10 : v10 8 = (v 8) := hk8_v10
          have hq9_v10 : v10 9 = (v 9) := hk9_v10
          have hq10_v10 : v10 10 = (v 10) := hk10_v10
          have hq31_v10 : v10 31 = (v 31) := hk31_v10
          have hq32_v10 : v10 32 = (v 32) := hk32_v10
          rcases hw with ⟨g12⟩ | ⟨g12⟩
          · skip
            subst g12
            refine lv_if_ne (tgt := 49) hx hb dX10_sewing_43 (by decide) (fun _ => ?_) (fun c0 => absurd c0 (by decide))
            refine lv_iload_n hx hb dX10_sewing_49 rfl (lv_at hl 3 rfl) ?_
            refine lv_if_ne (tgt := 72) hx hb dX10_sewing_50 (by decide) (fun c13 => ?_) (fun c13 => ?_)
            · skip
              have zc13 : ¬ (p3.toInt = 0) := by rw [fa_eq, show (0 : Int32).toInt = 0 from by decide] at c13; exact c13
              refine lv_iload_n hx hb dX10_sewing_72 rfl (lv_at hl 3 rfl) ?_
              refine lv_iconst (v := 1) hx hb dX10_sewing_73 (by decide) ?_
              refine lv_icmp_ne (tgt := 87) hx hb dX10_sewing_74 (by decide) (fun c14 => ?_) (fun c14 => ?_)
              · skip
                have zc14 : ¬ (p3.toInt = 1) := by rw [fa_eq, show (1 : Int32).toInt = 1 from by decide] at c14; exact c14
                refine lv_aload_n hx hb dX10_sewing_87 rfl (lv_at hl 0 rfl) ?_
                refine va_get (D := (dC, dI)) (ci := 10) (v := .ref (x 25)) (C := RX10) (T := TX10) (N := 10) hx hb hts inB_10 hown hE.1 hP 0 rfl rfl 5 (by decide) (hts _ k_496) (fun _ h9 => h9) rfl dX10_sewing_88 ?_
                refine va_getN (D := (dC, dI)) (ci := 3) (v := .int (v10 25)) (C := RX3) (T := TX3) (N := 10) hx hb hts inB_3 hown hE.1 hP 26 rfl rfl 4 (by decide) (va_Nw.use rfl (hE.2 _ k_376)) (fun _ h9 => h9) rfl dX10_sewing_91 ?_
                exact ret (v10 25) (v10, f11) _ _ _ _ _ _ rfl ⟨hM_v10, hA_f11, hIv10, hk0_v10, hk1_v10, hk7_v10, hk8_v10, hk9_v10, hk10_v10, hk31_v10, hk32_v10⟩ hP hD hS dX10_sewing_94 (Nat.le_refl _) (Nat.le_refl _)
              · skip
                have zc14 : p3.toInt = 1 := by rw [fa_eq, show (1 : Int32).toInt = 1 from by decide] at c14; exact c14
                refine lv_aload_n hx hb dX10_sewing_77 rfl (lv_at hl 0 rfl) ?_
                refine va_get (D := (dC, dI)) (ci := 10) (v := .ref (x 25)) (C := RX10) (T := TX10) (N := 10) hx hb hts inB_10 hown hE.1 hP 0 rfl rfl 5 (by decide) (hts _ k_496) (fun _ h9 => h9) rfl dX10_sewing_78 ?_
                refine va_getN (D := (dC, dI)) (ci := 3) (v := .int (v10 24)) (C := RX3) (T := TX3) (N := 10) hx hb hts inB_3 hown hE.1 hP 26 rfl rfl 3 (by decide) (va_Nw.use rfl (hE.2 _ k_374)) (fun _ h9 => h9) rfl dX10_sewing_81 ?_
                refine lv_goto (tgt := 94) hx hb dX10_sewing_84 (by decide) ?_
                exact ret (v10 24) (v10, f11) _ _ _ _ _ _ rfl ⟨hM_v10, hA_f11, hIv10, hk0_v10, hk1_v10, hk7_v10, hk8_v10, hk9_v10, hk10_v10, hk31_v10, hk32_v10⟩ hP hD hS dX10_sewing_94 (Nat.le_refl _) (Nat.le_refl _)
            · skip
              have zc13 : p3.toInt = 0 := by rw [fa_eq, show (0 : Int32).toInt = 0 from by decide] at c13; exact c13
              refine lv_aload_n hx hb dX10_sewing_53 rfl (lv_at hl 0 rfl) ?_
              refine va_get (D := (dC, dI)) (ci := 10) (v := .ref (x 25)) (C := RX10) (T := TX10) (N := 10) hx hb hts inB_10 hown hE.1 hP 0 rfl rfl 5 (by decide) (hts _ k_496) (fun _ h9 => h9) rfl dX10_sewing_54 ?_
              refine va_getN (D := (dC, dI)) (ci := 3) (v := .int (v10 24)) (C := RX3) (T := TX3) (N := 10) hx hb hts inB_3 hown hE.1 hP 26 rfl rfl 3 (by decide) (va_Nw.use rfl (hE.2 _ k_374)) (fun _ h9 => h9) rfl dX10_sewing_57 ?_
              refine lv_aload_n hx hb dX10_sewing_60 rfl (lv_at hl 0 rfl) ?_
              refine va_get (D := (dC, dI)) (ci := 10) (v := .ref (x 25)) (C := RX10) (T := TX10) (N := 10) hx hb hts inB_10 hown hE.1 hP 0 rfl rfl 5 (by decide) (hts _ k_496) (fun _ h9 => h9) rfl dX10_sewing_61 ?_
              refine va_getN (D := (dC, dI)) (ci := 3) (v := .int (v10 25)) (C := RX3) (T := TX3) (N := 10) hx hb hts inB_3 hown hE.1 hP 26 rfl rfl 4 (by decide) (va_Nw.use rfl (hE.2 _ k_376)) (fun _ h9 => h9) rfl dX10_sewing_64 ?_
              refine va_mabs hx hb (by rw [hml]; exact hl.1.symm) hown (hts _ k_1017) (hts _ k_1018) (hts _ k_119) (hts _ k_1019) (Nat.le_of_ble_eq_true rfl) (Nat.le_of_ble_eq_true rfl) (Nat.le_of_ble_eq_true rfl) (Nat.le_of_ble_eq_true rfl) dX10_sewing_67 ?_
              refine lv_topi (fun t15 et15 => ?_)
              refine lv_iadd hx hb dX10_sewing_70 ?_
              refine lv_topi (fun t16 et16 => ?_)
              exact ret t16 (v10, f11) _ _ _ _ _ _ rfl ⟨hM_v10, hA_f11, hIv10, hk0_v10, hk1_v10, hk7_v10, hk8_v10, hk9_v10, hk10_v10, hk31_v10, hk32_v10⟩ hP hD hS dX10_sewing_71 (Nat.le_refl _) (Nat.le_refl _)
          · skip
            subst g12
            refine lv_if_ne (tgt := 49) hx hb dX10_sewing_43 (by decide) (fun c0 => absurd (by decide) c0) (fun _ => ?_)
            refine lv_bipush (v := (-100)) hx hb dX10_sewing_46 (by decide) ?_
            exact ret (-100) (v10, f11) _ _ _ _ _ _ rfl ⟨hM_v10, hA_f11, hIv10, hk0_v10, hk1_v10, hk7_v10, hk8_v10, hk9_v10, hk10_v10, hk31_v10, hk32_v10⟩ hP hD hS dX10_sewing_48 (Nat.le_refl _) (Nat.le_refl _)
        · skip
          have zc8 : ¬ (p3.toInt ≤ 2) := by rw [fa_le, show (2 : Int32).toInt = 2 from by decide] at c8; exact c8
          refine lv_bipush (v := (-100)) hx hb dX10_sewing_31 (by decide) ?_
          exact ret (-100) (v, f) _ _ _ _ _ _ rfl ⟨hM_v, hA_f, hIv, rfl, rfl, rfl, rfl, rfl, rfl, rfl, rfl⟩ hP hD hS dX10_sewing_33 (Nat.le_refl _) (Nat.le_refl _)
    · skip
      subst g6
      refine lv_if_eq (tgt := 31) hx hb dX10_sewing_19 (by decide) (fun _ => ?_) (fun c0 => absurd (by decide) c0)
      refine lv_bipush (v := (-100)) hx hb dX10_sewing_31 (by decide) ?_
      exact ret (-100) (v, f) _ _ _ _ _ _ rfl ⟨hM_v, hA_f, hIv, rfl, rfl, rfl, rfl, rfl, rfl, rfl, rfl⟩ hP hD hS dX10_sewing_33 (Nat.le_refl _) (Nat.le_refl _)
  · skip
    subst g3
    refine lv_if_eq (tgt := 31) hx hb dX10_sewing_8 (by decide) (fun _ => ?_) (fun c0 => absurd (by decide) c0)
    refine lv_bipush (v := (-100)) hx hb dX10_sewing_31 (by decide) ?_
    exact ret (-100) (v, f) _ _ _ _ _ _ rfl ⟨hM_v, hA_f, hIv, rfl, rfl, rfl, rfl, rfl, rfl, rfl, rfl⟩ hP hD hS dX10_sewing_33 (Nat.le_refl _) (Nat.le_refl _)
set_option maxHeartbeats 4000000 in
set_option maxRecDepth 100000 in
theorem sX_X3_rotaCount_1 (l : Launch) (dC : Nat → ClassId) (dI : Nat → Nat → Nat) (cy : Nat → ClassId) (x0 : Nat) (x : Nat → Nat) (p1 : Int32) (v : Nat → Int32) (f : Nat → Nat → Int32) (hIv : XI v)  : ctI l (dC, dI) cy yX3_rotaCount cX3_rotaCount 5 .int 5 155 0 0 ((Nat → Int32) × (Nat → Nat → Int32)) [.ref (x 25), .int p1] (XW cy x0 x v f) (fun r u => KV [] u.1 v ∧ KF [13, 14] u.2 f ∧ XI u.1 ∧ u.1 0 = v 0 ∧ u.1 1 = v 1 ∧ u.1 7 = v 7 ∧ u.1 8 = v 8 ∧ u.1 9 = v 9 ∧ u.1 10 = v 10 ∧ u.1 31 = v 31 ∧ u.1 32 = v 32) (fun u => XW cy x0 x u.1 u.2) := by
  refine ctI_of (by decide) (Nat.le_of_ble_eq_true rfl) (fun p e s m below meth c A ls Q hx hb hml hts hown hE hP hD hA hl ret => ?_)
  have hM_v : KV [] v v := fun _ _ => rfl
  have hA_f : KF [13, 14] f f := fun _ _ => rfl
  have hown : s.vm.findClass RX3 = some m.cls := hown
  have hS : va_S A s.heap s.heap [] := va_S.rf
  have hl : lv_has ls 5 [(0, .ref (x 25)), (1, .int p1)] := hl
  refine lv_iconst (v := 0) hx hb dX3_rotaCount_0 (by decide) ?_
  refine lv_istore_n (lv' := [(2, .int 0), (0, .ref (x 25)), (1, .int p1)]) hx hb dX3_rotaCount_1 rfl hl (by decide) rfl (fun ls hl => ?_)
  refine lv_iconst (v := 0) hx hb dX3_rotaCount_2 (by decide) ?_
  refine lv_istore_n (lv' := [(3, .int 0), (2, .int 0), (0, .ref (x 25)), (1, .int p1)]) hx hb dX3_rotaCount_3 rfl hl (by decide) rfl (fun ls hl => ?_)
  have lp1 : ∀ (n1 : Nat) (l2_1 : Int32) (l3_1 : Int32) (v1 : Nat → Int32) (f1 : Nat → Nat → Int32), XI v1 → v1 0 = (v 0) → v1 1 = (v 1) → v1 7 = (v 7) → v1 8 = (v 8) → v1 9 = (v 9) → v1 10 = (v 10) → v1 31 = (v 31) → v1 32 = (v 32) → ((0 : Int) ≤ l3_1.toInt ∧ l3_1.toInt ≤ 2147483647) → KV [] v1 v → KF [13, 14] f1 f → (2147483647 - l3_1.toInt).toNat < n1 → ∀ (H : Heap) (locs : List Loc) (ls : Array Slot), va_P (dC, dI) vwCl (XW cy x0 x v1 f1) H → va_D A (XW cy x0 x v1 f1) → va_S A s.heap H locs → lv_has ls 5 [(3, .int l3_1), (2, .int l2_1), (0, .ref (x 25)), (1, .int p1)] → W p l e { frames := 5, cells := 0, slots := 0, locals := 155 } s m ([.ref (x 25), .int p1] : List Value).toArray below meth c H locs 0 0 Q (F0 m 4 ls []) := by
    intro n1
    induction n1 with
    | zero => intro l2_1 l3_1 v1 f1 hIv1 hq0_v1 hq1_v1 hq7_v1 hq8_v1 hq9_v1 hq10_v1 hq31_v1 hq32_v1 hr3_1 hM_v1 hA_f1 hm; exact absurd hm (Nat.not_lt_zero _)
    | succ n1 ih1 =>
      intro l2_1 l3_1 v1 f1 hIv1 hq0_v1 hq1_v1 hq7_v1 hq8_v1 hq9_v1 hq10_v1 hq31_v1 hq32_v1 hr3_1 hM_v1 hA_f1 hm1 H locs ls hP hD hS hl
      refine lv_iload_n hx hb dX3_rotaCount_4 rfl (lv_at hl 0 rfl) ?_
      refine lv_aload_n hx hb dX3_rotaCount_5 rfl (lv_at hl 2 rfl) ?_
      refine va_get (D := (dC, dI)) (ci := 3) (v := .ref (x 26)) (C := RX3) (T := TX3) (N := 10) hx hb hts inB_3 hown hE.1 hP 26 rfl rfl 0 (by decide) (hts _ k_370) (fun _ h9 => h9) rfl dX3_rotaCount_6 ?_
      refine va_getN (D := (dC, dI)) (ci := 7) (v := .int (v1 31)) (C := RX7) (T := TX7) (N := 10) hx hb hts inB_7 hown hE.1 hP 27 rfl rfl 3 (by decide) (va_Nw.use rfl (hE.2 _ k_217)) (fun _ h9 => h9) rfl dX3_rotaCount_9 ?_
      refine tI (y := (v 31)) hq31_v1 ?_
      have b31_v : 0 ≤ (v 31).toInt ∧ (v 31).toInt ≤ 6 := XI.b hIv 31 (by decide)
      refine lv_icmp_ge (tgt := 76) hx hb dX3_rotaCount_12 (by decide) (fun c2 => ?_) (fun c2 => ?_)
      · skip
        have zc2 : (v 31).toInt ≤ l3_1.toInt := by rw [fa_le] at c2; exact c2
        have rg3 := fb_rng l3_1
        have rg4 := fb_rng (v 31)
        refine lv_iload_n hx hb dX3_rotaCount_76 rfl (lv_at hl 1 rfl) ?_
        exact ret l2_1 (v1, f1) _ _ _ _ _ _ rfl ⟨hM_v1, hA_f1, hIv1, (show v1 0 = v 0 from hq0_v1), (show v1 1 = v 1 from hq1_v1), (show v1 7 = v 7 from hq7_v1), (show v1 8 = v 8 from hq8_v1), (show v1 9 = v 9 from hq9_v1), (show v1 10 = v 10 from hq10_v1), (show v1 31 = v 31 from hq31_v1), (show v1 32 = v 32 from hq32_v1)⟩ hP hD hS dX3_rotaCount_77 (Nat.le_refl _) (Nat.le_refl _)
      · skip
        have zc2 : ¬ ((v 31).toInt ≤ l3_1.toInt) := by rw [fa_le] at c2; exact c2
        have rg5 := fb_rng l3_1
        have rg6 := fb_rng (v 31)
        refine lv_iload_n hx hb dX3_rotaCount_15 rfl (lv_at hl 0 rfl) ?_
        refine lv_iload_n hx hb dX3_rotaCount_16 rfl (lv_at hl 3 rfl) ?_
        refine lv_iadd hx hb dX3_rotaCount_17 ?_
        refine lv_topi (fun t7 et7 => ?_)
        refine lv_aload_n hx hb dX3_rotaCount_18 rfl (lv_at hl 2 rfl) ?_
        refine va_get (D := (dC, dI)) (ci := 3) (v := .ref (x 26)) (C := RX3) (T := TX3) (N := 10) hx hb hts inB_3 hown hE.1 hP 26 rfl rfl 0 (by decide) (hts _ k_370) (fun _ h9 => h9) rfl dX3_rotaCount_19 ?_
        refine va_getN (D := (dC, dI)) (ci := 7) (v := .int (v1 31)) (C := RX7) (T := TX7) (N := 10) hx hb hts inB_7 hown hE.1 hP 27 rfl rfl 3 (by decide) (va_Nw.use rfl (hE.2 _ k_217)) (fun _ h9 => h9) rfl dX3_rotaCount_22 ?_
        refine tI (y := (v 31)) hq31_v1 ?_
        refine lv_icmp_ge (tgt := 34) hx hb dX3_rotaCount_25 (by decide) (fun c8 => ?_) (fun c8 => ?_)
        · skip
          have zc8 : (v 31).toInt ≤ t7.toInt := by rw [fa_le] at c8; exact c8
          have rg9 := fb_rng t7
          refine lv_iload_n hx hb dX3_rotaCount_34 rfl (lv_at hl 0 rfl) ?_
          refine lv_iload_n hx hb dX3_rotaCount_35 rfl (lv_at hl 3 rfl) ?_
          refine lv_iadd hx hb dX3_rotaCount_36 ?_
          refine tI (y := t7) et7.symm ?_
          refine lv_aload_n hx hb dX3_rotaCount_37 rfl (lv_at hl 2 rfl) ?_
          refine va_get (D := (dC, dI)) (ci := 3) (v := .ref (x 26)) (C := RX3) (T := TX3) (N := 10) hx hb hts inB_3 hown hE.1 hP 26 rfl rfl 0 (by decide) (hts _ k_370) (fun _ h9 => h9) rfl dX3_rotaCount_38 ?_
          refine va_getN (D := (dC, dI)) (ci := 7) (v := .int (v1 31)) (C := RX7) (T := TX7) (N := 10) hx hb hts inB_7 hown hE.1 hP 27 rfl rfl 3 (by decide) (va_Nw.use rfl (hE.2 _ k_217)) (fun _ h9 => h9) rfl dX3_rotaCount_41 ?_
          refine tI (y := (v 31)) hq31_v1 ?_
          refine lv_isub hx hb dX3_rotaCount_44 ?_
          refine lv_topi (fun t10 et10 => ?_)
          have zt10 : t10.toInt = t7.toInt - (v 31).toInt := by rw [et10]; exact sub_i rfl rfl (by omega) (by omega)
          refine lv_istore (lv' := [(4, .int t10), (3, .int l3_1), (2, .int l2_1), (0, .ref (x 25)), (1, .int p1)]) hx hb dX3_rotaCount_45 hl (by decide) rfl (fun ls hl => ?_)
          refine lv_aload_n hx hb dX3_rotaCount_47 rfl (lv_at hl 3 rfl) ?_
          refine va_get (D := (dC, dI)) (ci := 3) (v := .ref (x 21)) (C := RX3) (T := TX3) (N := 10) hx hb hts inB_3 hown hE.1 hP 26 rfl rfl 1 (by decide) (hts _ k_371) (fun _ h9 => h9) rfl dX3_rotaCount_48 ?_
          refine lv_iload_n hx hb dX3_rotaCount_51 rfl (lv_at hl 1 rfl) ?_
          refine lv_aload_n hx hb dX3_rotaCount_52 rfl (lv_at hl 3 rfl) ?_
          refine va_get (D := (dC, dI)) (ci := 3) (v := .ref (x 21)) (C := RX3) (T := TX3) (N := 10) hx hb hts inB_3 hown hE.1 hP 26 rfl rfl 1 (by decide) (hts _ k_371) (fun _ h9 => h9) rfl dX3_rotaCount_53 ?_
          refine lv_iload hx hb dX3_rotaCount_56 (lv_at hl 0 rfl) ?_
          refine cbVi (n := 1) (rest := [.int l3_1, .ref (x 21)]) hx hb hml hown hts hE hP hD hS hA (sX_X1_wears_1 0 l dC dI cy x0 x t10 v1 f1 hIv1 ) k_950 k_810 k_811 k_106 k_812 (by decide +kernel) ⟨Nat.le_of_ble_eq_true rfl, Nat.le_of_ble_eq_true rfl⟩ 22 1 rfl rfl (rfl) hl.1 rfl (Nat.le_of_ble_eq_true rfl) dX3_rotaCount_58 (fun r11 u H locs hw hP hD hS => ?_)
          have hG12 := hw
          refine cbVi (n := 2) (rest := []) hx hb hml hown hts hE hP hD hS hA (sX_X1_fits_1 0 l dC dI cy x0 x l3_1 r11 v1 f1 hIv1 ) k_1032 k_818 k_819 k_106 k_820 (by decide +kernel) ⟨Nat.le_of_ble_eq_true rfl, Nat.le_of_ble_eq_true rfl⟩ 22 1 rfl rfl (rfl) hl.1 rfl (Nat.le_of_ble_eq_true rfl) dX3_rotaCount_61 (fun r13 u H locs hw hP hD hS => ?_)
          obtain ⟨hG14, hw⟩ := hw
          obtain ⟨v15, f16⟩ := u
          obtain ⟨kV_v15, kF_f16, hIv15, hk0_v15, hk1_v15, hk7_v15, hk8_v15, hk9_v15, hk10_v15, hk31_v15, hk32_v15, hw⟩ := hw
          have hM_v15 : KV [] v15 v := KV.tr kV_v15 hM_v1 rfl
          have hA_f16 : KF [13, 14] f16 f := KF.tr kF_f16 hA_f1 rfl
          have hP : va_P (dC, dI) vwCl (XW cy x0 x v15 f16) H := hP
          have hD : va_D A (XW cy x0 x v15 f16) := hD
          have hq0_v15 : v15 0 = (v 0) := hk0_v15.trans hq0_v1
          have hq1_v15 : v15 1 = (v 1) := hk1_v15.trans hq1_v1
          have hq7_v15 : v15 7 = (v 7) := hk7_v15.trans hq7_v1
          have hq8_v15 : v15 8 = (v 8) := hk8_v15.trans hq8_v1
          have hq9_v15 : v15 9 = (v 9) := hk9_v15.trans hq9_v1
          have hq10_v15 : v15 10 = (v 10) := hk10_v15.trans hq10_v1
          have hq31_v15 : v15 31 = (v 31) := hk31_v15.trans hq31_v1
          have hq32_v15 : v15 32 = (v 32) := hk32_v15.trans hq32_v1
          rcases hw with ⟨g17⟩ | ⟨g17⟩
          · skip
            subst g17
            refine lv_if_eq (tgt := 70) hx hb dX3_rotaCount_64 (by decide) (fun c0 => absurd c0 (by decide)) (fun _ => ?_)
            obtain ⟨t18, et18⟩ : ∃ y : Int32, y = l2_1 + 1 := ⟨_, rfl⟩
            refine lv_iinc (v := t18) (lv' := [(2, .int t18), (4, .int t10), (3, .int l3_1), (0, .ref (x 25)), (1, .int p1)]) hx hb dX3_rotaCount_67 hl (k := 2) rfl (by rw [et18]; rfl) (by decide) rfl (fun ls hl => ?_)
            obtain ⟨t19, et19⟩ : ∃ y : Int32, y = l3_1 + 1 := ⟨_, rfl⟩
            have zt19 : t19.toInt = l3_1.toInt + 1 := by rw [et19]; exact add_i rfl (by decide) (by omega) (by omega)
            refine lv_iinc (v := t19) (lv' := [(3, .int t19), (2, .int t18), (4, .int t10), (0, .ref (x 25)), (1, .int p1)]) hx hb dX3_rotaCount_70 hl (k := 2) rfl (by rw [et19]; rfl) (by decide) rfl (fun ls hl => ?_)
            refine lv_goto (tgt := 4) hx hb dX3_rotaCount_73 (by decide) ?_
            have rg20 := fb_rng t19
            exact ih1 t18 t19 v15 f16 hIv15 hq0_v15 hq1_v15 hq7_v15 hq8_v15 hq9_v15 hq10_v15 hq31_v15 hq32_v15 ⟨show (0 : Int) ≤ t19.toInt by omega, show t19.toInt ≤ (2147483647 : Int) by omega⟩ hM_v15 hA_f16 (by show (2147483647 - t19.toInt).toNat < n1; omega) _ _ _ hP hD hS (lv_sub hl [0, 1, 3, 4] rfl)
          · skip
            subst g17
            refine lv_if_eq (tgt := 70) hx hb dX3_rotaCount_64 (by decide) (fun _ => ?_) (fun c0 => absurd (by decide) c0)
            obtain ⟨t21, et21⟩ : ∃ y : Int32, y = l3_1 + 1 := ⟨_, rfl⟩
            have zt21 : t21.toInt = l3_1.toInt + 1 := by rw [et21]; exact add_i rfl (by decide) (by omega) (by omega)
            refine lv_iinc (v := t21) (lv' := [(3, .int t21), (4, .int t10), (2, .int l2_1), (0, .ref (x 25)), (1, .int p1)]) hx hb dX3_rotaCount_70 hl (k := 1) rfl (by rw [et21]; rfl) (by decide) rfl (fun ls hl => ?_)
            refine lv_goto (tgt := 4) hx hb dX3_rotaCount_73 (by decide) ?_
            have rg22 := fb_rng t21
            exact ih1 l2_1 t21 v15 f16 hIv15 hq0_v15 hq1_v15 hq7_v15 hq8_v15 hq9_v15 hq10_v15 hq31_v15 hq32_v15 ⟨show (0 : Int) ≤ t21.toInt by omega, show t21.toInt ≤ (2147483647 : Int) by omega⟩ hM_v15 hA_f16 (by show (2147483647 - t21.toInt).toNat < n1; omega) _ _ _ hP hD hS (lv_sub hl [0, 2, 3, 4] rfl)
        · skip
          have zc8 : ¬ ((v 31).toInt ≤ t7.toInt) := by rw [fa_le] at c8; exact c8
          have rg23 := fb_rng t7
          refine lv_iload_n hx hb dX3_rotaCount_28 rfl (lv_at hl 0 rfl) ?_
          refine lv_iload_n hx hb dX3_rotaCount_29 rfl (lv_at hl 3 rfl) ?_
          refine lv_iadd hx hb dX3_rotaCount_30 ?_
          refine tI (y := t7) et7.symm ?_
          refine lv_goto (tgt := 45) hx hb dX3_rotaCount_31 (by decide) ?_
          refine lv_istore (lv' := [(4, .int t7), (3, .int l3_1), (2, .int l2_1), (0, .ref (x 25)), (1, .int p1)]) hx hb dX3_rotaCount_45 hl (by decide) rfl (fun ls hl => ?_)
          refine lv_aload_n hx hb dX3_rotaCount_47 rfl (lv_at hl 3 rfl) ?_
          refine va_get (D := (dC, dI)) (ci := 3) (v := .ref (x 21)) (C := RX3) (T := TX3) (N := 10) hx hb hts inB_3 hown hE.1 hP 26 rfl rfl 1 (by decide) (hts _ k_371) (fun _ h9 => h9) rfl dX3_rotaCount_48 ?_
          refine lv_iload_n hx hb dX3_rotaCount_51 rfl (lv_at hl 1 rfl) ?_
          refine lv_aload_n hx hb dX3_rotaCount_52 rfl (lv_at hl 3 rfl) ?_
          refine va_get (D := (dC, dI)) (ci := 3) (v := .ref (x 21)) (C := RX3) (T := TX3) (N := 10) hx hb hts inB_3 hown hE.1 hP 26 rfl rfl 1 (by decide) (hts _ k_371) (fun _ h9 => h9) rfl dX3_rotaCount_53 ?_
          refine lv_iload hx hb dX3_rotaCount_56 (lv_at hl 0 rfl) ?_
          refine cbVi (n := 1) (rest := [.int l3_1, .ref (x 21)]) hx hb hml hown hts hE hP hD hS hA (sX_X1_wears_1 0 l dC dI cy x0 x t7 v1 f1 hIv1 ) k_950 k_810 k_811 k_106 k_812 (by decide +kernel) ⟨Nat.le_of_ble_eq_true rfl, Nat.le_of_ble_eq_true rfl⟩ 22 1 rfl rfl (rfl) hl.1 rfl (Nat.le_of_ble_eq_true rfl) dX3_rotaCount_58 (fun r24 u H locs hw hP hD hS => ?_)
          have hG25 := hw
          refine cbVi (n := 2) (rest := []) hx hb hml hown hts hE hP hD hS hA (sX_X1_fits_1 0 l dC dI cy x0 x l3_1 r24 v1 f1 hIv1 ) k_1032 k_818 k_819 k_106 k_820 (by decide +kernel) ⟨Nat.le_of_ble_eq_true rfl, Nat.le_of_ble_eq_true rfl⟩ 22 1 rfl rfl (rfl) hl.1 rfl (Nat.le_of_ble_eq_true rfl) dX3_rotaCount_61 (fun r26 u H locs hw hP hD hS => ?_)
          obtain ⟨hG27, hw⟩ := hw
          obtain ⟨v28, f29⟩ := u
          obtain ⟨kV_v28, kF_f29, hIv28, hk0_v28, hk1_v28, hk7_v28, hk8_v28, hk9_v28, hk10_v28, hk31_v28, hk32_v28, hw⟩ := hw
          have hM_v28 : KV [] v28 v := KV.tr kV_v28 hM_v1 rfl
          have hA_f29 : KF [13, 14] f29 f := KF.tr kF_f29 hA_f1 rfl
          have hP : va_P (dC, dI) vwCl (XW cy x0 x v28 f29) H := hP
          have hD : va_D A (XW cy x0 x v28 f29) := hD
          have hq0_v28 : v28 0 = (v 0) := hk0_v28.trans hq0_v1
          have hq1_v28 : v28 1 = (v 1) := hk1_v28.trans hq1_v1
          have hq7_v28 : v28 7 = (v 7) := hk7_v28.trans hq7_v1
          have hq8_v28 : v28 8 = (v 8) := hk8_v28.trans hq8_v1
          have hq9_v28 : v28 9 = (v 9) := hk9_v28.trans hq9_v1
          have hq10_v28 : v28 10 = (v 10) := hk10_v28.trans hq10_v1
          have hq31_v28 : v28 31 = (v 31) := hk31_v28.trans hq31_v1
          have hq32_v28 : v28 32 = (v 32) := hk32_v28.trans hq32_v1
          rcases hw with ⟨g30⟩ | ⟨g30⟩
          · skip
            subst g30
            refine lv_if_eq (tgt := 70) hx hb dX3_rotaCount_64 (by decide) (fun c0 => absurd c0 (by decide)) (fun _ => ?_)
            obtain ⟨t31, et31⟩ : ∃ y : Int32, y = l2_1 + 1 := ⟨_, rfl⟩
            refine lv_iinc (v := t31) (lv' := [(2, .int t31), (4, .int t7), (3, .int l3_1), (0, .ref (x 25)), (1, .int p1)]) hx hb dX3_rotaCount_67 hl (k := 2) rfl (by rw [et31]; rfl) (by decide) rfl (fun ls hl => ?_)
            obtain ⟨t32, et32⟩ : ∃ y : Int32, y = l3_1 + 1 := ⟨_, rfl⟩
            have zt32 : t32.toInt = l3_1.toInt + 1 := by rw [et32]; exact add_i rfl (by decide) (by omega) (by omega)
            refine lv_iinc (v := t32) (lv' := [(3, .int t32), (2, .int t31), (4, .int t7), (0, .ref (x 25)), (1, .int p1)]) hx hb dX3_rotaCount_70 hl (k := 2) rfl (by rw [et32]; rfl) (by decide) rfl (fun ls hl => ?_)
            refine lv_goto (tgt := 4) hx hb dX3_rotaCount_73 (by decide) ?_
            have rg33 := fb_rng t32
            exact ih1 t31 t32 v28 f29 hIv28 hq0_v28 hq1_v28 hq7_v28 hq8_v28 hq9_v28 hq10_v28 hq31_v28 hq32_v28 ⟨show (0 : Int) ≤ t32.toInt by omega, show t32.toInt ≤ (2147483647 : Int) by omega⟩ hM_v28 hA_f29 (by show (2147483647 - t32.toInt).toNat < n1; omega) _ _ _ hP hD hS (lv_sub hl [0, 1, 3, 4] rfl)
          · skip
            subst g30
            refine lv_if_eq (tgt := 70) hx hb dX3_rotaCount_64 (by decide) (fun _ => ?_) (fun c0 => absurd (by decide) c0)
            obtain ⟨t34, et34⟩ : ∃ y : Int32, y = l3_1 + 1 := ⟨_, rfl⟩
            have zt34 : t34.toInt = l3_1.toInt + 1 := by rw [et34]; exact add_i rfl (by decide) (by omega) (by omega)
            refine lv_iinc (v := t34) (lv' := [(3, .int t34), (4, .int t7), (2, .int l2_1), (0, .ref (x 25)), (1, .int p1)]) hx hb dX3_rotaCount_70 hl (k := 1) rfl (by rw [et34]; rfl) (by decide) rfl (fun ls hl => ?_)
            refine lv_goto (tgt := 4) hx hb dX3_rotaCount_73 (by decide) ?_
            have rg35 := fb_rng t34
            exact ih1 l2_1 t34 v28 f29 hIv28 hq0_v28 hq1_v28 hq7_v28 hq8_v28 hq9_v28 hq10_v28 hq31_v28 hq32_v28 ⟨show (0 : Int) ≤ t34.toInt by omega, show t34.toInt ≤ (2147483647 : Int) by omega⟩ hM_v28 hA_f29 (by show (2147483647 - t34.toInt).toNat < n1; omega) _ _ _ hP hD hS (lv_sub hl [0, 2, 3, 4] rfl)
  exact lp1 _ 0 0 v f hIv rfl rfl rfl rfl rfl rfl rfl rfl ⟨by decide, by decide⟩ hM_v hA_f (Nat.lt_succ_self _) _ _ _ hP hD hS (lv_sub hl [0, 1, 2, 3] rfl)
