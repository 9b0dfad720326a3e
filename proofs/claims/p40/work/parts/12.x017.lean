set_option maxHeartbeats 4000000 in
set_option maxRecDepth 100000 in
theorem sX_X3_findSewing_1 (l : Launch) (dC : Nat → ClassId) (dI : Nat → Nat → Nat) (cy : Nat → ClassId) (x0 : Nat) (x : Nat → Nat) (p1 : Int32) (p2 : Int32) (v : Nat → Int32) (f : Nat → Nat → Int32) (hIv : XI v)  : ctI l (dC, dI) cy yX3_findSewing cX3_findSewing 6 .boolean 4 137 0 0 ((Nat → Int32) × (Nat → Nat → Int32)) [.ref (x 25), .int p1, .int p2] (XW cy x0 x v f) (fun r u => KV [24, 25] u.1 v ∧ KF [13, 14] u.2 f ∧ XI u.1 ∧ u.1 0 = v 0 ∧ u.1 1 = v 1 ∧ u.1 7 = v 7 ∧ u.1 8 = v 8 ∧ u.1 9 = v 9 ∧ u.1 10 = v 10 ∧ u.1 31 = v 31 ∧ u.1 32 = v 32 ∧ ((r = 1) ∨ (r = 0))) (fun u => XW cy x0 x u.1 u.2) := by
  refine ctI_of (by decide) (Nat.le_of_ble_eq_true rfl) (fun p e s m below meth c A ls Q hx hb hml hts hown hE hP hD hA hl ret => ?_)
  have hM_v : KV [24, 25] v v := fun _ _ => rfl
  have hA_f : KF [13, 14] f f := fun _ _ => rfl
  have hown : s.vm.findClass RX3 = some m.cls := hown
  have hS : va_S A s.heap s.heap [] := va_S.rf
  have hl : lv_has ls 6 [(0, .ref (x 25)), (1, .int p1), (2, .int p2)] := hl
  refine lv_iconst (v := 0) hx hb dX3_findSewing_0 (by decide) ?_
  refine lv_istore_n (lv' := [(3, .int 0), (0, .ref (x 25)), (1, .int p1), (2, .int p2)]) hx hb dX3_findSewing_1 rfl hl (by decide) rfl (fun ls hl => ?_)
  have lp1 : ∀ (n1 : Nat) (l3_1 : Int32) (v1 : Nat → Int32) (f1 : Nat → Nat → Int32), XI v1 → v1 0 = (v 0) → v1 1 = (v 1) → v1 7 = (v 7) → v1 8 = (v 8) → v1 9 = (v 9) → v1 10 = (v 10) → v1 31 = (v 31) → v1 32 = (v 32) → ((0 : Int) ≤ l3_1.toInt ∧ l3_1.toInt ≤ 2147483647) → KV [24, 25] v1 v → KF [13, 14] f1 f → (2147483647 - l3_1.toInt).toNat < n1 → ∀ (H : Heap) (locs : List Loc) (ls : Array Slot), va_P (dC, dI) vwCl (XW cy x0 x v1 f1) H → va_D A (XW cy x0 x v1 f1) → va_S A s.heap H locs → lv_has ls 6 [(3, .int l3_1), (0, .ref (x 25)), (1, .int p1), (2, .int p2)] → W p l e { frames := 4, cells := 0, slots := 0, locals := 137 } s m ([.ref (x 25), .int p1, .int p2] : List Value).toArray below meth c H locs 0 0 Q (F0 m 2 ls []) := by
    intro n1
    induction n1 with
    | zero => intro l3_1 v1 f1 hIv1 hq0_v1 hq1_v1 hq7_v1 hq8_v1 hq9_v1 hq10_v1 hq31_v1 hq32_v1 hr3_1 hM_v1 hA_f1 hm; exact absurd hm (Nat.not_lt_zero _)
    | succ n1 ih1 =>
      intro l3_1 v1 f1 hIv1 hq0_v1 hq1_v1 hq7_v1 hq8_v1 hq9_v1 hq10_v1 hq31_v1 hq32_v1 hr3_1 hM_v1 hA_f1 hm1 H locs ls hP hD hS hl
      refine lv_iload_n hx hb dX3_findSewing_2 rfl (lv_at hl 0 rfl) ?_
      refine lv_bipush (v := 40) hx hb dX3_findSewing_3 (by decide) ?_
      refine lv_icmp_gt (tgt := 78) hx hb dX3_findSewing_5 (by decide) (fun c2 => ?_) (fun c2 => ?_)
      · skip
        have zc2 : 40 < l3_1.toInt := by rw [fa_lt, show (40 : Int32).toInt = 40 from by decide] at c2; exact c2
        refine lv_iconst (v := 0) hx hb dX3_findSewing_78 (by decide) ?_
        exact ret 0 (v1, f1) _ _ _ _ _ _ rfl ⟨hM_v1, hA_f1, hIv1, (show v1 0 = v 0 from hq0_v1), (show v1 1 = v 1 from hq1_v1), (show v1 7 = v 7 from hq7_v1), (show v1 8 = v 8 from hq8_v1), (show v1 9 = v 9 from hq9_v1), (show v1 10 = v 10 from hq10_v1), (show v1 31 = v 31 from hq31_v1), (show v1 32 = v 32 from hq32_v1), (Or.inr rfl)⟩ hP hD hS dX3_findSewing_79 (Nat.le_refl _) (Nat.le_refl _)
      · skip
        have zc2 : ¬ (40 < l3_1.toInt) := by rw [fa_lt, show (40 : Int32).toInt = 40 from by decide] at c2; exact c2
        refine lv_iconst (v := 0) hx hb dX3_findSewing_8 (by decide) ?_
        refine lv_iload_n hx hb dX3_findSewing_9 rfl (lv_at hl 0 rfl) ?_
        refine lv_bipush (v := 20) hx hb dX3_findSewing_10 (by decide) ?_
        refine lv_isub hx hb dX3_findSewing_12 ?_
        refine lv_topi (fun t3 et3 => ?_)
        have rg4 := fb_rng l3_1
        have zt3 : t3.toInt = l3_1.toInt - 20 := by rw [et3]; exact sub_i rfl (by decide) (by omega) (by omega)
        refine va_mmax hx hb (by rw [hml]; exact hl.1.symm) hown (hts _ k_1007) (hts _ k_640) (hts _ k_119) (hts _ k_641) (Nat.le_of_ble_eq_true rfl) (Nat.le_of_ble_eq_true rfl) (Nat.le_of_ble_eq_true rfl) (Nat.le_of_ble_eq_true rfl) dX3_findSewing_13 ?_
        refine lv_topi (fun t5 et5 => ?_)
        have zt5 : t5.toInt = max (0) (t3.toInt) := by rw [et5]; exact mmax_i (by decide) rfl
        refine lv_istore (lv' := [(4, .int t5), (3, .int l3_1), (0, .ref (x 25)), (1, .int p1), (2, .int p2)]) hx hb dX3_findSewing_16 hl (by decide) rfl (fun ls hl => ?_)
        have lp6 : ∀ (n6 : Nat) (l4_6 : Int32) (v6 : Nat → Int32) (f6 : Nat → Nat → Int32), XI v6 → v6 0 = (v 0) → v6 1 = (v 1) → v6 7 = (v 7) → v6 8 = (v 8) → v6 9 = (v 9) → v6 10 = (v 10) → v6 31 = (v 31) → v6 32 = (v 32) → ((0 : Int) ≤ l4_6.toInt ∧ l4_6.toInt ≤ 2147483647) → KV [24, 25] v6 v → KF [13, 14] f6 f → (2147483647 - l4_6.toInt).toNat < n6 → ∀ (H : Heap) (locs : List Loc) (ls : Array Slot), va_P (dC, dI) vwCl (XW cy x0 x v6 f6) H → va_D A (XW cy x0 x v6 f6) → va_S A s.heap H locs → lv_has ls 6 [(4, .int l4_6), (3, .int l3_1), (0, .ref (x 25)), (1, .int p1), (2, .int p2)] → W p l e { frames := 4, cells := 0, slots := 0, locals := 137 } s m ([.ref (x 25), .int p1, .int p2] : List Value).toArray below meth c H locs 0 0 Q (F0 m 18 ls []) := by
          intro n6
          induction n6 with
          | zero => intro l4_6 v6 f6 hIv6 hq0_v6 hq1_v6 hq7_v6 hq8_v6 hq9_v6 hq10_v6 hq31_v6 hq32_v6 hr4_6 hM_v6 hA_f6 hm; exact absurd hm (Nat.not_lt_zero _)
          | succ n6 ih6 =>
            intro l4_6 v6 f6 hIv6 hq0_v6 hq1_v6 hq7_v6 hq8_v6 hq9_v6 hq10_v6 hq31_v6 hq32_v6 hr4_6 hM_v6 hA_f6 hm6 H locs ls hP hD hS hl
            refine lv_iload hx hb dX3_findSewing_18 (lv_at hl 0 rfl) ?_
            refine lv_iload_n hx hb dX3_findSewing_20 rfl (lv_at hl 1 rfl) ?_
            refine lv_icmp_gt (tgt := 72) hx hb dX3_findSewing_21 (by decide) (fun c7 => ?_) (fun c7 => ?_)
            · skip
              have zc7 : l3_1.toInt < l4_6.toInt := by rw [fa_lt] at c7; exact c7
              have rg8 := fb_rng l4_6
              obtain ⟨t9, et9⟩ : ∃ y : Int32, y = l3_1 + 1 := ⟨_, rfl⟩
              have zt9 : t9.toInt = l3_1.toInt + 1 := by rw [et9]; exact add_i rfl (by decide) (by omega) (by omega)
              refine lv_iinc (v := t9) (lv' := [(3, .int t9), (4, .int l4_6), (0, .ref (x 25)), (1, .int p1), (2, .int p2)]) hx hb dX3_findSewing_72 hl (k := 1) rfl (by rw [et9]; rfl) (by decide) rfl (fun ls hl => ?_)
              refine lv_goto (tgt := 2) hx hb dX3_findSewing_75 (by decide) ?_
              have rg10 := fb_rng t9
              exact ih1 t9 v6 f6 hIv6 hq0_v6 hq1_v6 hq7_v6 hq8_v6 hq9_v6 hq10_v6 hq31_v6 hq32_v6 ⟨show (0 : Int) ≤ t9.toInt by omega, show t9.toInt ≤ (2147483647 : Int) by omega⟩ hM_v6 hA_f6 (by show (2147483647 - t9.toInt).toNat < n1; omega) _ _ _ hP hD hS (lv_sub hl [0, 2, 3, 4] rfl)
            · skip
              have zc7 : ¬ (l3_1.toInt < l4_6.toInt) := by rw [fa_lt] at c7; exact c7
              have rg11 := fb_rng l4_6
              refine lv_iload hx hb dX3_findSewing_24 (lv_at hl 0 rfl) ?_
              refine lv_bipush (v := 20) hx hb dX3_findSewing_26 (by decide) ?_
              refine lv_icmp_gt (tgt := 72) hx hb dX3_findSewing_28 (by decide) (fun c12 => ?_) (fun c12 => ?_)
              · skip
                have zc12 : 20 < l4_6.toInt := by rw [fa_lt, show (20 : Int32).toInt = 20 from by decide] at c12; exact c12
                obtain ⟨t13, et13⟩ : ∃ y : Int32, y = l3_1 + 1 := ⟨_, rfl⟩
                have zt13 : t13.toInt = l3_1.toInt + 1 := by rw [et13]; exact add_i rfl (by decide) (by omega) (by omega)
                refine lv_iinc (v := t13) (lv' := [(3, .int t13), (4, .int l4_6), (0, .ref (x 25)), (1, .int p1), (2, .int p2)]) hx hb dX3_findSewing_72 hl (k := 1) rfl (by rw [et13]; rfl) (by decide) rfl (fun ls hl => ?_)
                refine lv_goto (tgt := 2) hx hb dX3_findSewing_75 (by decide) ?_
                have rg14 := fb_rng t13
                exact ih1 t13 v6 f6 hIv6 hq0_v6 hq1_v6 hq7_v6 hq8_v6 hq9_v6 hq10_v6 hq31_v6 hq32_v6 ⟨show (0 : Int) ≤ t13.toInt by omega, show t13.toInt ≤ (2147483647 : Int) by omega⟩ hM_v6 hA_f6 (by show (2147483647 - t13.toInt).toNat < n1; omega) _ _ _ hP hD hS (lv_sub hl [0, 2, 3, 4] rfl)
              · skip
                have zc12 : ¬ (20 < l4_6.toInt) := by rw [fa_lt, show (20 : Int32).toInt = 20 from by decide] at c12; exact c12
                refine lv_iload_n hx hb dX3_findSewing_31 rfl (lv_at hl 1 rfl) ?_
                refine lv_iload hx hb dX3_findSewing_32 (lv_at hl 0 rfl) ?_
                refine lv_isub hx hb dX3_findSewing_34 ?_
                refine lv_topi (fun t15 et15 => ?_)
                have zt15 : t15.toInt = l3_1.toInt - l4_6.toInt := by rw [et15]; exact sub_i rfl rfl (by omega) (by omega)
                refine lv_istore (lv' := [(5, .int t15), (4, .int l4_6), (3, .int l3_1), (0, .ref (x 25)), (1, .int p1), (2, .int p2)]) hx hb dX3_findSewing_35 hl (by decide) rfl (fun ls hl => ?_)
                refine lv_aload_n hx hb dX3_findSewing_37 rfl (lv_at hl 3 rfl) ?_
                refine lv_iload_n hx hb dX3_findSewing_38 rfl (lv_at hl 4 rfl) ?_
                refine lv_iload_n hx hb dX3_findSewing_39 rfl (lv_at hl 5 rfl) ?_
                refine lv_iload hx hb dX3_findSewing_40 (lv_at hl 1 rfl) ?_
                refine lv_iload hx hb dX3_findSewing_42 (lv_at hl 0 rfl) ?_
                refine cbVi (n := 4) (rest := []) hx hb hml hown hts hE hP hD hS hA (sX_X3_sewnFits_1 l dC dI cy x0 x p1 p2 l4_6 t15 v6 f6 hIv6 ) k_1008 k_1010 k_27 k_109 k_1011 (by decide +kernel) ⟨Nat.le_of_ble_eq_true rfl, Nat.le_of_ble_eq_true rfl⟩ 26 3 rfl rfl (rfl) hl.1 rfl (Nat.le_of_ble_eq_true rfl) dX3_findSewing_44 (fun r16 u H locs hw hP hD hS => ?_)
                obtain ⟨v17, f18⟩ := u
                obtain ⟨kV_v17, kF_f18, hIv17, hk0_v17, hk1_v17, hk7_v17, hk8_v17, hk9_v17, hk10_v17, hk31_v17, hk32_v17, hw⟩ := hw
                have hM_v17 : KV [24, 25] v17 v := KV.tr kV_v17 hM_v6 rfl
                have hA_f18 : KF [13, 14] f18 f := KF.tr kF_f18 hA_f6 rfl
                have hP : va_P (dC, dI) vwCl (XW cy x0 x v17 f18) H := hP
                have hD : va_D A (XW cy x0 x v17 f18) := hD
                have hq0_v17 : v17 0 = (v 0) := hk0_v17.trans hq0_v6
                have hq1_v17 : v17 1 = (v 1) := hk1_v17.trans hq1_v6
                have hq7_v17 : v17 7 = (v 7) := hk7_v17.trans hq7_v6
                have hq8_v17 : v17 8 = (v 8) := hk8_v17.trans hq8_v6
                have hq9_v17 : v17 9 = (v 9) := hk9_v17.trans hq9_v6
                have hq10_v17 : v17 10 = (v 10) := hk10_v17.trans hq10_v6
                have hq31_v17 : v17 31 = (v 31) := hk31_v17.trans hq31_v6
                have hq32_v17 : v17 32 = (v 32) := hk32_v17.trans hq32_v6
                rcases hw with ⟨g19⟩ | ⟨g19⟩
                · skip
                  subst g19
                  refine lv_if_ne (tgt := 64) hx hb dX3_findSewing_47 (by decide) (fun _ => ?_) (fun c0 => absurd c0 (by decide))
                  refine lv_iconst (v := 1) hx hb dX3_findSewing_64 (by decide) ?_
                  exact ret 1 (v17, f18) _ _ _ _ _ _ rfl ⟨hM_v17, hA_f18, hIv17, (hk0_v17.trans hq0_v6), (hk1_v17.trans hq1_v6), (hk7_v17.trans hq7_v6), (hk8_v17.trans hq8_v6), (hk9_v17.trans hq9_v6), (hk10_v17.trans hq10_v6), (hk31_v17.trans hq31_v6), (hk32_v17.trans hq32_v6), (Or.inl rfl)⟩ hP hD hS dX3_findSewing_65 (Nat.le_refl _) (Nat.le_refl _)
                · skip
                  subst g19
                  refine lv_if_ne (tgt := 64) hx hb dX3_findSewing_47 (by decide) (fun c0 => absurd (by decide) c0) (fun _ => ?_)
                  refine lv_aload_n hx hb dX3_findSewing_50 rfl (lv_at hl 3 rfl) ?_
                  refine lv_iload_n hx hb dX3_findSewing_51 rfl (lv_at hl 4 rfl) ?_
                  refine lv_iload_n hx hb dX3_findSewing_52 rfl (lv_at hl 5 rfl) ?_
                  refine lv_iload hx hb dX3_findSewing_53 (lv_at hl 1 rfl) ?_
                  refine lv_iload hx hb dX3_findSewing_55 (lv_at hl 0 rfl) ?_
                  refine lv_ineg hx hb dX3_findSewing_57 ?_
                  refine lv_topi (fun t20 et20 => ?_)
                  refine cbVi (n := 4) (rest := []) hx hb hml hown hts hE hP hD hS hA (sX_X3_sewnFits_1 l dC dI cy x0 x p1 p2 l4_6 t20 v17 f18 hIv17 ) k_1008 k_1010 k_27 k_109 k_1011 (by decide +kernel) ⟨Nat.le_of_ble_eq_true rfl, Nat.le_of_ble_eq_true rfl⟩ 26 3 rfl rfl (rfl) hl.1 rfl (Nat.le_of_ble_eq_true rfl) dX3_findSewing_58 (fun r21 u H locs hw hP hD hS => ?_)
                  obtain ⟨v22, f23⟩ := u
                  obtain ⟨kV_v22, kF_f23, hIv22, hk0_v22, hk1_v22, hk7_v22, hk8_v22, hk9_v22, hk10_v22, hk31_v22, hk32_v22, hw⟩ := hw
                  have hM_v22 : KV [24, 25] v22 v := KV.tr kV_v22 hM_v17 rfl
                  have hA_f23 : KF [13, 14] f23 f := KF.tr kF_f23 hA_f18 rfl
                  have hP : va_P (dC, dI) vwCl (XW cy x0 x v22 f23) H := hP
                  have hD : va_D A (XW cy x0 x v22 f23) := hD
                  have hq0_v22 : v22 0 = (v 0) := hk0_v22.trans hq0_v17
                  have hq1_v22 : v22 1 = (v 1) := hk1_v22.trans hq1_v17
                  have hq7_v22 : v22 7 = (v 7) := hk7_v22.trans hq7_v17
                  have hq8_v22 : v22 8 = (v 8) := hk8_v22.trans hq8_v17
                  have hq9_v22 : v22 9 = (v 9) := hk9_v22.trans hq9_v17
                  have hq10_v22 : v22 10 = (v 10) := hk10_v22.trans hq10_v17
                  have hq31_v22 : v22 31 = (v 31) := hk31_v22.trans hq31_v17
                  have hq32_v22 : v22 32 = (v 32) := hk32_v22.trans hq32_v17
                  rcases hw with ⟨g24⟩ | ⟨g24⟩
                  · skip
                    subst g24
                    refine lv_if_eq (tgt := 66) hx hb dX3_findSewing_61 (by decide) (fun c0 => absurd c0 (by decide)) (fun _ => ?_)
                    refine lv_iconst (v := 1) hx hb dX3_findSewing_64 (by decide) ?_
                    exact ret 1 (v22, f23) _ _ _ _ _ _ rfl ⟨hM_v22, hA_f23, hIv22, (hk0_v22.trans (hk0_v17.trans hq0_v6)), (hk1_v22.trans (hk1_v17.trans hq1_v6)), (hk7_v22.trans (hk7_v17.trans hq7_v6)), (hk8_v22.trans (hk8_v17.trans hq8_v6)), (hk9_v22.trans (hk9_v17.trans hq9_v6)), (hk10_v22.trans (hk10_v17.trans hq10_v6)), (hk31_v22.trans (hk31_v17.trans hq31_v6)), (hk32_v22.trans (hk32_v17.trans hq32_v6)), (Or.inl rfl)⟩ hP hD hS dX3_findSewing_65 (Nat.le_refl _) (Nat.le_refl _)
                  · skip
                    subst g24
                    refine lv_if_eq (tgt := 66) hx hb dX3_findSewing_61 (by decide) (fun _ => ?_) (fun c0 => absurd (by decide) c0)
                    obtain ⟨t25, et25⟩ : ∃ y : Int32, y = l4_6 + 1 := ⟨_, rfl⟩
                    have zt25 : t25.toInt = l4_6.toInt + 1 := by rw [et25]; exact add_i rfl (by decide) (by omega) (by omega)
                    refine lv_iinc (v := t25) (lv' := [(4, .int t25), (5, .int t15), (3, .int l3_1), (0, .ref (x 25)), (1, .int p1), (2, .int p2)]) hx hb dX3_findSewing_66 hl (k := 1) rfl (by rw [et25]; rfl) (by decide) rfl (fun ls hl => ?_)
                    refine lv_goto (tgt := 18) hx hb dX3_findSewing_69 (by decide) ?_
                    have rg26 := fb_rng t25
                    exact ih6 t25 v22 f23 hIv22 hq0_v22 hq1_v22 hq7_v22 hq8_v22 hq9_v22 hq10_v22 hq31_v22 hq32_v22 ⟨show (0 : Int) ≤ t25.toInt by omega, show t25.toInt ≤ (2147483647 : Int) by omega⟩ hM_v22 hA_f23 (by show (2147483647 - t25.toInt).toNat < n6; omega) _ _ _ hP hD hS (lv_sub hl [0, 2, 3, 4, 5] rfl)
        have rg27 := fb_rng t5
        exact lp6 _ t5 v1 f1 hIv1 hq0_v1 hq1_v1 hq7_v1 hq8_v1 hq9_v1 hq10_v1 hq31_v1 hq32_v1 ⟨show (0 : Int) ≤ t5.toInt by omega, show t5.toInt ≤ (2147483647 : Int) by omega⟩ hM_v1 hA_f1 (Nat.lt_succ_self _) _ _ _ hP hD hS (lv_sub hl [0, 1, 2, 3, 4] rfl)
  exact lp1 _ 0 v f hIv rfl rfl rfl rfl rfl rfl rfl rfl ⟨by decide, by decide⟩ hM_v hA_f (Nat.lt_succ_self _) _ _ _ hP hD hS (lv_sub hl [0, 1, 2, 3] rfl)
set_option maxHeartbeats 4000000 in
set_option maxRecDepth 100000 in
theorem sX_X10_sewing_1 (l : Launch) (dC : Nat → ClassId) (dI : Nat → Nat → Nat) (cy : Nat → ClassId) (x0 : Nat) (x : Nat → Nat) (p1 : Int32) (p2 : Int32) (p3 : Int32) (v : Nat → Int32) (f : Nat → Nat → Int32) (hIv : XI v)  : ctI l (dC, dI) cy yX10_sewing cX10_sewing 4 .int 5 162 0 0 ((Nat → Int32) × (Nat → Nat → Int32)) [.ref x0, .int p1, .int p2, .int p3] (XW cy x0 x v f) (fun r u => KV [24, 25] u.1 v ∧ KF [13, 14] u.2 f ∧ XI u.1 ∧ u.1 0 = v 0 ∧ u.1 1 = v 1 ∧ u.1 7 = v 7 ∧ u.1 8 = v 8 ∧ u.1 9 = v 9 ∧ u.1 10 = v 10 ∧ u.1 31 = v 31 ∧ u.1 32 = v 32) (fun u => XW cy x0 x u.1 u.2) := by
  refine ctI_of (by decide) (Nat.le_of_ble_eq_true rfl) (fun p e s m below meth c A ls Q hx hb hml hts hown hE hP hD hA hl ret => ?_)
  have hM_v : KV [24, 25] v v := fun _ _ => rfl
  have hA_f : KF [13, 14] f f := fun _ _ => rfl
  have hown : s.vm.findClass RX10 = some m.cls := hown
  have hS : va_S A s.heap s.heap [] := va_S.rf
  have hl : lv_has ls 4 [(0, .ref x0), (1, .int p1), (2, .int p2), (3, .int p3)] := hl
  refine lv_aload_n hx hb dX10_sewing_0 rfl (lv_at hl 0 rfl) ?_
  refine va_get (D := (dC, dI)) (ci := 10) (v := .ref (x 26)) (C := RX10) (T := TX10) (N := 10) hx hb hts inB_10 hown hE.1 hP 0 rfl rfl 2 (by decide) (hts _ k_493) (fun _ h9 => h9) rfl dX10_sewing_1 ?_
  refine lv_iload_n hx hb dX10_sewing_4 rfl (lv_at hl 1 rfl) ?_
  refine cbVi (n := 1) (rest := []) hx hb hml hown hts hE hP hD hS hA (sX_X7_hasCoat_1 0 l dC dI cy x0 x p1 v f hIv ) k_848 k_315 k_316 k_104 k_317 (by decide +kernel) ⟨Nat.le_of_ble_eq_true rfl, Nat.le_of_ble_eq_true rfl⟩ 27 7 rfl rfl (rfl) hl.1 rfl (Nat.le_of_ble_eq_true rfl) dX10_sewing_5 (fun r1 u H locs hw hP hD hS => ?_)
  obtain ⟨hG2, hw⟩ := hw
  rcases hw with ⟨g3, g3_0, g3_1, g3_2⟩ | ⟨g3⟩
  · skip
    subst g3
    refine lv_if_eq (tgt := 31) hx hb dX10_sewing_8 (by decide) (fun c0 => absurd c0 (by decide)) (fun _ => ?_)
    refine lv_aload_n hx hb dX10_sewing_11 rfl (lv_at hl 0 rfl) ?_
    refine va_get (D := (dC, dI)) (ci := 10) (v := .ref (x 26)) (C := RX10) (T := TX10) (N := 10) hx hb hts inB_10 hown hE.1 hP 0 rfl rfl 2 (by decide) (hts _ k_493) (fun _ h9 => h9) rfl dX10_sewing_12 ?_
    refine lv_iload_n hx hb dX10_sewing_15 rfl (lv_at hl 2 rfl) ?_
    refine cbVi (n := 1) (rest := []) hx hb hml hown hts hE hP hD hS hA (sX_X7_hasMan_1 0 l dC dI cy x0 x p2 v f hIv ) k_802 k_307 k_308 k_104 k_309 (by decide +kernel) ⟨Nat.le_of_ble_eq_true rfl, Nat.le_of_ble_eq_true rfl⟩ 27 7 rfl rfl (rfl) hl.1 rfl (Nat.le_of_ble_eq_true rfl) dX10_sewing_16 (fun r4 u H locs hw hP hD hS => ?_)
    obtain ⟨hG5, hw⟩ := hw
    rcases hw with ⟨g6, g6_0, g6_1, g6_2⟩ | ⟨g6⟩
    · skip
      subst g6
      refine lv_if_eq (tgt := 31) hx hb dX10_sewing_19 (by decide) (fun c0 => absurd c0 (by decide)) (fun _ => ?_)
      refine lv_iload_n hx hb dX10_sewing_22 rfl (lv_at hl 3 rfl) ?_
      refine lv_if_lt (tgt := 31) hx hb dX10_sewing_23 (by decide) (fun c7 => ?_) (fun c7 => ?_)
      · skip
        have zc7 : p3.toInt < 0 := by rw [fa_lt, show (0 : Int32).toInt = 0 from by decide] at c7; exact c7
        refine lv_bipush (v := (-100)) hx hb dX10_sewing_31 (by decide) ?_
        exact ret (-100) (v, f) _ _ _ _ _ _ rfl ⟨hM_v, hA_f, hIv, rfl, rfl, rfl, rfl, rfl, rfl, rfl, rfl⟩ hP hD hS dX10_sewing_33 (Nat.le_refl _) (Nat.le_refl _)
      · skip
        have zc7 : ¬ (p3.toInt < 0) := by rw [fa_lt, show (0 : Int32).toInt = 0 from by decide] at c7; exact c7
        refine lv_iload_n hx hb dX10_sewing_26 rfl (lv_at hl 3 rfl) ?_
        refine lv_iconst (v := 2) hx hb dX10_sewing_27 (by decide) ?_
        refine lv_icmp_le (tgt := 34) hx hb dX10_sewing_28 (by decide) (fun c8 => ?_) (fun c8 => ?_)
        · skip
          have zc8 : p3.toInt ≤ 2 := by rw [fa_le, show (2 : Int32).toInt = 2 from by decide] at c8; exact c8
          refine lv_aload_n hx hb dX10_sewing_34 rfl (lv_at hl 0 rfl) ?_
          refine va_get (D := (dC, dI)) (ci := 10) (v := .ref (x 25)) (C := RX10) (T := TX10) (N := 10) hx hb hts inB_10 hown hE.1 hP 0 rfl rfl 5 (by decide) (hts _ k_496) (fun _ h9 => h9) rfl dX10_sewing_35 ?_
          refine lv_iload_n hx hb dX10_sewing_38 rfl (lv_at hl 1 rfl) ?_
          refine lv_iload_n hx hb dX10_sewing_39 rfl (lv_at hl 2 rfl) ?_
          refine cbVi (n := 2) (rest := []) hx hb hml hown hts hE hP hD hS hA (sX_X3_findSewing_1 l dC dI cy x0 x p1 p2 v f hIv ) k_1003 k_1004 k_1005 k_109 k_1006 (by decide +kernel) ⟨Nat.le_of_ble_eq_true rfl, Nat.le_of_ble_eq_true rfl⟩ 26 3 rfl rfl (rfl) hl.1 rfl (Nat.le_of_ble_eq_true rfl) dX10_sewing_40 (fun r9 u H locs hw hP hD hS => ?_)
          obtain ⟨v10, f11⟩ := u
          obtain ⟨kV_v10, kF_f11, hIv10, hk0_v10, hk1_v10, hk7_v10, hk8_v10, hk9_v10, hk10_v10, hk31_v10, hk32_v10, hw⟩ := hw
          have hM_v10 : KV [24, 25] v10 v := KV.tr kV_v10 hM_v rfl
          have hA_f11 : KF [13, 14] f11 f := KF.tr kF_f11 hA_f rfl
          have hP : va_P (dC, dI) vwCl (XW cy x0 x v10 f11) H := hP
          have hD : va_D A (XW cy x0 x v10 f11) := hD
          have hq0_v10 : v10 0 = (v 0) := hk0_v10
          have hq1_v10 : v10 1 = (v 1) := hk1_v10
          have hq7_v10 : v10 7 = (v 7) := hk7_v10
          have hq8_v10 : v10 8 = (v 8) := hk8_v10
          have hq9_v10 : v10 9 = (v 9) := hk9_v10
          have hq10_v10 : v10 10 = (v 10) := hk10_v10
          have hq31_v10 : v10 31 = (v 31) := hk31_v10
          have hq32_v10 : v10 32 = (v 32) := hk32_v10
          rcases hw with ⟨g12⟩ | ⟨g12⟩
          · skip
            subst g12
            refine lv_if_ne (tgt := 49) hx hb dX10_sewing_43 (by decide) (fun _ => ?_) (fun c0 => absurd c0 (by decide))
            refine lv_iload_n hx hb dX10_sewing_49 rfl (lv_at hl 3 rfl) ?_
            refine lv_if_ne (tgt := 72) hx hb dX10_sewing_50 (by decide) (fun c13 => ?_) (fun c13 => ?_)
            · skip
              have zc13 : ¬ (p3.toInt = 0) := by rw [fa_eq, show (0 : Int32).toInt = 0 from by decide] at c13; exact c13
              refine lv_iload_n hx hb dX10_sewing_72 rfl (lv_at hl 3 rfl) ?_
              refine lv_iconst (v := 1) hx hb dX10_sewing_73 (by decide) ?_
              refine lv_icmp_ne (tgt := 87) hx hb dX10_sewing_74 (by decide) (fun c14 => ?_) (fun c14 => ?_)
              · skip
                have zc14 : ¬ (p3.toInt = 1) := by rw [fa_eq, show (1 : Int32).toInt = 1 from by decide] at c14; exact c14
                refine lv_aload_n hx hb dX10_sewing_87 rfl (lv_at hl 0 rfl) ?_
                refine va_get (D := (dC, dI)) (ci := 10) (v := .ref (x 25)) (C := RX10) (T := TX10) (N := 10) hx hb hts inB_10 hown hE.1 hP 0 rfl rfl 5 (by decide) (hts _ k_496) (fun _ h9 => h9) rfl dX10_sewing_88 ?_
                refine va_getN (D := (dC, dI)) (ci := 3) (v := .int (v10 25)) (C := RX3) (T := TX3) (N := 10) hx hb hts inB_3 hown hE.1 hP 26 rfl rfl 4 (by decide) (va_Nw.use rfl (hE.2 _ k_376)) (fun _ h9 => h9) rfl dX10_sewing_91 ?_
                exact ret (v10 25) (v10, f11) _ _ _ _ _ _ rfl ⟨hM_v10, hA_f11, hIv10, hk0_v10, hk1_v10, hk7_v10, hk8_v10, hk9_v10, hk10_v10, hk31_v10, hk32_v10⟩ hP hD hS dX10_sewing_94 (Nat.le_refl _) (Nat.le_refl _)
              · skip
                have zc14 : p3.toInt = 1 := by rw [fa_eq, show (1 : Int32).toInt = 1 from by decide] at c14; exact c14
                refine lv_aload_n hx hb dX10_sewing_77 rfl (lv_at hl 0 rfl) ?_
                refine va_get (D := (dC, dI)) (ci := 10) (v := .ref (x 25)) (C := RX10) (T := TX10) (N := 10) hx hb hts inB_10 hown hE.1 hP 0 rfl rfl 5 (by decide) (hts _ k_496) (fun _ h9 => h9) rfl dX10_sewing_78 ?_
                refine va_getN (D := (dC, dI)) (ci := 3) (v := .int (v10 24)) (C := RX3) (T := TX3) (N := 10) hx hb hts inB_3 hown hE.1 hP 26 rfl rfl 3 (by decide) (va_Nw.use rfl (hE.2 _ k_374)) (fun _ h9 => h9) rfl dX10_sewing_81 ?_
                refine lv_goto (tgt := 94) hx hb dX10_sewing_84 (by decide) ?_
                exact ret (v10 24) (v10, f11) _ _ _ _ _ _ rfl ⟨hM_v10, hA_f11, hIv10, hk0_v10, hk1_v10, hk7_v10, hk8_v10, hk9_v10, hk10_v10, hk31_v10, hk32_v10⟩ hP hD hS dX10_sewing_94 (Nat.le_refl _) (Nat.le_refl _)
            · skip
              have zc13 : p3.toInt = 0 := by rw [fa_eq, show (0 : Int32).toInt = 0 from by decide] at c13; exact c13
              refine lv_aload_n hx hb dX10_sewing_53 rfl (lv_at hl 0 rfl) ?_
              refine va_get (D := (dC, dI)) (ci := 10) (v := .ref (x 25)) (C := RX10) (T := TX10) (N := 10) hx hb hts inB_10 hown hE.1 hP 0 rfl rfl 5 (by decide) (hts _ k_496) (fun _ h9 => h9) rfl dX10_sewing_54 ?_
              refine va_getN (D := (dC, dI)) (ci := 3) (v := .int (v10 24)) (C := RX3) (T := TX3) (N := 10) hx hb hts inB_3 hown hE.1 hP 26 rfl rfl 3 (by decide) (va_Nw.use rfl (hE.2 _ k_374)) (fun _ h9 => h9) rfl dX10_sewing_57 ?_
              refine lv_aload_n hx hb dX10_sewing_60 rfl (lv_at hl 0 rfl) ?_
              refine va_get (D := (dC, dI)) (ci := 10) (v := .ref (x 25)) (C := RX10) (T := TX10) (N := 10) hx hb hts inB_10 hown hE.1 hP 0 rfl rfl 5 (by decide) (hts _ k_496) (fun _ h9 => h9) rfl dX10_sewing_61 ?_
              refine va_getN (D := (dC, dI)) (ci := 3) (v := .int (v10 25)) (C := RX3) (T := TX3) (N := 10) hx hb hts inB_3 hown hE.1 hP 26 rfl rfl 4 (by decide) (va_Nw.use rfl (hE.2 _ k_376)) (fun _ h9 => h9) rfl dX10_sewing_64 ?_
              refine va_mabs hx hb (by rw [hml]; exact hl.1.symm) hown (hts _ k_1017) (hts _ k_1018) (hts _ k_119) (hts _ k_1019) (Nat.le_of_ble_eq_true rfl) (Nat.le_of_ble_eq_true rfl) (Nat.le_of_ble_eq_true rfl) (Nat.le_of_ble_eq_true rfl) dX10_sewing_67 ?_
              refine lv_topi (fun t15 et15 => ?_)
              refine lv_iadd hx hb dX10_sewing_70 ?_
              refine lv_topi (fun t16 et16 => ?_)
              exact ret t16 (v10, f11) _ _ _ _ _ _ rfl ⟨hM_v10, hA_f11, hIv10, hk0_v10, hk1_v10, hk7_v10, hk8_v10, hk9_v10, hk10_v10, hk31_v10, hk32_v10⟩ hP hD hS dX10_sewing_71 (Nat.le_refl _) (Nat.le_refl _)
          · skip
            subst g12
            refine lv_if_ne (tgt := 49) hx hb dX10_sewing_43 (by decide) (fun c0 => absurd (by decide) c0) (fun _ => ?_)
            refine lv_bipush (v := (-100)) hx hb dX10_sewing_46 (by decide) ?_
            exact ret (-100) (v10, f11) _ _ _ _ _ _ rfl ⟨hM_v10, hA_f11, hIv10, hk0_v10, hk1_v10, hk7_v10, hk8_v10, hk9_v10, hk10_v10, hk31_v10, hk32_v10⟩ hP hD hS dX10_sewing_48 (Nat.le_refl _) (Nat.le_refl _)
        · skip
          have zc8 : ¬ (p3.toInt ≤ 2) := by rw [fa_le, show (2 : Int32).toInt = 2 from by decide] at c8; exact c8
          refine lv_bipush (v := (-100)) hx hb dX10_sewing_31 (by decide) ?_
          exact ret (-100) (v, f) _ _ _ _ _ _ rfl ⟨hM_v, hA_f, hIv, rfl, rfl, rfl, rfl, rfl, rfl, rfl, rfl⟩ hP hD hS dX10_sewing_33 (Nat.le_refl _) (Nat.le_refl _)
    · skip
      subst g6
      refine lv_if_eq (tgt := 31) hx hb dX10_sewing_19 (by decide) (fun _ => ?_) (fun c0 => absurd (by decide) c0)
      refine lv_bipush (v := (-100)) hx hb dX10_sewing_31 (by decide) ?_
      exact ret (-100) (v, f) _ _ _ _ _ _ rfl ⟨hM_v, hA_f, hIv, rfl, rfl, rfl, rfl, rfl, rfl, rfl, rfl⟩ hP hD hS dX10_sewing_33 (Nat.le_refl _) (Nat.le_refl _)
  · skip
    subst g3
    refine lv_if_eq (tgt := 31) hx hb dX10_sewing_8 (by decide) (fun _ => ?_) (fun c0 => absurd (by decide) c0)
    refine lv_bipush (v := (-100)) hx hb dX10_sewing_31 (by decide) ?_
    exact ret (-100) (v, f) _ _ _ _ _ _ rfl ⟨hM_v, hA_f, hIv, rfl, rfl, rfl, rfl, rfl, rfl, rfl, rfl⟩ hP hD hS dX10_sewing_33 (Nat.le_refl _) (Nat.le_refl _)
set_option maxHeartbeats 4000000 in
set_option maxRecDepth 100000 in
theorem sX_X3_rotaCount_1 (l : Launch) (dC : Nat → ClassId) (dI : Nat → Nat → Nat) (cy : Nat → ClassId) (x0 : Nat) (x : Nat → Nat) (p1 : Int32) (v : Nat → Int32) (f : Nat → Nat → Int32) (hIv : XI v)  : ctI l (dC, dI) cy yX3_rotaCount cX3_rotaCount 5 .int 5 155 0 0 ((Nat → Int32) × (Nat → Nat → Int32)) [.ref (x 25), .int p1] (XW cy x0 x v f) (fun r u => KV [] u.1 v ∧ KF [13, 14] u.2 f ∧ XI u.1 ∧ u.1 0 = v 0 ∧ u.1 1 = v 1 ∧ u.1 7 = v 7 ∧ u.1 8 = v 8 ∧ u.1 9 = v 9 ∧ u.1 10 = v 10 ∧ u.1 31 = v 31 ∧ u.1 32 = v 32) (fun u => XW cy x0 x u.1 u.2) := by
  refine ctI_of (by decide) (Nat.le_of_ble_eq_true rfl) (fun p e s m below meth c A ls Q hx hb hml hts hown hE hP hD hA hl ret => ?_)
  have hM_v : KV [] v v := fun _ _ => rfl
  have hA_f : KF [13, 14] f f := fun _ _ => rfl
  have hown : s.vm.findClass RX3 = some m.cls := hown
  have hS : va_S A s.heap s.heap [] := va_S.rf
  have hl : lv_has ls 5 [(0, .ref (x 25)), (1, .int p1)] := hl
  refine lv_iconst (v := 0) hx hb dX3_rotaCount_0 (by decide) ?_
  refine lv_istore_n (lv' := [(2, .int 0), (0, .ref (x 25)), (1, .int p1)]) hx hb dX3_rotaCount_1 rfl hl (by decide) rfl (fun ls hl => ?_)
  refine lv_iconst (v := 0) hx hb dX3_rotaCount_2 (by decide) ?_
  refine lv_istore_n (lv' := [(3, .int 0), (2, .int 0), (0, .ref (x 25)), (1, .int p1)]) hx hb dX3_rotaCount_3 rfl hl (by decide) rfl (fun ls hl => ?_)
  have lp1 : ∀ (n1 : Nat) (l2_1 : Int32) (l3_1 : Int32) (v1 : Nat → Int32) (f1 : Nat → Nat → Int32), XI v1 → v1 0 = (v 0) → v1 1 = (v 1) → v1 7 = (v 7) → v1 8 = (v 8) → v1 9 = (v 9) → v1 10 = (v 10) → v1 31 = (v 31) → v1 32 = (v 32) → ((0 : Int) ≤ l3_1.toInt ∧ l3_1.toInt ≤ 2147483647) → KV [] v1 v → KF [13, 14] f1 f → (2147483647 - l3_1.toInt).toNat < n1 → ∀ (H : Heap) (locs : List Loc) (ls : Array Slot), va_P (dC, dI) vwCl (XW cy x0 x v1 f1) H → va_D A (XW cy x0 x v1 f1) → va_S A s.heap H locs → lv_has ls 5 [(3, .int l3_1), (2, .int l2_1), (0, .ref (x 25)), (1, .int p1)] → W p l e { frames := 5, cells := 0, slots := 0, locals := 155 } s m ([.ref (x 25), .int p1] : List Value).toArray below meth c H locs 0 0 Q (F0 m 4 ls []) := by
    intro n1
    induction n1 with
    | zero => intro l2_1 l3_1 v1 f1 hIv1 hq0_v1 hq1_v1 hq7_v1 hq8_v1 hq9_v1 hq10_v1 hq31_v1 hq32_v1 hr3_1 hM_v1 hA_f1 hm; exact absurd hm (Nat.not_lt_zero _)
    | succ n1 ih1 =>
      intro l2_1 l3_1 v1 f1 hIv1 hq0_v1 hq1_v1 hq7_v1 hq8_v1 hq9_v1 hq10_v1 hq31_v1 hq32_v1 hr3_1 hM_v1 hA_f1 hm1 H locs ls hP hD hS hl
      refine lv_iload_n hx hb dX3_rotaCount_4 rfl (lv_at hl 0 rfl) ?_
      refine lv_aload_n hx hb dX3_rotaCount_5 rfl (lv_at hl 2 rfl) ?_
      refine va_get (D := (dC, dI)) (ci := 3) (v := .ref (x 26)) (C := RX3) (T := TX3) (N := 10) hx hb hts inB_3 hown hE.1 hP 26 rfl rfl 0 (by decide) (hts _ k_370) (fun _ h9 => h9) rfl dX3_rotaCount_6 ?_
      refine va_getN (D := (dC, dI)) (ci := 7) (v := .int (v1 31)) (C := RX7) (T := TX7) (N := 10) hx hb hts inB_7 hown hE.1 hP 27 rfl rfl 3 (by decide) (va_Nw.use rfl (hE.2 _ k_217)) (fun _ h9 => h9) rfl dX3_rotaCount_9 ?_
      refine tI (y := (v 31)) hq31_v1 ?_
      have b31_v : 0 ≤ (v 31).toInt ∧ (v 31).toInt ≤ 6 := XI.b hIv 31 (by decide)
      refine lv_icmp_ge (tgt := 76) hx hb dX3_rotaCount_12 (by decide) (fun c2 => ?_) (fun c2 => ?_)
      · skip
        have zc2 : (v 31).toInt ≤ l3_1.toInt := by rw [fa_le] at c2; exact c2
        have rg3 := fb_rng l3_1
        have rg4 := fb_rng (v 31)
        refine lv_iload_n hx hb dX3_rotaCount_76 rfl (lv_at hl 1 rfl) ?_
        exact ret l2_1 (v1, f1) _ _ _ _ _ _ rfl ⟨hM_v1, hA_f1, hIv1, (show v1 0 = v 0 from hq0_v1), (show v1 1 = v 1 from hq1_v1), (show v1 7 = v 7 from hq7_v1), (show v1 8 = v 8 from hq8_v1), (show v1 9 = v 9 from hq9_v1), (show v1 10 = v 10 from hq10_v1), (show v1 31 = v 31 from hq31_v1), (show v1 32 = v 32 from hq32_v1)⟩ hP hD hS dX3_rotaCount_77 (Nat.le_refl _) (Nat.le_refl _)
      · skip
        have zc2 : ¬ ((v 31).toInt ≤ l3_1.toInt) := by rw [fa_le] at c2; exact c2
        have rg5 := fb_rng l3_1
        have rg6 := fb_rng (v 31)
        refine lv_iload_n hx hb dX3_rotaCount_15 rfl (lv_at hl 0 rfl) ?_
        refine lv_iload_n hx hb dX3_rotaCount_16 rfl (lv_at hl 3 rfl) ?_
        refine lv_iadd hx hb dX3_rotaCount_17 ?_
        refine lv_topi (fun t7 et7 => ?_)
        refine lv_aload_n hx hb dX3_rotaCount_18 rfl (lv_at hl 2 rfl) ?_
        refine va_get (D := (dC, dI)) (ci := 3) (v := .ref (x 26)) (C := RX3) (T := TX3) (N := 10) hx hb hts inB_3 hown hE.1 hP 26 rfl rfl 0 (by decide) (hts _ k_370) (fun _ h9 => h9) rfl dX3_rotaCount_19 ?_
        refine va_getN (D := (dC, dI)) (ci := 7) (v := .int (v1 31)) (C := RX7) (T := TX7) (N := 10) hx hb hts inB_7 hown hE.1 hP 27 rfl rfl 3 (by decide) (va_Nw.use rfl (hE.2 _ k_217)) (fun _ h9 => h9) rfl dX3_rotaCount_22 ?_
        refine tI (y := (v 31)) hq31_v1 ?_
        refine lv_icmp_ge (tgt := 34) hx hb dX3_rotaCount_25 (by decide) (fun c8 => ?_) (fun c8 => ?_)
        · skip
          have zc8 : (v 31).toInt ≤ t7.toInt := by rw [fa_le] at c8; exact c8
          have rg9 := fb_rng t7
          refine lv_iload_n hx hb dX3_rotaCount_34 rfl (lv_at hl 0 rfl) ?_
          refine lv_iload_n hx hb dX3_rotaCount_35 rfl (lv_at hl 3 rfl) ?_
          refine lv_iadd hx hb dX3_rotaCount_36 ?_
          refine tI (y := t7) et7.symm ?_
          refine lv_aload_n hx hb dX3_rotaCount_37 rfl (lv_at hl 2 rfl) ?_
          refine va_get (D := (dC, dI)) (ci := 3) (v := .ref (x 26)) (C := RX3) (T := TX3) (N := 10) hx hb hts inB_3 hown hE.1 hP 26 rfl rfl 0 (by decide) (hts _ k_370) (fun _ h9 => h9) rfl dX3_rotaCount_38 ?_
          refine va_getN (D := (dC, dI)) (ci := 7) (v := .int (v1 31)) (C := RX7) (T := TX7) (N := 10) hx hb hts inB_7 hown hE.1 hP 27 rfl rfl 3 (by decide) (va_Nw.use rfl (hE.2 _ k_217)) (fun _ h9 => h9) rfl dX3_rotaCount_41 ?_
          refine tI (y := (v 31)) hq31_v1 ?_
          refine lv_isub hx hb dX3_rotaCount_44 ?_
          refine lv_topi (fun t10 et10 => ?_)
          have zt10 : t10.toInt = t7.toInt - (v 31).toInt := by rw [et10]; exact sub_i rfl rfl (by omega) (by omega)
          refine lv_istore (lv' := [(4, .int t10), (3, .int l3_1), (2, .int l2_1), (0, .ref (x 25)), (1, .int p1)]) hx hb dX3_rotaCount_45 hl (by decide) rfl (fun ls hl => ?_)
          refine lv_aload_n hx hb dX3_rotaCount_47 rfl (lv_at hl 3 rfl) ?_
          refine va_get (D := (dC, dI)) (ci := 3) (v := .ref (x 21)) (C := RX3) (T := TX3) (N := 10) hx hb hts inB_3 hown hE.1 hP 26 rfl rfl 1 (by decide) (hts _ k_371) (fun _ h9 => h9) rfl dX3_rotaCount_48 ?_
          refine lv_iload_n hx hb dX3_rotaCount_51 rfl (lv_at hl 1 rfl) ?_
          refine lv_aload_n hx hb dX3_rotaCount_52 rfl (lv_at hl 3 rfl) ?_
          refine va_get (D := (dC, dI)) (ci := 3) (v := .ref (x 21)) (C := RX3) (T := TX3) (N := 10) hx hb hts inB_3 hown hE.1 hP 26 rfl rfl 1 (by decide) (hts _ k_371) (fun _ h9 => h9) rfl dX3_rotaCount_53 ?_
          refine lv_iload hx hb dX3_rotaCount_56 (lv_at hl 0 rfl) ?_
          refine cbVi (n := 1) (rest := [.int l3_1, .ref (x 21)]) hx hb hml hown hts hE hP hD hS hA (sX_X1_wears_1 l dC dI cy x0 x t10 v1 f1 hIv1 ) k_950 k_810 k_811 k_106 k_812 (by decide +kernel) ⟨Nat.le_of_ble_eq_true rfl, Nat.le_of_ble_eq_true rfl⟩ 22 1 rfl rfl (rfl) hl.1 rfl (Nat.le_of_ble_eq_true rfl) dX3_rotaCount_58 (fun r11 u H locs hw hP hD hS => ?_)
          refine cbVi (n := 2) (rest := []) hx hb hml hown hts hE hP hD hS hA (sX_X1_fits_1 l dC dI cy x0 x l3_1 r11 v1 f1 hIv1 ) k_1032 k_818 k_819 k_106 k_820 (by decide +kernel) ⟨Nat.le_of_ble_eq_true rfl, Nat.le_of_ble_eq_true rfl⟩ 22 1 rfl rfl (rfl) hl.1 rfl (Nat.le_of_ble_eq_true rfl) dX3_rotaCount_61 (fun r12 u H locs hw hP hD hS => ?_)
          obtain ⟨v13, f14⟩ := u
          obtain ⟨kV_v13, kF_f14, hIv13, hk0_v13, hk1_v13, hk7_v13, hk8_v13, hk9_v13, hk10_v13, hk31_v13, hk32_v13, hw⟩ := hw
          have hM_v13 : KV [] v13 v := KV.tr kV_v13 hM_v1 rfl
          have hA_f14 : KF [13, 14] f14 f := KF.tr kF_f14 hA_f1 rfl
          have hP : va_P (dC, dI) vwCl (XW cy x0 x v13 f14) H := hP
          have hD : va_D A (XW cy x0 x v13 f14) := hD
          have hq0_v13 : v13 0 = (v 0) := hk0_v13.trans hq0_v1
          have hq1_v13 : v13 1 = (v 1) := hk1_v13.trans hq1_v1
          have hq7_v13 : v13 7 = (v 7) := hk7_v13.trans hq7_v1
          have hq8_v13 : v13 8 = (v 8) := hk8_v13.trans hq8_v1
          have hq9_v13 : v13 9 = (v 9) := hk9_v13.trans hq9_v1
          have hq10_v13 : v13 10 = (v 10) := hk10_v13.trans hq10_v1
          have hq31_v13 : v13 31 = (v 31) := hk31_v13.trans hq31_v1
          have hq32_v13 : v13 32 = (v 32) := hk32_v13.trans hq32_v1
          rcases hw with ⟨g15⟩ | ⟨g15⟩
          · skip
            subst g15
            refine lv_if_eq (tgt := 70) hx hb dX3_rotaCount_64 (by decide) (fun c0 => absurd c0 (by decide)) (fun _ => ?_)
            obtain ⟨t16, et16⟩ : ∃ y : Int32, y = l2_1 + 1 := ⟨_, rfl⟩
            refine lv_iinc (v := t16) (lv' := [(2, .int t16), (4, .int t10), (3, .int l3_1), (0, .ref (x 25)), (1, .int p1)]) hx hb dX3_rotaCount_67 hl (k := 2) rfl (by rw [et16]; rfl) (by decide) rfl (fun ls hl => ?_)
            obtain ⟨t17, et17⟩ : ∃ y : Int32, y = l3_1 + 1 := ⟨_, rfl⟩
            have zt17 : t17.toInt = l3_1.toInt + 1 := by rw [et17]; exact add_i rfl (by decide) (by omega) (by omega)
            refine lv_iinc (v := t17) (lv' := [(3, .int t17), (2, .int t16), (4, .int t10), (0, .ref (x 25)), (1, .int p1)]) hx hb dX3_rotaCount_70 hl (k := 2) rfl (by rw [et17]; rfl) (by decide) rfl (fun ls hl => ?_)
            refine lv_goto (tgt := 4) hx hb dX3_rotaCount_73 (by decide) ?_
            have rg18 := fb_rng t17
            exact ih1 t16 t17 v13 f14 hIv13 hq0_v13 hq1_v13 hq7_v13 hq8_v13 hq9_v13 hq10_v13 hq31_v13 hq32_v13 ⟨show (0 : Int) ≤ t17.toInt by omega, show t17.toInt ≤ (2147483647 : Int) by omega⟩ hM_v13 hA_f14 (by show (2147483647 - t17.toInt).toNat < n1; omega) _ _ _ hP hD hS (lv_sub hl [0, 1, 3, 4] rfl)
          · skip
            subst g15
            refine lv_if_eq (tgt := 70) hx hb dX3_rotaCount_64 (by decide) (fun _ => ?_) (fun c0 => absurd (by decide) c0)
            obtain ⟨t19, et19⟩ : ∃ y : Int32, y = l3_1 + 1 := ⟨_, rfl⟩
            have zt19 : t19.toInt = l3_1.toInt + 1 := by rw [et19]; exact add_i rfl (by decide) (by omega) (by omega)
            refine lv_iinc (v := t19) (lv' := [(3, .int t19), (4, .int t10), (2, .int l2_1), (0, .ref (x 25)), (1, .int p1)]) hx hb dX3_rotaCount_70 hl (k := 1) rfl (by rw [et19]; rfl) (by decide) rfl (fun ls hl => ?_)
            refine lv_goto (tgt := 4) hx hb dX3_rotaCount_73 (by decide) ?_
            have rg20 := fb_rng t19
            exact ih1 l2_1 t19 v13 f14 hIv13 hq0_v13 hq1_v13 hq7_v13 hq8_v13 hq9_v13 hq10_v13 hq31_v13 hq32_v13 ⟨show (0 : Int) ≤ t19.toInt by omega, show t19.toInt ≤ (2147483647 : Int) by omega⟩ hM_v13 hA_f14 (by show (2147483647 - t19.toInt).toNat < n1; omega) _ _ _ hP hD hS (lv_sub hl [0, 2, 3, 4] rfl)
        · skip
          have zc8 : ¬ ((v 31).toInt ≤ t7.toInt) := by rw [fa_le] at c8; exact c8
          have rg21 := fb_rng t7
          refine lv_iload_n hx hb dX3_rotaCount_28 rfl (lv_at hl 0 rfl) ?_
          refine lv_iload_n hx hb dX3_rotaCount_29 rfl (lv_at hl 3 rfl) ?_
          refine lv_iadd hx hb dX3_rotaCount_30 ?_
          refine tI (y := t7) et7.symm ?_
          refine lv_goto (tgt := 45) hx hb dX3_rotaCount_31 (by decide) ?_
          refine lv_istore (lv' := [(4, .int t7), (3, .int l3_1), (2, .int l2_1), (0, .ref (x 25)), (1, .int p1)]) hx hb dX3_rotaCount_45 hl (by decide) rfl (fun ls hl => ?_)
          refine lv_aload_n hx hb dX3_rotaCount_47 rfl (lv_at hl 3 rfl) ?_
          refine va_get (D := (dC, dI)) (ci := 3) (v := .ref (x 21)) (C := RX3) (T := TX3) (N := 10) hx hb hts inB_3 hown hE.1 hP 26 rfl rfl 1 (by decide) (hts _ k_371) (fun _ h9 => h9) rfl dX3_rotaCount_48 ?_
          refine lv_iload_n hx hb dX3_rotaCount_51 rfl (lv_at hl 1 rfl) ?_
          refine lv_aload_n hx hb dX3_rotaCount_52 rfl (lv_at hl 3 rfl) ?_
          refine va_get (D := (dC, dI)) (ci := 3) (v := .ref (x 21)) (C := RX3) (T := TX3) (N := 10) hx hb hts inB_3 hown hE.1 hP 26 rfl rfl 1 (by decide) (hts _ k_371) (fun _ h9 => h9) rfl dX3_rotaCount_53 ?_
          refine lv_iload hx hb dX3_rotaCount_56 (lv_at hl 0 rfl) ?_
          refine cbVi (n := 1) (rest := [.int l3_1, .ref (x 21)]) hx hb hml hown hts hE hP hD hS hA (sX_X1_wears_1 l dC dI cy x0 x t7 v1 f1 hIv1 ) k_950 k_810 k_811 k_106 k_812 (by decide +kernel) ⟨Nat.le_of_ble_eq_true rfl, Nat.le_of_ble_eq_true rfl⟩ 22 1 rfl rfl (rfl) hl.1 rfl (Nat.le_of_ble_eq_true rfl) dX3_rotaCount_58 (fun r22 u H locs hw hP hD hS => ?_)
          refine cbVi (n := 2) (rest := []) hx hb hml hown hts hE hP hD hS hA (sX_X1_fits_1 l dC dI cy x0 x l3_1 r22 v1 f1 hIv1 ) k_1032 k_818 k_819 k_106 k_820 (by decide +kernel) ⟨Nat.le_of_ble_eq_true rfl, Nat.le_of_ble_eq_true rfl⟩ 22 1 rfl rfl (rfl) hl.1 rfl (Nat.le_of_ble_eq_true rfl) dX3_rotaCount_61 (fun r23 u H locs hw hP hD hS => ?_)
          obtain ⟨v24, f25⟩ := u
          obtain ⟨kV_v24, kF_f25, hIv24, hk0_v24, hk1_v24, hk7_v24, hk8_v24, hk9_v24, hk10_v24, hk31_v24, hk32_v24, hw⟩ := hw
          have hM_v24 : KV [] v24 v := KV.tr kV_v24 hM_v1 rfl
          have hA_f25 : KF [13, 14] f25 f := KF.tr kF_f25 hA_f1 rfl
          have hP : va_P (dC, dI) vwCl (XW cy x0 x v24 f25) H := hP
          have hD : va_D A (XW cy x0 x v24 f25) := hD
          have hq0_v24 : v24 0 = (v 0) := hk0_v24.trans hq0_v1
          have hq1_v24 : v24 1 = (v 1) := hk1_v24.trans hq1_v1
          have hq7_v24 : v24 7 = (v 7) := hk7_v24.trans hq7_v1
          have hq8_v24 : v24 8 = (v 8) := hk8_v24.trans hq8_v1
          have hq9_v24 : v24 9 = (v 9) := hk9_v24.trans hq9_v1
          have hq10_v24 : v24 10 = (v 10) := hk10_v24.trans hq10_v1
          have hq31_v24 : v24 31 = (v 31) := hk31_v24.trans hq31_v1
          have hq32_v24 : v24 32 = (v 32) := hk32_v24.trans hq32_v1
          rcases hw with ⟨g26⟩ | ⟨g26⟩
          · skip
            subst g26
            refine lv_if_eq (tgt := 70) hx hb dX3_rotaCount_64 (by decide) (fun c0 => absurd c0 (by decide)) (fun _ => ?_)
            obtain ⟨t27, et27⟩ : ∃ y : Int32, y = l2_1 + 1 := ⟨_, rfl⟩
            refine lv_iinc (v := t27) (lv' := [(2, .int t27), (4, .int t7), (3, .int l3_1), (0, .ref (x 25)), (1, .int p1)]) hx hb dX3_rotaCount_67 hl (k := 2) rfl (by rw [et27]; rfl) (by decide) rfl (fun ls hl => ?_)
            obtain ⟨t28, et28⟩ : ∃ y : Int32, y = l3_1 + 1 := ⟨_, rfl⟩
            have zt28 : t28.toInt = l3_1.toInt + 1 := by rw [et28]; exact add_i rfl (by decide) (by omega) (by omega)
            refine lv_iinc (v := t28) (lv' := [(3, .int t28), (2, .int t27), (4, .int t7), (0, .ref (x 25)), (1, .int p1)]) hx hb dX3_rotaCount_70 hl (k := 2) rfl (by rw [et28]; rfl) (by decide) rfl (fun ls hl => ?_)
            refine lv_goto (tgt := 4) hx hb dX3_rotaCount_73 (by decide) ?_
            have rg29 := fb_rng t28
            exact ih1 t27 t28 v24 f25 hIv24 hq0_v24 hq1_v24 hq7_v24 hq8_v24 hq9_v24 hq10_v24 hq31_v24 hq32_v24 ⟨show (0 : Int) ≤ t28.toInt by omega, show t28.toInt ≤ (2147483647 : Int) by omega⟩ hM_v24 hA_f25 (by show (2147483647 - t28.toInt).toNat < n1; omega) _ _ _ hP hD hS (lv_sub hl [0, 1, 3, 4] rfl)
          · skip
            subst g26
            refine lv_if_eq (tgt := 70) hx hb dX3_rotaCount_64 (by decide) (fun _ => ?_) (fun c0 => absurd (by decide) c0)
            obtain ⟨t30, et30⟩ : ∃ y : Int32, y = l3_1 + 1 := ⟨_, rfl⟩
            have zt30 : t30.toInt = l3_1.toInt + 1 := by rw [et30]; exact add_i rfl (by decide) (by omega) (by omega)
            refine lv_iinc (v := t30) (lv' := [(3, .int t30), (4, .int t7), (2, .int l2_1), (0, .ref (x 25)), (1, .int p1)]) hx hb dX3_rotaCount_70 hl (k := 1) rfl (by rw [et30]; rfl) (by decide) rfl (fun ls hl => ?_)
            refine lv_goto (tgt := 4) hx hb dX3_rotaCount_73 (by decide) ?_
            have rg31 := fb_rng t30
            exact ih1 l2_1 t30 v24 f25 hIv24 hq0_v24 hq1_v24 hq7_v24 hq8_v24 hq9_v24 hq10_v24 hq31_v24 hq32_v24 ⟨show (0 : Int) ≤ t30.toInt by omega, show t30.toInt ≤ (2147483647 : Int) by omega⟩ hM_v24 hA_f25 (by show (2147483647 - t30.toInt).toNat < n1; omega) _ _ _ hP hD hS (lv_sub hl [0, 2, 3, 4] rfl)
  exact lp1 _ 0 0 v f hIv rfl rfl rfl rfl rfl rfl rfl rfl ⟨by decide, by decide⟩ hM_v hA_f (Nat.lt_succ_self _) _ _ _ hP hD hS (lv_sub hl [0, 1, 2, 3] rfl)
set_option maxHeartbeats 4000000 in
set_option maxRecDepth 100000 in
theorem sX_X3_findRota_1 (l : Launch) (dC : Nat → ClassId) (dI : Nat → Nat → Nat) (cy : Nat → ClassId) (x0 : Nat) (x : Nat → Nat)  (v : Nat → Int32) (f : Nat → Nat → Int32) (hIv : XI v)  : ctV l (dC, dI) cy yX3_findRota cX3_findRota 3 6 179 0 0 ((Nat → Int32) × (Nat → Nat → Int32)) [.ref (x 25)] (XW cy x0 x v f) (fun u => KV [26, 27] u.1 v ∧ KF [13, 14] u.2 f ∧ XI u.1 ∧ u.1 0 = v 0 ∧ u.1 1 = v 1 ∧ u.1 7 = v 7 ∧ u.1 8 = v 8 ∧ u.1 9 = v 9 ∧ u.1 10 = v 10 ∧ u.1 31 = v 31 ∧ u.1 32 = v 32) (fun u => XW cy x0 x u.1 u.2) := by
  refine ctV_of (by decide) (Nat.le_of_ble_eq_true rfl) (fun p e s m below meth c A ls Q hx hb hml hts hown hnm hE hP hD hA hl ret => ?_)
  have hM_v : KV [26, 27] v v := fun _ _ => rfl
  have hA_f : KF [13, 14] f f := fun _ _ => rfl
  have hown : s.vm.findClass RX3 = some m.cls := hown
  have hS : va_S A s.heap s.heap [] := va_S.rf
  have hl : lv_has ls 3 [(0, .ref (x 25))] := hl
  refine lv_aload_n hx hb dX3_findRota_0 rfl (lv_at hl 0 rfl) ?_
  refine lv_iconst (v := 0) hx hb dX3_findRota_1 (by decide) ?_
  refine va_put (D := (dC, dI)) (ci := 3) (v := .int 0) (ty := tyX3 5) (C := RX3) (T := TX3) (N := 10) hx hb hts inB_3 tyX3 tyX3_ok nmX3 hown hE.1 hP hD hS 26 rfl rfl 5 (by decide) (hts _ k_377) (fun _ h9 => h9) rfl (tyX3_ok 5 (by decide)) rfl rfl (Nat.le_of_ble_eq_true rfl) dX3_findRota_2 (fun H locs hP hD hS => ?_)
  have hP : va_P (dC, dI) vwCl (XW cy x0 x (upd v 26 0) f) H := hP
  have hD : va_D A (XW cy x0 x (upd v 26 0) f) := hD
  refine lv_aload_n hx hb dX3_findRota_5 rfl (lv_at hl 0 rfl) ?_
  refine lv_iconst (v := (-1)) hx hb dX3_findRota_6 (by decide) ?_
  refine va_put (D := (dC, dI)) (ci := 3) (v := .int (-1)) (ty := tyX3 6) (C := RX3) (T := TX3) (N := 10) hx hb hts inB_3 tyX3 tyX3_ok nmX3 hown hE.1 hP hD hS 26 rfl rfl 6 (by decide) (hts _ k_379) (fun _ h9 => h9) rfl (tyX3_ok 6 (by decide)) rfl rfl (Nat.le_of_ble_eq_true rfl) dX3_findRota_7 (fun H locs hP hD hS => ?_)
  have hP : va_P (dC, dI) vwCl (XW cy x0 x (upd (upd v 26 0) 27 (-1)) f) H := hP
  have hD : va_D A (XW cy x0 x (upd (upd v 26 0) 27 (-1)) f) := hD
  refine lv_iconst (v := 0) hx hb dX3_findRota_10 (by decide) ?_
  refine lv_istore_n (lv' := [(1, .int 0), (0, .ref (x 25))]) hx hb dX3_findRota_11 rfl hl (by decide) rfl (fun ls hl => ?_)
  have lp1 : ∀ (n1 : Nat) (l1_1 : Int32) (v1 : Nat → Int32) (f1 : Nat → Nat → Int32), XI v1 → v1 0 = (v 0) → v1 1 = (v 1) → v1 7 = (v 7) → v1 8 = (v 8) → v1 9 = (v 9) → v1 10 = (v 10) → v1 31 = (v 31) → v1 32 = (v 32) → ((0 : Int) ≤ l1_1.toInt ∧ l1_1.toInt ≤ 2147483647) → KV [26, 27] v1 v → KF [13, 14] f1 f → (2147483647 - l1_1.toInt).toNat < n1 → ∀ (H : Heap) (locs : List Loc) (ls : Array Slot), va_P (dC, dI) vwCl (XW cy x0 x v1 f1) H → va_D A (XW cy x0 x v1 f1) → va_S A s.heap H locs → lv_has ls 3 [(1, .int l1_1), (0, .ref (x 25))] → W p l e { frames := 6, cells := 0, slots := 0, locals := 179 } s m ([.ref (x 25)] : List Value).toArray below meth c H locs 0 0 Q (F0 m 12 ls []) := by
    intro n1
    induction n1 with
    | zero => intro l1_1 v1 f1 hIv1 hq0_v1 hq1_v1 hq7_v1 hq8_v1 hq9_v1 hq10_v1 hq31_v1 hq32_v1 hr1_1 hM_v1 hA_f1 hm; exact absurd hm (Nat.not_lt_zero _)
    | succ n1 ih1 =>
      intro l1_1 v1 f1 hIv1 hq0_v1 hq1_v1 hq7_v1 hq8_v1 hq9_v1 hq10_v1 hq31_v1 hq32_v1 hr1_1 hM_v1 hA_f1 hm1 H locs ls hP hD hS hl
      refine lv_iload_n hx hb dX3_findRota_12 rfl (lv_at hl 0 rfl) ?_
      refine lv_aload_n hx hb dX3_findRota_13 rfl (lv_at hl 1 rfl) ?_
      refine va_get (D := (dC, dI)) (ci := 3) (v := .ref (x 26)) (C := RX3) (T := TX3) (N := 10) hx hb hts inB_3 hown hE.1 hP 26 rfl rfl 0 (by decide) (hts _ k_370) (fun _ h9 => h9) rfl dX3_findRota_14 ?_
      refine va_getN (D := (dC, dI)) (ci := 7) (v := .int (v1 31)) (C := RX7) (T := TX7) (N := 10) hx hb hts inB_7 hown hE.1 hP 27 rfl rfl 3 (by decide) (va_Nw.use rfl (hE.2 _ k_217)) (fun _ h9 => h9) rfl dX3_findRota_17 ?_
      refine tI (y := (v 31)) hq31_v1 ?_
      have b31_v : 0 ≤ (v 31).toInt ∧ (v 31).toInt ≤ 6 := XI.b hIv 31 (by decide)
      refine lv_icmp_ge (tgt := 53) hx hb dX3_findRota_20 (by decide) (fun c2 => ?_) (fun c2 => ?_)
      · skip
        have zc2 : (v 31).toInt ≤ l1_1.toInt := by rw [fa_le] at c2; exact c2
        have rg3 := fb_rng l1_1
        have rg4 := fb_rng (v 31)
        exact ret (v1, f1) _ _ _ _ _ _ ⟨hM_v1, hA_f1, hIv1, (show v1 0 = v 0 from hq0_v1), (show v1 1 = v 1 from hq1_v1), (show v1 7 = v 7 from hq7_v1), (show v1 8 = v 8 from hq8_v1), (show v1 9 = v 9 from hq9_v1), (show v1 10 = v 10 from hq10_v1), (show v1 31 = v 31 from hq31_v1), (show v1 32 = v 32 from hq32_v1)⟩ hP hD hS dX3_findRota_53 (Nat.le_refl _) (Nat.le_refl _)
      · skip
        have zc2 : ¬ ((v 31).toInt ≤ l1_1.toInt) := by rw [fa_le] at c2; exact c2
        have rg5 := fb_rng l1_1
        have rg6 := fb_rng (v 31)
        refine lv_aload_n hx hb dX3_findRota_23 rfl (lv_at hl 1 rfl) ?_
        refine lv_iload_n hx hb dX3_findRota_24 rfl (lv_at hl 0 rfl) ?_
        refine cbVi (n := 1) (rest := []) hx hb hml hown hts hE hP hD hS hA (sX_X3_rotaCount_1 l dC dI cy x0 x l1_1 v1 f1 hIv1 ) k_1028 k_1030 k_28 k_109 k_1031 (by decide +kernel) ⟨Nat.le_of_ble_eq_true rfl, Nat.le_of_ble_eq_true rfl⟩ 26 3 rfl rfl (rfl) hl.1 rfl (Nat.le_of_ble_eq_true rfl) dX3_findRota_25 (fun r7 u H locs hw hP hD hS => ?_)
        obtain ⟨v8, f9⟩ := u
        obtain ⟨kV_v8, kF_f9, hIv8, hk0_v8, hk1_v8, hk7_v8, hk8_v8, hk9_v8, hk10_v8, hk31_v8, hk32_v8⟩ := hw
        have hM_v8 : KV [26, 27] v8 v := KV.tr kV_v8 hM_v1 rfl
        have hA_f9 : KF [13, 14] f9 f := KF.tr kF_f9 hA_f1 rfl
        have hP : va_P (dC, dI) vwCl (XW cy x0 x v8 f9) H := hP
        have hD : va_D A (XW cy x0 x v8 f9) := hD
        have hq0_v8 : v8 0 = (v 0) := hk0_v8.trans hq0_v1
        have hq1_v8 : v8 1 = (v 1) := hk1_v8.trans hq1_v1
        have hq7_v8 : v8 7 = (v 7) := hk7_v8.trans hq7_v1
        have hq8_v8 : v8 8 = (v 8) := hk8_v8.trans hq8_v1
        have hq9_v8 : v8 9 = (v 9) := hk9_v8.trans hq9_v1
        have hq10_v8 : v8 10 = (v 10) := hk10_v8.trans hq10_v1
        have hq31_v8 : v8 31 = (v 31) := hk31_v8.trans hq31_v1
        have hq32_v8 : v8 32 = (v 32) := hk32_v8.trans hq32_v1
        refine lv_istore_n (lv' := [(2, .int r7), (1, .int l1_1), (0, .ref (x 25))]) hx hb dX3_findRota_28 rfl hl (by decide) rfl (fun ls hl => ?_)
        refine lv_iload_n hx hb dX3_findRota_29 rfl (lv_at hl 0 rfl) ?_
        refine lv_aload_n hx hb dX3_findRota_30 rfl (lv_at hl 2 rfl) ?_
        refine va_get (D := (dC, dI)) (ci := 3) (v := .int (v8 27)) (C := RX3) (T := TX3) (N := 10) hx hb hts inB_3 hown hE.1 hP 26 rfl rfl 6 (by decide) (hts _ k_379) (fun _ h9 => h9) rfl dX3_findRota_31 ?_
        refine lv_icmp_le (tgt := 47) hx hb dX3_findRota_34 (by decide) (fun c10 => ?_) (fun c10 => ?_)
        · skip
          have zc10 : r7.toInt ≤ (v8 27).toInt := by rw [fa_le] at c10; exact c10
          have rg11 := fb_rng r7
          have rg12 := fb_rng (v8 27)
          obtain ⟨t13, et13⟩ : ∃ y : Int32, y = l1_1 + 1 := ⟨_, rfl⟩
          have zt13 : t13.toInt = l1_1.toInt + 1 := by rw [et13]; exact add_i rfl (by decide) (by omega) (by omega)
          refine lv_iinc (v := t13) (lv' := [(1, .int t13), (2, .int r7), (0, .ref (x 25))]) hx hb dX3_findRota_47 hl (k := 1) rfl (by rw [et13]; rfl) (by decide) rfl (fun ls hl => ?_)
          refine lv_goto (tgt := 12) hx hb dX3_findRota_50 (by decide) ?_
          have rg14 := fb_rng t13
          exact ih1 t13 v8 f9 hIv8 hq0_v8 hq1_v8 hq7_v8 hq8_v8 hq9_v8 hq10_v8 hq31_v8 hq32_v8 ⟨show (0 : Int) ≤ t13.toInt by omega, show t13.toInt ≤ (2147483647 : Int) by omega⟩ hM_v8 hA_f9 (by show (2147483647 - t13.toInt).toNat < n1; omega) _ _ _ hP hD hS (lv_sub hl [0, 2] rfl)
        · skip
          have zc10 : ¬ (r7.toInt ≤ (v8 27).toInt) := by rw [fa_le] at c10; exact c10
          have rg15 := fb_rng r7
          have rg16 := fb_rng (v8 27)
          refine lv_aload_n hx hb dX3_findRota_37 rfl (lv_at hl 2 rfl) ?_
          refine lv_iload_n hx hb dX3_findRota_38 rfl (lv_at hl 1 rfl) ?_
          refine va_put (D := (dC, dI)) (ci := 3) (v := .int l1_1) (ty := tyX3 5) (C := RX3) (T := TX3) (N := 10) hx hb hts inB_3 tyX3 tyX3_ok nmX3 hown hE.1 hP hD hS 26 rfl rfl 5 (by decide) (hts _ k_377) (fun _ h9 => h9) rfl (tyX3_ok 5 (by decide)) rfl rfl (Nat.le_of_ble_eq_true rfl) dX3_findRota_39 (fun H locs hP hD hS => ?_)
          have hP : va_P (dC, dI) vwCl (XW cy x0 x (upd v8 26 l1_1) f9) H := hP
          have hD : va_D A (XW cy x0 x (upd v8 26 l1_1) f9) := hD
          refine lv_aload_n hx hb dX3_findRota_42 rfl (lv_at hl 2 rfl) ?_
          refine lv_iload_n hx hb dX3_findRota_43 rfl (lv_at hl 0 rfl) ?_
          refine va_put (D := (dC, dI)) (ci := 3) (v := .int r7) (ty := tyX3 6) (C := RX3) (T := TX3) (N := 10) hx hb hts inB_3 tyX3 tyX3_ok nmX3 hown hE.1 hP hD hS 26 rfl rfl 6 (by decide) (hts _ k_379) (fun _ h9 => h9) rfl (tyX3_ok 6 (by decide)) rfl rfl (Nat.le_of_ble_eq_true rfl) dX3_findRota_44 (fun H locs hP hD hS => ?_)
          have hP : va_P (dC, dI) vwCl (XW cy x0 x (upd (upd v8 26 l1_1) 27 r7) f9) H := hP
          have hD : va_D A (XW cy x0 x (upd (upd v8 26 l1_1) 27 r7) f9) := hD
          obtain ⟨t17, et17⟩ : ∃ y : Int32, y = l1_1 + 1 := ⟨_, rfl⟩
          have zt17 : t17.toInt = l1_1.toInt + 1 := by rw [et17]; exact add_i rfl (by decide) (by omega) (by omega)
          refine lv_iinc (v := t17) (lv' := [(1, .int t17), (2, .int r7), (0, .ref (x 25))]) hx hb dX3_findRota_47 hl (k := 1) rfl (by rw [et17]; rfl) (by decide) rfl (fun ls hl => ?_)
          refine lv_goto (tgt := 12) hx hb dX3_findRota_50 (by decide) ?_
          have rg18 := fb_rng t17
          exact ih1 t17 (upd (upd v8 26 l1_1) 27 r7) f9 (XI.upd (j := 27) (x := r7) (XI.upd (j := 26) (x := l1_1) hIv8 (rlo _) (rhi _)) (rlo _) (rhi _)) hq0_v8 hq1_v8 hq7_v8 hq8_v8 hq9_v8 hq10_v8 hq31_v8 hq32_v8 ⟨show (0 : Int) ≤ t17.toInt by omega, show t17.toInt ≤ (2147483647 : Int) by omega⟩ (KV.up (j := 27) (x := r7) (KV.up (j := 26) (x := l1_1) hM_v8 rfl) rfl) hA_f9 (by show (2147483647 - t17.toInt).toNat < n1; omega) _ _ _ hP hD hS (lv_sub hl [0, 2] rfl)
  exact lp1 _ 0 (upd (upd v 26 0) 27 (-1)) f (XI.upd (j := 27) (x := (-1)) (XI.upd (j := 26) (x := 0) hIv (rlo _) (rhi _)) (rlo _) (rhi _)) rfl rfl rfl rfl rfl rfl rfl rfl ⟨by decide, by decide⟩ (KV.up (j := 27) (x := (-1)) (KV.up (j := 26) (x := 0) hM_v rfl) rfl) hA_f (Nat.lt_succ_self _) _ _ _ hP hD hS (lv_sub hl [0, 1] rfl)
set_option maxHeartbeats 4000000 in
set_option maxRecDepth 100000 in
theorem sX_X10_rota_1 (l : Launch) (dC : Nat → ClassId) (dI : Nat → Nat → Nat) (cy : Nat → ClassId) (x0 : Nat) (x : Nat → Nat) (p1 : Int32) (v : Nat → Int32) (f : Nat → Nat → Int32) (hIv : XI v)  : ctI l (dC, dI) cy yX10_rota cX10_rota 2 .int 7 201 0 0 ((Nat → Int32) × (Nat → Nat → Int32)) [.ref x0, .int p1] (XW cy x0 x v f) (fun r u => KV [26, 27] u.1 v ∧ KF [13, 14] u.2 f ∧ XI u.1 ∧ u.1 0 = v 0 ∧ u.1 1 = v 1 ∧ u.1 7 = v 7 ∧ u.1 8 = v 8 ∧ u.1 9 = v 9 ∧ u.1 10 = v 10 ∧ u.1 31 = v 31 ∧ u.1 32 = v 32) (fun u => XW cy x0 x u.1 u.2) := by
  refine ctI_of (by decide) (Nat.le_of_ble_eq_true rfl) (fun p e s m below meth c A ls Q hx hb hml hts hown hE hP hD hA hl ret => ?_)
  have hM_v : KV [26, 27] v v := fun _ _ => rfl
  have hA_f : KF [13, 14] f f := fun _ _ => rfl
  have hown : s.vm.findClass RX10 = some m.cls := hown
  have hS : va_S A s.heap s.heap [] := va_S.rf
  have hl : lv_has ls 2 [(0, .ref x0), (1, .int p1)] := hl
  refine lv_aload_n hx hb dX10_rota_0 rfl (lv_at hl 0 rfl) ?_
  refine va_get (D := (dC, dI)) (ci := 10) (v := .ref (x 26)) (C := RX10) (T := TX10) (N := 10) hx hb hts inB_10 hown hE.1 hP 0 rfl rfl 2 (by decide) (hts _ k_493) (fun _ h9 => h9) rfl dX10_rota_1 ?_
  refine va_getN (D := (dC, dI)) (ci := 7) (v := .int (v 31)) (C := RX7) (T := TX7) (N := 10) hx hb hts inB_7 hown hE.1 hP 27 rfl rfl 3 (by decide) (va_Nw.use rfl (hE.2 _ k_214)) (fun _ h9 => h9) rfl dX10_rota_4 ?_
  have b31_v : 0 ≤ (v 31).toInt ∧ (v 31).toInt ≤ 6 := XI.b hIv 31 (by decide)
  refine lv_if_eq (tgt := 19) hx hb dX10_rota_7 (by decide) (fun c1 => ?_) (fun c1 => ?_)
  · skip
    have zc1 : (v 31).toInt = 0 := by rw [fa_eq, show (0 : Int32).toInt = 0 from by decide] at c1; exact c1
    refine lv_iconst (v := (-1)) hx hb dX10_rota_19 (by decide) ?_
    exact ret (-1) (v, f) _ _ _ _ _ _ rfl ⟨hM_v, hA_f, hIv, rfl, rfl, rfl, rfl, rfl, rfl, rfl, rfl⟩ hP hD hS dX10_rota_20 (Nat.le_refl _) (Nat.le_refl _)
  · skip
    have zc1 : ¬ ((v 31).toInt = 0) := by rw [fa_eq, show (0 : Int32).toInt = 0 from by decide] at c1; exact c1
    refine lv_iload_n hx hb dX10_rota_10 rfl (lv_at hl 1 rfl) ?_
    refine lv_if_lt (tgt := 19) hx hb dX10_rota_11 (by decide) (fun c2 => ?_) (fun c2 => ?_)
    · skip
      have zc2 : p1.toInt < 0 := by rw [fa_lt, show (0 : Int32).toInt = 0 from by decide] at c2; exact c2
      refine lv_iconst (v := (-1)) hx hb dX10_rota_19 (by decide) ?_
      exact ret (-1) (v, f) _ _ _ _ _ _ rfl ⟨hM_v, hA_f, hIv, rfl, rfl, rfl, rfl, rfl, rfl, rfl, rfl⟩ hP hD hS dX10_rota_20 (Nat.le_refl _) (Nat.le_refl _)
    · skip
      have zc2 : ¬ (p1.toInt < 0) := by rw [fa_lt, show (0 : Int32).toInt = 0 from by decide] at c2; exact c2
      refine lv_iload_n hx hb dX10_rota_14 rfl (lv_at hl 1 rfl) ?_
      refine lv_iconst (v := 1) hx hb dX10_rota_15 (by decide) ?_
      refine lv_icmp_le (tgt := 21) hx hb dX10_rota_16 (by decide) (fun c3 => ?_) (fun c3 => ?_)
      · skip
        have zc3 : p1.toInt ≤ 1 := by rw [fa_le, show (1 : Int32).toInt = 1 from by decide] at c3; exact c3
        refine lv_aload_n hx hb dX10_rota_21 rfl (lv_at hl 0 rfl) ?_
        refine va_get (D := (dC, dI)) (ci := 10) (v := .ref (x 25)) (C := RX10) (T := TX10) (N := 10) hx hb hts inB_10 hown hE.1 hP 0 rfl rfl 5 (by decide) (hts _ k_496) (fun _ h9 => h9) rfl dX10_rota_22 ?_
        refine cbVv (n := 0) (rest := []) hx hb hml hown hts hE hP hD hS hA (sX_X3_findRota_1 l dC dI cy x0 x  v f hIv ) k_1024 k_1025 k_1026 k_109 k_1027 (by decide +kernel) ⟨Nat.le_of_ble_eq_true rfl, Nat.le_of_ble_eq_true rfl⟩ 26 3 rfl rfl (rfl) hl.1 rfl (Nat.le_of_ble_eq_true rfl) dX10_rota_25 (fun u H locs hw hP hD hS => ?_)
        obtain ⟨v4, f5⟩ := u
        obtain ⟨kV_v4, kF_f5, hIv4, hk0_v4, hk1_v4, hk7_v4, hk8_v4, hk9_v4, hk10_v4, hk31_v4, hk32_v4⟩ := hw
        have hM_v4 : KV [26, 27] v4 v := KV.tr kV_v4 hM_v rfl
        have hA_f5 : KF [13, 14] f5 f := KF.tr kF_f5 hA_f rfl
        have hP : va_P (dC, dI) vwCl (XW cy x0 x v4 f5) H := hP
        have hD : va_D A (XW cy x0 x v4 f5) := hD
        have hq0_v4 : v4 0 = (v 0) := hk0_v4
        have hq1_v4 : v4 1 = (v 1) := hk1_v4
        have hq7_v4 : v4 7 = (v 7) := hk7_v4
        have hq8_v4 : v4 8 = (v 8) := hk8_v4
        have hq9_v4 : v4 9 = (v 9) := hk9_v4
        have hq10_v4 : v4 10 = (v 10) := hk10_v4
        have hq31_v4 : v4 31 = (v 31) := hk31_v4
        have hq32_v4 : v4 32 = (v 32) := hk32_v4
        refine lv_iload_n hx hb dX10_rota_28 rfl (lv_at hl 1 rfl) ?_
        refine lv_if_ne (tgt := 42) hx hb dX10_rota_29 (by decide) (fun c6 => ?_) (fun c6 => ?_)
        · skip
          have zc6 : ¬ (p1.toInt = 0) := by rw [fa_eq, show (0 : Int32).toInt = 0 from by decide] at c6; exact c6
          refine lv_aload_n hx hb dX10_rota_42 rfl (lv_at hl 0 rfl) ?_
          refine va_get (D := (dC, dI)) (ci := 10) (v := .ref (x 25)) (C := RX10) (T := TX10) (N := 10) hx hb hts inB_10 hown hE.1 hP 0 rfl rfl 5 (by decide) (hts _ k_496) (fun _ h9 => h9) rfl dX10_rota_43 ?_
          refine va_getN (D := (dC, dI)) (ci := 3) (v := .int (v4 27)) (C := RX3) (T := TX3) (N := 10) hx hb hts inB_3 hown hE.1 hP 26 rfl rfl 6 (by decide) (va_Nw.use rfl (hE.2 _ k_380)) (fun _ h9 => h9) rfl dX10_rota_46 ?_
          exact ret (v4 27) (v4, f5) _ _ _ _ _ _ rfl ⟨hM_v4, hA_f5, hIv4, hk0_v4, hk1_v4, hk7_v4, hk8_v4, hk9_v4, hk10_v4, hk31_v4, hk32_v4⟩ hP hD hS dX10_rota_49 (Nat.le_refl _) (Nat.le_refl _)
        · skip
          have zc6 : p1.toInt = 0 := by rw [fa_eq, show (0 : Int32).toInt = 0 from by decide] at c6; exact c6
          refine lv_aload_n hx hb dX10_rota_32 rfl (lv_at hl 0 rfl) ?_
          refine va_get (D := (dC, dI)) (ci := 10) (v := .ref (x 25)) (C := RX10) (T := TX10) (N := 10) hx hb hts inB_10 hown hE.1 hP 0 rfl rfl 5 (by decide) (hts _ k_496) (fun _ h9 => h9) rfl dX10_rota_33 ?_
          refine va_getN (D := (dC, dI)) (ci := 3) (v := .int (v4 26)) (C := RX3) (T := TX3) (N := 10) hx hb hts inB_3 hown hE.1 hP 26 rfl rfl 5 (by decide) (va_Nw.use rfl (hE.2 _ k_378)) (fun _ h9 => h9) rfl dX10_rota_36 ?_
          refine lv_goto (tgt := 49) hx hb dX10_rota_39 (by decide) ?_
          exact ret (v4 26) (v4, f5) _ _ _ _ _ _ rfl ⟨hM_v4, hA_f5, hIv4, hk0_v4, hk1_v4, hk7_v4, hk8_v4, hk9_v4, hk10_v4, hk31_v4, hk32_v4⟩ hP hD hS dX10_rota_49 (Nat.le_refl _) (Nat.le_refl _)
      · skip
        have zc3 : ¬ (p1.toInt ≤ 1) := by rw [fa_le, show (1 : Int32).toInt = 1 from by decide] at c3; exact c3
        refine lv_iconst (v := (-1)) hx hb dX10_rota_19 (by decide) ?_
        exact ret (-1) (v, f) _ _ _ _ _ _ rfl ⟨hM_v, hA_f, hIv, rfl, rfl, rfl, rfl, rfl, rfl, rfl, rfl⟩ hP hD hS dX10_rota_20 (Nat.le_refl _) (Nat.le_refl _)
set_option maxHeartbeats 4000000 in
set_option maxRecDepth 100000 in
theorem sX_J6_bitCount_0f7a4_1 (l : Launch) (dC : Nat → ClassId) (dI : Nat → Nat → Nat) (cy : Nat → ClassId) (x0 : Nat) (x : Nat → Nat) (p0 : Int32) (v : Nat → Int32) (f : Nat → Nat → Int32) (hIv : XI v)  : ctI l (dC, dI) cy yJ6_bitCount_0f7a4 cJ6_bitCount_0f7a4 1 .int 1 60 0 0 Unit [.int p0] (XW cy x0 x v f) (fun r u => True) (fun u => XW cy x0 x v f) := by
  refine ctI_of (by decide) (Nat.le_of_ble_eq_true rfl) (fun p e s m below meth c A ls Q hx hb hml hts hown hE hP hD hA hl ret => ?_)
  have hown : s.vm.findClass RJ6 = some m.cls := hown
  have hS : va_S A s.heap s.heap [] := va_S.rf
  have hl : lv_has ls 1 [(0, .int p0)] := hl
  refine lv_iload_n hx hb dJ6_bitCount_0f7a4_0 rfl (lv_at hl 0 rfl) ?_
  refine lv_iload_n hx hb dJ6_bitCount_0f7a4_1 rfl (lv_at hl 0 rfl) ?_
  refine lv_iconst (v := 1) hx hb dJ6_bitCount_0f7a4_2 (by decide) ?_
  refine lv_iushr hx hb dJ6_bitCount_0f7a4_3 rfl ?_
  refine lv_topi (fun t1 et1 => ?_)
  refine lv_ldcw (v := 1431655765) hx hb hown (hts _ k_1045) dJ6_bitCount_0f7a4_4 ?_
  refine lv_iand hx hb dJ6_bitCount_0f7a4_7 ?_
  refine lv_topi (fun t2 et2 => ?_)
  refine lv_isub hx hb dJ6_bitCount_0f7a4_8 ?_
  refine lv_topi (fun t3 et3 => ?_)
  refine lv_istore_n (lv' := [(0, .int t3)]) hx hb dJ6_bitCount_0f7a4_9 rfl hl (by decide) rfl (fun ls hl => ?_)
  refine lv_iload_n hx hb dJ6_bitCount_0f7a4_10 rfl (lv_at hl 0 rfl) ?_
  refine lv_ldcw (v := 858993459) hx hb hown (hts _ k_1046) dJ6_bitCount_0f7a4_11 ?_
  refine lv_iand hx hb dJ6_bitCount_0f7a4_14 ?_
  refine lv_topi (fun t4 et4 => ?_)
  refine lv_iload_n hx hb dJ6_bitCount_0f7a4_15 rfl (lv_at hl 0 rfl) ?_
  refine lv_iconst (v := 2) hx hb dJ6_bitCount_0f7a4_16 (by decide) ?_
  refine lv_iushr hx hb dJ6_bitCount_0f7a4_17 rfl ?_
  refine lv_topi (fun t5 et5 => ?_)
  refine lv_ldcw (v := 858993459) hx hb hown (hts _ k_1046) dJ6_bitCount_0f7a4_18 ?_
  refine lv_iand hx hb dJ6_bitCount_0f7a4_21 ?_
  refine lv_topi (fun t6 et6 => ?_)
  refine lv_iadd hx hb dJ6_bitCount_0f7a4_22 ?_
  refine lv_topi (fun t7 et7 => ?_)
  refine lv_istore_n (lv' := [(0, .int t7)]) hx hb dJ6_bitCount_0f7a4_23 rfl hl (by decide) rfl (fun ls hl => ?_)
  refine lv_iload_n hx hb dJ6_bitCount_0f7a4_24 rfl (lv_at hl 0 rfl) ?_
  refine lv_iload_n hx hb dJ6_bitCount_0f7a4_25 rfl (lv_at hl 0 rfl) ?_
  refine lv_iconst (v := 4) hx hb dJ6_bitCount_0f7a4_26 (by decide) ?_
  refine lv_iushr hx hb dJ6_bitCount_0f7a4_27 rfl ?_
  refine lv_topi (fun t8 et8 => ?_)
  refine lv_iadd hx hb dJ6_bitCount_0f7a4_28 ?_
  refine lv_topi (fun t9 et9 => ?_)
  refine lv_ldcw (v := 252645135) hx hb hown (hts _ k_1047) dJ6_bitCount_0f7a4_29 ?_
  refine lv_iand hx hb dJ6_bitCount_0f7a4_32 ?_
  refine lv_topi (fun t10 et10 => ?_)
  refine lv_istore_n (lv' := [(0, .int t10)]) hx hb dJ6_bitCount_0f7a4_33 rfl hl (by decide) rfl (fun ls hl => ?_)
  refine lv_iload_n hx hb dJ6_bitCount_0f7a4_34 rfl (lv_at hl 0 rfl) ?_
  refine lv_iload_n hx hb dJ6_bitCount_0f7a4_35 rfl (lv_at hl 0 rfl) ?_
  refine lv_bipush (v := 8) hx hb dJ6_bitCount_0f7a4_36 (by decide) ?_
  refine lv_iushr hx hb dJ6_bitCount_0f7a4_38 rfl ?_
  refine lv_topi (fun t11 et11 => ?_)
  refine lv_iadd hx hb dJ6_bitCount_0f7a4_39 ?_
  refine lv_topi (fun t12 et12 => ?_)
  refine lv_istore_n (lv' := [(0, .int t12)]) hx hb dJ6_bitCount_0f7a4_40 rfl hl (by decide) rfl (fun ls hl => ?_)
  refine lv_iload_n hx hb dJ6_bitCount_0f7a4_41 rfl (lv_at hl 0 rfl) ?_
  refine lv_iload_n hx hb dJ6_bitCount_0f7a4_42 rfl (lv_at hl 0 rfl) ?_
  refine lv_bipush (v := 16) hx hb dJ6_bitCount_0f7a4_43 (by decide) ?_
  refine lv_iushr hx hb dJ6_bitCount_0f7a4_45 rfl ?_
  refine lv_topi (fun t13 et13 => ?_)
  refine lv_iadd hx hb dJ6_bitCount_0f7a4_46 ?_
  refine lv_topi (fun t14 et14 => ?_)
  refine lv_istore_n (lv' := [(0, .int t14)]) hx hb dJ6_bitCount_0f7a4_47 rfl hl (by decide) rfl (fun ls hl => ?_)
  refine lv_iload_n hx hb dJ6_bitCount_0f7a4_48 rfl (lv_at hl 0 rfl) ?_
  refine lv_bipush (v := 63) hx hb dJ6_bitCount_0f7a4_49 (by decide) ?_
  refine lv_iand hx hb dJ6_bitCount_0f7a4_51 ?_
  refine lv_topi (fun t15 et15 => ?_)
  have zt15 : 0 ≤ t15.toInt ∧ t15.toInt < 64 := by rw [et15]; exact and_rng _ (k := 6) (by decide) (by decide)
  exact ret t15 () _ _ _ _ _ _ rfl trivial hP hD hS dJ6_bitCount_0f7a4_52 (Nat.le_refl _) (Nat.le_refl _)
set_option maxHeartbeats 4000000 in
set_option maxRecDepth 100000 in
theorem sX_X3_changedCount_1 (l : Launch) (dC : Nat → ClassId) (dI : Nat → Nat → Nat) (cy : Nat → ClassId) (x0 : Nat) (x : Nat → Nat) (p1 : Int32) (p2 : Int32) (v : Nat → Int32) (f : Nat → Nat → Int32) (hIv : XI v)  : ctI l (dC, dI) cy yX3_changedCount cX3_changedCount 6 .int 5 155 0 0 ((Nat → Int32) × (Nat → Nat → Int32)) [.ref (x 25), .int p1, .int p2] (XW cy x0 x v f) (fun r u => KV [] u.1 v ∧ KF [13, 14] u.2 f ∧ XI u.1 ∧ u.1 0 = v 0 ∧ u.1 1 = v 1 ∧ u.1 7 = v 7 ∧ u.1 8 = v 8 ∧ u.1 9 = v 9 ∧ u.1 10 = v 10 ∧ u.1 31 = v 31 ∧ u.1 32 = v 32) (fun u => XW cy x0 x u.1 u.2) := by
  refine ctI_of (by decide) (Nat.le_of_ble_eq_true rfl) (fun p e s m below meth c A ls Q hx hb hml hts hown hE hP hD hA hl ret => ?_)
  have hM_v : KV [] v v := fun _ _ => rfl
  have hA_f : KF [13, 14] f f := fun _ _ => rfl
  have hown : s.vm.findClass RX3 = some m.cls := hown
  have hS : va_S A s.heap s.heap [] := va_S.rf
  have hl : lv_has ls 6 [(0, .ref (x 25)), (1, .int p1), (2, .int p2)] := hl
  refine lv_iconst (v := 0) hx hb dX3_changedCount_0 (by decide) ?_
  refine lv_istore_n (lv' := [(3, .int 0), (0, .ref (x 25)), (1, .int p1), (2, .int p2)]) hx hb dX3_changedCount_1 rfl hl (by decide) rfl (fun ls hl => ?_)
  refine lv_iconst (v := 0) hx hb dX3_changedCount_2 (by decide) ?_
  refine lv_istore (lv' := [(4, .int 0), (3, .int 0), (0, .ref (x 25)), (1, .int p1), (2, .int p2)]) hx hb dX3_changedCount_3 hl (by decide) rfl (fun ls hl => ?_)
  have lp1 : ∀ (n1 : Nat) (l3_1 : Int32) (l4_1 : Int32) (v1 : Nat → Int32) (f1 : Nat → Nat → Int32), XI v1 → v1 0 = (v 0) → v1 1 = (v 1) → v1 7 = (v 7) → v1 8 = (v 8) → v1 9 = (v 9) → v1 10 = (v 10) → v1 31 = (v 31) → v1 32 = (v 32) → ((0 : Int) ≤ l4_1.toInt ∧ l4_1.toInt ≤ 2147483647) → KV [] v1 v → KF [13, 14] f1 f → (2147483647 - l4_1.toInt).toNat < n1 → ∀ (H : Heap) (locs : List Loc) (ls : Array Slot), va_P (dC, dI) vwCl (XW cy x0 x v1 f1) H → va_D A (XW cy x0 x v1 f1) → va_S A s.heap H locs → lv_has ls 6 [(4, .int l4_1), (3, .int l3_1), (0, .ref (x 25)), (1, .int p1), (2, .int p2)] → W p l e { frames := 5, cells := 0, slots := 0, locals := 155 } s m ([.ref (x 25), .int p1, .int p2] : List Value).toArray below meth c H locs 0 0 Q (F0 m 5 ls []) := by
    intro n1
    induction n1 with
    | zero => intro l3_1 l4_1 v1 f1 hIv1 hq0_v1 hq1_v1 hq7_v1 hq8_v1 hq9_v1 hq10_v1 hq31_v1 hq32_v1 hr4_1 hM_v1 hA_f1 hm; exact absurd hm (Nat.not_lt_zero _)
    | succ n1 ih1 =>
      intro l3_1 l4_1 v1 f1 hIv1 hq0_v1 hq1_v1 hq7_v1 hq8_v1 hq9_v1 hq10_v1 hq31_v1 hq32_v1 hr4_1 hM_v1 hA_f1 hm1 H locs ls hP hD hS hl
      refine lv_iload hx hb dX3_changedCount_5 (lv_at hl 0 rfl) ?_
      refine lv_aload_n hx hb dX3_changedCount_7 rfl (lv_at hl 2 rfl) ?_
      refine va_get (D := (dC, dI)) (ci := 3) (v := .ref (x 26)) (C := RX3) (T := TX3) (N := 10) hx hb hts inB_3 hown hE.1 hP 26 rfl rfl 0 (by decide) (hts _ k_370) (fun _ h9 => h9) rfl dX3_changedCount_8 ?_
      refine va_getN (D := (dC, dI)) (ci := 7) (v := .int (v1 31)) (C := RX7) (T := TX7) (N := 10) hx hb hts inB_7 hown hE.1 hP 27 rfl rfl 3 (by decide) (va_Nw.use rfl (hE.2 _ k_217)) (fun _ h9 => h9) rfl dX3_changedCount_11 ?_
      refine tI (y := (v 31)) hq31_v1 ?_
      have b31_v : 0 ≤ (v 31).toInt ∧ (v 31).toInt ≤ 6 := XI.b hIv 31 (by decide)
      refine lv_icmp_ge (tgt := 71) hx hb dX3_changedCount_14 (by decide) (fun c2 => ?_) (fun c2 => ?_)
      · skip
        have zc2 : (v 31).toInt ≤ l4_1.toInt := by rw [fa_le] at c2; exact c2
        have rg3 := fb_rng l4_1
        have rg4 := fb_rng (v 31)
        refine lv_iload_n hx hb dX3_changedCount_71 rfl (lv_at hl 1 rfl) ?_
        exact ret l3_1 (v1, f1) _ _ _ _ _ _ rfl ⟨hM_v1, hA_f1, hIv1, (show v1 0 = v 0 from hq0_v1), (show v1 1 = v 1 from hq1_v1), (show v1 7 = v 7 from hq7_v1), (show v1 8 = v 8 from hq8_v1), (show v1 9 = v 9 from hq9_v1), (show v1 10 = v 10 from hq10_v1), (show v1 31 = v 31 from hq31_v1), (show v1 32 = v 32 from hq32_v1)⟩ hP hD hS dX3_changedCount_72 (Nat.le_refl _) (Nat.le_refl _)
      · skip
        have zc2 : ¬ ((v 31).toInt ≤ l4_1.toInt) := by rw [fa_le] at c2; exact c2
        have rg5 := fb_rng l4_1
        have rg6 := fb_rng (v 31)
        refine lv_iload hx hb dX3_changedCount_17 (lv_at hl 0 rfl) ?_
        refine lv_iload_n hx hb dX3_changedCount_19 rfl (lv_at hl 3 rfl) ?_
        refine lv_icmp_ne (tgt := 27) hx hb dX3_changedCount_20 (by decide) (fun c7 => ?_) (fun c7 => ?_)
        · skip
          have zc7 : ¬ (l4_1.toInt = p1.toInt) := by rw [fa_eq] at c7; exact c7
          have rg8 := fb_rng p1
          refine lv_iload hx hb dX3_changedCount_27 (lv_at hl 0 rfl) ?_
          refine lv_iload_n hx hb dX3_changedCount_29 rfl (lv_at hl 4 rfl) ?_
          refine lv_icmp_ne (tgt := 37) hx hb dX3_changedCount_30 (by decide) (fun c9 => ?_) (fun c9 => ?_)
          · skip
            have zc9 : ¬ (l4_1.toInt = p2.toInt) := by rw [fa_eq] at c9; exact c9
            have rg10 := fb_rng p2
            refine lv_iload hx hb dX3_changedCount_37 (lv_at hl 0 rfl) ?_
            refine lv_istore (lv' := [(5, .int l4_1), (4, .int l4_1), (3, .int l3_1), (0, .ref (x 25)), (1, .int p1), (2, .int p2)]) hx hb dX3_changedCount_39 hl (by decide) rfl (fun ls hl => ?_)
            refine lv_aload_n hx hb dX3_changedCount_41 rfl (lv_at hl 3 rfl) ?_
            refine va_get (D := (dC, dI)) (ci := 3) (v := .ref (x 21)) (C := RX3) (T := TX3) (N := 10) hx hb hts inB_3 hown hE.1 hP 26 rfl rfl 1 (by decide) (hts _ k_371) (fun _ h9 => h9) rfl dX3_changedCount_42 ?_
            refine lv_iload hx hb dX3_changedCount_45 (lv_at hl 1 rfl) ?_
            refine lv_aload_n hx hb dX3_changedCount_47 rfl (lv_at hl 3 rfl) ?_
            refine va_get (D := (dC, dI)) (ci := 3) (v := .ref (x 21)) (C := RX3) (T := TX3) (N := 10) hx hb hts inB_3 hown hE.1 hP 26 rfl rfl 1 (by decide) (hts _ k_371) (fun _ h9 => h9) rfl dX3_changedCount_48 ?_
            refine lv_iload hx hb dX3_changedCount_51 (lv_at hl 0 rfl) ?_
            refine cbVi (n := 1) (rest := [.int l4_1, .ref (x 21)]) hx hb hml hown hts hE hP hD hS hA (sX_X1_wears_1 l dC dI cy x0 x l4_1 v1 f1 hIv1 ) k_950 k_810 k_811 k_106 k_812 (by decide +kernel) ⟨Nat.le_of_ble_eq_true rfl, Nat.le_of_ble_eq_true rfl⟩ 22 1 rfl rfl (rfl) hl.1 rfl (Nat.le_of_ble_eq_true rfl) dX3_changedCount_53 (fun r11 u H locs hw hP hD hS => ?_)
            refine cbVi (n := 2) (rest := []) hx hb hml hown hts hE hP hD hS hA (sX_X1_fits_1 l dC dI cy x0 x l4_1 r11 v1 f1 hIv1 ) k_1032 k_818 k_819 k_106 k_820 (by decide +kernel) ⟨Nat.le_of_ble_eq_true rfl, Nat.le_of_ble_eq_true rfl⟩ 22 1 rfl rfl (rfl) hl.1 rfl (Nat.le_of_ble_eq_true rfl) dX3_changedCount_56 (fun r12 u H locs hw hP hD hS => ?_)
            obtain ⟨v13, f14⟩ := u
            obtain ⟨kV_v13, kF_f14, hIv13, hk0_v13, hk1_v13, hk7_v13, hk8_v13, hk9_v13, hk10_v13, hk31_v13, hk32_v13, hw⟩ := hw
            have hM_v13 : KV [] v13 v := KV.tr kV_v13 hM_v1 rfl
            have hA_f14 : KF [13, 14] f14 f := KF.tr kF_f14 hA_f1 rfl
            have hP : va_P (dC, dI) vwCl (XW cy x0 x v13 f14) H := hP
            have hD : va_D A (XW cy x0 x v13 f14) := hD
            have hq0_v13 : v13 0 = (v 0) := hk0_v13.trans hq0_v1
            have hq1_v13 : v13 1 = (v 1) := hk1_v13.trans hq1_v1
            have hq7_v13 : v13 7 = (v 7) := hk7_v13.trans hq7_v1
            have hq8_v13 : v13 8 = (v 8) := hk8_v13.trans hq8_v1
            have hq9_v13 : v13 9 = (v 9) := hk9_v13.trans hq9_v1
            have hq10_v13 : v13 10 = (v 10) := hk10_v13.trans hq10_v1
            have hq31_v13 : v13 31 = (v 31) := hk31_v13.trans hq31_v1
            have hq32_v13 : v13 32 = (v 32) := hk32_v13.trans hq32_v1
            rcases hw with ⟨g15⟩ | ⟨g15⟩
            · skip
              subst g15
              refine lv_if_eq (tgt := 65) hx hb dX3_changedCount_59 (by decide) (fun c0 => absurd c0 (by decide)) (fun _ => ?_)
              obtain ⟨t16, et16⟩ : ∃ y : Int32, y = l3_1 + 1 := ⟨_, rfl⟩
              refine lv_iinc (v := t16) (lv' := [(3, .int t16), (5, .int l4_1), (4, .int l4_1), (0, .ref (x 25)), (1, .int p1), (2, .int p2)]) hx hb dX3_changedCount_62 hl (k := 2) rfl (by rw [et16]; rfl) (by decide) rfl (fun ls hl => ?_)
              obtain ⟨t17, et17⟩ : ∃ y : Int32, y = l4_1 + 1 := ⟨_, rfl⟩
              have zt17 : t17.toInt = l4_1.toInt + 1 := by rw [et17]; exact add_i rfl (by decide) (by omega) (by omega)
              refine lv_iinc (v := t17) (lv' := [(4, .int t17), (3, .int t16), (5, .int l4_1), (0, .ref (x 25)), (1, .int p1), (2, .int p2)]) hx hb dX3_changedCount_65 hl (k := 2) rfl (by rw [et17]; rfl) (by decide) rfl (fun ls hl => ?_)
              refine lv_goto (tgt := 5) hx hb dX3_changedCount_68 (by decide) ?_
              have rg18 := fb_rng t17
              exact ih1 t16 t17 v13 f14 hIv13 hq0_v13 hq1_v13 hq7_v13 hq8_v13 hq9_v13 hq10_v13 hq31_v13 hq32_v13 ⟨show (0 : Int) ≤ t17.toInt by omega, show t17.toInt ≤ (2147483647 : Int) by omega⟩ hM_v13 hA_f14 (by show (2147483647 - t17.toInt).toNat < n1; omega) _ _ _ hP hD hS (lv_sub hl [0, 1, 3, 4, 5] rfl)
            · skip
              subst g15
              refine lv_if_eq (tgt := 65) hx hb dX3_changedCount_59 (by decide) (fun _ => ?_) (fun c0 => absurd (by decide) c0)
              obtain ⟨t19, et19⟩ : ∃ y : Int32, y = l4_1 + 1 := ⟨_, rfl⟩
              have zt19 : t19.toInt = l4_1.toInt + 1 := by rw [et19]; exact add_i rfl (by decide) (by omega) (by omega)
              refine lv_iinc (v := t19) (lv' := [(4, .int t19), (5, .int l4_1), (3, .int l3_1), (0, .ref (x 25)), (1, .int p1), (2, .int p2)]) hx hb dX3_changedCount_65 hl (k := 1) rfl (by rw [et19]; rfl) (by decide) rfl (fun ls hl => ?_)
              refine lv_goto (tgt := 5) hx hb dX3_changedCount_68 (by decide) ?_
              have rg20 := fb_rng t19
              exact ih1 l3_1 t19 v13 f14 hIv13 hq0_v13 hq1_v13 hq7_v13 hq8_v13 hq9_v13 hq10_v13 hq31_v13 hq32_v13 ⟨show (0 : Int) ≤ t19.toInt by omega, show t19.toInt ≤ (2147483647 : Int) by omega⟩ hM_v13 hA_f14 (by show (2147483647 - t19.toInt).toNat < n1; omega) _ _ _ hP hD hS (lv_sub hl [0, 2, 3, 4, 5] rfl)
          · skip
            have zc9 : l4_1.toInt = p2.toInt := by rw [fa_eq] at c9; exact c9
            have rg21 := fb_rng p2
            refine lv_iload_n hx hb dX3_changedCount_33 rfl (lv_at hl 3 rfl) ?_
            refine lv_goto (tgt := 39) hx hb dX3_changedCount_34 (by decide) ?_
            refine lv_istore (lv' := [(5, .int p1), (4, .int l4_1), (3, .int l3_1), (0, .ref (x 25)), (1, .int p1), (2, .int p2)]) hx hb dX3_changedCount_39 hl (by decide) rfl (fun ls hl => ?_)
            refine lv_aload_n hx hb dX3_changedCount_41 rfl (lv_at hl 3 rfl) ?_
            refine va_get (D := (dC, dI)) (ci := 3) (v := .ref (x 21)) (C := RX3) (T := TX3) (N := 10) hx hb hts inB_3 hown hE.1 hP 26 rfl rfl 1 (by decide) (hts _ k_371) (fun _ h9 => h9) rfl dX3_changedCount_42 ?_
            refine lv_iload hx hb dX3_changedCount_45 (lv_at hl 1 rfl) ?_
            refine lv_aload_n hx hb dX3_changedCount_47 rfl (lv_at hl 3 rfl) ?_
            refine va_get (D := (dC, dI)) (ci := 3) (v := .ref (x 21)) (C := RX3) (T := TX3) (N := 10) hx hb hts inB_3 hown hE.1 hP 26 rfl rfl 1 (by decide) (hts _ k_371) (fun _ h9 => h9) rfl dX3_changedCount_48 ?_
            refine lv_iload hx hb dX3_changedCount_51 (lv_at hl 0 rfl) ?_
            refine cbVi (n := 1) (rest := [.int l4_1, .ref (x 21)]) hx hb hml hown hts hE hP hD hS hA (sX_X1_wears_1 l dC dI cy x0 x p1 v1 f1 hIv1 ) k_950 k_810 k_811 k_106 k_812 (by decide +kernel) ⟨Nat.le_of_ble_eq_true rfl, Nat.le_of_ble_eq_true rfl⟩ 22 1 rfl rfl (rfl) hl.1 rfl (Nat.le_of_ble_eq_true rfl) dX3_changedCount_53 (fun r22 u H locs hw hP hD hS => ?_)
            refine cbVi (n := 2) (rest := []) hx hb hml hown hts hE hP hD hS hA (sX_X1_fits_1 l dC dI cy x0 x l4_1 r22 v1 f1 hIv1 ) k_1032 k_818 k_819 k_106 k_820 (by decide +kernel) ⟨Nat.le_of_ble_eq_true rfl, Nat.le_of_ble_eq_true rfl⟩ 22 1 rfl rfl (rfl) hl.1 rfl (Nat.le_of_ble_eq_true rfl) dX3_changedCount_56 (fun r23 u H locs hw hP hD hS => ?_)
            obtain ⟨v24, f25⟩ := u
            obtain ⟨kV_v24, kF_f25, hIv24, hk0_v24, hk1_v24, hk7_v24, hk8_v24, hk9_v24, hk10_v24, hk31_v24, hk32_v24, hw⟩ := hw
            have hM_v24 : KV [] v24 v := KV.tr kV_v24 hM_v1 rfl
            have hA_f25 : KF [13, 14] f25 f := KF.tr kF_f25 hA_f1 rfl
            have hP : va_P (dC, dI) vwCl (XW cy x0 x v24 f25) H := hP
            have hD : va_D A (XW cy x0 x v24 f25) := hD
            have hq0_v24 : v24 0 = (v 0) := hk0_v24.trans hq0_v1
            have hq1_v24 : v24 1 = (v 1) := hk1_v24.trans hq1_v1
            have hq7_v24 : v24 7 = (v 7) := hk7_v24.trans hq7_v1
            have hq8_v24 : v24 8 = (v 8) := hk8_v24.trans hq8_v1
            have hq9_v24 : v24 9 = (v 9) := hk9_v24.trans hq9_v1
            have hq10_v24 : v24 10 = (v 10) := hk10_v24.trans hq10_v1
            have hq31_v24 : v24 31 = (v 31) := hk31_v24.trans hq31_v1
            have hq32_v24 : v24 32 = (v 32) := hk32_v24.trans hq32_v1
            rcases hw with ⟨g26⟩ | ⟨g26⟩
            · skip
              subst g26
              refine lv_if_eq (tgt := 65) hx hb dX3_changedCount_59 (by decide) (fun c0 => absurd c0 (by decide)) (fun _ => ?_)
              obtain ⟨t27, et27⟩ : ∃ y : Int32, y = l3_1 + 1 := ⟨_, rfl⟩
              refine lv_iinc (v := t27) (lv' := [(3, .int t27), (5, .int p1), (4, .int l4_1), (0, .ref (x 25)), (1, .int p1), (2, .int p2)]) hx hb dX3_changedCount_62 hl (k := 2) rfl (by rw [et27]; rfl) (by decide) rfl (fun ls hl => ?_)
              obtain ⟨t28, et28⟩ : ∃ y : Int32, y = l4_1 + 1 := ⟨_, rfl⟩
              have zt28 : t28.toInt = l4_1.toInt + 1 := by rw [et28]; exact add_i rfl (by decide) (by omega) (by omega)
              refine lv_iinc (v := t28) (lv' := [(4, .int t28), (3, .int t27), (5, .int p1), (0, .ref (x 25)), (1, .int p1), (2, .int p2)]) hx hb dX3_changedCount_65 hl (k := 2) rfl (by rw [et28]; rfl) (by decide) rfl (fun ls hl => ?_)
              refine lv_goto (tgt := 5) hx hb dX3_changedCount_68 (by decide) ?_
              have rg29 := fb_rng t28
              exact ih1 t27 t28 v24 f25 hIv24 hq0_v24 hq1_v24 hq7_v24 hq8_v24 hq9_v24 hq10_v24 hq31_v24 hq32_v24 ⟨show (0 : Int) ≤ t28.toInt by omega, show t28.toInt ≤ (2147483647 : Int) by omega⟩ hM_v24 hA_f25 (by show (2147483647 - t28.toInt).toNat < n1; omega) _ _ _ hP hD hS (lv_sub hl [0, 1, 3, 4, 5] rfl)
            · skip
              subst g26
              refine lv_if_eq (tgt := 65) hx hb dX3_changedCount_59 (by decide) (fun _ => ?_) (fun c0 => absurd (by decide) c0)
              obtain ⟨t30, et30⟩ : ∃ y : Int32, y = l4_1 + 1 := ⟨_, rfl⟩
              have zt30 : t30.toInt = l4_1.toInt + 1 := by rw [et30]; exact add_i rfl (by decide) (by omega) (by omega)
              refine lv_iinc (v := t30) (lv' := [(4, .int t30), (5, .int p1), (3, .int l3_1), (0, .ref (x 25)), (1, .int p1), (2, .int p2)]) hx hb dX3_changedCount_65 hl (k := 1) rfl (by rw [et30]; rfl) (by decide) rfl (fun ls hl => ?_)
              refine lv_goto (tgt := 5) hx hb dX3_changedCount_68 (by decide) ?_
              have rg31 := fb_rng t30
              exact ih1 l3_1 t30 v24 f25 hIv24 hq0_v24 hq1_v24 hq7_v24 hq8_v24 hq9_v24 hq10_v24 hq31_v24 hq32_v24 ⟨show (0 : Int) ≤ t30.toInt by omega, show t30.toInt ≤ (2147483647 : Int) by omega⟩ hM_v24 hA_f25 (by show (2147483647 - t30.toInt).toNat < n1; omega) _ _ _ hP hD hS (lv_sub hl [0, 2, 3, 4, 5] rfl)
        · skip
          have zc7 : l4_1.toInt = p1.toInt := by rw [fa_eq] at c7; exact c7
          have rg32 := fb_rng p1
          refine lv_iload_n hx hb dX3_changedCount_23 rfl (lv_at hl 4 rfl) ?_
          refine lv_goto (tgt := 39) hx hb dX3_changedCount_24 (by decide) ?_
          refine lv_istore (lv' := [(5, .int p2), (4, .int l4_1), (3, .int l3_1), (0, .ref (x 25)), (1, .int p1), (2, .int p2)]) hx hb dX3_changedCount_39 hl (by decide) rfl (fun ls hl => ?_)
          refine lv_aload_n hx hb dX3_changedCount_41 rfl (lv_at hl 3 rfl) ?_
          refine va_get (D := (dC, dI)) (ci := 3) (v := .ref (x 21)) (C := RX3) (T := TX3) (N := 10) hx hb hts inB_3 hown hE.1 hP 26 rfl rfl 1 (by decide) (hts _ k_371) (fun _ h9 => h9) rfl dX3_changedCount_42 ?_
          refine lv_iload hx hb dX3_changedCount_45 (lv_at hl 1 rfl) ?_
          refine lv_aload_n hx hb dX3_changedCount_47 rfl (lv_at hl 3 rfl) ?_
          refine va_get (D := (dC, dI)) (ci := 3) (v := .ref (x 21)) (C := RX3) (T := TX3) (N := 10) hx hb hts inB_3 hown hE.1 hP 26 rfl rfl 1 (by decide) (hts _ k_371) (fun _ h9 => h9) rfl dX3_changedCount_48 ?_
          refine lv_iload hx hb dX3_changedCount_51 (lv_at hl 0 rfl) ?_
          refine cbVi (n := 1) (rest := [.int l4_1, .ref (x 21)]) hx hb hml hown hts hE hP hD hS hA (sX_X1_wears_1 l dC dI cy x0 x p2 v1 f1 hIv1 ) k_950 k_810 k_811 k_106 k_812 (by decide +kernel) ⟨Nat.le_of_ble_eq_true rfl, Nat.le_of_ble_eq_true rfl⟩ 22 1 rfl rfl (rfl) hl.1 rfl (Nat.le_of_ble_eq_true rfl) dX3_changedCount_53 (fun r33 u H locs hw hP hD hS => ?_)
          refine cbVi (n := 2) (rest := []) hx hb hml hown hts hE hP hD hS hA (sX_X1_fits_1 l dC dI cy x0 x l4_1 r33 v1 f1 hIv1 ) k_1032 k_818 k_819 k_106 k_820 (by decide +kernel) ⟨Nat.le_of_ble_eq_true rfl, Nat.le_of_ble_eq_true rfl⟩ 22 1 rfl rfl (rfl) hl.1 rfl (Nat.le_of_ble_eq_true rfl) dX3_changedCount_56 (fun r34 u H locs hw hP hD hS => ?_)
          obtain ⟨v35, f36⟩ := u
          obtain ⟨kV_v35, kF_f36, hIv35, hk0_v35, hk1_v35, hk7_v35, hk8_v35, hk9_v35, hk10_v35, hk31_v35, hk32_v35, hw⟩ := hw
          have hM_v35 : KV [] v35 v := KV.tr kV_v35 hM_v1 rfl
          have hA_f36 : KF [13, 14] f36 f := KF.tr kF_f36 hA_f1 rfl
          have hP : va_P (dC, dI) vwCl (XW cy x0 x v35 f36) H := hP
          have hD : va_D A (XW cy x0 x v35 f36) := hD
          have hq0_v35 : v35 0 = (v 0) := hk0_v35.trans hq0_v1
          have hq1_v35 : v35 1 = (v 1) := hk1_v35.trans hq1_v1
          have hq7_v35 : v35 7 = (v 7) := hk7_v35.trans hq7_v1
          have hq8_v35 : v35 8 = (v 8) := hk8_v35.trans hq8_v1
          have hq9_v35 : v35 9 = (v 9) := hk9_v35.trans hq9_v1
          have hq10_v35 : v35 10 = (v 10) := hk10_v35.trans hq10_v1
          have hq31_v35 : v35 31 = (v 31) := hk31_v35.trans hq31_v1
          have hq32_v35 : v35 32 = (v 32) := hk32_v35.trans hq32_v1
          rcases hw with ⟨g37⟩ | ⟨g37⟩
          · skip
            subst g37
            refine lv_if_eq (tgt := 65) hx hb dX3_changedCount_59 (by decide) (fun c0 => absurd c0 (by decide)) (fun _ => ?_)
            obtain ⟨t38, et38⟩ : ∃ y : Int32, y = l3_1 + 1 := ⟨_, rfl⟩
            refine lv_iinc (v := t38) (lv' := [(3, .int t38), (5, .int p2), (4, .int l4_1), (0, .ref (x 25)), (1, .int p1), (2, .int p2)]) hx hb dX3_changedCount_62 hl (k := 2) rfl (by rw [et38]; rfl) (by decide) rfl (fun ls hl => ?_)
            obtain ⟨t39, et39⟩ : ∃ y : Int32, y = l4_1 + 1 := ⟨_, rfl⟩
            have zt39 : t39.toInt = l4_1.toInt + 1 := by rw [et39]; exact add_i rfl (by decide) (by omega) (by omega)
            refine lv_iinc (v := t39) (lv' := [(4, .int t39), (3, .int t38), (5, .int p2), (0, .ref (x 25)), (1, .int p1), (2, .int p2)]) hx hb dX3_changedCount_65 hl (k := 2) rfl (by rw [et39]; rfl) (by decide) rfl (fun ls hl => ?_)
            refine lv_goto (tgt := 5) hx hb dX3_changedCount_68 (by decide) ?_
            have rg40 := fb_rng t39
            exact ih1 t38 t39 v35 f36 hIv35 hq0_v35 hq1_v35 hq7_v35 hq8_v35 hq9_v35 hq10_v35 hq31_v35 hq32_v35 ⟨show (0 : Int) ≤ t39.toInt by omega, show t39.toInt ≤ (2147483647 : Int) by omega⟩ hM_v35 hA_f36 (by show (2147483647 - t39.toInt).toNat < n1; omega) _ _ _ hP hD hS (lv_sub hl [0, 1, 3, 4, 5] rfl)
          · skip
            subst g37
            refine lv_if_eq (tgt := 65) hx hb dX3_changedCount_59 (by decide) (fun _ => ?_) (fun c0 => absurd (by decide) c0)
            obtain ⟨t41, et41⟩ : ∃ y : Int32, y = l4_1 + 1 := ⟨_, rfl⟩
            have zt41 : t41.toInt = l4_1.toInt + 1 := by rw [et41]; exact add_i rfl (by decide) (by omega) (by omega)
            refine lv_iinc (v := t41) (lv' := [(4, .int t41), (5, .int p2), (3, .int l3_1), (0, .ref (x 25)), (1, .int p1), (2, .int p2)]) hx hb dX3_changedCount_65 hl (k := 1) rfl (by rw [et41]; rfl) (by decide) rfl (fun ls hl => ?_)
            refine lv_goto (tgt := 5) hx hb dX3_changedCount_68 (by decide) ?_
            have rg42 := fb_rng t41
            exact ih1 l3_1 t41 v35 f36 hIv35 hq0_v35 hq1_v35 hq7_v35 hq8_v35 hq9_v35 hq10_v35 hq31_v35 hq32_v35 ⟨show (0 : Int) ≤ t41.toInt by omega, show t41.toInt ≤ (2147483647 : Int) by omega⟩ hM_v35 hA_f36 (by show (2147483647 - t41.toInt).toNat < n1; omega) _ _ _ hP hD hS (lv_sub hl [0, 2, 3, 4, 5] rfl)
  exact lp1 _ 0 0 v f hIv rfl rfl rfl rfl rfl rfl rfl rfl ⟨by decide, by decide⟩ hM_v hA_f (Nat.lt_succ_self _) _ _ _ hP hD hS (lv_sub hl [0, 1, 2, 3, 4] rfl)
set_option maxHeartbeats 4000000 in
set_option maxRecDepth 100000 in
theorem sX_X3_findChange_1 (l : Launch) (dC : Nat → ClassId) (dI : Nat → Nat → Nat) (cy : Nat → ClassId) (x0 : Nat) (x : Nat → Nat)  (v : Nat → Int32) (f : Nat → Nat → Int32) (hIv : XI v)  : ctI l (dC, dI) cy yX3_findChange cX3_findChange 5 .boolean 6 180 0 0 ((Nat → Int32) × (Nat → Nat → Int32)) [.ref (x 25)] (XW cy x0 x v f) (fun r u => KV [28, 29, 30] u.1 v ∧ KF [13, 14] u.2 f ∧ XI u.1 ∧ u.1 0 = v 0 ∧ u.1 1 = v 1 ∧ u.1 7 = v 7 ∧ u.1 8 = v 8 ∧ u.1 9 = v 9 ∧ u.1 10 = v 10 ∧ u.1 31 = v 31 ∧ u.1 32 = v 32 ∧ ((r = 1) ∨ (r = 0))) (fun u => XW cy x0 x u.1 u.2) := by
  refine ctI_of (by decide) (Nat.le_of_ble_eq_true rfl) (fun p e s m below meth c A ls Q hx hb hml hts hown hE hP hD hA hl ret => ?_)
  have hM_v : KV [28, 29, 30] v v := fun _ _ => rfl
  have hA_f : KF [13, 14] f f := fun _ _ => rfl
  have hown : s.vm.findClass RX3 = some m.cls := hown
  have hS : va_S A s.heap s.heap [] := va_S.rf
  have hl : lv_has ls 5 [(0, .ref (x 25))] := hl
  refine lv_aload_n hx hb dX3_findChange_0 rfl (lv_at hl 0 rfl) ?_
  refine va_get (D := (dC, dI)) (ci := 3) (v := .ref (x 21)) (C := RX3) (T := TX3) (N := 10) hx hb hts inB_3 hown hE.1 hP 26 rfl rfl 1 (by decide) (hts _ k_371) (fun _ h9 => h9) rfl dX3_findChange_1 ?_
  refine cbVi (n := 0) (rest := []) hx hb hml hown hts hE hP hD hS hA (sX_X1_fittedMen_1 l dC dI cy x0 x  v f hIv ) k_1041 k_964 k_965 k_106 k_966 (by decide +kernel) ⟨Nat.le_of_ble_eq_true rfl, Nat.le_of_ble_eq_true rfl⟩ 22 1 rfl rfl (rfl) hl.1 rfl (Nat.le_of_ble_eq_true rfl) dX3_findChange_4 (fun r1 u H locs hw hP hD hS => ?_)
  obtain ⟨v2, f3⟩ := u
  obtain ⟨kV_v2, kF_f3, hIv2, hk0_v2, hk1_v2, hk7_v2, hk8_v2, hk9_v2, hk10_v2, hk31_v2, hk32_v2⟩ := hw
  have hM_v2 : KV [28, 29, 30] v2 v := KV.tr kV_v2 hM_v rfl
  have hA_f3 : KF [13, 14] f3 f := KF.tr kF_f3 hA_f rfl
  have hP : va_P (dC, dI) vwCl (XW cy x0 x v2 f3) H := hP
  have hD : va_D A (XW cy x0 x v2 f3) := hD
  have hq0_v2 : v2 0 = (v 0) := hk0_v2
  have hq1_v2 : v2 1 = (v 1) := hk1_v2
  have hq7_v2 : v2 7 = (v 7) := hk7_v2
  have hq8_v2 : v2 8 = (v 8) := hk8_v2
  have hq9_v2 : v2 9 = (v 9) := hk9_v2
  have hq10_v2 : v2 10 = (v 10) := hk10_v2
  have hq31_v2 : v2 31 = (v 31) := hk31_v2
  have hq32_v2 : v2 32 = (v 32) := hk32_v2
  refine cbSi (n := 1) (rest := []) hx hb hml hown hts hE hP hD hS hA (sX_J6_bitCount_0f7a4_1 l dC dI cy x0 x r1 v2 f3 hIv2 ) k_1042 k_1043 k_121 k_1044 (by decide +kernel) ⟨Nat.le_of_ble_eq_true rfl, Nat.le_of_ble_eq_true rfl⟩ (rfl) hl.1 rfl (Nat.le_of_ble_eq_true rfl) dX3_findChange_7 (fun r4 u H locs hw hP hD hS => ?_)
  refine lv_istore_n (lv' := [(1, .int r4), (0, .ref (x 25))]) hx hb dX3_findChange_10 rfl hl (by decide) rfl (fun ls hl => ?_)
  refine lv_aload_n hx hb dX3_findChange_11 rfl (lv_at hl 1 rfl) ?_
  refine lv_iload_n hx hb dX3_findChange_12 rfl (lv_at hl 0 rfl) ?_
  refine va_put (D := (dC, dI)) (ci := 3) (v := .int r4) (ty := tyX3 9) (C := RX3) (T := TX3) (N := 10) hx hb hts inB_3 tyX3 tyX3_ok nmX3 hown hE.1 hP hD hS 26 rfl rfl 9 (by decide) (hts _ k_385) (fun _ h9 => h9) rfl (tyX3_ok 9 (by decide)) rfl rfl (Nat.le_of_ble_eq_true rfl) dX3_findChange_13 (fun H locs hP hD hS => ?_)
  have hP : va_P (dC, dI) vwCl (XW cy x0 x (upd v2 30 r4) f3) H := hP
  have hD : va_D A (XW cy x0 x (upd v2 30 r4) f3) := hD
  refine lv_iconst (v := 0) hx hb dX3_findChange_16 (by decide) ?_
  refine lv_istore_n (lv' := [(2, .int 0), (1, .int r4), (0, .ref (x 25))]) hx hb dX3_findChange_17 rfl hl (by decide) rfl (fun ls hl => ?_)
  have lp5 : ∀ (n5 : Nat) (l2_5 : Int32) (v5 : Nat → Int32) (f5 : Nat → Nat → Int32), XI v5 → v5 0 = (v 0) → v5 1 = (v 1) → v5 7 = (v 7) → v5 8 = (v 8) → v5 9 = (v 9) → v5 10 = (v 10) → v5 31 = (v 31) → v5 32 = (v 32) → ((0 : Int) ≤ l2_5.toInt ∧ l2_5.toInt ≤ 2147483647) → KV [28, 29, 30] v5 v → KF [13, 14] f5 f → (2147483647 - l2_5.toInt).toNat < n5 → ∀ (H : Heap) (locs : List Loc) (ls : Array Slot), va_P (dC, dI) vwCl (XW cy x0 x v5 f5) H → va_D A (XW cy x0 x v5 f5) → va_S A s.heap H locs → lv_has ls 5 [(2, .int l2_5), (1, .int r4), (0, .ref (x 25))] → W p l e { frames := 6, cells := 0, slots := 0, locals := 180 } s m ([.ref (x 25)] : List Value).toArray below meth c H locs 0 0 Q (F0 m 18 ls []) := by
    intro n5
    induction n5 with
    | zero => intro l2_5 v5 f5 hIv5 hq0_v5 hq1_v5 hq7_v5 hq8_v5 hq9_v5 hq10_v5 hq31_v5 hq32_v5 hr2_5 hM_v5 hA_f5 hm; exact absurd hm (Nat.not_lt_zero _)
    | succ n5 ih5 =>
      intro l2_5 v5 f5 hIv5 hq0_v5 hq1_v5 hq7_v5 hq8_v5 hq9_v5 hq10_v5 hq31_v5 hq32_v5 hr2_5 hM_v5 hA_f5 hm5 H locs ls hP hD hS hl
      refine lv_iload_n hx hb dX3_findChange_18 rfl (lv_at hl 0 rfl) ?_
      refine lv_aload_n hx hb dX3_findChange_19 rfl (lv_at hl 2 rfl) ?_
      refine va_get (D := (dC, dI)) (ci := 3) (v := .ref (x 26)) (C := RX3) (T := TX3) (N := 10) hx hb hts inB_3 hown hE.1 hP 26 rfl rfl 0 (by decide) (hts _ k_370) (fun _ h9 => h9) rfl dX3_findChange_20 ?_
      refine va_getN (D := (dC, dI)) (ci := 7) (v := .int (v5 31)) (C := RX7) (T := TX7) (N := 10) hx hb hts inB_7 hown hE.1 hP 27 rfl rfl 3 (by decide) (va_Nw.use rfl (hE.2 _ k_217)) (fun _ h9 => h9) rfl dX3_findChange_23 ?_
      refine tI (y := (v 31)) hq31_v5 ?_
      have b31_v : 0 ≤ (v 31).toInt ∧ (v 31).toInt ≤ 6 := XI.b hIv 31 (by decide)
      refine lv_icmp_ge (tgt := 89) hx hb dX3_findChange_26 (by decide) (fun c6 => ?_) (fun c6 => ?_)
      · skip
        have zc6 : (v 31).toInt ≤ l2_5.toInt := by rw [fa_le] at c6; exact c6
        have rg7 := fb_rng l2_5
        have rg8 := fb_rng (v 31)
        refine lv_aload_n hx hb dX3_findChange_89 rfl (lv_at hl 2 rfl) ?_
        refine va_get (D := (dC, dI)) (ci := 3) (v := .int (v5 30)) (C := RX3) (T := TX3) (N := 10) hx hb hts inB_3 hown hE.1 hP 26 rfl rfl 9 (by decide) (hts _ k_385) (fun _ h9 => h9) rfl dX3_findChange_90 ?_
        refine lv_iload_n hx hb dX3_findChange_93 rfl (lv_at hl 1 rfl) ?_
        refine lv_icmp_le (tgt := 101) hx hb dX3_findChange_94 (by decide) (fun c9 => ?_) (fun c9 => ?_)
        · skip
          have zc9 : (v5 30).toInt ≤ r4.toInt := by rw [fa_le] at c9; exact c9
          have rg10 := fb_rng (v5 30)
          have rg11 := fb_rng r4
          refine lv_iconst (v := 0) hx hb dX3_findChange_101 (by decide) ?_
          exact ret 0 (v5, f5) _ _ _ _ _ _ rfl ⟨hM_v5, hA_f5, hIv5, hq0_v5, hq1_v5, hq7_v5, hq8_v5, hq9_v5, hq10_v5, hq31_v5, hq32_v5, (Or.inr rfl)⟩ hP hD hS dX3_findChange_102 (Nat.le_refl _) (Nat.le_refl _)
        · skip
          have zc9 : ¬ ((v5 30).toInt ≤ r4.toInt) := by rw [fa_le] at c9; exact c9
          have rg12 := fb_rng (v5 30)
          have rg13 := fb_rng r4
          refine lv_iconst (v := 1) hx hb dX3_findChange_97 (by decide) ?_
          refine lv_goto (tgt := 102) hx hb dX3_findChange_98 (by decide) ?_
          exact ret 1 (v5, f5) _ _ _ _ _ _ rfl ⟨hM_v5, hA_f5, hIv5, hq0_v5, hq1_v5, hq7_v5, hq8_v5, hq9_v5, hq10_v5, hq31_v5, hq32_v5, (Or.inl rfl)⟩ hP hD hS dX3_findChange_102 (Nat.le_refl _) (Nat.le_refl _)
      · skip
        have zc6 : ¬ ((v 31).toInt ≤ l2_5.toInt) := by rw [fa_le] at c6; exact c6
        have rg14 := fb_rng l2_5
        have rg15 := fb_rng (v 31)
        refine lv_iload_n hx hb dX3_findChange_29 rfl (lv_at hl 0 rfl) ?_
        refine lv_iconst (v := 1) hx hb dX3_findChange_30 (by decide) ?_
        refine lv_iadd hx hb dX3_findChange_31 ?_
        refine lv_topi (fun t16 et16 => ?_)
        have zt16 : t16.toInt = l2_5.toInt + 1 := by rw [et16]; exact add_i rfl (by decide) (by omega) (by omega)
        refine lv_istore_n (lv' := [(3, .int t16), (2, .int l2_5), (1, .int r4), (0, .ref (x 25))]) hx hb dX3_findChange_32 rfl hl (by decide) rfl (fun ls hl => ?_)
        have lp17 : ∀ (n17 : Nat) (l3_17 : Int32) (v17 : Nat → Int32) (f17 : Nat → Nat → Int32), XI v17 → v17 0 = (v 0) → v17 1 = (v 1) → v17 7 = (v 7) → v17 8 = (v 8) → v17 9 = (v 9) → v17 10 = (v 10) → v17 31 = (v 31) → v17 32 = (v 32) → ((1 : Int) ≤ l3_17.toInt ∧ l3_17.toInt ≤ 2147483647) → KV [28, 29, 30] v17 v → KF [13, 14] f17 f → (2147483647 - l3_17.toInt).toNat < n17 → ∀ (H : Heap) (locs : List Loc) (ls : Array Slot), va_P (dC, dI) vwCl (XW cy x0 x v17 f17) H → va_D A (XW cy x0 x v17 f17) → va_S A s.heap H locs → lv_has ls 5 [(3, .int l3_17), (2, .int l2_5), (1, .int r4), (0, .ref (x 25))] → W p l e { frames := 6, cells := 0, slots := 0, locals := 180 } s m ([.ref (x 25)] : List Value).toArray below meth c H locs 0 0 Q (F0 m 33 ls []) := by
          intro n17
          induction n17 with
          | zero => intro l3_17 v17 f17 hIv17 hq0_v17 hq1_v17 hq7_v17 hq8_v17 hq9_v17 hq10_v17 hq31_v17 hq32_v17 hr3_17 hM_v17 hA_f17 hm; exact absurd hm (Nat.not_lt_zero _)
          | succ n17 ih17 =>
            intro l3_17 v17 f17 hIv17 hq0_v17 hq1_v17 hq7_v17 hq8_v17 hq9_v17 hq10_v17 hq31_v17 hq32_v17 hr3_17 hM_v17 hA_f17 hm17 H locs ls hP hD hS hl
            refine lv_iload_n hx hb dX3_findChange_33 rfl (lv_at hl 0 rfl) ?_
            refine lv_aload_n hx hb dX3_findChange_34 rfl (lv_at hl 3 rfl) ?_
            refine va_get (D := (dC, dI)) (ci := 3) (v := .ref (x 26)) (C := RX3) (T := TX3) (N := 10) hx hb hts inB_3 hown hE.1 hP 26 rfl rfl 0 (by decide) (hts _ k_370) (fun _ h9 => h9) rfl dX3_findChange_35 ?_
            refine va_getN (D := (dC, dI)) (ci := 7) (v := .int (v17 31)) (C := RX7) (T := TX7) (N := 10) hx hb hts inB_7 hown hE.1 hP 27 rfl rfl 3 (by decide) (va_Nw.use rfl (hE.2 _ k_217)) (fun _ h9 => h9) rfl dX3_findChange_38 ?_
            refine tI (y := (v 31)) hq31_v17 ?_
            have b31_v : 0 ≤ (v 31).toInt ∧ (v 31).toInt ≤ 6 := XI.b hIv 31 (by decide)
            refine lv_icmp_ge (tgt := 83) hx hb dX3_findChange_41 (by decide) (fun c18 => ?_) (fun c18 => ?_)
            · skip
              have zc18 : (v 31).toInt ≤ l3_17.toInt := by rw [fa_le] at c18; exact c18
              have rg19 := fb_rng l3_17
              obtain ⟨t20, et20⟩ : ∃ y : Int32, y = l2_5 + 1 := ⟨_, rfl⟩
              have zt20 : t20.toInt = l2_5.toInt + 1 := by rw [et20]; exact add_i rfl (by decide) (by omega) (by omega)
              refine lv_iinc (v := t20) (lv' := [(2, .int t20), (3, .int l3_17), (1, .int r4), (0, .ref (x 25))]) hx hb dX3_findChange_83 hl (k := 1) rfl (by rw [et20]; rfl) (by decide) rfl (fun ls hl => ?_)
              refine lv_goto (tgt := 18) hx hb dX3_findChange_86 (by decide) ?_
              have rg21 := fb_rng t20
              exact ih5 t20 v17 f17 hIv17 hq0_v17 hq1_v17 hq7_v17 hq8_v17 hq9_v17 hq10_v17 hq31_v17 hq32_v17 ⟨show (0 : Int) ≤ t20.toInt by omega, show t20.toInt ≤ (2147483647 : Int) by omega⟩ hM_v17 hA_f17 (by show (2147483647 - t20.toInt).toNat < n5; omega) _ _ _ hP hD hS (lv_sub hl [0, 2, 3] rfl)
            · skip
              have zc18 : ¬ ((v 31).toInt ≤ l3_17.toInt) := by rw [fa_le] at c18; exact c18
              have rg22 := fb_rng l3_17
              refine lv_aload_n hx hb dX3_findChange_44 rfl (lv_at hl 3 rfl) ?_
              refine lv_iload_n hx hb dX3_findChange_45 rfl (lv_at hl 1 rfl) ?_
              refine lv_iload_n hx hb dX3_findChange_46 rfl (lv_at hl 0 rfl) ?_
              refine cbVi (n := 2) (rest := []) hx hb hml hown hts hE hP hD hS hA (sX_X3_changedCount_1 l dC dI cy x0 x l2_5 l3_17 v17 f17 hIv17 ) k_1048 k_1050 k_29 k_109 k_1051 (by decide +kernel) ⟨Nat.le_of_ble_eq_true rfl, Nat.le_of_ble_eq_true rfl⟩ 26 3 rfl rfl (rfl) hl.1 rfl (Nat.le_of_ble_eq_true rfl) dX3_findChange_47 (fun r23 u H locs hw hP hD hS => ?_)
              obtain ⟨v24, f25⟩ := u
              obtain ⟨kV_v24, kF_f25, hIv24, hk0_v24, hk1_v24, hk7_v24, hk8_v24, hk9_v24, hk10_v24, hk31_v24, hk32_v24⟩ := hw
              have hM_v24 : KV [28, 29, 30] v24 v := KV.tr kV_v24 hM_v17 rfl
              have hA_f25 : KF [13, 14] f25 f := KF.tr kF_f25 hA_f17 rfl
              have hP : va_P (dC, dI) vwCl (XW cy x0 x v24 f25) H := hP
              have hD : va_D A (XW cy x0 x v24 f25) := hD
              have hq0_v24 : v24 0 = (v 0) := hk0_v24.trans hq0_v17
              have hq1_v24 : v24 1 = (v 1) := hk1_v24.trans hq1_v17
              have hq7_v24 : v24 7 = (v 7) := hk7_v24.trans hq7_v17
              have hq8_v24 : v24 8 = (v 8) := hk8_v24.trans hq8_v17
              have hq9_v24 : v24 9 = (v 9) := hk9_v24.trans hq9_v17
              have hq10_v24 : v24 10 = (v 10) := hk10_v24.trans hq10_v17
              have hq31_v24 : v24 31 = (v 31) := hk31_v24.trans hq31_v17
              have hq32_v24 : v24 32 = (v 32) := hk32_v24.trans hq32_v17
              refine lv_istore (lv' := [(4, .int r23), (3, .int l3_17), (2, .int l2_5), (1, .int r4), (0, .ref (x 25))]) hx hb dX3_findChange_50 hl (by decide) rfl (fun ls hl => ?_)
              refine lv_iload hx hb dX3_findChange_52 (lv_at hl 0 rfl) ?_
              refine lv_aload_n hx hb dX3_findChange_54 rfl (lv_at hl 4 rfl) ?_
              refine va_get (D := (dC, dI)) (ci := 3) (v := .int (v24 30)) (C := RX3) (T := TX3) (N := 10) hx hb hts inB_3 hown hE.1 hP 26 rfl rfl 9 (by decide) (hts _ k_385) (fun _ h9 => h9) rfl dX3_findChange_55 ?_
              refine lv_icmp_le (tgt := 77) hx hb dX3_findChange_58 (by decide) (fun c26 => ?_) (fun c26 => ?_)
              · skip
                have zc26 : r23.toInt ≤ (v24 30).toInt := by rw [fa_le] at c26; exact c26
                have rg27 := fb_rng r23
                have rg28 := fb_rng (v24 30)
                obtain ⟨t29, et29⟩ : ∃ y : Int32, y = l3_17 + 1 := ⟨_, rfl⟩
                have zt29 : t29.toInt = l3_17.toInt + 1 := by rw [et29]; exact add_i rfl (by decide) (by omega) (by omega)
                refine lv_iinc (v := t29) (lv' := [(3, .int t29), (4, .int r23), (2, .int l2_5), (1, .int r4), (0, .ref (x 25))]) hx hb dX3_findChange_77 hl (k := 1) rfl (by rw [et29]; rfl) (by decide) rfl (fun ls hl => ?_)
                refine lv_goto (tgt := 33) hx hb dX3_findChange_80 (by decide) ?_
                have rg30 := fb_rng t29
                exact ih17 t29 v24 f25 hIv24 hq0_v24 hq1_v24 hq7_v24 hq8_v24 hq9_v24 hq10_v24 hq31_v24 hq32_v24 ⟨show (1 : Int) ≤ t29.toInt by omega, show t29.toInt ≤ (2147483647 : Int) by omega⟩ hM_v24 hA_f25 (by show (2147483647 - t29.toInt).toNat < n17; omega) _ _ _ hP hD hS (lv_sub hl [0, 2, 3, 4] rfl)
              · skip
                have zc26 : ¬ (r23.toInt ≤ (v24 30).toInt) := by rw [fa_le] at c26; exact c26
                have rg31 := fb_rng r23
                have rg32 := fb_rng (v24 30)
                refine lv_aload_n hx hb dX3_findChange_61 rfl (lv_at hl 4 rfl) ?_
                refine lv_iload_n hx hb dX3_findChange_62 rfl (lv_at hl 2 rfl) ?_
                refine va_put (D := (dC, dI)) (ci := 3) (v := .int l2_5) (ty := tyX3 7) (C := RX3) (T := TX3) (N := 10) hx hb hts inB_3 tyX3 tyX3_ok nmX3 hown hE.1 hP hD hS 26 rfl rfl 7 (by decide) (hts _ k_381) (fun _ h9 => h9) rfl (tyX3_ok 7 (by decide)) rfl rfl (Nat.le_of_ble_eq_true rfl) dX3_findChange_63 (fun H locs hP hD hS => ?_)
                have hP : va_P (dC, dI) vwCl (XW cy x0 x (upd v24 28 l2_5) f25) H := hP
                have hD : va_D A (XW cy x0 x (upd v24 28 l2_5) f25) := hD
                refine lv_aload_n hx hb dX3_findChange_66 rfl (lv_at hl 4 rfl) ?_
                refine lv_iload_n hx hb dX3_findChange_67 rfl (lv_at hl 1 rfl) ?_
                refine va_put (D := (dC, dI)) (ci := 3) (v := .int l3_17) (ty := tyX3 8) (C := RX3) (T := TX3) (N := 10) hx hb hts inB_3 tyX3 tyX3_ok nmX3 hown hE.1 hP hD hS 26 rfl rfl 8 (by decide) (hts _ k_383) (fun _ h9 => h9) rfl (tyX3_ok 8 (by decide)) rfl rfl (Nat.le_of_ble_eq_true rfl) dX3_findChange_68 (fun H locs hP hD hS => ?_)
                have hP : va_P (dC, dI) vwCl (XW cy x0 x (upd (upd v24 28 l2_5) 29 l3_17) f25) H := hP
                have hD : va_D A (XW cy x0 x (upd (upd v24 28 l2_5) 29 l3_17) f25) := hD
                refine lv_aload_n hx hb dX3_findChange_71 rfl (lv_at hl 4 rfl) ?_
                refine lv_iload hx hb dX3_findChange_72 (lv_at hl 0 rfl) ?_
                refine va_put (D := (dC, dI)) (ci := 3) (v := .int r23) (ty := tyX3 9) (C := RX3) (T := TX3) (N := 10) hx hb hts inB_3 tyX3 tyX3_ok nmX3 hown hE.1 hP hD hS 26 rfl rfl 9 (by decide) (hts _ k_385) (fun _ h9 => h9) rfl (tyX3_ok 9 (by decide)) rfl rfl (Nat.le_of_ble_eq_true rfl) dX3_findChange_74 (fun H locs hP hD hS => ?_)
                have hP : va_P (dC, dI) vwCl (XW cy x0 x (upd (upd (upd v24 28 l2_5) 29 l3_17) 30 r23) f25) H := hP
                have hD : va_D A (XW cy x0 x (upd (upd (upd v24 28 l2_5) 29 l3_17) 30 r23) f25) := hD
                obtain ⟨t33, et33⟩ : ∃ y : Int32, y = l3_17 + 1 := ⟨_, rfl⟩
                have zt33 : t33.toInt = l3_17.toInt + 1 := by rw [et33]; exact add_i rfl (by decide) (by omega) (by omega)
                refine lv_iinc (v := t33) (lv' := [(3, .int t33), (4, .int r23), (2, .int l2_5), (1, .int r4), (0, .ref (x 25))]) hx hb dX3_findChange_77 hl (k := 1) rfl (by rw [et33]; rfl) (by decide) rfl (fun ls hl => ?_)
                refine lv_goto (tgt := 33) hx hb dX3_findChange_80 (by decide) ?_
                have rg34 := fb_rng t33
                exact ih17 t33 (upd (upd (upd v24 28 l2_5) 29 l3_17) 30 r23) f25 (XI.upd (j := 30) (x := r23) (XI.upd (j := 29) (x := l3_17) (XI.upd (j := 28) (x := l2_5) hIv24 (rlo _) (rhi _)) (rlo _) (rhi _)) (rlo _) (rhi _)) hq0_v24 hq1_v24 hq7_v24 hq8_v24 hq9_v24 hq10_v24 hq31_v24 hq32_v24 ⟨show (1 : Int) ≤ t33.toInt by omega, show t33.toInt ≤ (2147483647 : Int) by omega⟩ (KV.up (j := 30) (x := r23) (KV.up (j := 29) (x := l3_17) (KV.up (j := 28) (x := l2_5) hM_v24 rfl) rfl) rfl) hA_f25 (by show (2147483647 - t33.toInt).toNat < n17; omega) _ _ _ hP hD hS (lv_sub hl [0, 2, 3, 4] rfl)
        have rg35 := fb_rng t16
        exact lp17 _ t16 v5 f5 hIv5 hq0_v5 hq1_v5 hq7_v5 hq8_v5 hq9_v5 hq10_v5 hq31_v5 hq32_v5 ⟨show (1 : Int) ≤ t16.toInt by omega, show t16.toInt ≤ (2147483647 : Int) by omega⟩ hM_v5 hA_f5 (Nat.lt_succ_self _) _ _ _ hP hD hS (lv_sub hl [0, 1, 2, 3] rfl)
  exact lp5 _ 0 (upd v2 30 r4) f3 (XI.upd (j := 30) (x := r4) hIv2 (rlo _) (rhi _)) hq0_v2 hq1_v2 hq7_v2 hq8_v2 hq9_v2 hq10_v2 hq31_v2 hq32_v2 ⟨by decide, by decide⟩ (KV.up (j := 30) (x := r4) hM_v2 rfl) hA_f3 (Nat.lt_succ_self _) _ _ _ hP hD hS (lv_sub hl [0, 1, 2] rfl)
set_option maxHeartbeats 4000000 in
set_option maxRecDepth 100000 in
theorem sX_X10_change_1 (l : Launch) (dC : Nat → ClassId) (dI : Nat → Nat → Nat) (cy : Nat → ClassId) (x0 : Nat) (x : Nat → Nat) (p1 : Int32) (v : Nat → Int32) (f : Nat → Nat → Int32) (hIv : XI v)  : ctI l (dC, dI) cy yX10_change cX10_change 2 .int 7 204 0 0 ((Nat → Int32) × (Nat → Nat → Int32)) [.ref x0, .int p1] (XW cy x0 x v f) (fun r u => KV [28, 29, 30] u.1 v ∧ KF [13, 14] u.2 f ∧ XI u.1 ∧ u.1 0 = v 0 ∧ u.1 1 = v 1 ∧ u.1 7 = v 7 ∧ u.1 8 = v 8 ∧ u.1 9 = v 9 ∧ u.1 10 = v 10 ∧ u.1 31 = v 31 ∧ u.1 32 = v 32) (fun u => XW cy x0 x u.1 u.2) := by
  refine ctI_of (by decide) (Nat.le_of_ble_eq_true rfl) (fun p e s m below meth c A ls Q hx hb hml hts hown hE hP hD hA hl ret => ?_)
  have hM_v : KV [28, 29, 30] v v := fun _ _ => rfl
  have hA_f : KF [13, 14] f f := fun _ _ => rfl
  have hown : s.vm.findClass RX10 = some m.cls := hown
  have hS : va_S A s.heap s.heap [] := va_S.rf
  have hl : lv_has ls 2 [(0, .ref x0), (1, .int p1)] := hl
  refine lv_iload_n hx hb dX10_change_0 rfl (lv_at hl 1 rfl) ?_
  refine lv_if_lt (tgt := 19) hx hb dX10_change_1 (by decide) (fun c1 => ?_) (fun c1 => ?_)
  · skip
    have zc1 : p1.toInt < 0 := by rw [fa_lt, show (0 : Int32).toInt = 0 from by decide] at c1; exact c1
    refine lv_iconst (v := (-1)) hx hb dX10_change_19 (by decide) ?_
    exact ret (-1) (v, f) _ _ _ _ _ _ rfl ⟨hM_v, hA_f, hIv, rfl, rfl, rfl, rfl, rfl, rfl, rfl, rfl⟩ hP hD hS dX10_change_20 (Nat.le_refl _) (Nat.le_refl _)
  · skip
    have zc1 : ¬ (p1.toInt < 0) := by rw [fa_lt, show (0 : Int32).toInt = 0 from by decide] at c1; exact c1
    refine lv_iload_n hx hb dX10_change_4 rfl (lv_at hl 1 rfl) ?_
    refine lv_iconst (v := 2) hx hb dX10_change_5 (by decide) ?_
    refine lv_icmp_gt (tgt := 19) hx hb dX10_change_6 (by decide) (fun c2 => ?_) (fun c2 => ?_)
    · skip
      have zc2 : 2 < p1.toInt := by rw [fa_lt, show (2 : Int32).toInt = 2 from by decide] at c2; exact c2
      refine lv_iconst (v := (-1)) hx hb dX10_change_19 (by decide) ?_
      exact ret (-1) (v, f) _ _ _ _ _ _ rfl ⟨hM_v, hA_f, hIv, rfl, rfl, rfl, rfl, rfl, rfl, rfl, rfl⟩ hP hD hS dX10_change_20 (Nat.le_refl _) (Nat.le_refl _)
    · skip
      have zc2 : ¬ (2 < p1.toInt) := by rw [fa_lt, show (2 : Int32).toInt = 2 from by decide] at c2; exact c2
      refine lv_aload_n hx hb dX10_change_9 rfl (lv_at hl 0 rfl) ?_
      refine va_get (D := (dC, dI)) (ci := 10) (v := .ref (x 25)) (C := RX10) (T := TX10) (N := 10) hx hb hts inB_10 hown hE.1 hP 0 rfl rfl 5 (by decide) (hts _ k_496) (fun _ h9 => h9) rfl dX10_change_10 ?_
      refine cbVi (n := 0) (rest := []) hx hb hml hown hts hE hP hD hS hA (sX_X3_findChange_1 l dC dI cy x0 x  v f hIv ) k_1037 k_1038 k_1039 k_109 k_1040 (by decide +kernel) ⟨Nat.le_of_ble_eq_true rfl, Nat.le_of_ble_eq_true rfl⟩ 26 3 rfl rfl (rfl) hl.1 rfl (Nat.le_of_ble_eq_true rfl) dX10_change_13 (fun r3 u H locs hw hP hD hS => ?_)
      obtain ⟨v4, f5⟩ := u
      obtain ⟨kV_v4, kF_f5, hIv4, hk0_v4, hk1_v4, hk7_v4, hk8_v4, hk9_v4, hk10_v4, hk31_v4, hk32_v4, hw⟩ := hw
      have hM_v4 : KV [28, 29, 30] v4 v := KV.tr kV_v4 hM_v rfl
      have hA_f5 : KF [13, 14] f5 f := KF.tr kF_f5 hA_f rfl
      have hP : va_P (dC, dI) vwCl (XW cy x0 x v4 f5) H := hP
      have hD : va_D A (XW cy x0 x v4 f5) := hD
      have hq0_v4 : v4 0 = (v 0) := hk0_v4
      have hq1_v4 : v4 1 = (v 1) := hk1_v4
      have hq7_v4 : v4 7 = (v 7) := hk7_v4
      have hq8_v4 : v4 8 = (v 8) := hk8_v4
      have hq9_v4 : v4 9 = (v 9) := hk9_v4
      have hq10_v4 : v4 10 = (v 10) := hk10_v4
      have hq31_v4 : v4 31 = (v 31) := hk31_v4
      have hq32_v4 : v4 32 = (v 32) := hk32_v4
      rcases hw with ⟨g6⟩ | ⟨g6⟩
      · skip
        subst g6
        refine lv_if_ne (tgt := 21) hx hb dX10_change_16 (by decide) (fun _ => ?_) (fun c0 => absurd c0 (by decide))
        refine lv_iload_n hx hb dX10_change_21 rfl (lv_at hl 1 rfl) ?_
        refine lv_if_ne (tgt := 33) hx hb dX10_change_22 (by decide) (fun c7 => ?_) (fun c7 => ?_)
        · skip
          have zc7 : ¬ (p1.toInt = 0) := by rw [fa_eq, show (0 : Int32).toInt = 0 from by decide] at c7; exact c7
          refine lv_iload_n hx hb dX10_change_33 rfl (lv_at hl 1 rfl) ?_
          refine lv_iconst (v := 1) hx hb dX10_change_34 (by decide) ?_
          refine lv_icmp_ne (tgt := 48) hx hb dX10_change_35 (by decide) (fun c8 => ?_) (fun c8 => ?_)
          · skip
            have zc8 : ¬ (p1.toInt = 1) := by rw [fa_eq, show (1 : Int32).toInt = 1 from by decide] at c8; exact c8
            refine lv_aload_n hx hb dX10_change_48 rfl (lv_at hl 0 rfl) ?_
            refine va_get (D := (dC, dI)) (ci := 10) (v := .ref (x 25)) (C := RX10) (T := TX10) (N := 10) hx hb hts inB_10 hown hE.1 hP 0 rfl rfl 5 (by decide) (hts _ k_496) (fun _ h9 => h9) rfl dX10_change_49 ?_
            refine va_getN (D := (dC, dI)) (ci := 3) (v := .int (v4 30)) (C := RX3) (T := TX3) (N := 10) hx hb hts inB_3 hown hE.1 hP 26 rfl rfl 9 (by decide) (va_Nw.use rfl (hE.2 _ k_386)) (fun _ h9 => h9) rfl dX10_change_52 ?_
            exact ret (v4 30) (v4, f5) _ _ _ _ _ _ rfl ⟨hM_v4, hA_f5, hIv4, hk0_v4, hk1_v4, hk7_v4, hk8_v4, hk9_v4, hk10_v4, hk31_v4, hk32_v4⟩ hP hD hS dX10_change_55 (Nat.le_refl _) (Nat.le_refl _)
          · skip
            have zc8 : p1.toInt = 1 := by rw [fa_eq, show (1 : Int32).toInt = 1 from by decide] at c8; exact c8
            refine lv_aload_n hx hb dX10_change_38 rfl (lv_at hl 0 rfl) ?_
            refine va_get (D := (dC, dI)) (ci := 10) (v := .ref (x 25)) (C := RX10) (T := TX10) (N := 10) hx hb hts inB_10 hown hE.1 hP 0 rfl rfl 5 (by decide) (hts _ k_496) (fun _ h9 => h9) rfl dX10_change_39 ?_
            refine va_getN (D := (dC, dI)) (ci := 3) (v := .int (v4 29)) (C := RX3) (T := TX3) (N := 10) hx hb hts inB_3 hown hE.1 hP 26 rfl rfl 8 (by decide) (va_Nw.use rfl (hE.2 _ k_384)) (fun _ h9 => h9) rfl dX10_change_42 ?_
            refine lv_goto (tgt := 55) hx hb dX10_change_45 (by decide) ?_
            exact ret (v4 29) (v4, f5) _ _ _ _ _ _ rfl ⟨hM_v4, hA_f5, hIv4, hk0_v4, hk1_v4, hk7_v4, hk8_v4, hk9_v4, hk10_v4, hk31_v4, hk32_v4⟩ hP hD hS dX10_change_55 (Nat.le_refl _) (Nat.le_refl _)
        · skip
          have zc7 : p1.toInt = 0 := by rw [fa_eq, show (0 : Int32).toInt = 0 from by decide] at c7; exact c7
          refine lv_aload_n hx hb dX10_change_25 rfl (lv_at hl 0 rfl) ?_
          refine va_get (D := (dC, dI)) (ci := 10) (v := .ref (x 25)) (C := RX10) (T := TX10) (N := 10) hx hb hts inB_10 hown hE.1 hP 0 rfl rfl 5 (by decide) (hts _ k_496) (fun _ h9 => h9) rfl dX10_change_26 ?_
          refine va_getN (D := (dC, dI)) (ci := 3) (v := .int (v4 28)) (C := RX3) (T := TX3) (N := 10) hx hb hts inB_3 hown hE.1 hP 26 rfl rfl 7 (by decide) (va_Nw.use rfl (hE.2 _ k_382)) (fun _ h9 => h9) rfl dX10_change_29 ?_
          exact ret (v4 28) (v4, f5) _ _ _ _ _ _ rfl ⟨hM_v4, hA_f5, hIv4, hk0_v4, hk1_v4, hk7_v4, hk8_v4, hk9_v4, hk10_v4, hk31_v4, hk32_v4⟩ hP hD hS dX10_change_32 (Nat.le_refl _) (Nat.le_refl _)
      · skip
        subst g6
        refine lv_if_ne (tgt := 21) hx hb dX10_change_16 (by decide) (fun c0 => absurd (by decide) c0) (fun _ => ?_)
        refine lv_iconst (v := (-1)) hx hb dX10_change_19 (by decide) ?_
        exact ret (-1) (v4, f5) _ _ _ _ _ _ rfl ⟨hM_v4, hA_f5, hIv4, hk0_v4, hk1_v4, hk7_v4, hk8_v4, hk9_v4, hk10_v4, hk31_v4, hk32_v4⟩ hP hD hS dX10_change_20 (Nat.le_refl _) (Nat.le_refl _)
set_option maxHeartbeats 4000000 in
set_option maxRecDepth 100000 in
theorem sX_X1_wearers_1 (l : Launch) (dC : Nat → ClassId) (dI : Nat → Nat → Nat) (cy : Nat → ClassId) (x0 : Nat) (x : Nat → Nat)  (v : Nat → Int32) (f : Nat → Nat → Int32) (hIv : XI v)  : ctI l (dC, dI) cy yX1_wearers cX1_wearers 3 .int 3 102 0 0 Unit [.ref (x 21)] (XW cy x0 x v f) (fun r u => True) (fun u => XW cy x0 x v f) := by
  refine ctI_of (by decide) (Nat.le_of_ble_eq_true rfl) (fun p e s m below meth c A ls Q hx hb hml hts hown hE hP hD hA hl ret => ?_)
  have hown : s.vm.findClass RX1 = some m.cls := hown
  have hS : va_S A s.heap s.heap [] := va_S.rf
  have hl : lv_has ls 3 [(0, .ref (x 21))] := hl
  refine lv_iconst (v := 0) hx hb dX1_wearers_0 (by decide) ?_
  refine lv_istore_n (lv' := [(1, .int 0), (0, .ref (x 21))]) hx hb dX1_wearers_1 rfl hl (by decide) rfl (fun ls hl => ?_)
  refine lv_iconst (v := 0) hx hb dX1_wearers_2 (by decide) ?_
  refine lv_istore_n (lv' := [(2, .int 0), (1, .int 0), (0, .ref (x 21))]) hx hb dX1_wearers_3 rfl hl (by decide) rfl (fun ls hl => ?_)
  have lp1 : ∀ (n1 : Nat) (l1_1 : Int32) (l2_1 : Int32), ((0 : Int) ≤ l2_1.toInt ∧ l2_1.toInt ≤ 2147483647) → (2147483647 - l2_1.toInt).toNat < n1 → ∀ (H : Heap) (locs : List Loc) (ls : Array Slot), va_P (dC, dI) vwCl (XW cy x0 x v f) H → va_D A (XW cy x0 x v f) → va_S A s.heap H locs → lv_has ls 3 [(2, .int l2_1), (1, .int l1_1), (0, .ref (x 21))] → W p l e { frames := 3, cells := 0, slots := 0, locals := 102 } s m ([.ref (x 21)] : List Value).toArray below meth c H locs 0 0 Q (F0 m 4 ls []) := by
    intro n1
    induction n1 with
    | zero => intro l1_1 l2_1 hr2_1 hm; exact absurd hm (Nat.not_lt_zero _)
    | succ n1 ih1 =>
      intro l1_1 l2_1 hr2_1 hm1 H locs ls hP hD hS hl
      refine lv_iload_n hx hb dX1_wearers_4 rfl (lv_at hl 0 rfl) ?_
      refine lv_aload_n hx hb dX1_wearers_5 rfl (lv_at hl 2 rfl) ?_
      refine va_get (D := (dC, dI)) (ci := 1) (v := .ref (x 26)) (C := RX1) (T := TX1) (N := 2) hx hb hts inB_1 hown hE.1 hP 22 rfl rfl 0 (by decide) (hts _ k_318) (fun _ h9 => h9) rfl dX1_wearers_6 ?_
      refine va_getN (D := (dC, dI)) (ci := 7) (v := .int (v 31)) (C := RX7) (T := TX7) (N := 10) hx hb hts inB_7 hown hE.1 hP 27 rfl rfl 3 (by decide) (va_Nw.use rfl (hE.2 _ k_219)) (fun _ h9 => h9) rfl dX1_wearers_9 ?_
      have b31_v : 0 ≤ (v 31).toInt ∧ (v 31).toInt ≤ 6 := XI.b hIv 31 (by decide)
      refine lv_icmp_ge (tgt := 36) hx hb dX1_wearers_12 (by decide) (fun c2 => ?_) (fun c2 => ?_)
      · skip
        have zc2 : (v 31).toInt ≤ l2_1.toInt := by rw [fa_le] at c2; exact c2
        have rg3 := fb_rng l2_1
        have rg4 := fb_rng (v 31)
        refine lv_iload_n hx hb dX1_wearers_36 rfl (lv_at hl 1 rfl) ?_
        exact ret l1_1 () _ _ _ _ _ _ rfl trivial hP hD hS dX1_wearers_37 (Nat.le_refl _) (Nat.le_refl _)
      · skip
        have zc2 : ¬ ((v 31).toInt ≤ l2_1.toInt) := by rw [fa_le] at c2; exact c2
        have rg5 := fb_rng l2_1
        have rg6 := fb_rng (v 31)
        refine lv_aload_n hx hb dX1_wearers_15 rfl (lv_at hl 2 rfl) ?_
        refine lv_iload_n hx hb dX1_wearers_16 rfl (lv_at hl 0 rfl) ?_
        refine cbVi (n := 1) (rest := []) hx hb hml hown hts hE hP hD hS hA (sX_X1_wears_1 l dC dI cy x0 x l2_1 v f hIv ) k_853 k_810 k_811 k_106 k_812 (by decide +kernel) ⟨Nat.le_of_ble_eq_true rfl, Nat.le_of_ble_eq_true rfl⟩ 22 1 rfl rfl (rfl) hl.1 rfl (Nat.le_of_ble_eq_true rfl) dX1_wearers_17 (fun r7 u H locs hw hP hD hS => ?_)
        refine lv_iconst (v := (-1)) hx hb dX1_wearers_20 (by decide) ?_
        refine lv_icmp_eq (tgt := 30) hx hb dX1_wearers_21 (by decide) (fun c8 => ?_) (fun c8 => ?_)
        · skip
          have zc8 : r7.toInt = (-1) := by rw [fa_eq, show ((-1) : Int32).toInt = -1 from by decide] at c8; exact c8
          obtain ⟨t9, et9⟩ : ∃ y : Int32, y = l2_1 + 1 := ⟨_, rfl⟩
          have zt9 : t9.toInt = l2_1.toInt + 1 := by rw [et9]; exact add_i rfl (by decide) (by omega) (by omega)
          refine lv_iinc (v := t9) (lv' := [(2, .int t9), (1, .int l1_1), (0, .ref (x 21))]) hx hb dX1_wearers_30 hl (k := 0) rfl (by rw [et9]; rfl) (by decide) rfl (fun ls hl => ?_)
          refine lv_goto (tgt := 4) hx hb dX1_wearers_33 (by decide) ?_
          have rg10 := fb_rng t9
          exact ih1 l1_1 t9 ⟨show (0 : Int) ≤ t9.toInt by omega, show t9.toInt ≤ (2147483647 : Int) by omega⟩ (by show (2147483647 - t9.toInt).toNat < n1; omega) _ _ _ hP hD hS (lv_sub hl [0, 1, 2] rfl)
        · skip
          have zc8 : ¬ (r7.toInt = (-1)) := by rw [fa_eq, show ((-1) : Int32).toInt = -1 from by decide] at c8; exact c8
          refine lv_iload_n hx hb dX1_wearers_24 rfl (lv_at hl 1 rfl) ?_
          refine lv_iconst (v := 1) hx hb dX1_wearers_25 (by decide) ?_
          refine lv_iload_n hx hb dX1_wearers_26 rfl (lv_at hl 0 rfl) ?_
          refine lv_ishl hx hb dX1_wearers_27 ?_
          refine lv_topi (fun t11 et11 => ?_)
          have zt11 : 1 ≤ t11.toInt ∧ t11.toInt ≤ 32 := by rw [et11]; exact shl1_rng (by omega) (by omega)
          refine lv_ior hx hb dX1_wearers_28 ?_
          refine lv_topi (fun t12 et12 => ?_)
          refine lv_istore_n (lv' := [(1, .int t12), (2, .int l2_1), (0, .ref (x 21))]) hx hb dX1_wearers_29 rfl hl (by decide) rfl (fun ls hl => ?_)
          obtain ⟨t13, et13⟩ : ∃ y : Int32, y = l2_1 + 1 := ⟨_, rfl⟩
          have zt13 : t13.toInt = l2_1.toInt + 1 := by rw [et13]; exact add_i rfl (by decide) (by omega) (by omega)
          refine lv_iinc (v := t13) (lv' := [(2, .int t13), (1, .int t12), (0, .ref (x 21))]) hx hb dX1_wearers_30 hl (k := 1) rfl (by rw [et13]; rfl) (by decide) rfl (fun ls hl => ?_)
          refine lv_goto (tgt := 4) hx hb dX1_wearers_33 (by decide) ?_
          have rg14 := fb_rng t13
          exact ih1 t12 t13 ⟨show (0 : Int) ≤ t13.toInt by omega, show t13.toInt ≤ (2147483647 : Int) by omega⟩ (by show (2147483647 - t13.toInt).toNat < n1; omega) _ _ _ hP hD hS (lv_sub hl [0, 1, 2] rfl)
  exact lp1 _ 0 0 ⟨by decide, by decide⟩ (Nat.lt_succ_self _) _ _ _ hP hD hS (lv_sub hl [0, 1, 2] rfl)
set_option maxHeartbeats 4000000 in
set_option maxRecDepth 100000 in
theorem sX_X2_wideTogether_1 (l : Launch) (dC : Nat → ClassId) (dI : Nat → Nat → Nat) (cy : Nat → ClassId) (x0 : Nat) (x : Nat → Nat) (p1 : Int32) (v : Nat → Int32) (f : Nat → Nat → Int32) (hIv : XI v)  : ctI l (dC, dI) cy yX2_wideTogether cX2_wideTogether 4 .int 3 104 0 0 Unit [.ref (x 29), .int p1] (XW cy x0 x v f) (fun r u => True) (fun u => XW cy x0 x v f) := by
  refine ctI_of (by decide) (Nat.le_of_ble_eq_true rfl) (fun p e s m below meth c A ls Q hx hb hml hts hown hE hP hD hA hl ret => ?_)
  have hown : s.vm.findClass RX2 = some m.cls := hown
  have hS : va_S A s.heap s.heap [] := va_S.rf
  have hl : lv_has ls 4 [(0, .ref (x 29)), (1, .int p1)] := hl
  refine lv_iconst (v := 0) hx hb dX2_wideTogether_0 (by decide) ?_
  refine lv_istore_n (lv' := [(2, .int 0), (0, .ref (x 29)), (1, .int p1)]) hx hb dX2_wideTogether_1 rfl hl (by decide) rfl (fun ls hl => ?_)
  refine lv_iconst (v := 0) hx hb dX2_wideTogether_2 (by decide) ?_
  refine lv_istore_n (lv' := [(3, .int 0), (2, .int 0), (0, .ref (x 29)), (1, .int p1)]) hx hb dX2_wideTogether_3 rfl hl (by decide) rfl (fun ls hl => ?_)
  have lp1 : ∀ (n1 : Nat) (l2_1 : Int32) (l3_1 : Int32), ((0 : Int) ≤ l3_1.toInt ∧ l3_1.toInt ≤ 2147483647) → (2147483647 - l3_1.toInt).toNat < n1 → ∀ (H : Heap) (locs : List Loc) (ls : Array Slot), va_P (dC, dI) vwCl (XW cy x0 x v f) H → va_D A (XW cy x0 x v f) → va_S A s.heap H locs → lv_has ls 4 [(3, .int l3_1), (2, .int l2_1), (0, .ref (x 29)), (1, .int p1)] → W p l e { frames := 3, cells := 0, slots := 0, locals := 104 } s m ([.ref (x 29), .int p1] : List Value).toArray below meth c H locs 0 0 Q (F0 m 4 ls []) := by
    intro n1
    induction n1 with
    | zero => intro l2_1 l3_1 hr3_1 hm; exact absurd hm (Nat.not_lt_zero _)
    | succ n1 ih1 =>
      intro l2_1 l3_1 hr3_1 hm1 H locs ls hP hD hS hl
      refine lv_iload_n hx hb dX2_wideTogether_4 rfl (lv_at hl 0 rfl) ?_
      refine lv_aload_n hx hb dX2_wideTogether_5 rfl (lv_at hl 2 rfl) ?_
      refine va_get (D := (dC, dI)) (ci := 2) (v := .ref (x 26)) (C := RX2) (T := TX2) (N := 3) hx hb hts inB_2 hown hE.1 hP 30 rfl rfl 0 (by decide) (hts _ k_414) (fun _ h9 => h9) rfl dX2_wideTogether_6 ?_
      refine va_getN (D := (dC, dI)) (ci := 7) (v := .int (v 31)) (C := RX7) (T := TX7) (N := 10) hx hb hts inB_7 hown hE.1 hP 27 rfl rfl 3 (by decide) (va_Nw.use rfl (hE.2 _ k_213)) (fun _ h9 => h9) rfl dX2_wideTogether_9 ?_
      have b31_v : 0 ≤ (v 31).toInt ∧ (v 31).toInt ≤ 6 := XI.b hIv 31 (by decide)
      refine lv_icmp_ge (tgt := 48) hx hb dX2_wideTogether_12 (by decide) (fun c2 => ?_) (fun c2 => ?_)
      · skip
        have zc2 : (v 31).toInt ≤ l3_1.toInt := by rw [fa_le] at c2; exact c2
        have rg3 := fb_rng l3_1
        have rg4 := fb_rng (v 31)
        refine lv_iload_n hx hb dX2_wideTogether_48 rfl (lv_at hl 1 rfl) ?_
        exact ret l2_1 () _ _ _ _ _ _ rfl trivial hP hD hS dX2_wideTogether_49 (Nat.le_refl _) (Nat.le_refl _)
      · skip
        have zc2 : ¬ ((v 31).toInt ≤ l3_1.toInt) := by rw [fa_le] at c2; exact c2
        have rg5 := fb_rng l3_1
        have rg6 := fb_rng (v 31)
        refine lv_iload_n hx hb dX2_wideTogether_15 rfl (lv_at hl 3 rfl) ?_
        refine lv_iload_n hx hb dX2_wideTogether_16 rfl (lv_at hl 0 rfl) ?_
        refine lv_ishr hx hb dX2_wideTogether_17 ?_
        refine lv_topi (fun t7 et7 => ?_)
        refine lv_iconst (v := 1) hx hb dX2_wideTogether_18 (by decide) ?_
        refine lv_iand hx hb dX2_wideTogether_19 ?_
        refine lv_topi (fun t8 et8 => ?_)
        have zt8 : 0 ≤ t8.toInt ∧ t8.toInt < 2 := by rw [et8]; exact and_rng _ (k := 1) (by decide) (by decide)
        refine lv_if_eq (tgt := 42) hx hb dX2_wideTogether_20 (by decide) (fun c9 => ?_) (fun c9 => ?_)
        · skip
          have zc9 : t8.toInt = 0 := by rw [fa_eq, show (0 : Int32).toInt = 0 from by decide] at c9; exact c9
          obtain ⟨t10, et10⟩ : ∃ y : Int32, y = l3_1 + 1 := ⟨_, rfl⟩
          have zt10 : t10.toInt = l3_1.toInt + 1 := by rw [et10]; exact add_i rfl (by decide) (by omega) (by omega)
          refine lv_iinc (v := t10) (lv' := [(3, .int t10), (2, .int l2_1), (0, .ref (x 29)), (1, .int p1)]) hx hb dX2_wideTogether_42 hl (k := 0) rfl (by rw [et10]; rfl) (by decide) rfl (fun ls hl => ?_)
          refine lv_goto (tgt := 4) hx hb dX2_wideTogether_45 (by decide) ?_
          have rg11 := fb_rng t10
          exact ih1 l2_1 t10 ⟨show (0 : Int) ≤ t10.toInt by omega, show t10.toInt ≤ (2147483647 : Int) by omega⟩ (by show (2147483647 - t10.toInt).toNat < n1; omega) _ _ _ hP hD hS (lv_sub hl [0, 1, 2, 3] rfl)
        · skip
          have zc9 : ¬ (t8.toInt = 0) := by rw [fa_eq, show (0 : Int32).toInt = 0 from by decide] at c9; exact c9
          refine lv_iload_n hx hb dX2_wideTogether_23 rfl (lv_at hl 1 rfl) ?_
          refine lv_aload_n hx hb dX2_wideTogether_24 rfl (lv_at hl 2 rfl) ?_
          refine va_get (D := (dC, dI)) (ci := 2) (v := .ref (x 21)) (C := RX2) (T := TX2) (N := 3) hx hb hts inB_2 hown hE.1 hP 30 rfl rfl 1 (by decide) (hts _ k_415) (fun _ h9 => h9) rfl dX2_wideTogether_25 ?_
          refine lv_iconst (v := 1) hx hb dX2_wideTogether_28 (by decide) ?_
          refine lv_aload_n hx hb dX2_wideTogether_29 rfl (lv_at hl 2 rfl) ?_
          refine va_get (D := (dC, dI)) (ci := 2) (v := .ref (x 21)) (C := RX2) (T := TX2) (N := 3) hx hb hts inB_2 hown hE.1 hP 30 rfl rfl 1 (by decide) (hts _ k_415) (fun _ h9 => h9) rfl dX2_wideTogether_30 ?_
          refine lv_iload_n hx hb dX2_wideTogether_33 rfl (lv_at hl 0 rfl) ?_
          refine cbVi (n := 1) (rest := [.int 1, .ref (x 21), .int l2_1]) hx hb hml hown hts hE hP hD hS hA (sX_X1_wears_1 l dC dI cy x0 x l3_1 v f hIv ) k_1069 k_810 k_811 k_106 k_812 (by decide +kernel) ⟨Nat.le_of_ble_eq_true rfl, Nat.le_of_ble_eq_true rfl⟩ 22 1 rfl rfl (rfl) hl.1 rfl (Nat.le_of_ble_eq_true rfl) dX2_wideTogether_34 (fun r12 u H locs hw hP hD hS => ?_)
          refine cbVi (n := 2) (rest := [.int l2_1]) hx hb hml hown hts hE hP hD hS hA (sX_X1_part_1 l dC dI cy x0 x 1 r12 v f hIv ) k_1070 k_828 k_829 k_106 k_830 (by decide +kernel) ⟨Nat.le_of_ble_eq_true rfl, Nat.le_of_ble_eq_true rfl⟩ 22 1 rfl rfl (rfl) hl.1 rfl (Nat.le_of_ble_eq_true rfl) dX2_wideTogether_37 (fun r13 u H locs hw hP hD hS => ?_)
          refine lv_iadd hx hb dX2_wideTogether_40 ?_
          refine lv_topi (fun t14 et14 => ?_)
          refine lv_istore_n (lv' := [(2, .int t14), (3, .int l3_1), (0, .ref (x 29)), (1, .int p1)]) hx hb dX2_wideTogether_41 rfl hl (by decide) rfl (fun ls hl => ?_)
          obtain ⟨t15, et15⟩ : ∃ y : Int32, y = l3_1 + 1 := ⟨_, rfl⟩
          have zt15 : t15.toInt = l3_1.toInt + 1 := by rw [et15]; exact add_i rfl (by decide) (by omega) (by omega)
          refine lv_iinc (v := t15) (lv' := [(3, .int t15), (2, .int t14), (0, .ref (x 29)), (1, .int p1)]) hx hb dX2_wideTogether_42 hl (k := 1) rfl (by rw [et15]; rfl) (by decide) rfl (fun ls hl => ?_)
          refine lv_goto (tgt := 4) hx hb dX2_wideTogether_45 (by decide) ?_
          have rg16 := fb_rng t15
          exact ih1 t14 t15 ⟨show (0 : Int) ≤ t15.toInt by omega, show t15.toInt ≤ (2147483647 : Int) by omega⟩ (by show (2147483647 - t15.toInt).toNat < n1; omega) _ _ _ hP hD hS (lv_sub hl [0, 1, 2, 3] rfl)
  exact lp1 _ 0 0 ⟨by decide, by decide⟩ (Nat.lt_succ_self _) _ _ _ hP hD hS (lv_sub hl [0, 1, 2, 3] rfl)
