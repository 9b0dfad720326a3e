set_option maxHeartbeats 4000000 in
set_option maxRecDepth 100000 in
theorem sX_X8_growthsAt_1 (l : Launch) (dC : Nat → ClassId) (dI : Nat → Nat → Nat) (cy : Nat → ClassId) (x0 : Nat) (x : Nat → Nat) (p1 : Int32) (v : Nat → Int32) (f : Nat → Nat → Int32) (hIv : XI v)  : ctI l (dC, dI) cy yX8_growthsAt cX8_growthsAt 6 .int 5 158 0 0 ((Nat → Int32) × (Nat → Nat → Int32)) [.ref (x 35), .int p1] (XW cy x0 x v f) (fun r u => KV [] u.1 v ∧ KF [13, 14, 27] u.2 f ∧ XI u.1 ∧ u.1 0 = v 0 ∧ u.1 1 = v 1 ∧ u.1 7 = v 7 ∧ u.1 8 = v 8 ∧ u.1 9 = v 9 ∧ u.1 10 = v 10 ∧ u.1 31 = v 31 ∧ u.1 32 = v 32) (fun u => XW cy x0 x u.1 u.2) := by
  refine ctI_of (by decide) (Nat.le_of_ble_eq_true rfl) (fun p e s m below meth c A ls Q hx hb hml hts hown hE hP hD hA hl ret => ?_)
  have hM_v : KV [] v v := fun _ _ => rfl
  have hA_f : KF [13, 14, 27] f f := fun _ _ => rfl
  have hown : s.vm.findClass RX8 = some m.cls := hown
  have hS : va_S A s.heap s.heap [] := va_S.rf
  have hl : lv_has ls 6 [(0, .ref (x 35)), (1, .int p1)] := hl
  refine lv_aload_n hx hb dX8_growthsAt_0 rfl (lv_at hl 0 rfl) ?_
  refine va_get (D := (dC, dI)) (ci := 8) (v := .ref (x 26)) (C := RX8) (T := TX8) (N := 7) hx hb hts inB_8 hown hE.1 hP 36 rfl rfl 0 (by decide) (hts _ k_467) (fun _ h9 => h9) rfl dX8_growthsAt_1 ?_
  refine va_getN (D := (dC, dI)) (ci := 7) (v := .int (v 31)) (C := RX7) (T := TX7) (N := 10) hx hb hts inB_7 hown hE.1 hP 27 rfl rfl 3 (by decide) (va_Nw.use rfl (hE.2 _ k_215)) (fun _ h9 => h9) rfl dX8_growthsAt_4 ?_
  have b31_v : 0 ≤ (v 31).toInt ∧ (v 31).toInt ≤ 6 := XI.b hIv 31 (by decide)
  refine lv_if_eq (tgt := 20) hx hb dX8_growthsAt_7 (by decide) (fun c1 => ?_) (fun c1 => ?_)
  · skip
    have zc1 : (v 31).toInt = 0 := by rw [fa_eq, show (0 : Int32).toInt = 0 from by decide] at c1; exact c1
    refine lv_iconst (v := 0) hx hb dX8_growthsAt_20 (by decide) ?_
    exact ret 0 (v, f) _ _ _ _ _ _ rfl ⟨hM_v, hA_f, hIv, rfl, rfl, rfl, rfl, rfl, rfl, rfl, rfl⟩ hP hD hS dX8_growthsAt_21 (Nat.le_refl _) (Nat.le_refl _)
  · skip
    have zc1 : ¬ ((v 31).toInt = 0) := by rw [fa_eq, show (0 : Int32).toInt = 0 from by decide] at c1; exact c1
    refine lv_aload_n hx hb dX8_growthsAt_10 rfl (lv_at hl 0 rfl) ?_
    refine va_get (D := (dC, dI)) (ci := 8) (v := .ref (x 26)) (C := RX8) (T := TX8) (N := 7) hx hb hts inB_8 hown hE.1 hP 36 rfl rfl 0 (by decide) (hts _ k_467) (fun _ h9 => h9) rfl dX8_growthsAt_11 ?_
    refine va_getN (D := (dC, dI)) (ci := 7) (v := .int (v 32)) (C := RX7) (T := TX7) (N := 10) hx hb hts inB_7 hown hE.1 hP 27 rfl rfl 4 (by decide) (va_Nw.use rfl (hE.2 _ k_221)) (fun _ h9 => h9) rfl dX8_growthsAt_14 ?_
    have b32_v : 0 ≤ (v 32).toInt ∧ (v 32).toInt ≤ 6 := XI.b hIv 32 (by decide)
    refine lv_if_ne (tgt := 22) hx hb dX8_growthsAt_17 (by decide) (fun c2 => ?_) (fun c2 => ?_)
    · skip
      have zc2 : ¬ ((v 32).toInt = 0) := by rw [fa_eq, show (0 : Int32).toInt = 0 from by decide] at c2; exact c2
      refine lv_ldc (v := 2147483647) hx hb hown (hts _ k_1251) dX8_growthsAt_22 ?_
      refine lv_istore_n (lv' := [(2, .int 2147483647), (0, .ref (x 35)), (1, .int p1)]) hx hb dX8_growthsAt_24 rfl hl (by decide) rfl (fun ls hl => ?_)
      refine lv_iconst (v := 0) hx hb dX8_growthsAt_25 (by decide) ?_
      refine lv_istore_n (lv' := [(3, .int 0), (2, .int 2147483647), (0, .ref (x 35)), (1, .int p1)]) hx hb dX8_growthsAt_26 rfl hl (by decide) rfl (fun ls hl => ?_)
      have lp3 : ∀ (n3 : Nat) (l2_3 : Int32) (l3_3 : Int32) (v3 : Nat → Int32) (f3 : Nat → Nat → Int32), XI v3 → v3 0 = (v 0) → v3 1 = (v 1) → v3 7 = (v 7) → v3 8 = (v 8) → v3 9 = (v 9) → v3 10 = (v 10) → v3 31 = (v 31) → v3 32 = (v 32) → ((0 : Int) ≤ l3_3.toInt ∧ l3_3.toInt ≤ 2147483647) → KV [] v3 v → KF [13, 14, 27] f3 f → (2147483647 - l3_3.toInt).toNat < n3 → ∀ (H : Heap) (locs : List Loc) (ls : Array Slot), va_P (dC, dI) vwCl (XW cy x0 x v3 f3) H → va_D A (XW cy x0 x v3 f3) → va_S A s.heap H locs → lv_has ls 6 [(3, .int l3_3), (2, .int l2_3), (0, .ref (x 35)), (1, .int p1)] → W p l e { frames := 5, cells := 0, slots := 0, locals := 158 } s m ([.ref (x 35), .int p1] : List Value).toArray below meth c H locs 0 0 Q (F0 m 27 ls []) := by
        intro n3
        induction n3 with
        | zero => intro l2_3 l3_3 v3 f3 hIv3 hq0_v3 hq1_v3 hq7_v3 hq8_v3 hq9_v3 hq10_v3 hq31_v3 hq32_v3 hr3_3 hM_v3 hA_f3 hm; exact absurd hm (Nat.not_lt_zero _)
        | succ n3 ih3 =>
          intro l2_3 l3_3 v3 f3 hIv3 hq0_v3 hq1_v3 hq7_v3 hq8_v3 hq9_v3 hq10_v3 hq31_v3 hq32_v3 hr3_3 hM_v3 hA_f3 hm3 H locs ls hP hD hS hl
          refine lv_iload_n hx hb dX8_growthsAt_27 rfl (lv_at hl 0 rfl) ?_
          refine lv_aload_n hx hb dX8_growthsAt_28 rfl (lv_at hl 2 rfl) ?_
          refine va_get (D := (dC, dI)) (ci := 8) (v := .int (v3 41)) (C := RX8) (T := TX8) (N := 7) hx hb hts inB_8 hown hE.1 hP 36 rfl rfl 5 (by decide) (hts _ k_472) (fun _ h9 => h9) rfl dX8_growthsAt_29 ?_
          have b41_v3 : 0 ≤ (v3 41).toInt ∧ (v3 41).toInt ≤ 30 := XI.b hIv3 41 (by decide)
          refine lv_icmp_ge (tgt := 122) hx hb dX8_growthsAt_32 (by decide) (fun c4 => ?_) (fun c4 => ?_)
          · skip
            have zc4 : (v3 41).toInt ≤ l3_3.toInt := by rw [fa_le] at c4; exact c4
            have rg5 := fb_rng l3_3
            have rg6 := fb_rng (v3 41)
            refine lv_iload_n hx hb dX8_growthsAt_122 rfl (lv_at hl 1 rfl) ?_
            exact ret l2_3 (v3, f3) _ _ _ _ _ _ rfl ⟨hM_v3, hA_f3, hIv3, (show v3 0 = v 0 from hq0_v3), (show v3 1 = v 1 from hq1_v3), (show v3 7 = v 7 from hq7_v3), (show v3 8 = v 8 from hq8_v3), (show v3 9 = v 9 from hq9_v3), (show v3 10 = v 10 from hq10_v3), (show v3 31 = v 31 from hq31_v3), (show v3 32 = v 32 from hq32_v3)⟩ hP hD hS dX8_growthsAt_123 (Nat.le_refl _) (Nat.le_refl _)
          · skip
            have zc4 : ¬ ((v3 41).toInt ≤ l3_3.toInt) := by rw [fa_le] at c4; exact c4
            have rg7 := fb_rng l3_3
            have rg8 := fb_rng (v3 41)
            refine lv_iload_n hx hb dX8_growthsAt_35 rfl (lv_at hl 0 rfl) ?_
            refine lv_bipush (v := 30) hx hb dX8_growthsAt_36 (by decide) ?_
            refine lv_icmp_ge (tgt := 122) hx hb dX8_growthsAt_38 (by decide) (fun c9 => ?_) (fun c9 => ?_)
            · skip
              have zc9 : 30 ≤ l3_3.toInt := by rw [fa_le, show (30 : Int32).toInt = 30 from by decide] at c9; exact c9
              refine lv_iload_n hx hb dX8_growthsAt_122 rfl (lv_at hl 1 rfl) ?_
              exact ret l2_3 (v3, f3) _ _ _ _ _ _ rfl ⟨hM_v3, hA_f3, hIv3, (show v3 0 = v 0 from hq0_v3), (show v3 1 = v 1 from hq1_v3), (show v3 7 = v 7 from hq7_v3), (show v3 8 = v 8 from hq8_v3), (show v3 9 = v 9 from hq9_v3), (show v3 10 = v 10 from hq10_v3), (show v3 31 = v 31 from hq31_v3), (show v3 32 = v 32 from hq32_v3)⟩ hP hD hS dX8_growthsAt_123 (Nat.le_refl _) (Nat.le_refl _)
            · skip
              have zc9 : ¬ (30 ≤ l3_3.toInt) := by rw [fa_le, show (30 : Int32).toInt = 30 from by decide] at c9; exact c9
              refine lv_aload_n hx hb dX8_growthsAt_41 rfl (lv_at hl 2 rfl) ?_
              refine va_get (D := (dC, dI)) (ci := 8) (v := .ref (x 39)) (C := RX8) (T := TX8) (N := 7) hx hb hts inB_8 hown hE.1 hP 36 rfl rfl 4 (by decide) (hts _ k_471) (fun _ h9 => h9) rfl dX8_growthsAt_42 ?_
              refine lv_iload_n hx hb dX8_growthsAt_45 rfl (lv_at hl 0 rfl) ?_
              refine ldI hx hb hE hP 40 rfl (vp_in_iff.mpr ⟨by omega, by omega⟩) rfl rfl dX8_growthsAt_46 ?_
              refine lv_topi (fun t10 et10 => ?_)
              refine lv_iconst (v := (-1)) hx hb dX8_growthsAt_47 (by decide) ?_
              refine lv_icmp_eq (tgt := 65) hx hb dX8_growthsAt_48 (by decide) (fun c11 => ?_) (fun c11 => ?_)
              · skip
                have zc11 : t10.toInt = (-1) := by rw [fa_eq, show ((-1) : Int32).toInt = -1 from by decide] at c11; exact c11
                refine lv_iconst (v := 0) hx hb dX8_growthsAt_65 (by decide) ?_
                refine lv_istore (lv' := [(4, .int 0), (3, .int l3_3), (2, .int l2_3), (0, .ref (x 35)), (1, .int p1)]) hx hb dX8_growthsAt_66 hl (by decide) rfl (fun ls hl => ?_)
                refine lv_aload_n hx hb dX8_growthsAt_68 rfl (lv_at hl 3 rfl) ?_
                refine va_get (D := (dC, dI)) (ci := 8) (v := .ref (x 38)) (C := RX8) (T := TX8) (N := 7) hx hb hts inB_8 hown hE.1 hP 36 rfl rfl 3 (by decide) (hts _ k_470) (fun _ h9 => h9) rfl dX8_growthsAt_69 ?_
                refine lv_iload_n hx hb dX8_growthsAt_72 rfl (lv_at hl 1 rfl) ?_
                refine ldI hx hb hE hP 39 rfl (vp_in_iff.mpr ⟨by omega, by omega⟩) rfl rfl dX8_growthsAt_73 ?_
                refine lv_topi (fun t12 et12 => ?_)
                refine lv_iload_n hx hb dX8_growthsAt_74 rfl (lv_at hl 4 rfl) ?_
                refine lv_icmp_gt (tgt := 116) hx hb dX8_growthsAt_75 (by decide) (fun c13 => ?_) (fun c13 => ?_)
                · skip
                  have zc13 : p1.toInt < t12.toInt := by rw [fa_lt] at c13; exact c13
                  have rg14 := fb_rng t12
                  have rg15 := fb_rng p1
                  obtain ⟨t16, et16⟩ : ∃ y : Int32, y = l3_3 + 1 := ⟨_, rfl⟩
                  have zt16 : t16.toInt = l3_3.toInt + 1 := by rw [et16]; exact add_i rfl (by decide) (by omega) (by omega)
                  refine lv_iinc (v := t16) (lv' := [(3, .int t16), (4, .int 0), (2, .int l2_3), (0, .ref (x 35)), (1, .int p1)]) hx hb dX8_growthsAt_116 hl (k := 1) rfl (by rw [et16]; rfl) (by decide) rfl (fun ls hl => ?_)
                  refine lv_goto (tgt := 27) hx hb dX8_growthsAt_119 (by decide) ?_
                  have rg17 := fb_rng t16
                  exact ih3 l2_3 t16 v3 f3 hIv3 hq0_v3 hq1_v3 hq7_v3 hq8_v3 hq9_v3 hq10_v3 hq31_v3 hq32_v3 ⟨show (0 : Int) ≤ t16.toInt by omega, show t16.toInt ≤ (2147483647 : Int) by omega⟩ hM_v3 hA_f3 (by show (2147483647 - t16.toInt).toNat < n3; omega) _ _ _ hP hD hS (lv_sub hl [0, 2, 3, 4] rfl)
                · skip
                  have zc13 : ¬ (p1.toInt < t12.toInt) := by rw [fa_lt] at c13; exact c13
                  have rg18 := fb_rng t12
                  have rg19 := fb_rng p1
                  refine lv_iload hx hb dX8_growthsAt_78 (lv_at hl 0 rfl) ?_
                  refine lv_if_ne (tgt := 116) hx hb dX8_growthsAt_80 (by decide) (fun c0 => absurd (by decide) c0) (fun _ => ?_)
                  refine lv_aload_n hx hb dX8_growthsAt_83 rfl (lv_at hl 3 rfl) ?_
                  refine lv_aload_n hx hb dX8_growthsAt_84 rfl (lv_at hl 3 rfl) ?_
                  refine va_get (D := (dC, dI)) (ci := 8) (v := .ref (x 36)) (C := RX8) (T := TX8) (N := 7) hx hb hts inB_8 hown hE.1 hP 36 rfl rfl 1 (by decide) (hts _ k_468) (fun _ h9 => h9) rfl dX8_growthsAt_85 ?_
                  refine lv_iload_n hx hb dX8_growthsAt_88 rfl (lv_at hl 1 rfl) ?_
                  refine ldI hx hb hE hP 37 rfl (vp_in_iff.mpr ⟨by omega, by omega⟩) rfl rfl dX8_growthsAt_89 ?_
                  refine lv_topi (fun t20 et20 => ?_)
                  refine cbVi (n := 1) (rest := []) hx hb hml hown hts hE hP hD hS hA (sX_X8_fittingBehind_1 l dC dI cy x0 x t20 v3 f3 hIv3 ) k_1252 k_1254 k_38 k_112 k_1255 (by decide +kernel) ⟨Nat.le_of_ble_eq_true rfl, Nat.le_of_ble_eq_true rfl⟩ 36 8 rfl rfl (rfl) hl.1 rfl (Nat.le_of_ble_eq_true rfl) dX8_growthsAt_90 (fun r21 u H locs hw hP hD hS => ?_)
                  obtain ⟨v22, f23⟩ := u
                  obtain ⟨kV_v22, kF_f23, hIv22, hk0_v22, hk1_v22, hk7_v22, hk8_v22, hk9_v22, hk10_v22, hk31_v22, hk32_v22⟩ := hw
                  have hM_v22 : KV [] v22 v := KV.tr kV_v22 hM_v3 rfl
                  have hA_f23 : KF [13, 14, 27] f23 f := KF.tr kF_f23 hA_f3 rfl
                  have hP : va_P (dC, dI) vwCl (XW cy x0 x v22 f23) H := hP
                  have hD : va_D A (XW cy x0 x v22 f23) := hD
                  have hq0_v22 : v22 0 = (v 0) := hk0_v22.trans hq0_v3
                  have hq1_v22 : v22 1 = (v 1) := hk1_v22.trans hq1_v3
                  have hq7_v22 : v22 7 = (v 7) := hk7_v22.trans hq7_v3
                  have hq8_v22 : v22 8 = (v 8) := hk8_v22.trans hq8_v3
                  have hq9_v22 : v22 9 = (v 9) := hk9_v22.trans hq9_v3
                  have hq10_v22 : v22 10 = (v 10) := hk10_v22.trans hq10_v3
                  have hq31_v22 : v22 31 = (v 31) := hk31_v22.trans hq31_v3
                  have hq32_v22 : v22 32 = (v 32) := hk32_v22.trans hq32_v3
                  refine lv_istore (lv' := [(5, .int r21), (4, .int 0), (3, .int l3_3), (2, .int l2_3), (0, .ref (x 35)), (1, .int p1)]) hx hb dX8_growthsAt_93 hl (by decide) rfl (fun ls hl => ?_)
                  refine lv_iload_n hx hb dX8_growthsAt_95 rfl (lv_at hl 3 rfl) ?_
                  refine lv_aload_n hx hb dX8_growthsAt_96 rfl (lv_at hl 4 rfl) ?_
                  refine va_get (D := (dC, dI)) (ci := 8) (v := .ref (x 37)) (C := RX8) (T := TX8) (N := 7) hx hb hts inB_8 hown hE.1 hP 36 rfl rfl 2 (by decide) (hts _ k_469) (fun _ h9 => h9) rfl dX8_growthsAt_97 ?_
                  refine lv_iload_n hx hb dX8_growthsAt_100 rfl (lv_at hl 2 rfl) ?_
                  refine ldZ hx hb hE hP 38 rfl (vp_in_iff.mpr ⟨by omega, by omega⟩) rfl rfl dX8_growthsAt_101 ?_
                  refine lv_topi (fun t24 et24 => ?_)
                  refine lv_if_eq (tgt := 110) hx hb dX8_growthsAt_102 (by decide) (fun c25 => ?_) (fun c25 => ?_)
                  · skip
                    have zc25 : t24.toInt = 0 := by rw [fa_eq, show (0 : Int32).toInt = 0 from by decide] at c25; exact c25
                    refine lv_iload hx hb dX8_growthsAt_110 (lv_at hl 0 rfl) ?_
                    refine lv_iconst (v := (-1)) hx hb dX8_growthsAt_112 (by decide) ?_
                    refine lv_ixor hx hb dX8_growthsAt_113 ?_
                    refine lv_topi (fun t26 et26 => ?_)
                    refine lv_iand hx hb dX8_growthsAt_114 ?_
                    refine lv_topi (fun t27 et27 => ?_)
                    refine lv_istore_n (lv' := [(2, .int t27), (5, .int r21), (4, .int 0), (3, .int l3_3), (0, .ref (x 35)), (1, .int p1)]) hx hb dX8_growthsAt_115 rfl hl (by decide) rfl (fun ls hl => ?_)
                    obtain ⟨t28, et28⟩ : ∃ y : Int32, y = l3_3 + 1 := ⟨_, rfl⟩
                    have zt28 : t28.toInt = l3_3.toInt + 1 := by rw [et28]; exact add_i rfl (by decide) (by omega) (by omega)
                    refine lv_iinc (v := t28) (lv' := [(3, .int t28), (2, .int t27), (5, .int r21), (4, .int 0), (0, .ref (x 35)), (1, .int p1)]) hx hb dX8_growthsAt_116 hl (k := 3) rfl (by rw [et28]; rfl) (by decide) rfl (fun ls hl => ?_)
                    refine lv_goto (tgt := 27) hx hb dX8_growthsAt_119 (by decide) ?_
                    have rg29 := fb_rng t28
                    exact ih3 t27 t28 v22 f23 hIv22 hq0_v22 hq1_v22 hq7_v22 hq8_v22 hq9_v22 hq10_v22 hq31_v22 hq32_v22 ⟨show (0 : Int) ≤ t28.toInt by omega, show t28.toInt ≤ (2147483647 : Int) by omega⟩ hM_v22 hA_f23 (by show (2147483647 - t28.toInt).toNat < n3; omega) _ _ _ hP hD hS (lv_sub hl [0, 1, 4, 5] rfl)
                  · skip
                    have zc25 : ¬ (t24.toInt = 0) := by rw [fa_eq, show (0 : Int32).toInt = 0 from by decide] at c25; exact c25
                    refine lv_iload hx hb dX8_growthsAt_105 (lv_at hl 0 rfl) ?_
                    refine lv_goto (tgt := 114) hx hb dX8_growthsAt_107 (by decide) ?_
                    refine lv_iand hx hb dX8_growthsAt_114 ?_
                    refine lv_topi (fun t30 et30 => ?_)
                    refine lv_istore_n (lv' := [(2, .int t30), (5, .int r21), (4, .int 0), (3, .int l3_3), (0, .ref (x 35)), (1, .int p1)]) hx hb dX8_growthsAt_115 rfl hl (by decide) rfl (fun ls hl => ?_)
                    obtain ⟨t31, et31⟩ : ∃ y : Int32, y = l3_3 + 1 := ⟨_, rfl⟩
                    have zt31 : t31.toInt = l3_3.toInt + 1 := by rw [et31]; exact add_i rfl (by decide) (by omega) (by omega)
                    refine lv_iinc (v := t31) (lv' := [(3, .int t31), (2, .int t30), (5, .int r21), (4, .int 0), (0, .ref (x 35)), (1, .int p1)]) hx hb dX8_growthsAt_116 hl (k := 3) rfl (by rw [et31]; rfl) (by decide) rfl (fun ls hl => ?_)
                    refine lv_goto (tgt := 27) hx hb dX8_growthsAt_119 (by decide) ?_
                    have rg32 := fb_rng t31
                    exact ih3 t30 t31 v22 f23 hIv22 hq0_v22 hq1_v22 hq7_v22 hq8_v22 hq9_v22 hq10_v22 hq31_v22 hq32_v22 ⟨show (0 : Int) ≤ t31.toInt by omega, show t31.toInt ≤ (2147483647 : Int) by omega⟩ hM_v22 hA_f23 (by show (2147483647 - t31.toInt).toNat < n3; omega) _ _ _ hP hD hS (lv_sub hl [0, 1, 4, 5] rfl)
              · skip
                have zc11 : ¬ (t10.toInt = (-1)) := by rw [fa_eq, show ((-1) : Int32).toInt = -1 from by decide] at c11; exact c11
                refine lv_aload_n hx hb dX8_growthsAt_51 rfl (lv_at hl 2 rfl) ?_
                refine va_get (D := (dC, dI)) (ci := 8) (v := .ref (x 39)) (C := RX8) (T := TX8) (N := 7) hx hb hts inB_8 hown hE.1 hP 36 rfl rfl 4 (by decide) (hts _ k_471) (fun _ h9 => h9) rfl dX8_growthsAt_52 ?_
                refine lv_iload_n hx hb dX8_growthsAt_55 rfl (lv_at hl 0 rfl) ?_
                refine ldI hx hb hE hP 40 rfl (vp_in_iff.mpr ⟨by omega, by omega⟩) rfl rfl dX8_growthsAt_56 ?_
                refine lv_topi (fun t33 et33 => ?_)
                refine lv_iload_n hx hb dX8_growthsAt_57 rfl (lv_at hl 3 rfl) ?_
                refine lv_icmp_gt (tgt := 65) hx hb dX8_growthsAt_58 (by decide) (fun c34 => ?_) (fun c34 => ?_)
                · skip
                  have zc34 : p1.toInt < t33.toInt := by rw [fa_lt] at c34; exact c34
                  have rg35 := fb_rng t33
                  have rg36 := fb_rng p1
                  refine lv_iconst (v := 0) hx hb dX8_growthsAt_65 (by decide) ?_
                  refine lv_istore (lv' := [(4, .int 0), (3, .int l3_3), (2, .int l2_3), (0, .ref (x 35)), (1, .int p1)]) hx hb dX8_growthsAt_66 hl (by decide) rfl (fun ls hl => ?_)
                  refine lv_aload_n hx hb dX8_growthsAt_68 rfl (lv_at hl 3 rfl) ?_
                  refine va_get (D := (dC, dI)) (ci := 8) (v := .ref (x 38)) (C := RX8) (T := TX8) (N := 7) hx hb hts inB_8 hown hE.1 hP 36 rfl rfl 3 (by decide) (hts _ k_470) (fun _ h9 => h9) rfl dX8_growthsAt_69 ?_
                  refine lv_iload_n hx hb dX8_growthsAt_72 rfl (lv_at hl 1 rfl) ?_
                  refine ldI hx hb hE hP 39 rfl (vp_in_iff.mpr ⟨by omega, by omega⟩) rfl rfl dX8_growthsAt_73 ?_
                  refine lv_topi (fun t37 et37 => ?_)
                  refine lv_iload_n hx hb dX8_growthsAt_74 rfl (lv_at hl 4 rfl) ?_
                  refine lv_icmp_gt (tgt := 116) hx hb dX8_growthsAt_75 (by decide) (fun c38 => ?_) (fun c38 => ?_)
                  · skip
                    have zc38 : p1.toInt < t37.toInt := by rw [fa_lt] at c38; exact c38
                    have rg39 := fb_rng t37
                    obtain ⟨t40, et40⟩ : ∃ y : Int32, y = l3_3 + 1 := ⟨_, rfl⟩
                    have zt40 : t40.toInt = l3_3.toInt + 1 := by rw [et40]; exact add_i rfl (by decide) (by omega) (by omega)
                    refine lv_iinc (v := t40) (lv' := [(3, .int t40), (4, .int 0), (2, .int l2_3), (0, .ref (x 35)), (1, .int p1)]) hx hb dX8_growthsAt_116 hl (k := 1) rfl (by rw [et40]; rfl) (by decide) rfl (fun ls hl => ?_)
                    refine lv_goto (tgt := 27) hx hb dX8_growthsAt_119 (by decide) ?_
                    have rg41 := fb_rng t40
                    exact ih3 l2_3 t40 v3 f3 hIv3 hq0_v3 hq1_v3 hq7_v3 hq8_v3 hq9_v3 hq10_v3 hq31_v3 hq32_v3 ⟨show (0 : Int) ≤ t40.toInt by omega, show t40.toInt ≤ (2147483647 : Int) by omega⟩ hM_v3 hA_f3 (by show (2147483647 - t40.toInt).toNat < n3; omega) _ _ _ hP hD hS (lv_sub hl [0, 2, 3, 4] rfl)
                  · skip
                    have zc38 : ¬ (p1.toInt < t37.toInt) := by rw [fa_lt] at c38; exact c38
                    have rg42 := fb_rng t37
                    refine lv_iload hx hb dX8_growthsAt_78 (lv_at hl 0 rfl) ?_
                    refine lv_if_ne (tgt := 116) hx hb dX8_growthsAt_80 (by decide) (fun c0 => absurd (by decide) c0) (fun _ => ?_)
                    refine lv_aload_n hx hb dX8_growthsAt_83 rfl (lv_at hl 3 rfl) ?_
                    refine lv_aload_n hx hb dX8_growthsAt_84 rfl (lv_at hl 3 rfl) ?_
                    refine va_get (D := (dC, dI)) (ci := 8) (v := .ref (x 36)) (C := RX8) (T := TX8) (N := 7) hx hb hts inB_8 hown hE.1 hP 36 rfl rfl 1 (by decide) (hts _ k_468) (fun _ h9 => h9) rfl dX8_growthsAt_85 ?_
                    refine lv_iload_n hx hb dX8_growthsAt_88 rfl (lv_at hl 1 rfl) ?_
                    refine ldI hx hb hE hP 37 rfl (vp_in_iff.mpr ⟨by omega, by omega⟩) rfl rfl dX8_growthsAt_89 ?_
                    refine lv_topi (fun t43 et43 => ?_)
                    refine cbVi (n := 1) (rest := []) hx hb hml hown hts hE hP hD hS hA (sX_X8_fittingBehind_1 l dC dI cy x0 x t43 v3 f3 hIv3 ) k_1252 k_1254 k_38 k_112 k_1255 (by decide +kernel) ⟨Nat.le_of_ble_eq_true rfl, Nat.le_of_ble_eq_true rfl⟩ 36 8 rfl rfl (rfl) hl.1 rfl (Nat.le_of_ble_eq_true rfl) dX8_growthsAt_90 (fun r44 u H locs hw hP hD hS => ?_)
                    obtain ⟨v45, f46⟩ := u
                    obtain ⟨kV_v45, kF_f46, hIv45, hk0_v45, hk1_v45, hk7_v45, hk8_v45, hk9_v45, hk10_v45, hk31_v45, hk32_v45⟩ := hw
                    have hM_v45 : KV [] v45 v := KV.tr kV_v45 hM_v3 rfl
                    have hA_f46 : KF [13, 14, 27] f46 f := KF.tr kF_f46 hA_f3 rfl
                    have hP : va_P (dC, dI) vwCl (XW cy x0 x v45 f46) H := hP
                    have hD : va_D A (XW cy x0 x v45 f46) := hD
                    have hq0_v45 : v45 0 = (v 0) := hk0_v45.trans hq0_v3
                    have hq1_v45 : v45 1 = (v 1) := hk1_v45.trans hq1_v3
                    have hq7_v45 : v45 7 = (v 7) := hk7_v45.trans hq7_v3
                    have hq8_v45 : v45 8 = (v 8) := hk8_v45.trans hq8_v3
                    have hq9_v45 : v45 9 = (v 9) := hk9_v45.trans hq9_v3
                    have hq10_v45 : v45 10 = (v 10) := hk10_v45.trans hq10_v3
                    have hq31_v45 : v45 31 = (v 31) := hk31_v45.trans hq31_v3
                    have hq32_v45 : v45 32 = (v 32) := hk32_v45.trans hq32_v3
                    refine lv_istore (lv' := [(5, .int r44), (4, .int 0), (3, .int l3_3), (2, .int l2_3), (0, .ref (x 35)), (1, .int p1)]) hx hb dX8_growthsAt_93 hl (by decide) rfl (fun ls hl => ?_)
                    refine lv_iload_n hx hb dX8_growthsAt_95 rfl (lv_at hl 3 rfl) ?_
                    refine lv_aload_n hx hb dX8_growthsAt_96 rfl (lv_at hl 4 rfl) ?_
                    refine va_get (D := (dC, dI)) (ci := 8) (v := .ref (x 37)) (C := RX8) (T := TX8) (N := 7) hx hb hts inB_8 hown hE.1 hP 36 rfl rfl 2 (by decide) (hts _ k_469) (fun _ h9 => h9) rfl dX8_growthsAt_97 ?_
                    refine lv_iload_n hx hb dX8_growthsAt_100 rfl (lv_at hl 2 rfl) ?_
                    refine ldZ hx hb hE hP 38 rfl (vp_in_iff.mpr ⟨by omega, by omega⟩) rfl rfl dX8_growthsAt_101 ?_
                    refine lv_topi (fun t47 et47 => ?_)
                    refine lv_if_eq (tgt := 110) hx hb dX8_growthsAt_102 (by decide) (fun c48 => ?_) (fun c48 => ?_)
                    · skip
                      have zc48 : t47.toInt = 0 := by rw [fa_eq, show (0 : Int32).toInt = 0 from by decide] at c48; exact c48
                      refine lv_iload hx hb dX8_growthsAt_110 (lv_at hl 0 rfl) ?_
                      refine lv_iconst (v := (-1)) hx hb dX8_growthsAt_112 (by decide) ?_
                      refine lv_ixor hx hb dX8_growthsAt_113 ?_
                      refine lv_topi (fun t49 et49 => ?_)
                      refine lv_iand hx hb dX8_growthsAt_114 ?_
                      refine lv_topi (fun t50 et50 => ?_)
                      refine lv_istore_n (lv' := [(2, .int t50), (5, .int r44), (4, .int 0), (3, .int l3_3), (0, .ref (x 35)), (1, .int p1)]) hx hb dX8_growthsAt_115 rfl hl (by decide) rfl (fun ls hl => ?_)
                      obtain ⟨t51, et51⟩ : ∃ y : Int32, y = l3_3 + 1 := ⟨_, rfl⟩
                      have zt51 : t51.toInt = l3_3.toInt + 1 := by rw [et51]; exact add_i rfl (by decide) (by omega) (by omega)
                      refine lv_iinc (v := t51) (lv' := [(3, .int t51), (2, .int t50), (5, .int r44), (4, .int 0), (0, .ref (x 35)), (1, .int p1)]) hx hb dX8_growthsAt_116 hl (k := 3) rfl (by rw [et51]; rfl) (by decide) rfl (fun ls hl => ?_)
                      refine lv_goto (tgt := 27) hx hb dX8_growthsAt_119 (by decide) ?_
                      have rg52 := fb_rng t51
                      exact ih3 t50 t51 v45 f46 hIv45 hq0_v45 hq1_v45 hq7_v45 hq8_v45 hq9_v45 hq10_v45 hq31_v45 hq32_v45 ⟨show (0 : Int) ≤ t51.toInt by omega, show t51.toInt ≤ (2147483647 : Int) by omega⟩ hM_v45 hA_f46 (by show (2147483647 - t51.toInt).toNat < n3; omega) _ _ _ hP hD hS (lv_sub hl [0, 1, 4, 5] rfl)
                    · skip
                      have zc48 : ¬ (t47.toInt = 0) := by rw [fa_eq, show (0 : Int32).toInt = 0 from by decide] at c48; exact c48
                      refine lv_iload hx hb dX8_growthsAt_105 (lv_at hl 0 rfl) ?_
                      refine lv_goto (tgt := 114) hx hb dX8_growthsAt_107 (by decide) ?_
                      refine lv_iand hx hb dX8_growthsAt_114 ?_
                      refine lv_topi (fun t53 et53 => ?_)
                      refine lv_istore_n (lv' := [(2, .int t53), (5, .int r44), (4, .int 0), (3, .int l3_3), (0, .ref (x 35)), (1, .int p1)]) hx hb dX8_growthsAt_115 rfl hl (by decide) rfl (fun ls hl => ?_)
                      obtain ⟨t54, et54⟩ : ∃ y : Int32, y = l3_3 + 1 := ⟨_, rfl⟩
                      have zt54 : t54.toInt = l3_3.toInt + 1 := by rw [et54]; exact add_i rfl (by decide) (by omega) (by omega)
                      refine lv_iinc (v := t54) (lv' := [(3, .int t54), (2, .int t53), (5, .int r44), (4, .int 0), (0, .ref (x 35)), (1, .int p1)]) hx hb dX8_growthsAt_116 hl (k := 3) rfl (by rw [et54]; rfl) (by decide) rfl (fun ls hl => ?_)
                      refine lv_goto (tgt := 27) hx hb dX8_growthsAt_119 (by decide) ?_
                      have rg55 := fb_rng t54
                      exact ih3 t53 t54 v45 f46 hIv45 hq0_v45 hq1_v45 hq7_v45 hq8_v45 hq9_v45 hq10_v45 hq31_v45 hq32_v45 ⟨show (0 : Int) ≤ t54.toInt by omega, show t54.toInt ≤ (2147483647 : Int) by omega⟩ hM_v45 hA_f46 (by show (2147483647 - t54.toInt).toNat < n3; omega) _ _ _ hP hD hS (lv_sub hl [0, 1, 4, 5] rfl)
                · skip
                  have zc34 : ¬ (p1.toInt < t33.toInt) := by rw [fa_lt] at c34; exact c34
                  have rg56 := fb_rng t33
                  have rg57 := fb_rng p1
                  refine lv_iconst (v := 1) hx hb dX8_growthsAt_61 (by decide) ?_
                  refine lv_goto (tgt := 66) hx hb dX8_growthsAt_62 (by decide) ?_
                  refine lv_istore (lv' := [(4, .int 1), (3, .int l3_3), (2, .int l2_3), (0, .ref (x 35)), (1, .int p1)]) hx hb dX8_growthsAt_66 hl (by decide) rfl (fun ls hl => ?_)
                  refine lv_aload_n hx hb dX8_growthsAt_68 rfl (lv_at hl 3 rfl) ?_
                  refine va_get (D := (dC, dI)) (ci := 8) (v := .ref (x 38)) (C := RX8) (T := TX8) (N := 7) hx hb hts inB_8 hown hE.1 hP 36 rfl rfl 3 (by decide) (hts _ k_470) (fun _ h9 => h9) rfl dX8_growthsAt_69 ?_
                  refine lv_iload_n hx hb dX8_growthsAt_72 rfl (lv_at hl 1 rfl) ?_
                  refine ldI hx hb hE hP 39 rfl (vp_in_iff.mpr ⟨by omega, by omega⟩) rfl rfl dX8_growthsAt_73 ?_
                  refine lv_topi (fun t58 et58 => ?_)
                  refine lv_iload_n hx hb dX8_growthsAt_74 rfl (lv_at hl 4 rfl) ?_
                  refine lv_icmp_gt (tgt := 116) hx hb dX8_growthsAt_75 (by decide) (fun c59 => ?_) (fun c59 => ?_)
                  · skip
                    have zc59 : p1.toInt < t58.toInt := by rw [fa_lt] at c59; exact c59
                    have rg60 := fb_rng t58
                    obtain ⟨t61, et61⟩ : ∃ y : Int32, y = l3_3 + 1 := ⟨_, rfl⟩
                    have zt61 : t61.toInt = l3_3.toInt + 1 := by rw [et61]; exact add_i rfl (by decide) (by omega) (by omega)
                    refine lv_iinc (v := t61) (lv' := [(3, .int t61), (4, .int 1), (2, .int l2_3), (0, .ref (x 35)), (1, .int p1)]) hx hb dX8_growthsAt_116 hl (k := 1) rfl (by rw [et61]; rfl) (by decide) rfl (fun ls hl => ?_)
                    refine lv_goto (tgt := 27) hx hb dX8_growthsAt_119 (by decide) ?_
                    have rg62 := fb_rng t61
                    exact ih3 l2_3 t61 v3 f3 hIv3 hq0_v3 hq1_v3 hq7_v3 hq8_v3 hq9_v3 hq10_v3 hq31_v3 hq32_v3 ⟨show (0 : Int) ≤ t61.toInt by omega, show t61.toInt ≤ (2147483647 : Int) by omega⟩ hM_v3 hA_f3 (by show (2147483647 - t61.toInt).toNat < n3; omega) _ _ _ hP hD hS (lv_sub hl [0, 2, 3, 4] rfl)
                  · skip
                    have zc59 : ¬ (p1.toInt < t58.toInt) := by rw [fa_lt] at c59; exact c59
                    have rg63 := fb_rng t58
                    refine lv_iload hx hb dX8_growthsAt_78 (lv_at hl 0 rfl) ?_
                    refine lv_if_ne (tgt := 116) hx hb dX8_growthsAt_80 (by decide) (fun _ => ?_) (fun c0 => absurd c0 (by decide))
                    obtain ⟨t64, et64⟩ : ∃ y : Int32, y = l3_3 + 1 := ⟨_, rfl⟩
                    have zt64 : t64.toInt = l3_3.toInt + 1 := by rw [et64]; exact add_i rfl (by decide) (by omega) (by omega)
                    refine lv_iinc (v := t64) (lv' := [(3, .int t64), (4, .int 1), (2, .int l2_3), (0, .ref (x 35)), (1, .int p1)]) hx hb dX8_growthsAt_116 hl (k := 1) rfl (by rw [et64]; rfl) (by decide) rfl (fun ls hl => ?_)
                    refine lv_goto (tgt := 27) hx hb dX8_growthsAt_119 (by decide) ?_
                    have rg65 := fb_rng t64
                    exact ih3 l2_3 t64 v3 f3 hIv3 hq0_v3 hq1_v3 hq7_v3 hq8_v3 hq9_v3 hq10_v3 hq31_v3 hq32_v3 ⟨show (0 : Int) ≤ t64.toInt by omega, show t64.toInt ≤ (2147483647 : Int) by omega⟩ hM_v3 hA_f3 (by show (2147483647 - t64.toInt).toNat < n3; omega) _ _ _ hP hD hS (lv_sub hl [0, 2, 3, 4] rfl)
      exact lp3 _ 2147483647 0 v f hIv rfl rfl rfl rfl rfl rfl rfl rfl ⟨by decide, by decide⟩ hM_v hA_f (Nat.lt_succ_self _) _ _ _ hP hD hS (lv_sub hl [0, 1, 2, 3] rfl)
    · skip
      have zc2 : (v 32).toInt = 0 := by rw [fa_eq, show (0 : Int32).toInt = 0 from by decide] at c2; exact c2
      refine lv_iconst (v := 0) hx hb dX8_growthsAt_20 (by decide) ?_
      exact ret 0 (v, f) _ _ _ _ _ _ rfl ⟨hM_v, hA_f, hIv, rfl, rfl, rfl, rfl, rfl, rfl, rfl, rfl⟩ hP hD hS dX8_growthsAt_21 (Nat.le_refl _) (Nat.le_refl _)
set_option maxHeartbeats 4000000 in
set_option maxRecDepth 100000 in
theorem sX_X10_growths_1 (l : Launch) (dC : Nat → ClassId) (dI : Nat → Nat → Nat) (cy : Nat → ClassId) (x0 : Nat) (x : Nat → Nat) (p1 : Int32) (v : Nat → Int32) (f : Nat → Nat → Int32) (hIv : XI v)  : ctI l (dC, dI) cy yX10_growths cX10_growths 2 .int 6 183 0 0 ((Nat → Int32) × (Nat → Nat → Int32)) [.ref x0, .int p1] (XW cy x0 x v f) (fun r u => KV [] u.1 v ∧ KF [13, 14, 27] u.2 f ∧ XI u.1 ∧ u.1 0 = v 0 ∧ u.1 1 = v 1 ∧ u.1 7 = v 7 ∧ u.1 8 = v 8 ∧ u.1 9 = v 9 ∧ u.1 10 = v 10 ∧ u.1 31 = v 31 ∧ u.1 32 = v 32) (fun u => XW cy x0 x u.1 u.2) := by
  refine ctI_of (by decide) (Nat.le_of_ble_eq_true rfl) (fun p e s m below meth c A ls Q hx hb hml hts hown hE hP hD hA hl ret => ?_)
  have hM_v : KV [] v v := fun _ _ => rfl
  have hA_f : KF [13, 14, 27] f f := fun _ _ => rfl
  have hown : s.vm.findClass RX10 = some m.cls := hown
  have hS : va_S A s.heap s.heap [] := va_S.rf
  have hl : lv_has ls 2 [(0, .ref x0), (1, .int p1)] := hl
  refine lv_aload_n hx hb dX10_growths_0 rfl (lv_at hl 0 rfl) ?_
  refine va_get (D := (dC, dI)) (ci := 10) (v := .ref (x 35)) (C := RX10) (T := TX10) (N := 10) hx hb hts inB_10 hown hE.1 hP 0 rfl rfl 8 (by decide) (hts _ k_499) (fun _ h9 => h9) rfl dX10_growths_1 ?_
  refine lv_iload_n hx hb dX10_growths_4 rfl (lv_at hl 1 rfl) ?_
  refine cbVi (n := 1) (rest := []) hx hb hml hown hts hE hP hD hS hA (sX_X8_growthsAt_1 l dC dI cy x0 x p1 v f hIv ) k_1247 k_1248 k_1249 k_112 k_1250 (by decide +kernel) ⟨Nat.le_of_ble_eq_true rfl, Nat.le_of_ble_eq_true rfl⟩ 36 8 rfl rfl (rfl) hl.1 rfl (Nat.le_of_ble_eq_true rfl) dX10_growths_5 (fun r1 u H locs hw hP hD hS => ?_)
  obtain ⟨v2, f3⟩ := u
  obtain ⟨kV_v2, kF_f3, hIv2, hk0_v2, hk1_v2, hk7_v2, hk8_v2, hk9_v2, hk10_v2, hk31_v2, hk32_v2⟩ := hw
  have hM_v2 : KV [] v2 v := KV.tr kV_v2 hM_v rfl
  have hA_f3 : KF [13, 14, 27] f3 f := KF.tr kF_f3 hA_f rfl
  have hP : va_P (dC, dI) vwCl (XW cy x0 x v2 f3) H := hP
  have hD : va_D A (XW cy x0 x v2 f3) := hD
  have hq0_v2 : v2 0 = (v 0) := hk0_v2
  have hq1_v2 : v2 1 = (v 1) := hk1_v2
  have hq7_v2 : v2 7 = (v 7) := hk7_v2
  have hq8_v2 : v2 8 = (v 8) := hk8_v2
  have hq9_v2 : v2 9 = (v 9) := hk9_v2
  have hq10_v2 : v2 10 = (v 10) := hk10_v2
  have hq31_v2 : v2 31 = (v 31) := hk31_v2
  have hq32_v2 : v2 32 = (v 32) := hk32_v2
  refine cbSi (n := 1) (rest := []) hx hb hml hown hts hE hP hD hS hA (sX_J6_bitCount_0f7a4_1 l dC dI cy x0 x r1 v2 f3 hIv2 ) k_1071 k_1043 k_121 k_1044 (by decide +kernel) ⟨Nat.le_of_ble_eq_true rfl, Nat.le_of_ble_eq_true rfl⟩ (rfl) hl.1 rfl (Nat.le_of_ble_eq_true rfl) dX10_growths_8 (fun r4 u H locs hw hP hD hS => ?_)
  exact ret r4 (v2, f3) _ _ _ _ _ _ rfl ⟨hM_v2, hA_f3, hIv2, hk0_v2, hk1_v2, hk7_v2, hk8_v2, hk9_v2, hk10_v2, hk31_v2, hk32_v2⟩ hP hD hS dX10_growths_11 (Nat.le_refl _) (Nat.le_refl _)
