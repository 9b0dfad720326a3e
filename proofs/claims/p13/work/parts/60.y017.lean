set_option maxHeartbeats 4000000 in
set_option maxRecDepth 100000 in
theorem sY_X11_begin_1 (NF : Nat) (l : Launch) (dC : Nat → ClassId) (dI : Nat → Nat → Nat) (cy : Nat → ClassId) (y0 : Nat) (r : Nat → Nat)  (v : Nat → Int32) (f : Nat → Nat → Int32) (w : Int64) (g : Nat → Int64) (hIv : YI v) (hCf : YC f) (hRf : progOK (f 4) (f 5) (v 9).toInt.toNat)  : ctV l (dC, dI) cy yX11_begin cX11_begin 2 1 60 0 0 ((Nat → Int32) × (Nat → Nat → Int32) × (Int64) × (Nat → Int64)) [.ref y0] (YW cy y0 r v f w g) (fun u => gsY_X11_begin_1 NF v f w g = u ∧ KV [] u.1 v ∧ KF [24] u.2.1 f ∧ YI u.1 ∧ YC u.2.1 ∧ progOK (u.2.1 4) (u.2.1 5) (u.1 9).toInt.toNat ∧ u.1 0 = v 0 ∧ u.1 1 = v 1 ∧ u.1 2 = v 2 ∧ u.1 3 = v 3 ∧ u.1 4 = v 4 ∧ u.1 5 = v 5 ∧ u.1 8 = v 8 ∧ u.1 9 = v 9 ∧ u.1 10 = v 10 ∧ u.1 13 = v 13 ∧ u.1 14 = v 14 ∧ u.1 15 = v 15 ∧ u.1 17 = v 17 ∧ u.1 18 = v 18 ∧ u.1 24 = v 24 ∧ u.1 25 = v 25 ∧ u.1 35 = v 35 ∧ u.1 36 = v 36 ∧ u.1 38 = v 38 ∧ u.1 39 = v 39) (fun u => YW cy y0 r u.1 u.2.1 u.2.2.1 u.2.2.2) := by
  refine ctV_of (by decide) (Nat.le_of_ble_eq_true rfl) (fun p e s m below meth c A ls Q hx hb hml hts hown hnm hE hP hD hA hl ret => ?_)
  have hUv : (v 35).toInt + (v 36).toInt ≤ 40 := hIv.2
  have hM_v : KV [] v v := fun _ _ => rfl
  have hA_f : KF [24] f f := fun _ _ => rfl
  have hown : s.vm.findClass RX11 = some m.cls := hown
  have hS : va_S A s.heap s.heap [] := va_S.rf
  have hl : lv_has ls 2 [(0, .ref y0)] := hl
  refine lv_iconst (v := 0) hx hb dX11_begin_0 (by decide) ?_
  refine lv_istore_n (lv' := [(1, .int 0), (0, .ref y0)]) hx hb dX11_begin_1 rfl hl (by decide) rfl (fun ls hl => ?_)
  have lp1 : ∀ (n1 : Nat) (l1_1 : Int32) (v1 : Nat → Int32) (f1 : Nat → Nat → Int32) (w1 : Int64) (g1 : Nat → Int64), YI v1 → YC f1 → progOK (f1 4) (f1 5) (v1 9).toInt.toNat → v1 0 = (v 0) → v1 1 = (v 1) → v1 2 = (v 2) → v1 3 = (v 3) → v1 4 = (v 4) → v1 5 = (v 5) → v1 8 = (v 8) → v1 9 = (v 9) → v1 10 = (v 10) → v1 13 = (v 13) → v1 14 = (v 14) → v1 15 = (v 15) → v1 17 = (v 17) → v1 18 = (v 18) → v1 24 = (v 24) → v1 25 = (v 25) → v1 35 = (v 35) → v1 36 = (v 36) → v1 38 = (v 38) → v1 39 = (v 39) → gsY_X11_begin_1_L1 NF v n1 l1_1 v1 f1 w1 g1 = (gsY_X11_begin_1 NF v f w g) → ((0 : Int) ≤ l1_1.toInt ∧ l1_1.toInt ≤ 2147483647) → KV [] v1 v → KF [24] f1 f → (2147483647 - l1_1.toInt).toNat < n1 → ∀ (H : Heap) (locs : List Loc) (ls : Array Slot), va_P (dC, dI) vwCl (YW cy y0 r v1 f1 w1 g1) H → va_D A (YW cy y0 r v1 f1 w1 g1) → va_S A s.heap H locs → lv_has ls 2 [(1, .int l1_1), (0, .ref y0)] → W p l e { frames := 1, cells := 0, slots := 0, locals := 60 } s m ([.ref y0] : List Value).toArray below meth c H locs 0 0 Q (F0 m 2 ls []) := by
    intro n1
    induction n1 with
    | zero => intro l1_1 v1 f1 w1 g1 hIv1 hCf1 hRf1 hq0_v1 hq1_v1 hq2_v1 hq3_v1 hq4_v1 hq5_v1 hq8_v1 hq9_v1 hq10_v1 hq13_v1 hq14_v1 hq15_v1 hq17_v1 hq18_v1 hq24_v1 hq25_v1 hq35_v1 hq36_v1 hq38_v1 hq39_v1 hT1 hr1_1 hM_v1 hA_f1 hm; exact absurd hm (Nat.not_lt_zero _)
    | succ n1 ih1 =>
      intro l1_1 v1 f1 w1 g1 hIv1 hCf1 hRf1 hq0_v1 hq1_v1 hq2_v1 hq3_v1 hq4_v1 hq5_v1 hq8_v1 hq9_v1 hq10_v1 hq13_v1 hq14_v1 hq15_v1 hq17_v1 hq18_v1 hq24_v1 hq25_v1 hq35_v1 hq36_v1 hq38_v1 hq39_v1 hT1 hr1_1 hM_v1 hA_f1 hm1 H locs ls hP hD hS hl
      have hUv1 : (v1 35).toInt + (v1 36).toInt ≤ 40 := hIv1.2
      have zq9_v1 := congrArg Int32.toInt hq9_v1
      refine lv_iload_n hx hb dX11_begin_2 rfl (lv_at hl 0 rfl) ?_
      refine lv_bipush (v := 39) hx hb dX11_begin_3 (by decide) ?_
      refine lv_icmp_ge (tgt := 21) hx hb dX11_begin_5 (by decide) (fun c2 => ?_) (fun c2 => ?_)
      · skip
        have zc2 : 39 ≤ l1_1.toInt := by rw [fa_le, show (39 : Int32).toInt = 39 from by decide] at c2; exact c2
        refine lv_iconst (v := 0) hx hb dX11_begin_21 (by decide) ?_
        refine lv_istore_n (lv' := [(1, .int 0), (0, .ref y0)]) hx hb dX11_begin_22 rfl hl (by decide) rfl (fun ls hl => ?_)
        have lp3 : ∀ (n3 : Nat) (l1_3 : Int32) (v3 : Nat → Int32) (f3 : Nat → Nat → Int32) (w3 : Int64) (g3 : Nat → Int64), YI v3 → YC f3 → progOK (f3 4) (f3 5) (v3 9).toInt.toNat → v3 0 = (v 0) → v3 1 = (v 1) → v3 2 = (v 2) → v3 3 = (v 3) → v3 4 = (v 4) → v3 5 = (v 5) → v3 8 = (v 8) → v3 9 = (v 9) → v3 10 = (v 10) → v3 13 = (v 13) → v3 14 = (v 14) → v3 15 = (v 15) → v3 17 = (v 17) → v3 18 = (v 18) → v3 24 = (v 24) → v3 25 = (v 25) → v3 35 = (v 35) → v3 36 = (v 36) → v3 38 = (v 38) → v3 39 = (v 39) → gsY_X11_begin_1_L3 NF v n3 l1_3 v3 f3 w3 g3 = (gsY_X11_begin_1 NF v f w g) → ((0 : Int) ≤ l1_3.toInt ∧ l1_3.toInt ≤ 2147483647) → KV [] v3 v → KF [24] f3 f → (2147483647 - l1_3.toInt).toNat < n3 → ∀ (H : Heap) (locs : List Loc) (ls : Array Slot), va_P (dC, dI) vwCl (YW cy y0 r v3 f3 w3 g3) H → va_D A (YW cy y0 r v3 f3 w3 g3) → va_S A s.heap H locs → lv_has ls 2 [(1, .int l1_3), (0, .ref y0)] → W p l e { frames := 1, cells := 0, slots := 0, locals := 60 } s m ([.ref y0] : List Value).toArray below meth c H locs 0 0 Q (F0 m 23 ls []) := by
          intro n3
          induction n3 with
          | zero => intro l1_3 v3 f3 w3 g3 hIv3 hCf3 hRf3 hq0_v3 hq1_v3 hq2_v3 hq3_v3 hq4_v3 hq5_v3 hq8_v3 hq9_v3 hq10_v3 hq13_v3 hq14_v3 hq15_v3 hq17_v3 hq18_v3 hq24_v3 hq25_v3 hq35_v3 hq36_v3 hq38_v3 hq39_v3 hT3 hr1_3 hM_v3 hA_f3 hm; exact absurd hm (Nat.not_lt_zero _)
          | succ n3 ih3 =>
            intro l1_3 v3 f3 w3 g3 hIv3 hCf3 hRf3 hq0_v3 hq1_v3 hq2_v3 hq3_v3 hq4_v3 hq5_v3 hq8_v3 hq9_v3 hq10_v3 hq13_v3 hq14_v3 hq15_v3 hq17_v3 hq18_v3 hq24_v3 hq25_v3 hq35_v3 hq36_v3 hq38_v3 hq39_v3 hT3 hr1_3 hM_v3 hA_f3 hm3 H locs ls hP hD hS hl
            have hUv3 : (v3 35).toInt + (v3 36).toInt ≤ 40 := hIv3.2
            have zq9_v3 := congrArg Int32.toInt hq9_v3
            refine lv_iload_n hx hb dX11_begin_23 rfl (lv_at hl 0 rfl) ?_
            refine lv_aload_n hx hb dX11_begin_24 rfl (lv_at hl 1 rfl) ?_
            refine va_get (D := (dC, dI)) (ci := 11) (v := .int (v3 24)) (C := RX11) (T := TX11) (N := 79) hx hb hts inB_11 hown hE.1 hP 0 rfl rfl 48 (by decide) (hts _ k_1368) (fun _ h9 => h9) rfl dX11_begin_25 ?_
            refine tI (y := (v 24)) hq24_v3 ?_
            have b24_v : 0 ≤ (v 24).toInt ∧ (v 24).toInt ≤ 6 := YIb.b hIv.1 24 (by decide)
            refine lv_icmp_ge (tgt := 59) hx hb dX11_begin_28 (by decide) (fun c4 => ?_) (fun c4 => ?_)
            · skip
              have zc4 : (v 24).toInt ≤ l1_3.toInt := by rw [fa_le] at c4; exact c4
              have rg5 := fb_rng l1_3
              have rg6 := fb_rng (v 24)
              refine lv_iconst (v := 0) hx hb dX11_begin_59 (by decide) ?_
              refine lv_istore_n (lv' := [(1, .int 0), (0, .ref y0)]) hx hb dX11_begin_60 rfl hl (by decide) rfl (fun ls hl => ?_)
              have lp7 : ∀ (n7 : Nat) (l1_7 : Int32) (v7 : Nat → Int32) (f7 : Nat → Nat → Int32) (w7 : Int64) (g7 : Nat → Int64), YI v7 → YC f7 → progOK (f7 4) (f7 5) (v7 9).toInt.toNat → v7 0 = (v 0) → v7 1 = (v 1) → v7 2 = (v 2) → v7 3 = (v 3) → v7 4 = (v 4) → v7 5 = (v 5) → v7 8 = (v 8) → v7 9 = (v 9) → v7 10 = (v 10) → v7 13 = (v 13) → v7 14 = (v 14) → v7 15 = (v 15) → v7 17 = (v 17) → v7 18 = (v 18) → v7 24 = (v 24) → v7 25 = (v 25) → v7 35 = (v 35) → v7 36 = (v 36) → v7 38 = (v 38) → v7 39 = (v 39) → gsY_X11_begin_1_L7 NF v n7 l1_7 v7 f7 w7 g7 = (gsY_X11_begin_1 NF v f w g) → ((0 : Int) ≤ l1_7.toInt ∧ l1_7.toInt ≤ 2147483647) → KV [] v7 v → KF [24] f7 f → (2147483647 - l1_7.toInt).toNat < n7 → ∀ (H : Heap) (locs : List Loc) (ls : Array Slot), va_P (dC, dI) vwCl (YW cy y0 r v7 f7 w7 g7) H → va_D A (YW cy y0 r v7 f7 w7 g7) → va_S A s.heap H locs → lv_has ls 2 [(1, .int l1_7), (0, .ref y0)] → W p l e { frames := 1, cells := 0, slots := 0, locals := 60 } s m ([.ref y0] : List Value).toArray below meth c H locs 0 0 Q (F0 m 61 ls []) := by
                intro n7
                induction n7 with
                | zero => intro l1_7 v7 f7 w7 g7 hIv7 hCf7 hRf7 hq0_v7 hq1_v7 hq2_v7 hq3_v7 hq4_v7 hq5_v7 hq8_v7 hq9_v7 hq10_v7 hq13_v7 hq14_v7 hq15_v7 hq17_v7 hq18_v7 hq24_v7 hq25_v7 hq35_v7 hq36_v7 hq38_v7 hq39_v7 hT7 hr1_7 hM_v7 hA_f7 hm; exact absurd hm (Nat.not_lt_zero _)
                | succ n7 ih7 =>
                  intro l1_7 v7 f7 w7 g7 hIv7 hCf7 hRf7 hq0_v7 hq1_v7 hq2_v7 hq3_v7 hq4_v7 hq5_v7 hq8_v7 hq9_v7 hq10_v7 hq13_v7 hq14_v7 hq15_v7 hq17_v7 hq18_v7 hq24_v7 hq25_v7 hq35_v7 hq36_v7 hq38_v7 hq39_v7 hT7 hr1_7 hM_v7 hA_f7 hm7 H locs ls hP hD hS hl
                  have hUv7 : (v7 35).toInt + (v7 36).toInt ≤ 40 := hIv7.2
                  have zq9_v7 := congrArg Int32.toInt hq9_v7
                  refine lv_iload_n hx hb dX11_begin_61 rfl (lv_at hl 0 rfl) ?_
                  refine lv_aload_n hx hb dX11_begin_62 rfl (lv_at hl 1 rfl) ?_
                  refine va_get (D := (dC, dI)) (ci := 11) (v := .int (v7 25)) (C := RX11) (T := TX11) (N := 79) hx hb hts inB_11 hown hE.1 hP 0 rfl rfl 49 (by decide) (hts _ k_1369) (fun _ h9 => h9) rfl dX11_begin_63 ?_
                  refine tI (y := (v 25)) hq25_v7 ?_
                  have b25_v : 0 ≤ (v 25).toInt ∧ (v 25).toInt ≤ 6 := YIb.b hIv.1 25 (by decide)
                  refine lv_icmp_ge (tgt := 135) hx hb dX11_begin_66 (by decide) (fun c8 => ?_) (fun c8 => ?_)
                  · skip
                    have zc8 : (v 25).toInt ≤ l1_7.toInt := by rw [fa_le] at c8; exact c8
                    have rg9 := fb_rng l1_7
                    have rg10 := fb_rng (v 25)
                    exact ret (v7, f7, w7, g7) _ _ _ _ _ _ ⟨(hT7.symm.trans (gsY_X11_begin_1_q0 c8)), hM_v7, hA_f7, hIv7, hCf7, hRf7, hq0_v7, hq1_v7, hq2_v7, hq3_v7, hq4_v7, hq5_v7, hq8_v7, hq9_v7, hq10_v7, hq13_v7, hq14_v7, hq15_v7, hq17_v7, hq18_v7, hq24_v7, hq25_v7, hq35_v7, hq36_v7, hq38_v7, hq39_v7⟩ hP hD hS dX11_begin_135 (Nat.le_refl _) (Nat.le_refl _)
                  · skip
                    have zc8 : ¬ ((v 25).toInt ≤ l1_7.toInt) := by rw [fa_le] at c8; exact c8
                    have rg11 := fb_rng l1_7
                    have rg12 := fb_rng (v 25)
                    refine lv_aload_n hx hb dX11_begin_69 rfl (lv_at hl 1 rfl) ?_
                    refine va_get (D := (dC, dI)) (ci := 11) (v := .ref (r 60)) (C := RX11) (T := TX11) (N := 79) hx hb hts inB_11 hown hE.1 hP 0 rfl rfl 60 (by decide) (hts _ k_1380) (fun _ h9 => h9) rfl dX11_begin_70 ?_
                    refine lv_bipush (v := 12) hx hb dX11_begin_73 (by decide) ?_
                    refine lv_iload_n hx hb dX11_begin_75 rfl (lv_at hl 0 rfl) ?_
                    refine lv_iadd hx hb dX11_begin_76 ?_
                    refine lv_topi (fun t13 et13 => ?_)
                    have zt13 : t13.toInt = 12 + l1_7.toInt := by rw [et13]; exact add_i (by decide) rfl (by omega) (by omega)
                    refine lv_aload_n hx hb dX11_begin_77 rfl (lv_at hl 1 rfl) ?_
                    refine va_get (D := (dC, dI)) (ci := 11) (v := .ref (r 37)) (C := RX11) (T := TX11) (N := 79) hx hb hts inB_11 hown hE.1 hP 0 rfl rfl 37 (by decide) (hts _ k_1357) (fun _ h9 => h9) rfl dX11_begin_78 ?_
                    refine lv_iload_n hx hb dX11_begin_81 rfl (lv_at hl 0 rfl) ?_
                    refine ldI hx hb hE hP 20 rfl (vp_in_iff.mpr ⟨by omega, by omega⟩) rfl rfl dX11_begin_82 ?_
                    refine lv_topi (fun t14 et14 => ?_)
                    refine stI hx hb hE hP hD hS 25 rfl (vp_in_iff.mpr ⟨by omega, by omega⟩) rfl dX11_begin_83 (fun H locs hP hD hS => ?_)
                    obtain ⟨f15, ef15, hP, hD⟩ : ∃ fz9, fz9 = upd2 f7 24 (upd (f7 24) t13.toNatClampNeg t14) ∧ va_P (dC, dI) vwCl (YW cy y0 r v7 fz9 w7 g7) H ∧ va_D A (YW cy y0 r v7 fz9 w7 g7) := ⟨_, rfl, hP, hD⟩
                    have hCf15 : YC f15 := by rw [ef15]; exact ⟨hCf7.1, (wear_st hCf7.2.1 (by show t13.toInt.toNat % 39 < 6 ∨ 12 ≤ t13.toInt.toNat % 39 ∨ (-1 ≤ t14.toInt ∧ t14.toInt ≤ 5); omega)), hCf7.2.2.1, hCf7.2.2.2.1, hCf7.2.2.2.2.1, hCf7.2.2.2.2.2⟩
                    have hRf15 : progOK (f15 4) (f15 5) (v7 9).toInt.toNat := by rw [ef15]; exact hRf7
                    have hA_f15 : KF [24] f15 f := by rw [ef15]; exact KF.up hA_f7 rfl
                    refine lv_aload_n hx hb dX11_begin_84 rfl (lv_at hl 1 rfl) ?_
                    refine va_get (D := (dC, dI)) (ci := 11) (v := .ref (r 60)) (C := RX11) (T := TX11) (N := 79) hx hb hts inB_11 hown hE.1 hP 0 rfl rfl 60 (by decide) (hts _ k_1380) (fun _ h9 => h9) rfl dX11_begin_85 ?_
                    refine lv_bipush (v := 18) hx hb dX11_begin_88 (by decide) ?_
                    refine lv_iload_n hx hb dX11_begin_90 rfl (lv_at hl 0 rfl) ?_
                    refine lv_iadd hx hb dX11_begin_91 ?_
                    refine lv_topi (fun t16 et16 => ?_)
                    have zt16 : t16.toInt = 18 + l1_7.toInt := by rw [et16]; exact add_i (by decide) rfl (by omega) (by omega)
                    refine lv_aload_n hx hb dX11_begin_92 rfl (lv_at hl 1 rfl) ?_
                    refine va_get (D := (dC, dI)) (ci := 11) (v := .ref (r 38)) (C := RX11) (T := TX11) (N := 79) hx hb hts inB_11 hown hE.1 hP 0 rfl rfl 38 (by decide) (hts _ k_1358) (fun _ h9 => h9) rfl dX11_begin_93 ?_
                    refine lv_iload_n hx hb dX11_begin_96 rfl (lv_at hl 0 rfl) ?_
                    refine ldI hx hb hE hP 21 rfl (vp_in_iff.mpr ⟨by omega, by omega⟩) rfl rfl dX11_begin_97 ?_
                    refine lv_topi (fun t17 et17 => ?_)
                    refine stI hx hb hE hP hD hS 25 rfl (vp_in_iff.mpr ⟨by omega, by omega⟩) rfl dX11_begin_98 (fun H locs hP hD hS => ?_)
                    obtain ⟨f18, ef18, hP, hD⟩ : ∃ fz9, fz9 = upd2 f15 24 (upd (f15 24) t16.toNatClampNeg t17) ∧ va_P (dC, dI) vwCl (YW cy y0 r v7 fz9 w7 g7) H ∧ va_D A (YW cy y0 r v7 fz9 w7 g7) := ⟨_, rfl, hP, hD⟩
                    have hCf18 : YC f18 := by rw [ef18]; exact ⟨hCf15.1, (wear_st hCf15.2.1 (by show t16.toInt.toNat % 39 < 6 ∨ 12 ≤ t16.toInt.toNat % 39 ∨ (-1 ≤ t17.toInt ∧ t17.toInt ≤ 5); omega)), hCf15.2.2.1, hCf15.2.2.2.1, hCf15.2.2.2.2.1, hCf15.2.2.2.2.2⟩
                    have hRf18 : progOK (f18 4) (f18 5) (v7 9).toInt.toNat := by rw [ef18]; exact hRf15
                    have hA_f18 : KF [24] f18 f := by rw [ef18]; exact KF.up hA_f15 rfl
                    refine lv_aload_n hx hb dX11_begin_99 rfl (lv_at hl 1 rfl) ?_
                    refine va_get (D := (dC, dI)) (ci := 11) (v := .ref (r 60)) (C := RX11) (T := TX11) (N := 79) hx hb hts inB_11 hown hE.1 hP 0 rfl rfl 60 (by decide) (hts _ k_1380) (fun _ h9 => h9) rfl dX11_begin_100 ?_
                    refine lv_bipush (v := 24) hx hb dX11_begin_103 (by decide) ?_
                    refine lv_iload_n hx hb dX11_begin_105 rfl (lv_at hl 0 rfl) ?_
                    refine lv_iadd hx hb dX11_begin_106 ?_
                    refine lv_topi (fun t19 et19 => ?_)
                    have zt19 : t19.toInt = 24 + l1_7.toInt := by rw [et19]; exact add_i (by decide) rfl (by omega) (by omega)
                    refine lv_aload_n hx hb dX11_begin_107 rfl (lv_at hl 1 rfl) ?_
                    refine va_get (D := (dC, dI)) (ci := 11) (v := .ref (r 39)) (C := RX11) (T := TX11) (N := 79) hx hb hts inB_11 hown hE.1 hP 0 rfl rfl 39 (by decide) (hts _ k_1359) (fun _ h9 => h9) rfl dX11_begin_108 ?_
                    refine lv_iload_n hx hb dX11_begin_111 rfl (lv_at hl 0 rfl) ?_
                    refine ldI hx hb hE hP 22 rfl (vp_in_iff.mpr ⟨by omega, by omega⟩) rfl rfl dX11_begin_112 ?_
                    refine lv_topi (fun t20 et20 => ?_)
                    refine stI hx hb hE hP hD hS 25 rfl (vp_in_iff.mpr ⟨by omega, by omega⟩) rfl dX11_begin_113 (fun H locs hP hD hS => ?_)
                    obtain ⟨f21, ef21, hP, hD⟩ : ∃ fz9, fz9 = upd2 f18 24 (upd (f18 24) t19.toNatClampNeg t20) ∧ va_P (dC, dI) vwCl (YW cy y0 r v7 fz9 w7 g7) H ∧ va_D A (YW cy y0 r v7 fz9 w7 g7) := ⟨_, rfl, hP, hD⟩
                    have hCf21 : YC f21 := by rw [ef21]; exact ⟨hCf18.1, (wear_st hCf18.2.1 (by show t19.toInt.toNat % 39 < 6 ∨ 12 ≤ t19.toInt.toNat % 39 ∨ (-1 ≤ t20.toInt ∧ t20.toInt ≤ 5); omega)), hCf18.2.2.1, hCf18.2.2.2.1, hCf18.2.2.2.2.1, hCf18.2.2.2.2.2⟩
                    have hRf21 : progOK (f21 4) (f21 5) (v7 9).toInt.toNat := by rw [ef21]; exact hRf18
                    have hA_f21 : KF [24] f21 f := by rw [ef21]; exact KF.up hA_f18 rfl
                    refine lv_aload_n hx hb dX11_begin_114 rfl (lv_at hl 1 rfl) ?_
                    refine va_get (D := (dC, dI)) (ci := 11) (v := .ref (r 60)) (C := RX11) (T := TX11) (N := 79) hx hb hts inB_11 hown hE.1 hP 0 rfl rfl 60 (by decide) (hts _ k_1380) (fun _ h9 => h9) rfl dX11_begin_115 ?_
                    refine lv_bipush (v := 30) hx hb dX11_begin_118 (by decide) ?_
                    refine lv_iload_n hx hb dX11_begin_120 rfl (lv_at hl 0 rfl) ?_
                    refine lv_iadd hx hb dX11_begin_121 ?_
                    refine lv_topi (fun t22 et22 => ?_)
                    have zt22 : t22.toInt = 30 + l1_7.toInt := by rw [et22]; exact add_i (by decide) rfl (by omega) (by omega)
                    refine lv_aload_n hx hb dX11_begin_122 rfl (lv_at hl 1 rfl) ?_
                    refine va_get (D := (dC, dI)) (ci := 11) (v := .ref (r 40)) (C := RX11) (T := TX11) (N := 79) hx hb hts inB_11 hown hE.1 hP 0 rfl rfl 40 (by decide) (hts _ k_1360) (fun _ h9 => h9) rfl dX11_begin_123 ?_
                    refine lv_iload_n hx hb dX11_begin_126 rfl (lv_at hl 0 rfl) ?_
                    refine ldI hx hb hE hP 23 rfl (vp_in_iff.mpr ⟨by omega, by omega⟩) rfl rfl dX11_begin_127 ?_
                    refine lv_topi (fun t23 et23 => ?_)
                    refine stI hx hb hE hP hD hS 25 rfl (vp_in_iff.mpr ⟨by omega, by omega⟩) rfl dX11_begin_128 (fun H locs hP hD hS => ?_)
                    obtain ⟨f24, ef24, hP, hD⟩ : ∃ fz9, fz9 = upd2 f21 24 (upd (f21 24) t22.toNatClampNeg t23) ∧ va_P (dC, dI) vwCl (YW cy y0 r v7 fz9 w7 g7) H ∧ va_D A (YW cy y0 r v7 fz9 w7 g7) := ⟨_, rfl, hP, hD⟩
                    have hCf24 : YC f24 := by rw [ef24]; exact ⟨hCf21.1, (wear_st hCf21.2.1 (by show t22.toInt.toNat % 39 < 6 ∨ 12 ≤ t22.toInt.toNat % 39 ∨ (-1 ≤ t23.toInt ∧ t23.toInt ≤ 5); omega)), hCf21.2.2.1, hCf21.2.2.2.1, hCf21.2.2.2.2.1, hCf21.2.2.2.2.2⟩
                    have hRf24 : progOK (f24 4) (f24 5) (v7 9).toInt.toNat := by rw [ef24]; exact hRf21
                    have hA_f24 : KF [24] f24 f := by rw [ef24]; exact KF.up hA_f21 rfl
                    obtain ⟨t25, et25⟩ : ∃ y : Int32, y = l1_7 + 1 := ⟨_, rfl⟩
                    have zt25 : t25.toInt = l1_7.toInt + 1 := by rw [et25]; exact add_i rfl (by decide) (by omega) (by omega)
                    refine lv_iinc (v := t25) (lv' := [(1, .int t25), (0, .ref y0)]) hx hb dX11_begin_129 hl (k := 0) rfl (by rw [et25]; rfl) (by decide) rfl (fun ls hl => ?_)
                    refine lv_goto (tgt := 61) hx hb dX11_begin_132 (by decide) ?_
                    have rg26 := fb_rng t25
                    exact ih7 t25 v7 f24 w7 g7 hIv7 hCf24 hRf24 hq0_v7 hq1_v7 hq2_v7 hq3_v7 hq4_v7 hq5_v7 hq8_v7 hq9_v7 hq10_v7 hq13_v7 hq14_v7 hq15_v7 hq17_v7 hq18_v7 hq24_v7 hq25_v7 hq35_v7 hq36_v7 hq38_v7 hq39_v7 ((gsY_X11_begin_1_q1 c8 et13 et14 ef15 et16 et17 ef18 et19 et20 ef21 et22 et23 ef24 et25).symm.trans hT7) ⟨show (0 : Int) ≤ t25.toInt by omega, show t25.toInt ≤ (2147483647 : Int) by omega⟩ hM_v7 hA_f24 (by show (2147483647 - t25.toInt).toNat < n7; omega) _ _ _ hP hD hS (lv_sub hl [0, 1] rfl)
              exact lp7 (4294967296 + NF) 0 v3 f3 w3 g3 hIv3 hCf3 hRf3 hq0_v3 hq1_v3 hq2_v3 hq3_v3 hq4_v3 hq5_v3 hq8_v3 hq9_v3 hq10_v3 hq13_v3 hq14_v3 hq15_v3 hq17_v3 hq18_v3 hq24_v3 hq25_v3 hq35_v3 hq36_v3 hq38_v3 hq39_v3 ((gsY_X11_begin_1_q2 c4).symm.trans hT3) ⟨by decide, by decide⟩ hM_v3 hA_f3 (by have q1 : (0 : Int32).toInt = 0 := (by decide); show (2147483647 - (0 : Int32).toInt).toNat < 4294967296 + NF; omega) _ _ _ hP hD hS (lv_sub hl [0, 1] rfl)
            · skip
              have zc4 : ¬ ((v 24).toInt ≤ l1_3.toInt) := by rw [fa_le] at c4; exact c4
              have rg27 := fb_rng l1_3
              have rg28 := fb_rng (v 24)
              refine lv_aload_n hx hb dX11_begin_31 rfl (lv_at hl 1 rfl) ?_
              refine va_get (D := (dC, dI)) (ci := 11) (v := .ref (r 60)) (C := RX11) (T := TX11) (N := 79) hx hb hts inB_11 hown hE.1 hP 0 rfl rfl 60 (by decide) (hts _ k_1380) (fun _ h9 => h9) rfl dX11_begin_32 ?_
              refine lv_iload_n hx hb dX11_begin_35 rfl (lv_at hl 0 rfl) ?_
              refine lv_aload_n hx hb dX11_begin_36 rfl (lv_at hl 1 rfl) ?_
              refine va_get (D := (dC, dI)) (ci := 11) (v := .ref (r 35)) (C := RX11) (T := TX11) (N := 79) hx hb hts inB_11 hown hE.1 hP 0 rfl rfl 35 (by decide) (hts _ k_1355) (fun _ h9 => h9) rfl dX11_begin_37 ?_
              refine lv_iload_n hx hb dX11_begin_40 rfl (lv_at hl 0 rfl) ?_
              refine ldI hx hb hE hP 18 rfl (vp_in_iff.mpr ⟨by omega, by omega⟩) rfl rfl dX11_begin_41 ?_
              refine lv_topi (fun t29 et29 => ?_)
              refine stI hx hb hE hP hD hS 25 rfl (vp_in_iff.mpr ⟨by omega, by omega⟩) rfl dX11_begin_42 (fun H locs hP hD hS => ?_)
              obtain ⟨f30, ef30, hP, hD⟩ : ∃ fz9, fz9 = upd2 f3 24 (upd (f3 24) l1_3.toNatClampNeg t29) ∧ va_P (dC, dI) vwCl (YW cy y0 r v3 fz9 w3 g3) H ∧ va_D A (YW cy y0 r v3 fz9 w3 g3) := ⟨_, rfl, hP, hD⟩
              have hCf30 : YC f30 := by rw [ef30]; exact ⟨hCf3.1, (wear_st hCf3.2.1 (by show l1_3.toInt.toNat % 39 < 6 ∨ 12 ≤ l1_3.toInt.toNat % 39 ∨ (-1 ≤ t29.toInt ∧ t29.toInt ≤ 5); omega)), hCf3.2.2.1, hCf3.2.2.2.1, hCf3.2.2.2.2.1, hCf3.2.2.2.2.2⟩
              have hRf30 : progOK (f30 4) (f30 5) (v3 9).toInt.toNat := by rw [ef30]; exact hRf3
              have hA_f30 : KF [24] f30 f := by rw [ef30]; exact KF.up hA_f3 rfl
              refine lv_aload_n hx hb dX11_begin_43 rfl (lv_at hl 1 rfl) ?_
              refine va_get (D := (dC, dI)) (ci := 11) (v := .ref (r 60)) (C := RX11) (T := TX11) (N := 79) hx hb hts inB_11 hown hE.1 hP 0 rfl rfl 60 (by decide) (hts _ k_1380) (fun _ h9 => h9) rfl dX11_begin_44 ?_
              refine lv_bipush (v := 6) hx hb dX11_begin_47 (by decide) ?_
              refine lv_iload_n hx hb dX11_begin_49 rfl (lv_at hl 0 rfl) ?_
              refine lv_iadd hx hb dX11_begin_50 ?_
              refine lv_topi (fun t31 et31 => ?_)
              have zt31 : t31.toInt = 6 + l1_3.toInt := by rw [et31]; exact add_i (by decide) rfl (by omega) (by omega)
              refine lv_iconst (v := (-1)) hx hb dX11_begin_51 (by decide) ?_
              refine stI hx hb hE hP hD hS 25 rfl (vp_in_iff.mpr ⟨by omega, by omega⟩) rfl dX11_begin_52 (fun H locs hP hD hS => ?_)
              obtain ⟨f32, ef32, hP, hD⟩ : ∃ fz9, fz9 = upd2 f30 24 (upd (f30 24) t31.toNatClampNeg (-1)) ∧ va_P (dC, dI) vwCl (YW cy y0 r v3 fz9 w3 g3) H ∧ va_D A (YW cy y0 r v3 fz9 w3 g3) := ⟨_, rfl, hP, hD⟩
              have hCf32 : YC f32 := by rw [ef32]; exact ⟨hCf30.1, (wear_st hCf30.2.1 (by have q9 : ((-1) : Int32).toInt = -1 := (by decide); show t31.toInt.toNat % 39 < 6 ∨ 12 ≤ t31.toInt.toNat % 39 ∨ (-1 ≤ ((-1) : Int32).toInt ∧ ((-1) : Int32).toInt ≤ 5); omega)), hCf30.2.2.1, hCf30.2.2.2.1, hCf30.2.2.2.2.1, hCf30.2.2.2.2.2⟩
              have hRf32 : progOK (f32 4) (f32 5) (v3 9).toInt.toNat := by rw [ef32]; exact hRf30
              have hA_f32 : KF [24] f32 f := by rw [ef32]; exact KF.up hA_f30 rfl
              obtain ⟨t33, et33⟩ : ∃ y : Int32, y = l1_3 + 1 := ⟨_, rfl⟩
              have zt33 : t33.toInt = l1_3.toInt + 1 := by rw [et33]; exact add_i rfl (by decide) (by omega) (by omega)
              refine lv_iinc (v := t33) (lv' := [(1, .int t33), (0, .ref y0)]) hx hb dX11_begin_53 hl (k := 0) rfl (by rw [et33]; rfl) (by decide) rfl (fun ls hl => ?_)
              refine lv_goto (tgt := 23) hx hb dX11_begin_56 (by decide) ?_
              have rg34 := fb_rng t33
              exact ih3 t33 v3 f32 w3 g3 hIv3 hCf32 hRf32 hq0_v3 hq1_v3 hq2_v3 hq3_v3 hq4_v3 hq5_v3 hq8_v3 hq9_v3 hq10_v3 hq13_v3 hq14_v3 hq15_v3 hq17_v3 hq18_v3 hq24_v3 hq25_v3 hq35_v3 hq36_v3 hq38_v3 hq39_v3 ((gsY_X11_begin_1_q3 c4 et29 ef30 et31 ef32 et33).symm.trans hT3) ⟨show (0 : Int) ≤ t33.toInt by omega, show t33.toInt ≤ (2147483647 : Int) by omega⟩ hM_v3 hA_f32 (by show (2147483647 - t33.toInt).toNat < n3; omega) _ _ _ hP hD hS (lv_sub hl [0, 1] rfl)
        exact lp3 (4294967296 + NF) 0 v1 f1 w1 g1 hIv1 hCf1 hRf1 hq0_v1 hq1_v1 hq2_v1 hq3_v1 hq4_v1 hq5_v1 hq8_v1 hq9_v1 hq10_v1 hq13_v1 hq14_v1 hq15_v1 hq17_v1 hq18_v1 hq24_v1 hq25_v1 hq35_v1 hq36_v1 hq38_v1 hq39_v1 ((gsY_X11_begin_1_q4 c2).symm.trans hT1) ⟨by decide, by decide⟩ hM_v1 hA_f1 (by have q1 : (0 : Int32).toInt = 0 := (by decide); show (2147483647 - (0 : Int32).toInt).toNat < 4294967296 + NF; omega) _ _ _ hP hD hS (lv_sub hl [0, 1] rfl)
      · skip
        have zc2 : ¬ (39 ≤ l1_1.toInt) := by rw [fa_le, show (39 : Int32).toInt = 39 from by decide] at c2; exact c2
        refine lv_aload_n hx hb dX11_begin_8 rfl (lv_at hl 1 rfl) ?_
        refine va_get (D := (dC, dI)) (ci := 11) (v := .ref (r 60)) (C := RX11) (T := TX11) (N := 79) hx hb hts inB_11 hown hE.1 hP 0 rfl rfl 60 (by decide) (hts _ k_1380) (fun _ h9 => h9) rfl dX11_begin_9 ?_
        refine lv_iload_n hx hb dX11_begin_12 rfl (lv_at hl 0 rfl) ?_
        refine lv_iconst (v := 0) hx hb dX11_begin_13 (by decide) ?_
        refine stI hx hb hE hP hD hS 25 rfl (vp_in_iff.mpr ⟨by omega, by omega⟩) rfl dX11_begin_14 (fun H locs hP hD hS => ?_)
        obtain ⟨f35, ef35, hP, hD⟩ : ∃ fz9, fz9 = upd2 f1 24 (upd (f1 24) l1_1.toNatClampNeg 0) ∧ va_P (dC, dI) vwCl (YW cy y0 r v1 fz9 w1 g1) H ∧ va_D A (YW cy y0 r v1 fz9 w1 g1) := ⟨_, rfl, hP, hD⟩
        have hCf35 : YC f35 := by rw [ef35]; exact ⟨hCf1.1, (wear_st hCf1.2.1 (by have q9 : (0 : Int32).toInt = 0 := (by decide); show l1_1.toInt.toNat % 39 < 6 ∨ 12 ≤ l1_1.toInt.toNat % 39 ∨ (-1 ≤ (0 : Int32).toInt ∧ (0 : Int32).toInt ≤ 5); omega)), hCf1.2.2.1, hCf1.2.2.2.1, hCf1.2.2.2.2.1, hCf1.2.2.2.2.2⟩
        have hRf35 : progOK (f35 4) (f35 5) (v1 9).toInt.toNat := by rw [ef35]; exact hRf1
        have hA_f35 : KF [24] f35 f := by rw [ef35]; exact KF.up hA_f1 rfl
        obtain ⟨t36, et36⟩ : ∃ y : Int32, y = l1_1 + 1 := ⟨_, rfl⟩
        have rg37 := fb_rng l1_1
        have zt36 : t36.toInt = l1_1.toInt + 1 := by rw [et36]; exact add_i rfl (by decide) (by omega) (by omega)
        refine lv_iinc (v := t36) (lv' := [(1, .int t36), (0, .ref y0)]) hx hb dX11_begin_15 hl (k := 0) rfl (by rw [et36]; rfl) (by decide) rfl (fun ls hl => ?_)
        refine lv_goto (tgt := 2) hx hb dX11_begin_18 (by decide) ?_
        have rg38 := fb_rng t36
        exact ih1 t36 v1 f35 w1 g1 hIv1 hCf35 hRf35 hq0_v1 hq1_v1 hq2_v1 hq3_v1 hq4_v1 hq5_v1 hq8_v1 hq9_v1 hq10_v1 hq13_v1 hq14_v1 hq15_v1 hq17_v1 hq18_v1 hq24_v1 hq25_v1 hq35_v1 hq36_v1 hq38_v1 hq39_v1 ((gsY_X11_begin_1_q5 c2 ef35 et36).symm.trans hT1) ⟨show (0 : Int) ≤ t36.toInt by omega, show t36.toInt ≤ (2147483647 : Int) by omega⟩ hM_v1 hA_f35 (by show (2147483647 - t36.toInt).toNat < n1; omega) _ _ _ hP hD hS (lv_sub hl [0, 1] rfl)
  exact lp1 (4294967296 + NF) 0 v f w g hIv hCf hRf rfl rfl rfl rfl rfl rfl rfl rfl rfl rfl rfl rfl rfl rfl rfl rfl rfl rfl rfl rfl gsY_X11_begin_1_q6.symm ⟨by decide, by decide⟩ hM_v hA_f (by have q1 : (0 : Int32).toInt = 0 := (by decide); show (2147483647 - (0 : Int32).toInt).toNat < 4294967296 + NF; omega) _ _ _ hP hD hS (lv_sub hl [0, 1] rfl)
set_option maxHeartbeats 4000000 in
set_option maxRecDepth 100000 in
theorem sY_X11_keepAir_1 (NF : Nat) (l : Launch) (dC : Nat → ClassId) (dI : Nat → Nat → Nat) (cy : Nat → ClassId) (y0 : Nat) (r : Nat → Nat)  (v : Nat → Int32) (f : Nat → Nat → Int32) (w : Int64) (g : Nat → Int64) (hIv : YI v) (hCf : YC f) (hRf : progOK (f 4) (f 5) (v 9).toInt.toNat)  : ctV l (dC, dI) cy yX11_keepAir cX11_keepAir 2 1 60 0 0 ((Nat → Int32) × (Nat → Nat → Int32) × (Int64) × (Nat → Int64)) [.ref y0] (YW cy y0 r v f w g) (fun u => gsY_X11_keepAir_1 NF v f w g = u ∧ KV [] u.1 v ∧ KF [23] u.2.1 f ∧ YI u.1 ∧ YC u.2.1 ∧ progOK (u.2.1 4) (u.2.1 5) (u.1 9).toInt.toNat ∧ u.1 0 = v 0 ∧ u.1 1 = v 1 ∧ u.1 2 = v 2 ∧ u.1 3 = v 3 ∧ u.1 4 = v 4 ∧ u.1 5 = v 5 ∧ u.1 8 = v 8 ∧ u.1 9 = v 9 ∧ u.1 10 = v 10 ∧ u.1 13 = v 13 ∧ u.1 14 = v 14 ∧ u.1 15 = v 15 ∧ u.1 17 = v 17 ∧ u.1 18 = v 18 ∧ u.1 24 = v 24 ∧ u.1 25 = v 25 ∧ u.1 35 = v 35 ∧ u.1 36 = v 36 ∧ u.1 38 = v 38 ∧ u.1 39 = v 39) (fun u => YW cy y0 r u.1 u.2.1 u.2.2.1 u.2.2.2) := by
  refine ctV_of (by decide) (Nat.le_of_ble_eq_true rfl) (fun p e s m below meth c A ls Q hx hb hml hts hown hnm hE hP hD hA hl ret => ?_)
  have hUv : (v 35).toInt + (v 36).toInt ≤ 40 := hIv.2
  have hM_v : KV [] v v := fun _ _ => rfl
  have hA_f : KF [23] f f := fun _ _ => rfl
  have hown : s.vm.findClass RX11 = some m.cls := hown
  have hS : va_S A s.heap s.heap [] := va_S.rf
  have hl : lv_has ls 2 [(0, .ref y0)] := hl
  refine lv_iconst (v := 0) hx hb dX11_keepAir_0 (by decide) ?_
  refine lv_istore_n (lv' := [(1, .int 0), (0, .ref y0)]) hx hb dX11_keepAir_1 rfl hl (by decide) rfl (fun ls hl => ?_)
  have lp1 : ∀ (n1 : Nat) (l1_1 : Int32) (v1 : Nat → Int32) (f1 : Nat → Nat → Int32) (w1 : Int64) (g1 : Nat → Int64), YI v1 → YC f1 → progOK (f1 4) (f1 5) (v1 9).toInt.toNat → v1 0 = (v 0) → v1 1 = (v 1) → v1 2 = (v 2) → v1 3 = (v 3) → v1 4 = (v 4) → v1 5 = (v 5) → v1 8 = (v 8) → v1 9 = (v 9) → v1 10 = (v 10) → v1 13 = (v 13) → v1 14 = (v 14) → v1 15 = (v 15) → v1 17 = (v 17) → v1 18 = (v 18) → v1 24 = (v 24) → v1 25 = (v 25) → v1 35 = (v 35) → v1 36 = (v 36) → v1 38 = (v 38) → v1 39 = (v 39) → gsY_X11_keepAir_1_L1 NF n1 l1_1 v1 f1 w1 g1 = (gsY_X11_keepAir_1 NF v f w g) → ((0 : Int) ≤ l1_1.toInt ∧ l1_1.toInt ≤ 2147483647) → KV [] v1 v → KF [23] f1 f → (2147483647 - l1_1.toInt).toNat < n1 → ∀ (H : Heap) (locs : List Loc) (ls : Array Slot), va_P (dC, dI) vwCl (YW cy y0 r v1 f1 w1 g1) H → va_D A (YW cy y0 r v1 f1 w1 g1) → va_S A s.heap H locs → lv_has ls 2 [(1, .int l1_1), (0, .ref y0)] → W p l e { frames := 1, cells := 0, slots := 0, locals := 60 } s m ([.ref y0] : List Value).toArray below meth c H locs 0 0 Q (F0 m 2 ls []) := by
    intro n1
    induction n1 with
    | zero => intro l1_1 v1 f1 w1 g1 hIv1 hCf1 hRf1 hq0_v1 hq1_v1 hq2_v1 hq3_v1 hq4_v1 hq5_v1 hq8_v1 hq9_v1 hq10_v1 hq13_v1 hq14_v1 hq15_v1 hq17_v1 hq18_v1 hq24_v1 hq25_v1 hq35_v1 hq36_v1 hq38_v1 hq39_v1 hT1 hr1_1 hM_v1 hA_f1 hm; exact absurd hm (Nat.not_lt_zero _)
    | succ n1 ih1 =>
      intro l1_1 v1 f1 w1 g1 hIv1 hCf1 hRf1 hq0_v1 hq1_v1 hq2_v1 hq3_v1 hq4_v1 hq5_v1 hq8_v1 hq9_v1 hq10_v1 hq13_v1 hq14_v1 hq15_v1 hq17_v1 hq18_v1 hq24_v1 hq25_v1 hq35_v1 hq36_v1 hq38_v1 hq39_v1 hT1 hr1_1 hM_v1 hA_f1 hm1 H locs ls hP hD hS hl
      have hUv1 : (v1 35).toInt + (v1 36).toInt ≤ 40 := hIv1.2
      have zq9_v1 := congrArg Int32.toInt hq9_v1
      refine lv_iload_n hx hb dX11_keepAir_2 rfl (lv_at hl 0 rfl) ?_
      refine lv_bipush (v := 39) hx hb dX11_keepAir_3 (by decide) ?_
      refine lv_icmp_ge (tgt := 26) hx hb dX11_keepAir_5 (by decide) (fun c2 => ?_) (fun c2 => ?_)
      · skip
        have zc2 : 39 ≤ l1_1.toInt := by rw [fa_le, show (39 : Int32).toInt = 39 from by decide] at c2; exact c2
        exact ret (v1, f1, w1, g1) _ _ _ _ _ _ ⟨(hT1.symm.trans (gsY_X11_keepAir_1_q0 c2)), hM_v1, hA_f1, hIv1, hCf1, hRf1, (show v1 0 = v 0 from hq0_v1), (show v1 1 = v 1 from hq1_v1), (show v1 2 = v 2 from hq2_v1), (show v1 3 = v 3 from hq3_v1), (show v1 4 = v 4 from hq4_v1), (show v1 5 = v 5 from hq5_v1), (show v1 8 = v 8 from hq8_v1), (show v1 9 = v 9 from hq9_v1), (show v1 10 = v 10 from hq10_v1), (show v1 13 = v 13 from hq13_v1), (show v1 14 = v 14 from hq14_v1), (show v1 15 = v 15 from hq15_v1), (show v1 17 = v 17 from hq17_v1), (show v1 18 = v 18 from hq18_v1), (show v1 24 = v 24 from hq24_v1), (show v1 25 = v 25 from hq25_v1), (show v1 35 = v 35 from hq35_v1), (show v1 36 = v 36 from hq36_v1), (show v1 38 = v 38 from hq38_v1), (show v1 39 = v 39 from hq39_v1)⟩ hP hD hS dX11_keepAir_26 (Nat.le_refl _) (Nat.le_refl _)
      · skip
        have zc2 : ¬ (39 ≤ l1_1.toInt) := by rw [fa_le, show (39 : Int32).toInt = 39 from by decide] at c2; exact c2
        refine lv_aload_n hx hb dX11_keepAir_8 rfl (lv_at hl 1 rfl) ?_
        refine va_get (D := (dC, dI)) (ci := 11) (v := .ref (r 59)) (C := RX11) (T := TX11) (N := 79) hx hb hts inB_11 hown hE.1 hP 0 rfl rfl 59 (by decide) (hts _ k_1379) (fun _ h9 => h9) rfl dX11_keepAir_9 ?_
        refine lv_iload_n hx hb dX11_keepAir_12 rfl (lv_at hl 0 rfl) ?_
        refine lv_aload_n hx hb dX11_keepAir_13 rfl (lv_at hl 1 rfl) ?_
        refine va_get (D := (dC, dI)) (ci := 11) (v := .ref (r 60)) (C := RX11) (T := TX11) (N := 79) hx hb hts inB_11 hown hE.1 hP 0 rfl rfl 60 (by decide) (hts _ k_1380) (fun _ h9 => h9) rfl dX11_keepAir_14 ?_
        refine lv_iload_n hx hb dX11_keepAir_17 rfl (lv_at hl 0 rfl) ?_
        refine ldI hx hb hE hP 25 rfl (vp_in_iff.mpr ⟨by omega, by omega⟩) rfl rfl dX11_keepAir_18 ?_
        refine lv_topi (fun t3 et3 => ?_)
        have zt3 : l1_1.toInt.toNat % 39 < 6 ∨ 12 ≤ l1_1.toInt.toNat % 39 ∨ (-1 ≤ t3.toInt ∧ t3.toInt ≤ 5) := by rw [et3]; exact wear_ld hCf1.2.1 (show l1_1.toInt.toNat < 39 by omega)
        refine stI hx hb hE hP hD hS 24 rfl (vp_in_iff.mpr ⟨by omega, by omega⟩) rfl dX11_keepAir_19 (fun H locs hP hD hS => ?_)
        obtain ⟨f4, ef4, hP, hD⟩ : ∃ fz9, fz9 = upd2 f1 23 (upd (f1 23) l1_1.toNatClampNeg t3) ∧ va_P (dC, dI) vwCl (YW cy y0 r v1 fz9 w1 g1) H ∧ va_D A (YW cy y0 r v1 fz9 w1 g1) := ⟨_, rfl, hP, hD⟩
        have hCf4 : YC f4 := by rw [ef4]; exact ⟨(wear_st hCf1.1 (by show l1_1.toInt.toNat % 39 < 6 ∨ 12 ≤ l1_1.toInt.toNat % 39 ∨ (-1 ≤ t3.toInt ∧ t3.toInt ≤ 5); omega)), hCf1.2.1, hCf1.2.2.1, hCf1.2.2.2.1, hCf1.2.2.2.2.1, hCf1.2.2.2.2.2⟩
        have hRf4 : progOK (f4 4) (f4 5) (v1 9).toInt.toNat := by rw [ef4]; exact hRf1
        have hA_f4 : KF [23] f4 f := by rw [ef4]; exact KF.up hA_f1 rfl
        obtain ⟨t5, et5⟩ : ∃ y : Int32, y = l1_1 + 1 := ⟨_, rfl⟩
        have rg6 := fb_rng l1_1
        have zt5 : t5.toInt = l1_1.toInt + 1 := by rw [et5]; exact add_i rfl (by decide) (by omega) (by omega)
        refine lv_iinc (v := t5) (lv' := [(1, .int t5), (0, .ref y0)]) hx hb dX11_keepAir_20 hl (k := 0) rfl (by rw [et5]; rfl) (by decide) rfl (fun ls hl => ?_)
        refine lv_goto (tgt := 2) hx hb dX11_keepAir_23 (by decide) ?_
        have rg7 := fb_rng t5
        exact ih1 t5 v1 f4 w1 g1 hIv1 hCf4 hRf4 hq0_v1 hq1_v1 hq2_v1 hq3_v1 hq4_v1 hq5_v1 hq8_v1 hq9_v1 hq10_v1 hq13_v1 hq14_v1 hq15_v1 hq17_v1 hq18_v1 hq24_v1 hq25_v1 hq35_v1 hq36_v1 hq38_v1 hq39_v1 ((gsY_X11_keepAir_1_q1 c2 et3 ef4 et5).symm.trans hT1) ⟨show (0 : Int) ≤ t5.toInt by omega, show t5.toInt ≤ (2147483647 : Int) by omega⟩ hM_v1 hA_f4 (by show (2147483647 - t5.toInt).toNat < n1; omega) _ _ _ hP hD hS (lv_sub hl [0, 1] rfl)
  exact lp1 (4294967296 + NF) 0 v f w g hIv hCf hRf rfl rfl rfl rfl rfl rfl rfl rfl rfl rfl rfl rfl rfl rfl rfl rfl rfl rfl rfl rfl gsY_X11_keepAir_1_q2.symm ⟨by decide, by decide⟩ hM_v hA_f (by have q1 : (0 : Int32).toInt = 0 := (by decide); show (2147483647 - (0 : Int32).toInt).toNat < 4294967296 + NF; omega) _ _ _ hP hD hS (lv_sub hl [0, 1] rfl)
