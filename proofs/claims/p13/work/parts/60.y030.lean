set_option maxHeartbeats 4000000 in
set_option maxRecDepth 100000 in
theorem sY_X11_isBox_1 (NF : Nat) (l : Launch) (dC : Nat → ClassId) (dI : Nat → Nat → Nat) (cy : Nat → ClassId) (y0 : Nat) (r : Nat → Nat) (p0 : Int32) (v : Nat → Int32) (f : Nat → Nat → Int32) (w : Int64) (g : Nat → Int64) (hIv : YI v) (hCf : YC f) (hRf : progOK (f 4) (f 5) (v 9).toInt.toNat)  : ctI l (dC, dI) cy yX11_isBox cX11_isBox 1 .boolean 1 60 0 0 Unit [.int p0] (YW cy y0 r v f w g) (fun r u => gsY_X11_isBox_1 NF p0 v f w g = r ∧ ((r = 1 ∧ 0 ≤ p0.toInt ∧ p0.toInt ≤ 2) ∨ (r = 0))) (fun u => YW cy y0 r v f w g) := by
  refine ctI_of (by decide) (Nat.le_of_ble_eq_true rfl) (fun p e s m below meth c A ls Q hx hb hml hts hown hE hP hD hA hl ret => ?_)
  have hUv : (v 35).toInt + (v 36).toInt ≤ 40 := hIv.2
  have hown : s.vm.findClass RX11 = some m.cls := hown
  have hS : va_S A s.heap s.heap [] := va_S.rf
  have hl : lv_has ls 1 [(0, .int p0)] := hl
  refine lv_iload_n hx hb dX11_isBox_0 rfl (lv_at hl 0 rfl) ?_
  refine lv_if_lt (tgt := 13) hx hb dX11_isBox_1 (by decide) (fun c1 => ?_) (fun c1 => ?_)
  · skip
    have zc1 : p0.toInt < 0 := by rw [fa_lt, show (0 : Int32).toInt = 0 from by decide] at c1; exact c1
    refine lv_iconst (v := 0) hx hb dX11_isBox_13 (by decide) ?_
    exact ret 0 () _ _ _ _ _ _ rfl ⟨(gsY_X11_isBox_1_q0 c1), (Or.inr rfl)⟩ hP hD hS dX11_isBox_14 (Nat.le_refl _) (Nat.le_refl _)
  · skip
    have zc1 : ¬ (p0.toInt < 0) := by rw [fa_lt, show (0 : Int32).toInt = 0 from by decide] at c1; exact c1
    refine lv_iload_n hx hb dX11_isBox_4 rfl (lv_at hl 0 rfl) ?_
    refine lv_iconst (v := 3) hx hb dX11_isBox_5 (by decide) ?_
    refine lv_icmp_ge (tgt := 13) hx hb dX11_isBox_6 (by decide) (fun c2 => ?_) (fun c2 => ?_)
    · skip
      have zc2 : 3 ≤ p0.toInt := by rw [fa_le, show (3 : Int32).toInt = 3 from by decide] at c2; exact c2
      refine lv_iconst (v := 0) hx hb dX11_isBox_13 (by decide) ?_
      exact ret 0 () _ _ _ _ _ _ rfl ⟨(gsY_X11_isBox_1_q1 c1 c2), (Or.inr rfl)⟩ hP hD hS dX11_isBox_14 (Nat.le_refl _) (Nat.le_refl _)
    · skip
      have zc2 : ¬ (3 ≤ p0.toInt) := by rw [fa_le, show (3 : Int32).toInt = 3 from by decide] at c2; exact c2
      refine lv_iconst (v := 1) hx hb dX11_isBox_9 (by decide) ?_
      refine lv_goto (tgt := 14) hx hb dX11_isBox_10 (by decide) ?_
      exact ret 1 () _ _ _ _ _ _ rfl ⟨(gsY_X11_isBox_1_q2 c1 c2), (Or.inl ⟨rfl, by omega, by omega⟩)⟩ hP hD hS dX11_isBox_14 (Nat.le_refl _) (Nat.le_refl _)
set_option maxHeartbeats 4000000 in
set_option maxRecDepth 100000 in
theorem sY_X11_image_1 (NF : Nat) (l : Launch) (dC : Nat → ClassId) (dI : Nat → Nat → Nat) (cy : Nat → ClassId) (y0 : Nat) (r : Nat → Nat) (p1 : Int32) (v : Nat → Int32) (f : Nat → Nat → Int32) (w : Int64) (g : Nat → Int64) (hIv : YI v) (hCf : YC f) (hRf : progOK (f 4) (f 5) (v 9).toInt.toNat)  : ctI l (dC, dI) cy yX11_image cX11_image 3 .int 2 80 0 0 ((Nat → Int32) × (Nat → Nat → Int32) × (Int64) × (Nat → Int64)) [.ref y0, .int p1] (YW cy y0 r v f w g) (fun r u => gsY_X11_image_1 NF p1 v f w g = (r, u) ∧ KV [] u.1 v ∧ KF [36, 37] u.2.1 f ∧ YI u.1 ∧ YC u.2.1 ∧ progOK (u.2.1 4) (u.2.1 5) (u.1 9).toInt.toNat ∧ u.1 0 = v 0 ∧ u.1 1 = v 1 ∧ u.1 2 = v 2 ∧ u.1 3 = v 3 ∧ u.1 4 = v 4 ∧ u.1 5 = v 5 ∧ u.1 8 = v 8 ∧ u.1 9 = v 9 ∧ u.1 10 = v 10 ∧ u.1 13 = v 13 ∧ u.1 14 = v 14 ∧ u.1 15 = v 15 ∧ u.1 17 = v 17 ∧ u.1 18 = v 18 ∧ u.1 24 = v 24 ∧ u.1 25 = v 25 ∧ u.1 35 = v 35 ∧ u.1 36 = v 36 ∧ u.1 38 = v 38 ∧ u.1 39 = v 39) (fun u => YW cy y0 r u.1 u.2.1 u.2.2.1 u.2.2.2) := by
  refine ctI_of (by decide) (Nat.le_of_ble_eq_true rfl) (fun p e s m below meth c A ls Q hx hb hml hts hown hE hP hD hA hl ret => ?_)
  have hUv : (v 35).toInt + (v 36).toInt ≤ 40 := hIv.2
  have hM_v : KV [] v v := fun _ _ => rfl
  have hA_f : KF [36, 37] f f := fun _ _ => rfl
  have hown : s.vm.findClass RX11 = some m.cls := hown
  have hS : va_S A s.heap s.heap [] := va_S.rf
  have hl : lv_has ls 3 [(0, .ref y0), (1, .int p1)] := hl
  refine lv_iload_n hx hb dX11_image_0 rfl (lv_at hl 1 rfl) ?_
  refine cbSi (n := 1) (rest := []) hx hb hml hown hts hE hP hD hS hA (sY_X11_isBox_1 NF l dC dI cy y0 r p1 v f w g hIv hCf hRf ) k_2048 k_2049 k_114 k_2050 (by decide +kernel) ⟨Nat.le_of_ble_eq_true rfl, Nat.le_of_ble_eq_true rfl⟩ (rfl) hl.1 rfl (Nat.le_of_ble_eq_true rfl) dX11_image_1 (fun r1 u H locs hw hP hD hS => ?_)
  obtain ⟨hG2, hw⟩ := hw
  rcases hw with ⟨g3, g3_0, g3_1⟩ | ⟨g3⟩
  · skip
    subst g3
    refine lv_if_ne (tgt := 9) hx hb dX11_image_4 (by decide) (fun _ => ?_) (fun c0 => absurd c0 (by decide))
    refine lv_aload_n hx hb dX11_image_9 rfl (lv_at hl 0 rfl) ?_
    refine va_get (D := (dC, dI)) (ci := 11) (v := .ref (r 77)) (C := RX11) (T := TX11) (N := 79) hx hb hts inB_11 hown hE.1 hP 0 rfl rfl 77 (by decide) (hts _ k_1397) (fun _ h9 => h9) rfl dX11_image_10 ?_
    refine lv_iload_n hx hb dX11_image_13 rfl (lv_at hl 1 rfl) ?_
    refine lv_iconst (v := 1) hx hb dX11_image_14 (by decide) ?_
    refine stZ hx hb hE hP hD hS 37 rfl (vp_in_iff.mpr ⟨by omega, by omega⟩) rfl dX11_image_15 (fun H locs hP hD hS => ?_)
    obtain ⟨f4, ef4, hP, hD⟩ : ∃ fz9, fz9 = upd2 f 36 (upd (f 36) p1.toNatClampNeg (vp_nar .boolean 1)) ∧ va_P (dC, dI) vwCl (YW cy y0 r v fz9 w g) H ∧ va_D A (YW cy y0 r v fz9 w g) := ⟨_, rfl, hP, hD⟩
    have hCf4 : YC f4 := by rw [ef4]; exact hCf
    have hRf4 : progOK (f4 4) (f4 5) (v 9).toInt.toNat := by rw [ef4]; exact hRf
    have hA_f4 : KF [36, 37] f4 f := by rw [ef4]; exact KF.up hA_f rfl
    refine lv_iconst (v := 0) hx hb dX11_image_16 (by decide) ?_
    refine lv_istore_n (lv' := [(2, .int 0), (0, .ref y0), (1, .int p1)]) hx hb dX11_image_17 rfl hl (by decide) rfl (fun ls hl => ?_)
    have lp5 : ∀ (n5 : Nat) (l2_5 : Int32) (v5 : Nat → Int32) (f5 : Nat → Nat → Int32) (w5 : Int64) (g5 : Nat → Int64), YI v5 → YC f5 → progOK (f5 4) (f5 5) (v5 9).toInt.toNat → v5 0 = (v 0) → v5 1 = (v 1) → v5 2 = (v 2) → v5 3 = (v 3) → v5 4 = (v 4) → v5 5 = (v 5) → v5 8 = (v 8) → v5 9 = (v 9) → v5 10 = (v 10) → v5 13 = (v 13) → v5 14 = (v 14) → v5 15 = (v 15) → v5 17 = (v 17) → v5 18 = (v 18) → v5 24 = (v 24) → v5 25 = (v 25) → v5 35 = (v 35) → v5 36 = (v 36) → v5 38 = (v 38) → v5 39 = (v 39) → gsY_X11_image_1_L5 NF p1 n5 l2_5 v5 f5 w5 g5 = (gsY_X11_image_1 NF p1 v f w g) → ((0 : Int) ≤ l2_5.toInt ∧ l2_5.toInt ≤ 2147483647) → KV [] v5 v → KF [36, 37] f5 f → (2147483647 - l2_5.toInt).toNat < n5 → ∀ (H : Heap) (locs : List Loc) (ls : Array Slot), va_P (dC, dI) vwCl (YW cy y0 r v5 f5 w5 g5) H → va_D A (YW cy y0 r v5 f5 w5 g5) → va_S A s.heap H locs → lv_has ls 3 [(2, .int l2_5), (0, .ref y0), (1, .int p1)] → W p l e { frames := 2, cells := 0, slots := 0, locals := 80 } s m ([.ref y0, .int p1] : List Value).toArray below meth c H locs 0 0 Q (F0 m 18 ls []) := by
      intro n5
      induction n5 with
      | zero => intro l2_5 v5 f5 w5 g5 hIv5 hCf5 hRf5 hq0_v5 hq1_v5 hq2_v5 hq3_v5 hq4_v5 hq5_v5 hq8_v5 hq9_v5 hq10_v5 hq13_v5 hq14_v5 hq15_v5 hq17_v5 hq18_v5 hq24_v5 hq25_v5 hq35_v5 hq36_v5 hq38_v5 hq39_v5 hT5 hr2_5 hM_v5 hA_f5 hm; exact absurd hm (Nat.not_lt_zero _)
      | succ n5 ih5 =>
        intro l2_5 v5 f5 w5 g5 hIv5 hCf5 hRf5 hq0_v5 hq1_v5 hq2_v5 hq3_v5 hq4_v5 hq5_v5 hq8_v5 hq9_v5 hq10_v5 hq13_v5 hq14_v5 hq15_v5 hq17_v5 hq18_v5 hq24_v5 hq25_v5 hq35_v5 hq36_v5 hq38_v5 hq39_v5 hT5 hr2_5 hM_v5 hA_f5 hm5 H locs ls hP hD hS hl
        have hUv5 : (v5 35).toInt + (v5 36).toInt ≤ 40 := hIv5.2
        have zq9_v5 := congrArg Int32.toInt hq9_v5
        refine lv_iload_n hx hb dX11_image_18 rfl (lv_at hl 0 rfl) ?_
        refine lv_bipush (v := 39) hx hb dX11_image_19 (by decide) ?_
        refine lv_icmp_ge (tgt := 47) hx hb dX11_image_21 (by decide) (fun c6 => ?_) (fun c6 => ?_)
        · skip
          have zc6 : 39 ≤ l2_5.toInt := by rw [fa_le, show (39 : Int32).toInt = 39 from by decide] at c6; exact c6
          refine lv_aload_n hx hb dX11_image_47 rfl (lv_at hl 1 rfl) ?_
          refine va_get (D := (dC, dI)) (ci := 11) (v := .ref (r 59)) (C := RX11) (T := TX11) (N := 79) hx hb hts inB_11 hown hE.1 hP 0 rfl rfl 59 (by decide) (hts _ k_1379) (fun _ h9 => h9) rfl dX11_image_48 ?_
          refine lv_bipush (v := 37) hx hb dX11_image_51 (by decide) ?_
          refine ldI hx hb hE hP 24 rfl (vp_in_nI (n := 37) (by decide) (by decide)) rfl rfl dX11_image_53 ?_
          refine lv_topi (fun t7 et7 => ?_)
          have zt7 : 37 % 39 < 6 ∨ 12 ≤ 37 % 39 ∨ (-1 ≤ t7.toInt ∧ t7.toInt ≤ 5) := by rw [et7]; exact wear_ld hCf5.1 (show 37 < 39 by omega)
          exact ret t7 (v5, f5, w5, g5) _ _ _ _ _ _ rfl ⟨(hT5.symm.trans (gsY_X11_image_1_q0 c6 et7)), hM_v5, hA_f5, hIv5, hCf5, hRf5, (show v5 0 = v 0 from hq0_v5), (show v5 1 = v 1 from hq1_v5), (show v5 2 = v 2 from hq2_v5), (show v5 3 = v 3 from hq3_v5), (show v5 4 = v 4 from hq4_v5), (show v5 5 = v 5 from hq5_v5), (show v5 8 = v 8 from hq8_v5), (show v5 9 = v 9 from hq9_v5), (show v5 10 = v 10 from hq10_v5), (show v5 13 = v 13 from hq13_v5), (show v5 14 = v 14 from hq14_v5), (show v5 15 = v 15 from hq15_v5), (show v5 17 = v 17 from hq17_v5), (show v5 18 = v 18 from hq18_v5), (show v5 24 = v 24 from hq24_v5), (show v5 25 = v 25 from hq25_v5), (show v5 35 = v 35 from hq35_v5), (show v5 36 = v 36 from hq36_v5), (show v5 38 = v 38 from hq38_v5), (show v5 39 = v 39 from hq39_v5)⟩ hP hD hS dX11_image_54 (Nat.le_refl _) (Nat.le_refl _)
        · skip
          have zc6 : ¬ (39 ≤ l2_5.toInt) := by rw [fa_le, show (39 : Int32).toInt = 39 from by decide] at c6; exact c6
          refine lv_aload_n hx hb dX11_image_24 rfl (lv_at hl 1 rfl) ?_
          refine va_get (D := (dC, dI)) (ci := 11) (v := .ref (r 78)) (C := RX11) (T := TX11) (N := 79) hx hb hts inB_11 hown hE.1 hP 0 rfl rfl 78 (by decide) (hts _ k_1398) (fun _ h9 => h9) rfl dX11_image_25 ?_
          refine lv_bipush (v := 39) hx hb dX11_image_28 (by decide) ?_
          refine lv_iload_n hx hb dX11_image_30 rfl (lv_at hl 2 rfl) ?_
          refine lv_imul hx hb dX11_image_31 ?_
          refine lv_topi (fun t8 et8 => ?_)
          have rg9 := fb_rng p1
          have zt8 : t8.toInt = 39 * p1.toInt := by rw [et8]; exact mul_i (by decide) rfl (by omega) (by omega)
          refine lv_iload_n hx hb dX11_image_32 rfl (lv_at hl 0 rfl) ?_
          refine lv_iadd hx hb dX11_image_33 ?_
          refine lv_topi (fun t10 et10 => ?_)
          have rg11 := fb_rng t8
          have rg12 := fb_rng l2_5
          have zt10 : t10.toInt = t8.toInt + l2_5.toInt := by rw [et10]; exact add_i rfl rfl (by omega) (by omega)
          refine lv_aload_n hx hb dX11_image_34 rfl (lv_at hl 1 rfl) ?_
          refine va_get (D := (dC, dI)) (ci := 11) (v := .ref (r 59)) (C := RX11) (T := TX11) (N := 79) hx hb hts inB_11 hown hE.1 hP 0 rfl rfl 59 (by decide) (hts _ k_1379) (fun _ h9 => h9) rfl dX11_image_35 ?_
          refine lv_iload_n hx hb dX11_image_38 rfl (lv_at hl 0 rfl) ?_
          refine ldI hx hb hE hP 24 rfl (vp_in_iff.mpr ⟨by omega, by omega⟩) rfl rfl dX11_image_39 ?_
          refine lv_topi (fun t13 et13 => ?_)
          have zt13 : l2_5.toInt.toNat % 39 < 6 ∨ 12 ≤ l2_5.toInt.toNat % 39 ∨ (-1 ≤ t13.toInt ∧ t13.toInt ≤ 5) := by rw [et13]; exact wear_ld hCf5.1 (show l2_5.toInt.toNat < 39 by omega)
          refine stI hx hb hE hP hD hS 38 rfl (vp_in_iff.mpr ⟨by omega, by omega⟩) rfl dX11_image_40 (fun H locs hP hD hS => ?_)
          obtain ⟨f14, ef14, hP, hD⟩ : ∃ fz9, fz9 = upd2 f5 37 (upd (f5 37) t10.toNatClampNeg t13) ∧ va_P (dC, dI) vwCl (YW cy y0 r v5 fz9 w5 g5) H ∧ va_D A (YW cy y0 r v5 fz9 w5 g5) := ⟨_, rfl, hP, hD⟩
          have hCf14 : YC f14 := by rw [ef14]; exact ⟨hCf5.1, hCf5.2.1, hCf5.2.2.1, hCf5.2.2.2.1, hCf5.2.2.2.2.1, (wear_st hCf5.2.2.2.2.2 (by show t10.toInt.toNat % 39 < 6 ∨ 12 ≤ t10.toInt.toNat % 39 ∨ (-1 ≤ t13.toInt ∧ t13.toInt ≤ 5); omega))⟩
          have hRf14 : progOK (f14 4) (f14 5) (v5 9).toInt.toNat := by rw [ef14]; exact hRf5
          have hA_f14 : KF [36, 37] f14 f := by rw [ef14]; exact KF.up hA_f5 rfl
          obtain ⟨t15, et15⟩ : ∃ y : Int32, y = l2_5 + 1 := ⟨_, rfl⟩
          have zt15 : t15.toInt = l2_5.toInt + 1 := by rw [et15]; exact add_i rfl (by decide) (by omega) (by omega)
          refine lv_iinc (v := t15) (lv' := [(2, .int t15), (0, .ref y0), (1, .int p1)]) hx hb dX11_image_41 hl (k := 0) rfl (by rw [et15]; rfl) (by decide) rfl (fun ls hl => ?_)
          refine lv_goto (tgt := 18) hx hb dX11_image_44 (by decide) ?_
          have rg16 := fb_rng t15
          exact ih5 t15 v5 f14 w5 g5 hIv5 hCf14 hRf14 hq0_v5 hq1_v5 hq2_v5 hq3_v5 hq4_v5 hq5_v5 hq8_v5 hq9_v5 hq10_v5 hq13_v5 hq14_v5 hq15_v5 hq17_v5 hq18_v5 hq24_v5 hq25_v5 hq35_v5 hq36_v5 hq38_v5 hq39_v5 ((gsY_X11_image_1_q1 c6 et8 et10 et13 ef14 et15).symm.trans hT5) ⟨show (0 : Int) ≤ t15.toInt by omega, show t15.toInt ≤ (2147483647 : Int) by omega⟩ hM_v5 hA_f14 (by show (2147483647 - t15.toInt).toNat < n5; omega) _ _ _ hP hD hS (lv_sub hl [0, 1, 2] rfl)
    exact lp5 (4294967296 + NF) 0 v f4 w g hIv hCf4 hRf4 rfl rfl rfl rfl rfl rfl rfl rfl rfl rfl rfl rfl rfl rfl rfl rfl rfl rfl rfl rfl (gsY_X11_image_1_q2 hG2 ef4).symm ⟨by decide, by decide⟩ hM_v hA_f4 (by have q2 : (0 : Int32).toInt = 0 := (by decide); show (2147483647 - (0 : Int32).toInt).toNat < 4294967296 + NF; omega) _ _ _ hP hD hS (lv_sub hl [0, 1, 2] rfl)
  · skip
    subst g3
    refine lv_if_ne (tgt := 9) hx hb dX11_image_4 (by decide) (fun c0 => absurd (by decide) c0) (fun _ => ?_)
    refine lv_iconst (v := (-1)) hx hb dX11_image_7 (by decide) ?_
    exact ret (-1) (v, f, w, g) _ _ _ _ _ _ rfl ⟨(gsY_X11_image_1_q3 hG2), hM_v, hA_f, hIv, hCf, hRf, rfl, rfl, rfl, rfl, rfl, rfl, rfl, rfl, rfl, rfl, rfl, rfl, rfl, rfl, rfl, rfl, rfl, rfl, rfl, rfl⟩ hP hD hS dX11_image_8 (Nat.le_refl _) (Nat.le_refl _)
set_option maxHeartbeats 4000000 in
set_option maxRecDepth 100000 in
theorem sY_X11_back_1 (NF : Nat) (l : Launch) (dC : Nat → ClassId) (dI : Nat → Nat → Nat) (cy : Nat → ClassId) (y0 : Nat) (r : Nat → Nat) (p1 : Int32) (v : Nat → Int32) (f : Nat → Nat → Int32) (w : Int64) (g : Nat → Int64) (hIv : YI v) (hCf : YC f) (hRf : progOK (f 4) (f 5) (v 9).toInt.toNat)  : ctI l (dC, dI) cy yX11_back cX11_back 3 .int 2 80 0 0 ((Nat → Int32) × (Nat → Nat → Int32) × (Int64) × (Nat → Int64)) [.ref y0, .int p1] (YW cy y0 r v f w g) (fun r u => gsY_X11_back_1 NF p1 v f w g = (r, u) ∧ KV [35, 36] u.1 v ∧ KF [23] u.2.1 f ∧ YI u.1 ∧ YC u.2.1 ∧ progOK (u.2.1 4) (u.2.1 5) (u.1 9).toInt.toNat ∧ u.1 0 = v 0 ∧ u.1 1 = v 1 ∧ u.1 2 = v 2 ∧ u.1 3 = v 3 ∧ u.1 4 = v 4 ∧ u.1 5 = v 5 ∧ u.1 8 = v 8 ∧ u.1 9 = v 9 ∧ u.1 10 = v 10 ∧ u.1 13 = v 13 ∧ u.1 14 = v 14 ∧ u.1 15 = v 15 ∧ u.1 17 = v 17 ∧ u.1 18 = v 18 ∧ u.1 24 = v 24 ∧ u.1 25 = v 25 ∧ u.1 38 = v 38 ∧ u.1 39 = v 39) (fun u => YW cy y0 r u.1 u.2.1 u.2.2.1 u.2.2.2) := by
  refine ctI_of (by decide) (Nat.le_of_ble_eq_true rfl) (fun p e s m below meth c A ls Q hx hb hml hts hown hE hP hD hA hl ret => ?_)
  have hUv : (v 35).toInt + (v 36).toInt ≤ 40 := hIv.2
  have hM_v : KV [35, 36] v v := fun _ _ => rfl
  have hA_f : KF [23] f f := fun _ _ => rfl
  have hown : s.vm.findClass RX11 = some m.cls := hown
  have hS : va_S A s.heap s.heap [] := va_S.rf
  have hl : lv_has ls 3 [(0, .ref y0), (1, .int p1)] := hl
  refine lv_iload_n hx hb dX11_back_0 rfl (lv_at hl 1 rfl) ?_
  refine cbSi (n := 1) (rest := []) hx hb hml hown hts hE hP hD hS hA (sY_X11_isBox_1 NF l dC dI cy y0 r p1 v f w g hIv hCf hRf ) k_2048 k_2049 k_114 k_2050 (by decide +kernel) ⟨Nat.le_of_ble_eq_true rfl, Nat.le_of_ble_eq_true rfl⟩ (rfl) hl.1 rfl (Nat.le_of_ble_eq_true rfl) dX11_back_1 (fun r1 u H locs hw hP hD hS => ?_)
  obtain ⟨hG2, hw⟩ := hw
  rcases hw with ⟨g3, g3_0, g3_1⟩ | ⟨g3⟩
  · skip
    subst g3
    refine lv_if_eq (tgt := 16) hx hb dX11_back_4 (by decide) (fun c0 => absurd c0 (by decide)) (fun _ => ?_)
    refine lv_aload_n hx hb dX11_back_7 rfl (lv_at hl 0 rfl) ?_
    refine va_get (D := (dC, dI)) (ci := 11) (v := .ref (r 77)) (C := RX11) (T := TX11) (N := 79) hx hb hts inB_11 hown hE.1 hP 0 rfl rfl 77 (by decide) (hts _ k_1397) (fun _ h9 => h9) rfl dX11_back_8 ?_
    refine lv_iload_n hx hb dX11_back_11 rfl (lv_at hl 1 rfl) ?_
    refine ldZ hx hb hE hP 37 rfl (vp_in_iff.mpr ⟨by omega, by omega⟩) rfl rfl dX11_back_12 ?_
    refine lv_topi (fun t4 et4 => ?_)
    refine lv_if_ne (tgt := 18) hx hb dX11_back_13 (by decide) (fun c5 => ?_) (fun c5 => ?_)
    · skip
      have zc5 : ¬ (t4.toInt = 0) := by rw [fa_eq, show (0 : Int32).toInt = 0 from by decide] at c5; exact c5
      refine lv_iconst (v := 0) hx hb dX11_back_18 (by decide) ?_
      refine lv_istore_n (lv' := [(2, .int 0), (0, .ref y0), (1, .int p1)]) hx hb dX11_back_19 rfl hl (by decide) rfl (fun ls hl => ?_)
      have lp6 : ∀ (n6 : Nat) (l2_6 : Int32) (v6 : Nat → Int32) (f6 : Nat → Nat → Int32) (w6 : Int64) (g6 : Nat → Int64), YI v6 → YC f6 → progOK (f6 4) (f6 5) (v6 9).toInt.toNat → v6 0 = (v 0) → v6 1 = (v 1) → v6 2 = (v 2) → v6 3 = (v 3) → v6 4 = (v 4) → v6 5 = (v 5) → v6 8 = (v 8) → v6 9 = (v 9) → v6 10 = (v 10) → v6 13 = (v 13) → v6 14 = (v 14) → v6 15 = (v 15) → v6 17 = (v 17) → v6 18 = (v 18) → v6 24 = (v 24) → v6 25 = (v 25) → v6 35 = (v 35) → v6 36 = (v 36) → v6 38 = (v 38) → v6 39 = (v 39) → gsY_X11_back_1_L6 NF p1 n6 l2_6 v6 f6 w6 g6 = (gsY_X11_back_1 NF p1 v f w g) → ((0 : Int) ≤ l2_6.toInt ∧ l2_6.toInt ≤ 2147483647) → KV [35, 36] v6 v → KF [23] f6 f → (2147483647 - l2_6.toInt).toNat < n6 → ∀ (H : Heap) (locs : List Loc) (ls : Array Slot), va_P (dC, dI) vwCl (YW cy y0 r v6 f6 w6 g6) H → va_D A (YW cy y0 r v6 f6 w6 g6) → va_S A s.heap H locs → lv_has ls 3 [(2, .int l2_6), (0, .ref y0), (1, .int p1)] → W p l e { frames := 2, cells := 0, slots := 0, locals := 80 } s m ([.ref y0, .int p1] : List Value).toArray below meth c H locs 0 0 Q (F0 m 20 ls []) := by
        intro n6
        induction n6 with
        | zero => intro l2_6 v6 f6 w6 g6 hIv6 hCf6 hRf6 hq0_v6 hq1_v6 hq2_v6 hq3_v6 hq4_v6 hq5_v6 hq8_v6 hq9_v6 hq10_v6 hq13_v6 hq14_v6 hq15_v6 hq17_v6 hq18_v6 hq24_v6 hq25_v6 hq35_v6 hq36_v6 hq38_v6 hq39_v6 hT6 hr2_6 hM_v6 hA_f6 hm; exact absurd hm (Nat.not_lt_zero _)
        | succ n6 ih6 =>
          intro l2_6 v6 f6 w6 g6 hIv6 hCf6 hRf6 hq0_v6 hq1_v6 hq2_v6 hq3_v6 hq4_v6 hq5_v6 hq8_v6 hq9_v6 hq10_v6 hq13_v6 hq14_v6 hq15_v6 hq17_v6 hq18_v6 hq24_v6 hq25_v6 hq35_v6 hq36_v6 hq38_v6 hq39_v6 hT6 hr2_6 hM_v6 hA_f6 hm6 H locs ls hP hD hS hl
          have hUv6 : (v6 35).toInt + (v6 36).toInt ≤ 40 := hIv6.2
          have zq9_v6 := congrArg Int32.toInt hq9_v6
          refine lv_iload_n hx hb dX11_back_20 rfl (lv_at hl 0 rfl) ?_
          refine lv_bipush (v := 39) hx hb dX11_back_21 (by decide) ?_
          refine lv_icmp_ge (tgt := 49) hx hb dX11_back_23 (by decide) (fun c7 => ?_) (fun c7 => ?_)
          · skip
            have zc7 : 39 ≤ l2_6.toInt := by rw [fa_le, show (39 : Int32).toInt = 39 from by decide] at c7; exact c7
            refine lv_aload_n hx hb dX11_back_49 rfl (lv_at hl 1 rfl) ?_
            refine lv_iconst (v := 0) hx hb dX11_back_50 (by decide) ?_
            refine va_put (D := (dC, dI)) (ci := 11) (v := .int 0) (ty := tyX11 62) (C := RX11) (T := TX11) (N := 79) hx hb hts inB_11 tyX11 tyX11_ok nmX11 hown hE.1 hP hD hS 0 rfl rfl 62 (by decide) (hts _ k_1382) (fun _ h9 => h9) rfl (tyX11_ok 62 (by decide)) rfl rfl (Nat.le_of_ble_eq_true rfl) dX11_back_51 (fun H locs hP hD hS => ?_)
            have hP : va_P (dC, dI) vwCl (YW cy y0 r (upd v6 35 0) f6 w6 g6) H := hP
            have hD : va_D A (YW cy y0 r (upd v6 35 0) f6 w6 g6) := hD
            refine lv_aload_n hx hb dX11_back_54 rfl (lv_at hl 1 rfl) ?_
            refine lv_iconst (v := 0) hx hb dX11_back_55 (by decide) ?_
            refine va_put (D := (dC, dI)) (ci := 11) (v := .int 0) (ty := tyX11 63) (C := RX11) (T := TX11) (N := 79) hx hb hts inB_11 tyX11 tyX11_ok nmX11 hown hE.1 hP hD hS 0 rfl rfl 63 (by decide) (hts _ k_1383) (fun _ h9 => h9) rfl (tyX11_ok 63 (by decide)) rfl rfl (Nat.le_of_ble_eq_true rfl) dX11_back_56 (fun H locs hP hD hS => ?_)
            have hP : va_P (dC, dI) vwCl (YW cy y0 r (upd (upd v6 35 0) 36 0) f6 w6 g6) H := hP
            have hD : va_D A (YW cy y0 r (upd (upd v6 35 0) 36 0) f6 w6 g6) := hD
            refine lv_aload_n hx hb dX11_back_59 rfl (lv_at hl 1 rfl) ?_
            refine va_get (D := (dC, dI)) (ci := 11) (v := .ref (r 59)) (C := RX11) (T := TX11) (N := 79) hx hb hts inB_11 hown hE.1 hP 0 rfl rfl 59 (by decide) (hts _ k_1379) (fun _ h9 => h9) rfl dX11_back_60 ?_
            refine lv_bipush (v := 37) hx hb dX11_back_63 (by decide) ?_
            refine ldI hx hb hE hP 24 rfl (vp_in_nI (n := 37) (by decide) (by decide)) rfl rfl dX11_back_65 ?_
            refine lv_topi (fun t8 et8 => ?_)
            have zt8 : 37 % 39 < 6 ∨ 12 ≤ 37 % 39 ∨ (-1 ≤ t8.toInt ∧ t8.toInt ≤ 5) := by rw [et8]; exact wear_ld hCf6.1 (show 37 < 39 by omega)
            exact ret t8 ((upd (upd v6 35 0) 36 0), f6, w6, g6) _ _ _ _ _ _ rfl ⟨(hT6.symm.trans (gsY_X11_back_1_q0 c7 et8)), (KV.up (j := 36) (x := 0) (KV.up (j := 35) (x := 0) hM_v6 rfl) rfl), hA_f6, ⟨(YIb.upd (j := 36) (x := 0) (YIb.upd (j := 35) (x := 0) hIv6.1 (by decide) (by decide)) (by decide) (by decide)), (by have q9 := hIv6.2; have q0 : (0 : Int32).toInt = 0 := (by decide); show (0 : Int32).toInt + (0 : Int32).toInt ≤ 40; omega)⟩, hCf6, hRf6, (show v6 0 = v 0 from hq0_v6), (show v6 1 = v 1 from hq1_v6), (show v6 2 = v 2 from hq2_v6), (show v6 3 = v 3 from hq3_v6), (show v6 4 = v 4 from hq4_v6), (show v6 5 = v 5 from hq5_v6), (show v6 8 = v 8 from hq8_v6), (show v6 9 = v 9 from hq9_v6), (show v6 10 = v 10 from hq10_v6), (show v6 13 = v 13 from hq13_v6), (show v6 14 = v 14 from hq14_v6), (show v6 15 = v 15 from hq15_v6), (show v6 17 = v 17 from hq17_v6), (show v6 18 = v 18 from hq18_v6), (show v6 24 = v 24 from hq24_v6), (show v6 25 = v 25 from hq25_v6), (show v6 38 = v 38 from hq38_v6), (show v6 39 = v 39 from hq39_v6)⟩ hP hD hS dX11_back_66 (Nat.le_refl _) (Nat.le_refl _)
          · skip
            have zc7 : ¬ (39 ≤ l2_6.toInt) := by rw [fa_le, show (39 : Int32).toInt = 39 from by decide] at c7; exact c7
            refine lv_aload_n hx hb dX11_back_26 rfl (lv_at hl 1 rfl) ?_
            refine va_get (D := (dC, dI)) (ci := 11) (v := .ref (r 59)) (C := RX11) (T := TX11) (N := 79) hx hb hts inB_11 hown hE.1 hP 0 rfl rfl 59 (by decide) (hts _ k_1379) (fun _ h9 => h9) rfl dX11_back_27 ?_
            refine lv_iload_n hx hb dX11_back_30 rfl (lv_at hl 0 rfl) ?_
            refine lv_aload_n hx hb dX11_back_31 rfl (lv_at hl 1 rfl) ?_
            refine va_get (D := (dC, dI)) (ci := 11) (v := .ref (r 78)) (C := RX11) (T := TX11) (N := 79) hx hb hts inB_11 hown hE.1 hP 0 rfl rfl 78 (by decide) (hts _ k_1398) (fun _ h9 => h9) rfl dX11_back_32 ?_
            refine lv_bipush (v := 39) hx hb dX11_back_35 (by decide) ?_
            refine lv_iload_n hx hb dX11_back_37 rfl (lv_at hl 2 rfl) ?_
            refine lv_imul hx hb dX11_back_38 ?_
            refine lv_topi (fun t9 et9 => ?_)
            have rg10 := fb_rng p1
            have zt9 : t9.toInt = 39 * p1.toInt := by rw [et9]; exact mul_i (by decide) rfl (by omega) (by omega)
            refine lv_iload_n hx hb dX11_back_39 rfl (lv_at hl 0 rfl) ?_
            refine lv_iadd hx hb dX11_back_40 ?_
            refine lv_topi (fun t11 et11 => ?_)
            have rg12 := fb_rng t9
            have rg13 := fb_rng l2_6
            have zt11 : t11.toInt = t9.toInt + l2_6.toInt := by rw [et11]; exact add_i rfl rfl (by omega) (by omega)
            refine ldI hx hb hE hP 38 rfl (vp_in_iff.mpr ⟨by omega, by omega⟩) rfl rfl dX11_back_41 ?_
            refine lv_topi (fun t14 et14 => ?_)
            have zt14 : t11.toInt.toNat % 39 < 6 ∨ 12 ≤ t11.toInt.toNat % 39 ∨ (-1 ≤ t14.toInt ∧ t14.toInt ≤ 5) := by rw [et14]; exact wear_ld hCf6.2.2.2.2.2 (show t11.toInt.toNat < 117 by omega)
            refine stI hx hb hE hP hD hS 24 rfl (vp_in_iff.mpr ⟨by omega, by omega⟩) rfl dX11_back_42 (fun H locs hP hD hS => ?_)
            obtain ⟨f15, ef15, hP, hD⟩ : ∃ fz9, fz9 = upd2 f6 23 (upd (f6 23) l2_6.toNatClampNeg t14) ∧ va_P (dC, dI) vwCl (YW cy y0 r v6 fz9 w6 g6) H ∧ va_D A (YW cy y0 r v6 fz9 w6 g6) := ⟨_, rfl, hP, hD⟩
            have hCf15 : YC f15 := by rw [ef15]; exact ⟨(wear_st hCf6.1 (by show l2_6.toInt.toNat % 39 < 6 ∨ 12 ≤ l2_6.toInt.toNat % 39 ∨ (-1 ≤ t14.toInt ∧ t14.toInt ≤ 5); omega)), hCf6.2.1, hCf6.2.2.1, hCf6.2.2.2.1, hCf6.2.2.2.2.1, hCf6.2.2.2.2.2⟩
            have hRf15 : progOK (f15 4) (f15 5) (v6 9).toInt.toNat := by rw [ef15]; exact hRf6
            have hA_f15 : KF [23] f15 f := by rw [ef15]; exact KF.up hA_f6 rfl
            obtain ⟨t16, et16⟩ : ∃ y : Int32, y = l2_6 + 1 := ⟨_, rfl⟩
            have zt16 : t16.toInt = l2_6.toInt + 1 := by rw [et16]; exact add_i rfl (by decide) (by omega) (by omega)
            refine lv_iinc (v := t16) (lv' := [(2, .int t16), (0, .ref y0), (1, .int p1)]) hx hb dX11_back_43 hl (k := 0) rfl (by rw [et16]; rfl) (by decide) rfl (fun ls hl => ?_)
            refine lv_goto (tgt := 20) hx hb dX11_back_46 (by decide) ?_
            have rg17 := fb_rng t16
            exact ih6 t16 v6 f15 w6 g6 hIv6 hCf15 hRf15 hq0_v6 hq1_v6 hq2_v6 hq3_v6 hq4_v6 hq5_v6 hq8_v6 hq9_v6 hq10_v6 hq13_v6 hq14_v6 hq15_v6 hq17_v6 hq18_v6 hq24_v6 hq25_v6 hq35_v6 hq36_v6 hq38_v6 hq39_v6 ((gsY_X11_back_1_q1 c7 et9 et11 et14 ef15 et16).symm.trans hT6) ⟨show (0 : Int) ≤ t16.toInt by omega, show t16.toInt ≤ (2147483647 : Int) by omega⟩ hM_v6 hA_f15 (by show (2147483647 - t16.toInt).toNat < n6; omega) _ _ _ hP hD hS (lv_sub hl [0, 1, 2] rfl)
      exact lp6 (4294967296 + NF) 0 v f w g hIv hCf hRf rfl rfl rfl rfl rfl rfl rfl rfl rfl rfl rfl rfl rfl rfl rfl rfl rfl rfl rfl rfl (gsY_X11_back_1_q2 hG2 et4 c5).symm ⟨by decide, by decide⟩ hM_v hA_f (by have q2 : (0 : Int32).toInt = 0 := (by decide); show (2147483647 - (0 : Int32).toInt).toNat < 4294967296 + NF; omega) _ _ _ hP hD hS (lv_sub hl [0, 1, 2] rfl)
    · skip
      have zc5 : t4.toInt = 0 := by rw [fa_eq, show (0 : Int32).toInt = 0 from by decide] at c5; exact c5
      refine lv_iconst (v := (-1)) hx hb dX11_back_16 (by decide) ?_
      exact ret (-1) (v, f, w, g) _ _ _ _ _ _ rfl ⟨(gsY_X11_back_1_q3 hG2 et4 c5), hM_v, hA_f, hIv, hCf, hRf, rfl, rfl, rfl, rfl, rfl, rfl, rfl, rfl, rfl, rfl, rfl, rfl, rfl, rfl, rfl, rfl, rfl, rfl⟩ hP hD hS dX11_back_17 (Nat.le_refl _) (Nat.le_refl _)
  · skip
    subst g3
    refine lv_if_eq (tgt := 16) hx hb dX11_back_4 (by decide) (fun _ => ?_) (fun c0 => absurd (by decide) c0)
    refine lv_iconst (v := (-1)) hx hb dX11_back_16 (by decide) ?_
    exact ret (-1) (v, f, w, g) _ _ _ _ _ _ rfl ⟨(gsY_X11_back_1_q4 hG2), hM_v, hA_f, hIv, hCf, hRf, rfl, rfl, rfl, rfl, rfl, rfl, rfl, rfl, rfl, rfl, rfl, rfl, rfl, rfl, rfl, rfl, rfl, rfl⟩ hP hD hS dX11_back_17 (Nat.le_refl _) (Nat.le_refl _)
set_option maxHeartbeats 4000000 in
set_option maxRecDepth 100000 in
theorem sY_X11_coatsFor_1 (l : Launch) (dC : Nat → ClassId) (dI : Nat → Nat → Nat) (cy : Nat → ClassId) (y0 : Nat) (r : Nat → Nat) (p1 : Int32) (v : Nat → Int32) (f : Nat → Nat → Int32) (w : Int64) (g : Nat → Int64) (hIv : YI v) (hCf : YC f) (hRf : progOK (f 4) (f 5) (v 9).toInt.toNat) (hp1 : (0 : Int) ≤ p1.toInt ∧ p1.toInt ≤ 5) : ctI l (dC, dI) cy yX11_coatsFor cX11_coatsFor 4 .int 5 148 0 0 ((Nat → Int32) × (Nat → Nat → Int32) × (Int64) × (Nat → Int64)) [.ref y0, .int p1] (YW cy y0 r v f w g) (fun r u => KV [] u.1 v ∧ KF [7, 8] u.2.1 f ∧ YI u.1 ∧ YC u.2.1 ∧ progOK (u.2.1 4) (u.2.1 5) (u.1 9).toInt.toNat ∧ u.1 0 = v 0 ∧ u.1 1 = v 1 ∧ u.1 2 = v 2 ∧ u.1 3 = v 3 ∧ u.1 4 = v 4 ∧ u.1 5 = v 5 ∧ u.1 8 = v 8 ∧ u.1 9 = v 9 ∧ u.1 10 = v 10 ∧ u.1 13 = v 13 ∧ u.1 14 = v 14 ∧ u.1 15 = v 15 ∧ u.1 17 = v 17 ∧ u.1 18 = v 18 ∧ u.1 24 = v 24 ∧ u.1 25 = v 25 ∧ u.1 35 = v 35 ∧ u.1 36 = v 36 ∧ u.1 38 = v 38 ∧ u.1 39 = v 39) (fun u => YW cy y0 r u.1 u.2.1 u.2.2.1 u.2.2.2) := by
  refine ctI_of (by decide) (Nat.le_of_ble_eq_true rfl) (fun p e s m below meth c A ls Q hx hb hml hts hown hE hP hD hA hl ret => ?_)
  have hUv : (v 35).toInt + (v 36).toInt ≤ 40 := hIv.2
  have hM_v : KV [] v v := fun _ _ => rfl
  have hA_f : KF [7, 8] f f := fun _ _ => rfl
  have hown : s.vm.findClass RX11 = some m.cls := hown
  have hS : va_S A s.heap s.heap [] := va_S.rf
  have hl : lv_has ls 4 [(0, .ref y0), (1, .int p1)] := hl
  refine lv_iconst (v := 0) hx hb dX11_coatsFor_0 (by decide) ?_
  refine lv_istore_n (lv' := [(2, .int 0), (0, .ref y0), (1, .int p1)]) hx hb dX11_coatsFor_1 rfl hl (by decide) rfl (fun ls hl => ?_)
  refine lv_iconst (v := 0) hx hb dX11_coatsFor_2 (by decide) ?_
  refine lv_istore_n (lv' := [(3, .int 0), (2, .int 0), (0, .ref y0), (1, .int p1)]) hx hb dX11_coatsFor_3 rfl hl (by decide) rfl (fun ls hl => ?_)
  have lp1 : ∀ (n1 : Nat) (l2_1 : Int32) (l3_1 : Int32) (v1 : Nat → Int32) (f1 : Nat → Nat → Int32) (w1 : Int64) (g1 : Nat → Int64), YI v1 → YC f1 → progOK (f1 4) (f1 5) (v1 9).toInt.toNat → v1 0 = (v 0) → v1 1 = (v 1) → v1 2 = (v 2) → v1 3 = (v 3) → v1 4 = (v 4) → v1 5 = (v 5) → v1 8 = (v 8) → v1 9 = (v 9) → v1 10 = (v 10) → v1 13 = (v 13) → v1 14 = (v 14) → v1 15 = (v 15) → v1 17 = (v 17) → v1 18 = (v 18) → v1 24 = (v 24) → v1 25 = (v 25) → v1 35 = (v 35) → v1 36 = (v 36) → v1 38 = (v 38) → v1 39 = (v 39) → ((0 : Int) ≤ l3_1.toInt ∧ l3_1.toInt ≤ 2147483647) → KV [] v1 v → KF [7, 8] f1 f → (2147483647 - l3_1.toInt).toNat < n1 → ∀ (H : Heap) (locs : List Loc) (ls : Array Slot), va_P (dC, dI) vwCl (YW cy y0 r v1 f1 w1 g1) H → va_D A (YW cy y0 r v1 f1 w1 g1) → va_S A s.heap H locs → lv_has ls 4 [(3, .int l3_1), (2, .int l2_1), (0, .ref y0), (1, .int p1)] → W p l e { frames := 5, cells := 0, slots := 0, locals := 148 } s m ([.ref y0, .int p1] : List Value).toArray below meth c H locs 0 0 Q (F0 m 4 ls []) := by
    intro n1
    induction n1 with
    | zero => intro l2_1 l3_1 v1 f1 w1 g1 hIv1 hCf1 hRf1 hq0_v1 hq1_v1 hq2_v1 hq3_v1 hq4_v1 hq5_v1 hq8_v1 hq9_v1 hq10_v1 hq13_v1 hq14_v1 hq15_v1 hq17_v1 hq18_v1 hq24_v1 hq25_v1 hq35_v1 hq36_v1 hq38_v1 hq39_v1 hr3_1 hM_v1 hA_f1 hm; exact absurd hm (Nat.not_lt_zero _)
    | succ n1 ih1 =>
      intro l2_1 l3_1 v1 f1 w1 g1 hIv1 hCf1 hRf1 hq0_v1 hq1_v1 hq2_v1 hq3_v1 hq4_v1 hq5_v1 hq8_v1 hq9_v1 hq10_v1 hq13_v1 hq14_v1 hq15_v1 hq17_v1 hq18_v1 hq24_v1 hq25_v1 hq35_v1 hq36_v1 hq38_v1 hq39_v1 hr3_1 hM_v1 hA_f1 hm1 H locs ls hP hD hS hl
      have hUv1 : (v1 35).toInt + (v1 36).toInt ≤ 40 := hIv1.2
      have zq9_v1 := congrArg Int32.toInt hq9_v1
      refine lv_iload_n hx hb dX11_coatsFor_4 rfl (lv_at hl 0 rfl) ?_
      refine lv_aload_n hx hb dX11_coatsFor_5 rfl (lv_at hl 2 rfl) ?_
      refine va_get (D := (dC, dI)) (ci := 11) (v := .int (v1 25)) (C := RX11) (T := TX11) (N := 79) hx hb hts inB_11 hown hE.1 hP 0 rfl rfl 49 (by decide) (hts _ k_1369) (fun _ h9 => h9) rfl dX11_coatsFor_6 ?_
      refine tI (y := (v 25)) hq25_v1 ?_
      have b25_v : 0 ≤ (v 25).toInt ∧ (v 25).toInt ≤ 6 := YIb.b hIv.1 25 (by decide)
      refine lv_icmp_ge (tgt := 32) hx hb dX11_coatsFor_9 (by decide) (fun c2 => ?_) (fun c2 => ?_)
      · skip
        have zc2 : (v 25).toInt ≤ l3_1.toInt := by rw [fa_le] at c2; exact c2
        have rg3 := fb_rng l3_1
        have rg4 := fb_rng (v 25)
        refine lv_iload_n hx hb dX11_coatsFor_32 rfl (lv_at hl 1 rfl) ?_
        exact ret l2_1 (v1, f1, w1, g1) _ _ _ _ _ _ rfl ⟨hM_v1, hA_f1, hIv1, hCf1, hRf1, (show v1 0 = v 0 from hq0_v1), (show v1 1 = v 1 from hq1_v1), (show v1 2 = v 2 from hq2_v1), (show v1 3 = v 3 from hq3_v1), (show v1 4 = v 4 from hq4_v1), (show v1 5 = v 5 from hq5_v1), (show v1 8 = v 8 from hq8_v1), (show v1 9 = v 9 from hq9_v1), (show v1 10 = v 10 from hq10_v1), (show v1 13 = v 13 from hq13_v1), (show v1 14 = v 14 from hq14_v1), (show v1 15 = v 15 from hq15_v1), (show v1 17 = v 17 from hq17_v1), (show v1 18 = v 18 from hq18_v1), (show v1 24 = v 24 from hq24_v1), (show v1 25 = v 25 from hq25_v1), (show v1 35 = v 35 from hq35_v1), (show v1 36 = v 36 from hq36_v1), (show v1 38 = v 38 from hq38_v1), (show v1 39 = v 39 from hq39_v1)⟩ hP hD hS dX11_coatsFor_33 (Nat.le_refl _) (Nat.le_refl _)
      · skip
        have zc2 : ¬ ((v 25).toInt ≤ l3_1.toInt) := by rw [fa_le] at c2; exact c2
        have rg5 := fb_rng l3_1
        have rg6 := fb_rng (v 25)
        refine lv_iload_n hx hb dX11_coatsFor_12 rfl (lv_at hl 1 rfl) ?_
        refine lv_aload_n hx hb dX11_coatsFor_13 rfl (lv_at hl 2 rfl) ?_
        refine lv_iload_n hx hb dX11_coatsFor_14 rfl (lv_at hl 3 rfl) ?_
        refine lv_iload_n hx hb dX11_coatsFor_15 rfl (lv_at hl 0 rfl) ?_
        refine cbVi (n := 2) (rest := [.int l2_1]) hx hb hml hown hts hE hP hD hS hA (sY_X11_fits_1 0 l dC dI cy y0 r p1 l3_1 v1 f1 w1 g1 hIv1 hCf1 hRf1 ⟨show (0 : Int) ≤ p1.toInt by omega, show p1.toInt ≤ (5 : Int) by omega⟩ ⟨show (-1 : Int) ≤ l3_1.toInt by omega, show l3_1.toInt ≤ (5 : Int) by omega⟩) k_1747 k_1749 k_73 k_114 k_1750 (by decide +kernel) ⟨Nat.le_of_ble_eq_true rfl, Nat.le_of_ble_eq_true rfl⟩ 0 11 rfl rfl (rfl) hl.1 rfl (Nat.le_of_ble_eq_true rfl) dX11_coatsFor_16 (fun r7 u H locs hw hP hD hS => ?_)
        obtain ⟨hG8, hw⟩ := hw
        obtain ⟨v9, f10, w11, g12⟩ := u
        obtain ⟨kV_v9, kF_f10, hIv9, hCf10, hRf10, hk0_v9, hk1_v9, hk2_v9, hk3_v9, hk4_v9, hk5_v9, hk8_v9, hk9_v9, hk10_v9, hk13_v9, hk14_v9, hk15_v9, hk17_v9, hk18_v9, hk24_v9, hk25_v9, hk35_v9, hk36_v9, hk38_v9, hk39_v9, hw⟩ := hw
        have hM_v9 : KV [] v9 v := KV.tr kV_v9 hM_v1 rfl
        have hA_f10 : KF [7, 8] f10 f := KF.tr kF_f10 hA_f1 rfl
        have hP : va_P (dC, dI) vwCl (YW cy y0 r v9 f10 w11 g12) H := hP
        have hD : va_D A (YW cy y0 r v9 f10 w11 g12) := hD
        have hUv9 : (v9 35).toInt + (v9 36).toInt ≤ 40 := hIv9.2
        have hq0_v9 : v9 0 = (v 0) := hk0_v9.trans hq0_v1
        have hq1_v9 : v9 1 = (v 1) := hk1_v9.trans hq1_v1
        have hq2_v9 : v9 2 = (v 2) := hk2_v9.trans hq2_v1
        have hq3_v9 : v9 3 = (v 3) := hk3_v9.trans hq3_v1
        have hq4_v9 : v9 4 = (v 4) := hk4_v9.trans hq4_v1
        have hq5_v9 : v9 5 = (v 5) := hk5_v9.trans hq5_v1
        have hq8_v9 : v9 8 = (v 8) := hk8_v9.trans hq8_v1
        have hq9_v9 : v9 9 = (v 9) := hk9_v9.trans hq9_v1
        have zq9_v9 := congrArg Int32.toInt hq9_v9
        have hq10_v9 : v9 10 = (v 10) := hk10_v9.trans hq10_v1
        have hq13_v9 : v9 13 = (v 13) := hk13_v9.trans hq13_v1
        have hq14_v9 : v9 14 = (v 14) := hk14_v9.trans hq14_v1
        have hq15_v9 : v9 15 = (v 15) := hk15_v9.trans hq15_v1
        have hq17_v9 : v9 17 = (v 17) := hk17_v9.trans hq17_v1
        have hq18_v9 : v9 18 = (v 18) := hk18_v9.trans hq18_v1
        have hq24_v9 : v9 24 = (v 24) := hk24_v9.trans hq24_v1
        have hq25_v9 : v9 25 = (v 25) := hk25_v9.trans hq25_v1
        have hq35_v9 : v9 35 = (v 35) := hk35_v9.trans hq35_v1
        have hq36_v9 : v9 36 = (v 36) := hk36_v9.trans hq36_v1
        have hq38_v9 : v9 38 = (v 38) := hk38_v9.trans hq38_v1
        have hq39_v9 : v9 39 = (v 39) := hk39_v9.trans hq39_v1
        rcases hw with ⟨g13⟩ | ⟨g13⟩
        · skip
          subst g13
          have lt14 : (1 : Int32).toInt = 1 := by decide
          refine cbSi (n := 1) (rest := [.int l2_1]) hx hb hml hown hts hE hP hD hS hA (sY_X11_truth_1 0 l dC dI cy y0 r 1 v9 f10 w11 g12 hIv9 hCf10 hRf10 ) k_1761 k_1762 k_114 k_1763 (by decide +kernel) ⟨Nat.le_of_ble_eq_true rfl, Nat.le_of_ble_eq_true rfl⟩ (rfl) hl.1 rfl (Nat.le_of_ble_eq_true rfl) dX11_coatsFor_19 (fun r15 u H locs hw hP hD hS => ?_)
          obtain ⟨hG16, hw⟩ := hw
          refine lv_iload_n hx hb dX11_coatsFor_22 rfl (lv_at hl 0 rfl) ?_
          refine lv_ishl hx hb dX11_coatsFor_23 ?_
          refine lv_topi (fun t17 et17 => ?_)
          have zt17 : 0 ≤ t17.toInt ∧ t17.toInt ≤ 32 := by rw [et17]; exact shl01_rng (by omega) (by omega) (by omega) (by omega)
          refine lv_ior hx hb dX11_coatsFor_24 ?_
          refine lv_topi (fun t18 et18 => ?_)
          refine lv_istore_n (lv' := [(2, .int t18), (3, .int l3_1), (0, .ref y0), (1, .int p1)]) hx hb dX11_coatsFor_25 rfl hl (by decide) rfl (fun ls hl => ?_)
          obtain ⟨t19, et19⟩ : ∃ y : Int32, y = l3_1 + 1 := ⟨_, rfl⟩
          have zt19 : t19.toInt = l3_1.toInt + 1 := by rw [et19]; exact add_i rfl (by decide) (by omega) (by omega)
          refine lv_iinc (v := t19) (lv' := [(3, .int t19), (2, .int t18), (0, .ref y0), (1, .int p1)]) hx hb dX11_coatsFor_26 hl (k := 1) rfl (by rw [et19]; rfl) (by decide) rfl (fun ls hl => ?_)
          refine lv_goto (tgt := 4) hx hb dX11_coatsFor_29 (by decide) ?_
          have rg20 := fb_rng t19
          exact ih1 t18 t19 v9 f10 w11 g12 hIv9 hCf10 hRf10 hq0_v9 hq1_v9 hq2_v9 hq3_v9 hq4_v9 hq5_v9 hq8_v9 hq9_v9 hq10_v9 hq13_v9 hq14_v9 hq15_v9 hq17_v9 hq18_v9 hq24_v9 hq25_v9 hq35_v9 hq36_v9 hq38_v9 hq39_v9 ⟨show (0 : Int) ≤ t19.toInt by omega, show t19.toInt ≤ (2147483647 : Int) by omega⟩ hM_v9 hA_f10 (by show (2147483647 - t19.toInt).toNat < n1; omega) _ _ _ hP hD hS (lv_sub hl [0, 1, 2, 3] rfl)
        · skip
          subst g13
          have lt21 : (0 : Int32).toInt = 0 := by decide
          refine cbSi (n := 1) (rest := [.int l2_1]) hx hb hml hown hts hE hP hD hS hA (sY_X11_truth_1 0 l dC dI cy y0 r 0 v9 f10 w11 g12 hIv9 hCf10 hRf10 ) k_1761 k_1762 k_114 k_1763 (by decide +kernel) ⟨Nat.le_of_ble_eq_true rfl, Nat.le_of_ble_eq_true rfl⟩ (rfl) hl.1 rfl (Nat.le_of_ble_eq_true rfl) dX11_coatsFor_19 (fun r22 u H locs hw hP hD hS => ?_)
          obtain ⟨hG23, hw⟩ := hw
          refine lv_iload_n hx hb dX11_coatsFor_22 rfl (lv_at hl 0 rfl) ?_
          refine lv_ishl hx hb dX11_coatsFor_23 ?_
          refine lv_topi (fun t24 et24 => ?_)
          have zt24 : 0 ≤ t24.toInt ∧ t24.toInt ≤ 32 := by rw [et24]; exact shl01_rng (by omega) (by omega) (by omega) (by omega)
          refine lv_ior hx hb dX11_coatsFor_24 ?_
          refine lv_topi (fun t25 et25 => ?_)
          refine lv_istore_n (lv' := [(2, .int t25), (3, .int l3_1), (0, .ref y0), (1, .int p1)]) hx hb dX11_coatsFor_25 rfl hl (by decide) rfl (fun ls hl => ?_)
          obtain ⟨t26, et26⟩ : ∃ y : Int32, y = l3_1 + 1 := ⟨_, rfl⟩
          have zt26 : t26.toInt = l3_1.toInt + 1 := by rw [et26]; exact add_i rfl (by decide) (by omega) (by omega)
          refine lv_iinc (v := t26) (lv' := [(3, .int t26), (2, .int t25), (0, .ref y0), (1, .int p1)]) hx hb dX11_coatsFor_26 hl (k := 1) rfl (by rw [et26]; rfl) (by decide) rfl (fun ls hl => ?_)
          refine lv_goto (tgt := 4) hx hb dX11_coatsFor_29 (by decide) ?_
          have rg27 := fb_rng t26
          exact ih1 t25 t26 v9 f10 w11 g12 hIv9 hCf10 hRf10 hq0_v9 hq1_v9 hq2_v9 hq3_v9 hq4_v9 hq5_v9 hq8_v9 hq9_v9 hq10_v9 hq13_v9 hq14_v9 hq15_v9 hq17_v9 hq18_v9 hq24_v9 hq25_v9 hq35_v9 hq36_v9 hq38_v9 hq39_v9 ⟨show (0 : Int) ≤ t26.toInt by omega, show t26.toInt ≤ (2147483647 : Int) by omega⟩ hM_v9 hA_f10 (by show (2147483647 - t26.toInt).toNat < n1; omega) _ _ _ hP hD hS (lv_sub hl [0, 1, 2, 3] rfl)
  exact lp1 _ 0 0 v f w g hIv hCf hRf rfl rfl rfl rfl rfl rfl rfl rfl rfl rfl rfl rfl rfl rfl rfl rfl rfl rfl rfl rfl ⟨by decide, by decide⟩ hM_v hA_f (Nat.lt_succ_self _) _ _ _ hP hD hS (lv_sub hl [0, 1, 2, 3] rfl)
set_option maxHeartbeats 4000000 in
set_option maxRecDepth 100000 in
theorem sY_X11_man_1 (l : Launch) (dC : Nat → ClassId) (dI : Nat → Nat → Nat) (cy : Nat → ClassId) (y0 : Nat) (r : Nat → Nat) (p1 : Int32) (p2 : Int32) (v : Nat → Int32) (f : Nat → Nat → Int32) (w : Int64) (g : Nat → Int64) (hIv : YI v) (hCf : YC f) (hRf : progOK (f 4) (f 5) (v 9).toInt.toNat)  : ctI l (dC, dI) cy yX11_man cX11_man 3 .int 6 171 0 0 ((Nat → Int32) × (Nat → Nat → Int32) × (Int64) × (Nat → Int64)) [.ref y0, .int p1, .int p2] (YW cy y0 r v f w g) (fun r u => KV [] u.1 v ∧ KF [7, 8, 24] u.2.1 f ∧ YI u.1 ∧ YC u.2.1 ∧ progOK (u.2.1 4) (u.2.1 5) (u.1 9).toInt.toNat ∧ u.1 0 = v 0 ∧ u.1 1 = v 1 ∧ u.1 2 = v 2 ∧ u.1 3 = v 3 ∧ u.1 4 = v 4 ∧ u.1 5 = v 5 ∧ u.1 8 = v 8 ∧ u.1 9 = v 9 ∧ u.1 10 = v 10 ∧ u.1 13 = v 13 ∧ u.1 14 = v 14 ∧ u.1 15 = v 15 ∧ u.1 17 = v 17 ∧ u.1 18 = v 18 ∧ u.1 24 = v 24 ∧ u.1 25 = v 25 ∧ u.1 35 = v 35 ∧ u.1 36 = v 36 ∧ u.1 38 = v 38 ∧ u.1 39 = v 39) (fun u => YW cy y0 r u.1 u.2.1 u.2.2.1 u.2.2.2) := by
  refine ctI_of (by decide) (Nat.le_of_ble_eq_true rfl) (fun p e s m below meth c A ls Q hx hb hml hts hown hE hP hD hA hl ret => ?_)
  have hUv : (v 35).toInt + (v 36).toInt ≤ 40 := hIv.2
  have hM_v : KV [] v v := fun _ _ => rfl
  have hA_f : KF [7, 8, 24] f f := fun _ _ => rfl
  have hown : s.vm.findClass RX11 = some m.cls := hown
  have hS : va_S A s.heap s.heap [] := va_S.rf
  have hl : lv_has ls 3 [(0, .ref y0), (1, .int p1), (2, .int p2)] := hl
  refine lv_aload_n hx hb dX11_man_0 rfl (lv_at hl 0 rfl) ?_
  refine lv_iload_n hx hb dX11_man_1 rfl (lv_at hl 1 rfl) ?_
  refine cbVi (n := 1) (rest := []) hx hb hml hown hts hE hP hD hS hA (sY_X11_isMan_1 0 l dC dI cy y0 r p1 v f w g hIv hCf hRf ) k_1732 k_1734 k_70 k_114 k_1735 (by decide +kernel) ⟨Nat.le_of_ble_eq_true rfl, Nat.le_of_ble_eq_true rfl⟩ 0 11 rfl rfl (rfl) hl.1 rfl (Nat.le_of_ble_eq_true rfl) dX11_man_2 (fun r1 u H locs hw hP hD hS => ?_)
  obtain ⟨hG2, hw⟩ := hw
  rcases hw with ⟨g3, g3_0, g3_1, g3_2⟩ | ⟨g3⟩
  · skip
    subst g3
    refine lv_if_ne (tgt := 11) hx hb dX11_man_5 (by decide) (fun _ => ?_) (fun c0 => absurd c0 (by decide))
    refine lv_aload_n hx hb dX11_man_11 rfl (lv_at hl 0 rfl) ?_
    refine cbVv (n := 0) (rest := []) hx hb hml hown hts hE hP hD hS hA (sY_X11_fill_1 0 l dC dI cy y0 r  v f w g hIv hCf hRf ) k_1739 k_1741 k_71 k_114 k_1742 (by decide +kernel) ⟨Nat.le_of_ble_eq_true rfl, Nat.le_of_ble_eq_true rfl⟩ 0 11 rfl rfl (rfl) hl.1 rfl (Nat.le_of_ble_eq_true rfl) dX11_man_12 (fun u H locs hw hP hD hS => ?_)
    obtain ⟨hG4, hw⟩ := hw
    obtain ⟨v5, f6, w7, g8⟩ := u
    obtain ⟨kV_v5, kF_f6, hIv5, hCf6, hRf6, hk0_v5, hk1_v5, hk2_v5, hk3_v5, hk4_v5, hk5_v5, hk8_v5, hk9_v5, hk10_v5, hk13_v5, hk14_v5, hk15_v5, hk17_v5, hk18_v5, hk24_v5, hk25_v5, hk35_v5, hk36_v5, hk38_v5, hk39_v5⟩ := hw
    have hM_v5 : KV [] v5 v := KV.tr kV_v5 hM_v rfl
    have hA_f6 : KF [7, 8, 24] f6 f := KF.tr kF_f6 hA_f rfl
    have hP : va_P (dC, dI) vwCl (YW cy y0 r v5 f6 w7 g8) H := hP
    have hD : va_D A (YW cy y0 r v5 f6 w7 g8) := hD
    have hUv5 : (v5 35).toInt + (v5 36).toInt ≤ 40 := hIv5.2
    have hq9_v5 : v5 9 = (v 9) := hk9_v5
    have zq9_v5 := congrArg Int32.toInt hq9_v5
    refine lv_iload_n hx hb dX11_man_15 rfl (lv_at hl 2 rfl) ?_
    by_cases c9 : p2 = 0
    · skip
      refine lv_tableIn (off := 36) (tgt := 52) hx hb dX11_man_16 (by rw [c9]; decide) (by rw [c9]; decide) (by rw [c9]; decide) (by decide) ?_
      have zc9 : p2.toInt = 0 := by rw [fa_eq, show (0 : Int32).toInt = 0 from by decide] at c9; exact c9
      refine lv_aload_n hx hb dX11_man_52 rfl (lv_at hl 0 rfl) ?_
      refine va_get (D := (dC, dI)) (ci := 11) (v := .ref (r 34)) (C := RX11) (T := TX11) (N := 79) hx hb hts inB_11 hown hE.1 hP 0 rfl rfl 34 (by decide) (hts _ k_1354) (fun _ h9 => h9) rfl dX11_man_53 ?_
      refine lv_iload_n hx hb dX11_man_56 rfl (lv_at hl 1 rfl) ?_
      refine ldI hx hb hE hP 17 rfl (vp_in_iff.mpr ⟨by omega, by omega⟩) rfl rfl dX11_man_57 ?_
      refine lv_topi (fun t10 et10 => ?_)
      exact ret t10 (v5, f6, w7, g8) _ _ _ _ _ _ rfl ⟨hM_v5, hA_f6, hIv5, hCf6, hRf6, hk0_v5, hk1_v5, hk2_v5, hk3_v5, hk4_v5, hk5_v5, hk8_v5, hk9_v5, hk10_v5, hk13_v5, hk14_v5, hk15_v5, hk17_v5, hk18_v5, hk24_v5, hk25_v5, hk35_v5, hk36_v5, hk38_v5, hk39_v5⟩ hP hD hS dX11_man_58 (Nat.le_refl _) (Nat.le_refl _)
    · skip
      have zc9 : ¬ (p2.toInt = 0) := by rw [fa_eq, show (0 : Int32).toInt = 0 from by decide] at c9; exact c9
      by_cases c11 : p2 = 1
      · skip
        refine lv_tableIn (off := 43) (tgt := 59) hx hb dX11_man_16 (by rw [c11]; decide) (by rw [c11]; decide) (by rw [c11]; decide) (by decide) ?_
        have zc11 : p2.toInt = 1 := by rw [fa_eq, show (1 : Int32).toInt = 1 from by decide] at c11; exact c11
        refine lv_aload_n hx hb dX11_man_59 rfl (lv_at hl 0 rfl) ?_
        refine va_get (D := (dC, dI)) (ci := 11) (v := .ref (r 60)) (C := RX11) (T := TX11) (N := 79) hx hb hts inB_11 hown hE.1 hP 0 rfl rfl 60 (by decide) (hts _ k_1380) (fun _ h9 => h9) rfl dX11_man_60 ?_
        refine lv_iload_n hx hb dX11_man_63 rfl (lv_at hl 1 rfl) ?_
        refine ldI hx hb hE hP 25 rfl (vp_in_iff.mpr ⟨by omega, by omega⟩) rfl rfl dX11_man_64 ?_
        refine lv_topi (fun t12 et12 => ?_)
        have zt12 : p1.toInt.toNat % 39 < 6 ∨ 12 ≤ p1.toInt.toNat % 39 ∨ (-1 ≤ t12.toInt ∧ t12.toInt ≤ 5) := by rw [et12]; exact wear_ld hCf6.2.1 (show p1.toInt.toNat < 39 by omega)
        exact ret t12 (v5, f6, w7, g8) _ _ _ _ _ _ rfl ⟨hM_v5, hA_f6, hIv5, hCf6, hRf6, hk0_v5, hk1_v5, hk2_v5, hk3_v5, hk4_v5, hk5_v5, hk8_v5, hk9_v5, hk10_v5, hk13_v5, hk14_v5, hk15_v5, hk17_v5, hk18_v5, hk24_v5, hk25_v5, hk35_v5, hk36_v5, hk38_v5, hk39_v5⟩ hP hD hS dX11_man_65 (Nat.le_refl _) (Nat.le_refl _)
      · skip
        have zc11 : ¬ (p2.toInt = 1) := by rw [fa_eq, show (1 : Int32).toInt = 1 from by decide] at c11; exact c11
        by_cases c13 : p2 = 2
        · skip
          refine lv_tableIn (off := 50) (tgt := 66) hx hb dX11_man_16 (by rw [c13]; decide) (by rw [c13]; decide) (by rw [c13]; decide) (by decide) ?_
          have zc13 : p2.toInt = 2 := by rw [fa_eq, show (2 : Int32).toInt = 2 from by decide] at c13; exact c13
          refine lv_aload_n hx hb dX11_man_66 rfl (lv_at hl 0 rfl) ?_
          refine va_get (D := (dC, dI)) (ci := 11) (v := .ref (r 36)) (C := RX11) (T := TX11) (N := 79) hx hb hts inB_11 hown hE.1 hP 0 rfl rfl 36 (by decide) (hts _ k_1356) (fun _ h9 => h9) rfl dX11_man_67 ?_
          refine lv_iload_n hx hb dX11_man_70 rfl (lv_at hl 1 rfl) ?_
          refine ldI hx hb hE hP 19 rfl (vp_in_iff.mpr ⟨by omega, by omega⟩) rfl rfl dX11_man_71 ?_
          refine lv_topi (fun t14 et14 => ?_)
          exact ret t14 (v5, f6, w7, g8) _ _ _ _ _ _ rfl ⟨hM_v5, hA_f6, hIv5, hCf6, hRf6, hk0_v5, hk1_v5, hk2_v5, hk3_v5, hk4_v5, hk5_v5, hk8_v5, hk9_v5, hk10_v5, hk13_v5, hk14_v5, hk15_v5, hk17_v5, hk18_v5, hk24_v5, hk25_v5, hk35_v5, hk36_v5, hk38_v5, hk39_v5⟩ hP hD hS dX11_man_72 (Nat.le_refl _) (Nat.le_refl _)
        · skip
          have zc13 : ¬ (p2.toInt = 2) := by rw [fa_eq, show (2 : Int32).toInt = 2 from by decide] at c13; exact c13
          by_cases c15 : p2 = 3
          · skip
            refine lv_tableIn (off := 57) (tgt := 73) hx hb dX11_man_16 (by rw [c15]; decide) (by rw [c15]; decide) (by rw [c15]; decide) (by decide) ?_
            have zc15 : p2.toInt = 3 := by rw [fa_eq, show (3 : Int32).toInt = 3 from by decide] at c15; exact c15
            refine lv_aload_n hx hb dX11_man_73 rfl (lv_at hl 0 rfl) ?_
            refine va_get (D := (dC, dI)) (ci := 11) (v := .ref (r 60)) (C := RX11) (T := TX11) (N := 79) hx hb hts inB_11 hown hE.1 hP 0 rfl rfl 60 (by decide) (hts _ k_1380) (fun _ h9 => h9) rfl dX11_man_74 ?_
            refine lv_bipush (v := 6) hx hb dX11_man_77 (by decide) ?_
            refine lv_iload_n hx hb dX11_man_79 rfl (lv_at hl 1 rfl) ?_
            refine lv_iadd hx hb dX11_man_80 ?_
            refine lv_topi (fun t16 et16 => ?_)
            have rg17 := fb_rng p1
            have zt16 : t16.toInt = 6 + p1.toInt := by rw [et16]; exact add_i (by decide) rfl (by omega) (by omega)
            refine ldI hx hb hE hP 25 rfl (vp_in_iff.mpr ⟨by omega, by omega⟩) rfl rfl dX11_man_81 ?_
            refine lv_topi (fun t18 et18 => ?_)
            have zt18 : t16.toInt.toNat % 39 < 6 ∨ 12 ≤ t16.toInt.toNat % 39 ∨ (-1 ≤ t18.toInt ∧ t18.toInt ≤ 5) := by rw [et18]; exact wear_ld hCf6.2.1 (show t16.toInt.toNat < 39 by omega)
            exact ret t18 (v5, f6, w7, g8) _ _ _ _ _ _ rfl ⟨hM_v5, hA_f6, hIv5, hCf6, hRf6, hk0_v5, hk1_v5, hk2_v5, hk3_v5, hk4_v5, hk5_v5, hk8_v5, hk9_v5, hk10_v5, hk13_v5, hk14_v5, hk15_v5, hk17_v5, hk18_v5, hk24_v5, hk25_v5, hk35_v5, hk36_v5, hk38_v5, hk39_v5⟩ hP hD hS dX11_man_82 (Nat.le_refl _) (Nat.le_refl _)
          · skip
            have zc15 : ¬ (p2.toInt = 3) := by rw [fa_eq, show (3 : Int32).toInt = 3 from by decide] at c15; exact c15
            by_cases c19 : p2 = 4
            · skip
              refine lv_tableIn (off := 67) (tgt := 83) hx hb dX11_man_16 (by rw [c19]; decide) (by rw [c19]; decide) (by rw [c19]; decide) (by decide) ?_
              have zc19 : p2.toInt = 4 := by rw [fa_eq, show (4 : Int32).toInt = 4 from by decide] at c19; exact c19
              refine lv_aload_n hx hb dX11_man_83 rfl (lv_at hl 0 rfl) ?_
              refine lv_iload_n hx hb dX11_man_84 rfl (lv_at hl 1 rfl) ?_
              refine cbVi (n := 1) (rest := []) hx hb hml hown hts hE hP hD hS hA (sY_X11_coatsFor_1 l dC dI cy y0 r p1 v5 f6 w7 g8 hIv5 hCf6 hRf6 ⟨show (0 : Int) ≤ p1.toInt by omega, show p1.toInt ≤ (5 : Int) by omega⟩) k_1743 k_1745 k_72 k_114 k_1746 (by decide +kernel) ⟨Nat.le_of_ble_eq_true rfl, Nat.le_of_ble_eq_true rfl⟩ 0 11 rfl rfl (rfl) hl.1 rfl (Nat.le_of_ble_eq_true rfl) dX11_man_85 (fun r20 u H locs hw hP hD hS => ?_)
              obtain ⟨v21, f22, w23, g24⟩ := u
              obtain ⟨kV_v21, kF_f22, hIv21, hCf22, hRf22, hk0_v21, hk1_v21, hk2_v21, hk3_v21, hk4_v21, hk5_v21, hk8_v21, hk9_v21, hk10_v21, hk13_v21, hk14_v21, hk15_v21, hk17_v21, hk18_v21, hk24_v21, hk25_v21, hk35_v21, hk36_v21, hk38_v21, hk39_v21⟩ := hw
              have hM_v21 : KV [] v21 v := KV.tr kV_v21 hM_v5 rfl
              have hA_f22 : KF [7, 8, 24] f22 f := KF.tr kF_f22 hA_f6 rfl
              have hP : va_P (dC, dI) vwCl (YW cy y0 r v21 f22 w23 g24) H := hP
              have hD : va_D A (YW cy y0 r v21 f22 w23 g24) := hD
              have hUv21 : (v21 35).toInt + (v21 36).toInt ≤ 40 := hIv21.2
              have hq9_v21 : v21 9 = (v 9) := hk9_v21.trans hq9_v5
              have zq9_v21 := congrArg Int32.toInt hq9_v21
              exact ret r20 (v21, f22, w23, g24) _ _ _ _ _ _ rfl ⟨hM_v21, hA_f22, hIv21, hCf22, hRf22, (hk0_v21.trans hk0_v5), (hk1_v21.trans hk1_v5), (hk2_v21.trans hk2_v5), (hk3_v21.trans hk3_v5), (hk4_v21.trans hk4_v5), (hk5_v21.trans hk5_v5), (hk8_v21.trans hk8_v5), (hk9_v21.trans hk9_v5), (hk10_v21.trans hk10_v5), (hk13_v21.trans hk13_v5), (hk14_v21.trans hk14_v5), (hk15_v21.trans hk15_v5), (hk17_v21.trans hk17_v5), (hk18_v21.trans hk18_v5), (hk24_v21.trans hk24_v5), (hk25_v21.trans hk25_v5), (hk35_v21.trans hk35_v5), (hk36_v21.trans hk36_v5), (hk38_v21.trans hk38_v5), (hk39_v21.trans hk39_v5)⟩ hP hD hS dX11_man_88 (Nat.le_refl _) (Nat.le_refl _)
            · skip
              have zc19 : ¬ (p2.toInt = 4) := by rw [fa_eq, show (4 : Int32).toInt = 4 from by decide] at c19; exact c19
              refine lv_tableOut (tgt := 89) hx hb dX11_man_16 (by omega) (by decide) ?_
              refine lv_bipush (v := (-2)) hx hb dX11_man_89 (by decide) ?_
              exact ret (-2) (v5, f6, w7, g8) _ _ _ _ _ _ rfl ⟨hM_v5, hA_f6, hIv5, hCf6, hRf6, hk0_v5, hk1_v5, hk2_v5, hk3_v5, hk4_v5, hk5_v5, hk8_v5, hk9_v5, hk10_v5, hk13_v5, hk14_v5, hk15_v5, hk17_v5, hk18_v5, hk24_v5, hk25_v5, hk35_v5, hk36_v5, hk38_v5, hk39_v5⟩ hP hD hS dX11_man_91 (Nat.le_refl _) (Nat.le_refl _)
  · skip
    subst g3
    refine lv_if_ne (tgt := 11) hx hb dX11_man_5 (by decide) (fun c0 => absurd (by decide) c0) (fun _ => ?_)
    refine lv_bipush (v := (-2)) hx hb dX11_man_8 (by decide) ?_
    exact ret (-2) (v, f, w, g) _ _ _ _ _ _ rfl ⟨hM_v, hA_f, hIv, hCf, hRf, rfl, rfl, rfl, rfl, rfl, rfl, rfl, rfl, rfl, rfl, rfl, rfl, rfl, rfl, rfl, rfl, rfl, rfl, rfl, rfl⟩ hP hD hS dX11_man_10 (Nat.le_refl _) (Nat.le_refl _)
