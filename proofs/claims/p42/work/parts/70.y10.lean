set_option maxHeartbeats 4000000 in
set_option maxRecDepth 100000 in
theorem sY_X11_isBox_1 (l : Launch) (dC : Nat → ClassId) (dI : Nat → Nat → Nat) (cy : Nat → ClassId) (y0 : Nat) (r : Nat → Nat) (p0 : Int32) (v : Nat → Int32) (f : Nat → Nat → Int32) (w : Int64) (g : Nat → Int64) (hIv : YI v) (hCf : YC f) (hRf : progOK (f 4) (f 5) (v 9).toInt.toNat)  : ctI l (dC, dI) cy yX11_isBox cX11_isBox 1 .boolean 1 60 0 0 Unit [.int p0] (YW cy y0 r v f w g) (fun r u => ((r = 1 ∧ 0 ≤ p0.toInt ∧ p0.toInt ≤ 2) ∨ (r = 0))) (fun u => YW cy y0 r v f w g) := by
  refine ctI_of (by decide) (Nat.le_of_ble_eq_true rfl) (fun p e s m below meth c A ls Q hx hb hml hts hown hE hP hD hA hl ret => ?_)
  have hUv : (v 35).toInt + (v 36).toInt ≤ 40 := hIv.2
  have hown : s.vm.findClass RX11 = some m.cls := hown
  have hS : va_S A s.heap s.heap [] := va_S.rf
  have hl : lv_has ls 1 [(0, .int p0)] := hl
  refine lv_iload_n hx hb dX11_isBox_0 rfl (lv_at hl 0 rfl) ?_
  refine lv_if_lt (tgt := 13) hx hb dX11_isBox_1 (by decide) (fun c1 => ?_) (fun c1 => ?_)
  · skip
    have zc1 : p0.toInt < 0 := by rw [fa_lt, show (0 : Int32).toInt = 0 from by decide] at c1; exact c1
    refine lv_iconst (v := 0) hx hb dX11_isBox_13 (by decide) ?_
    exact ret 0 () _ _ _ _ _ _ rfl (Or.inr rfl) hP hD hS dX11_isBox_14 (Nat.le_refl _) (Nat.le_refl _)
  · skip
    have zc1 : ¬ (p0.toInt < 0) := by rw [fa_lt, show (0 : Int32).toInt = 0 from by decide] at c1; exact c1
    refine lv_iload_n hx hb dX11_isBox_4 rfl (lv_at hl 0 rfl) ?_
    refine lv_iconst (v := 3) hx hb dX11_isBox_5 (by decide) ?_
    refine lv_icmp_ge (tgt := 13) hx hb dX11_isBox_6 (by decide) (fun c2 => ?_) (fun c2 => ?_)
    · skip
      have zc2 : 3 ≤ p0.toInt := by rw [fa_le, show (3 : Int32).toInt = 3 from by decide] at c2; exact c2
      refine lv_iconst (v := 0) hx hb dX11_isBox_13 (by decide) ?_
      exact ret 0 () _ _ _ _ _ _ rfl (Or.inr rfl) hP hD hS dX11_isBox_14 (Nat.le_refl _) (Nat.le_refl _)
    · skip
      have zc2 : ¬ (3 ≤ p0.toInt) := by rw [fa_le, show (3 : Int32).toInt = 3 from by decide] at c2; exact c2
      refine lv_iconst (v := 1) hx hb dX11_isBox_9 (by decide) ?_
      refine lv_goto (tgt := 14) hx hb dX11_isBox_10 (by decide) ?_
      exact ret 1 () _ _ _ _ _ _ rfl (Or.inl ⟨rfl, by omega, by omega⟩) hP hD hS dX11_isBox_14 (Nat.le_refl _) (Nat.le_refl _)
set_option maxHeartbeats 4000000 in
set_option maxRecDepth 100000 in
theorem sY_X11_image_1 (l : Launch) (dC : Nat → ClassId) (dI : Nat → Nat → Nat) (cy : Nat → ClassId) (y0 : Nat) (r : Nat → Nat) (p1 : Int32) (v : Nat → Int32) (f : Nat → Nat → Int32) (w : Int64) (g : Nat → Int64) (hIv : YI v) (hCf : YC f) (hRf : progOK (f 4) (f 5) (v 9).toInt.toNat)  : ctI l (dC, dI) cy yX11_image cX11_image 3 .int 2 80 0 0 ((Nat → Int32) × (Nat → Nat → Int32) × (Int64) × (Nat → Int64)) [.ref y0, .int p1] (YW cy y0 r v f w g) (fun r u => YI u.1 ∧ YC u.2.1 ∧ progOK (u.2.1 4) (u.2.1 5) (u.1 9).toInt.toNat ∧ u.1 0 = v 0 ∧ u.1 1 = v 1 ∧ u.1 3 = v 3 ∧ u.1 4 = v 4 ∧ u.1 5 = v 5 ∧ u.1 8 = v 8 ∧ u.1 9 = v 9 ∧ u.1 10 = v 10 ∧ u.1 17 = v 17 ∧ u.1 18 = v 18 ∧ u.1 24 = v 24 ∧ u.1 25 = v 25 ∧ u.1 35 = v 35 ∧ u.1 36 = v 36 ∧ u.1 38 = v 38 ∧ u.1 39 = v 39) (fun u => YW cy y0 r u.1 u.2.1 u.2.2.1 u.2.2.2) := by
  refine ctI_of (by decide) (Nat.le_of_ble_eq_true rfl) (fun p e s m below meth c A ls Q hx hb hml hts hown hE hP hD hA hl ret => ?_)
  have hUv : (v 35).toInt + (v 36).toInt ≤ 40 := hIv.2
  have hown : s.vm.findClass RX11 = some m.cls := hown
  have hS : va_S A s.heap s.heap [] := va_S.rf
  have hl : lv_has ls 3 [(0, .ref y0), (1, .int p1)] := hl
  refine lv_iload_n hx hb dX11_image_0 rfl (lv_at hl 1 rfl) ?_
  refine cbSi (n := 1) (rest := []) hx hb hml hown hts hE hP hD hS hA (sY_X11_isBox_1 l dC dI cy y0 r p1 v f w g hIv hCf hRf ) k_2048 k_2049 k_114 k_2050 (by decide +kernel) ⟨Nat.le_of_ble_eq_true rfl, Nat.le_of_ble_eq_true rfl⟩ (rfl) hl.1 rfl (Nat.le_of_ble_eq_true rfl) dX11_image_1 (fun r1 u H locs hw hP hD hS => ?_)
  rcases hw with ⟨g2, g2_0, g2_1⟩ | ⟨g2⟩
  · skip
    subst g2
    refine lv_if_ne (tgt := 9) hx hb dX11_image_4 (by decide) (fun _ => ?_) (fun c0 => absurd c0 (by decide))
    refine lv_aload_n hx hb dX11_image_9 rfl (lv_at hl 0 rfl) ?_
    refine va_get (D := (dC, dI)) (ci := 11) (v := .ref (r 77)) (C := RX11) (T := TX11) (N := 79) hx hb hts inB_11 hown hE.1 hP 0 rfl rfl 77 (by decide) (hts _ k_1397) (fun _ h9 => h9) rfl dX11_image_10 ?_
    refine lv_iload_n hx hb dX11_image_13 rfl (lv_at hl 1 rfl) ?_
    refine lv_iconst (v := 1) hx hb dX11_image_14 (by decide) ?_
    refine stZ hx hb hE hP hD hS 37 rfl (vp_in_iff.mpr ⟨by omega, by omega⟩) rfl dX11_image_15 (fun H locs hP hD hS => ?_)
    obtain ⟨f3, ef3, hP, hD⟩ : ∃ fz9, fz9 = upd2 f 36 (upd (f 36) p1.toNatClampNeg (vp_nar .boolean 1)) ∧ va_P (dC, dI) vwCl (YW cy y0 r v fz9 w g) H ∧ va_D A (YW cy y0 r v fz9 w g) := ⟨_, rfl, hP, hD⟩
    have hCf3 : YC f3 := by rw [ef3]; exact hCf
    have hRf3 : progOK (f3 4) (f3 5) (v 9).toInt.toNat := by rw [ef3]; exact hRf
    refine lv_iconst (v := 0) hx hb dX11_image_16 (by decide) ?_
    refine lv_istore_n (lv' := [(2, .int 0), (0, .ref y0), (1, .int p1)]) hx hb dX11_image_17 rfl hl (by decide) rfl (fun ls hl => ?_)
    have lp4 : ∀ (n4 : Nat) (l2_4 : Int32) (v4 : Nat → Int32) (f4 : Nat → Nat → Int32) (w4 : Int64) (g4 : Nat → Int64), YI v4 → YC f4 → progOK (f4 4) (f4 5) (v4 9).toInt.toNat → v4 0 = (v 0) → v4 1 = (v 1) → v4 3 = (v 3) → v4 4 = (v 4) → v4 5 = (v 5) → v4 8 = (v 8) → v4 9 = (v 9) → v4 10 = (v 10) → v4 17 = (v 17) → v4 18 = (v 18) → v4 24 = (v 24) → v4 25 = (v 25) → v4 35 = (v 35) → v4 36 = (v 36) → v4 38 = (v 38) → v4 39 = (v 39) → ((0 : Int) ≤ l2_4.toInt ∧ l2_4.toInt ≤ 2147483647) → (2147483647 - l2_4.toInt).toNat < n4 → ∀ (H : Heap) (locs : List Loc) (ls : Array Slot), va_P (dC, dI) vwCl (YW cy y0 r v4 f4 w4 g4) H → va_D A (YW cy y0 r v4 f4 w4 g4) → va_S A s.heap H locs → lv_has ls 3 [(2, .int l2_4), (0, .ref y0), (1, .int p1)] → W p l e { frames := 2, cells := 0, slots := 0, locals := 80 } s m ([.ref y0, .int p1] : List Value).toArray below meth c H locs 0 0 Q (F0 m 18 ls []) := by
      intro n4
      induction n4 with
      | zero => intro l2_4 v4 f4 w4 g4 hIv4 hCf4 hRf4 hq0_v4 hq1_v4 hq3_v4 hq4_v4 hq5_v4 hq8_v4 hq9_v4 hq10_v4 hq17_v4 hq18_v4 hq24_v4 hq25_v4 hq35_v4 hq36_v4 hq38_v4 hq39_v4 hr2_4 hm; exact absurd hm (Nat.not_lt_zero _)
      | succ n4 ih4 =>
        intro l2_4 v4 f4 w4 g4 hIv4 hCf4 hRf4 hq0_v4 hq1_v4 hq3_v4 hq4_v4 hq5_v4 hq8_v4 hq9_v4 hq10_v4 hq17_v4 hq18_v4 hq24_v4 hq25_v4 hq35_v4 hq36_v4 hq38_v4 hq39_v4 hr2_4 hm4 H locs ls hP hD hS hl
        have hUv4 : (v4 35).toInt + (v4 36).toInt ≤ 40 := hIv4.2
        have zq3_v4 := congrArg Int32.toInt hq3_v4
        have zq4_v4 := congrArg Int32.toInt hq4_v4
        have zq5_v4 := congrArg Int32.toInt hq5_v4
        have zq9_v4 := congrArg Int32.toInt hq9_v4
        have zq35_v4 := congrArg Int32.toInt hq35_v4
        have zq36_v4 := congrArg Int32.toInt hq36_v4
        refine lv_iload_n hx hb dX11_image_18 rfl (lv_at hl 0 rfl) ?_
        refine lv_bipush (v := 39) hx hb dX11_image_19 (by decide) ?_
        refine lv_icmp_ge (tgt := 47) hx hb dX11_image_21 (by decide) (fun c5 => ?_) (fun c5 => ?_)
        · skip
          have zc5 : 39 ≤ l2_4.toInt := by rw [fa_le, show (39 : Int32).toInt = 39 from by decide] at c5; exact c5
          refine lv_aload_n hx hb dX11_image_47 rfl (lv_at hl 1 rfl) ?_
          refine va_get (D := (dC, dI)) (ci := 11) (v := .ref (r 59)) (C := RX11) (T := TX11) (N := 79) hx hb hts inB_11 hown hE.1 hP 0 rfl rfl 59 (by decide) (hts _ k_1379) (fun _ h9 => h9) rfl dX11_image_48 ?_
          refine lv_bipush (v := 37) hx hb dX11_image_51 (by decide) ?_
          refine ldI hx hb hE hP 24 rfl (vp_in_nI (n := 37) (by decide) (by decide)) rfl rfl dX11_image_53 ?_
          refine lv_topi (fun t6 et6 => ?_)
          have zt6 : 37 % 39 < 6 ∨ 12 ≤ 37 % 39 ∨ (-1 ≤ t6.toInt ∧ t6.toInt ≤ 5) := by rw [et6]; exact wear_ld hCf4.1 (show 37 < 39 by omega)
          exact ret t6 (v4, f4, w4, g4) _ _ _ _ _ _ rfl ⟨hIv4, hCf4, hRf4, (show v4 0 = v 0 from hq0_v4), (show v4 1 = v 1 from hq1_v4), (show v4 3 = v 3 from hq3_v4), (show v4 4 = v 4 from hq4_v4), (show v4 5 = v 5 from hq5_v4), (show v4 8 = v 8 from hq8_v4), (show v4 9 = v 9 from hq9_v4), (show v4 10 = v 10 from hq10_v4), (show v4 17 = v 17 from hq17_v4), (show v4 18 = v 18 from hq18_v4), (show v4 24 = v 24 from hq24_v4), (show v4 25 = v 25 from hq25_v4), (show v4 35 = v 35 from hq35_v4), (show v4 36 = v 36 from hq36_v4), (show v4 38 = v 38 from hq38_v4), (show v4 39 = v 39 from hq39_v4)⟩ hP hD hS dX11_image_54 (Nat.le_refl _) (Nat.le_refl _)
        · skip
          have zc5 : ¬ (39 ≤ l2_4.toInt) := by rw [fa_le, show (39 : Int32).toInt = 39 from by decide] at c5; exact c5
          refine lv_aload_n hx hb dX11_image_24 rfl (lv_at hl 1 rfl) ?_
          refine va_get (D := (dC, dI)) (ci := 11) (v := .ref (r 78)) (C := RX11) (T := TX11) (N := 79) hx hb hts inB_11 hown hE.1 hP 0 rfl rfl 78 (by decide) (hts _ k_1398) (fun _ h9 => h9) rfl dX11_image_25 ?_
          refine lv_bipush (v := 39) hx hb dX11_image_28 (by decide) ?_
          refine lv_iload_n hx hb dX11_image_30 rfl (lv_at hl 2 rfl) ?_
          refine lv_imul hx hb dX11_image_31 ?_
          refine lv_topi (fun t7 et7 => ?_)
          have rg8 := fb_rng p1
          have zt7 : t7.toInt = 39 * p1.toInt := by rw [et7]; exact mul_i (by decide) rfl (by omega) (by omega)
          refine lv_iload_n hx hb dX11_image_32 rfl (lv_at hl 0 rfl) ?_
          refine lv_iadd hx hb dX11_image_33 ?_
          refine lv_topi (fun t9 et9 => ?_)
          have rg10 := fb_rng t7
          have rg11 := fb_rng l2_4
          have zt9 : t9.toInt = t7.toInt + l2_4.toInt := by rw [et9]; exact add_i rfl rfl (by omega) (by omega)
          refine lv_aload_n hx hb dX11_image_34 rfl (lv_at hl 1 rfl) ?_
          refine va_get (D := (dC, dI)) (ci := 11) (v := .ref (r 59)) (C := RX11) (T := TX11) (N := 79) hx hb hts inB_11 hown hE.1 hP 0 rfl rfl 59 (by decide) (hts _ k_1379) (fun _ h9 => h9) rfl dX11_image_35 ?_
          refine lv_iload_n hx hb dX11_image_38 rfl (lv_at hl 0 rfl) ?_
          refine ldI hx hb hE hP 24 rfl (vp_in_iff.mpr ⟨by omega, by omega⟩) rfl rfl dX11_image_39 ?_
          refine lv_topi (fun t12 et12 => ?_)
          have zt12 : l2_4.toInt.toNat % 39 < 6 ∨ 12 ≤ l2_4.toInt.toNat % 39 ∨ (-1 ≤ t12.toInt ∧ t12.toInt ≤ 5) := by rw [et12]; exact wear_ld hCf4.1 (show l2_4.toInt.toNat < 39 by omega)
          refine stI hx hb hE hP hD hS 38 rfl (vp_in_iff.mpr ⟨by omega, by omega⟩) rfl dX11_image_40 (fun H locs hP hD hS => ?_)
          obtain ⟨f13, ef13, hP, hD⟩ : ∃ fz9, fz9 = upd2 f4 37 (upd (f4 37) t9.toNatClampNeg t12) ∧ va_P (dC, dI) vwCl (YW cy y0 r v4 fz9 w4 g4) H ∧ va_D A (YW cy y0 r v4 fz9 w4 g4) := ⟨_, rfl, hP, hD⟩
          have hCf13 : YC f13 := by rw [ef13]; exact ⟨hCf4.1, hCf4.2.1, hCf4.2.2.1, hCf4.2.2.2.1, hCf4.2.2.2.2.1, (wear_st hCf4.2.2.2.2.2 (by show t9.toInt.toNat % 39 < 6 ∨ 12 ≤ t9.toInt.toNat % 39 ∨ (-1 ≤ t12.toInt ∧ t12.toInt ≤ 5); omega))⟩
          have hRf13 : progOK (f13 4) (f13 5) (v4 9).toInt.toNat := by rw [ef13]; exact hRf4
          obtain ⟨t14, et14⟩ : ∃ y : Int32, y = l2_4 + 1 := ⟨_, rfl⟩
          have zt14 : t14.toInt = l2_4.toInt + 1 := by rw [et14]; exact add_i rfl (by decide) (by omega) (by omega)
          refine lv_iinc (v := t14) (lv' := [(2, .int t14), (0, .ref y0), (1, .int p1)]) hx hb dX11_image_41 hl (k := 0) rfl (by rw [et14]; rfl) (by decide) rfl (fun ls hl => ?_)
          refine lv_goto (tgt := 18) hx hb dX11_image_44 (by decide) ?_
          have rg15 := fb_rng t14
          exact ih4 t14 v4 f13 w4 g4 hIv4 hCf13 hRf13 hq0_v4 hq1_v4 hq3_v4 hq4_v4 hq5_v4 hq8_v4 hq9_v4 hq10_v4 hq17_v4 hq18_v4 hq24_v4 hq25_v4 hq35_v4 hq36_v4 hq38_v4 hq39_v4 ⟨show (0 : Int) ≤ t14.toInt by omega, show t14.toInt ≤ (2147483647 : Int) by omega⟩ (by show (2147483647 - t14.toInt).toNat < n4; omega) _ _ _ hP hD hS (lv_sub hl [0, 1, 2] rfl)
    exact lp4 _ 0 v f3 w g hIv hCf3 hRf3 rfl rfl rfl rfl rfl rfl rfl rfl rfl rfl rfl rfl rfl rfl rfl rfl ⟨by decide, by decide⟩ (Nat.lt_succ_self _) _ _ _ hP hD hS (lv_sub hl [0, 1, 2] rfl)
  · skip
    subst g2
    refine lv_if_ne (tgt := 9) hx hb dX11_image_4 (by decide) (fun c0 => absurd (by decide) c0) (fun _ => ?_)
    refine lv_iconst (v := (-1)) hx hb dX11_image_7 (by decide) ?_
    exact ret (-1) (v, f, w, g) _ _ _ _ _ _ rfl ⟨hIv, hCf, hRf, rfl, rfl, rfl, rfl, rfl, rfl, rfl, rfl, rfl, rfl, rfl, rfl, rfl, rfl, rfl, rfl⟩ hP hD hS dX11_image_8 (Nat.le_refl _) (Nat.le_refl _)
set_option maxHeartbeats 4000000 in
set_option maxRecDepth 100000 in
theorem sY_X11_back_1 (l : Launch) (dC : Nat → ClassId) (dI : Nat → Nat → Nat) (cy : Nat → ClassId) (y0 : Nat) (r : Nat → Nat) (p1 : Int32) (v : Nat → Int32) (f : Nat → Nat → Int32) (w : Int64) (g : Nat → Int64) (hIv : YI v) (hCf : YC f) (hRf : progOK (f 4) (f 5) (v 9).toInt.toNat)  : ctI l (dC, dI) cy yX11_back cX11_back 3 .int 2 80 0 0 ((Nat → Int32) × (Nat → Nat → Int32) × (Int64) × (Nat → Int64)) [.ref y0, .int p1] (YW cy y0 r v f w g) (fun r u => YI u.1 ∧ YC u.2.1 ∧ progOK (u.2.1 4) (u.2.1 5) (u.1 9).toInt.toNat ∧ u.1 0 = v 0 ∧ u.1 1 = v 1 ∧ u.1 3 = v 3 ∧ u.1 4 = v 4 ∧ u.1 5 = v 5 ∧ u.1 8 = v 8 ∧ u.1 9 = v 9 ∧ u.1 10 = v 10 ∧ u.1 17 = v 17 ∧ u.1 18 = v 18 ∧ u.1 24 = v 24 ∧ u.1 25 = v 25 ∧ u.1 38 = v 38 ∧ u.1 39 = v 39) (fun u => YW cy y0 r u.1 u.2.1 u.2.2.1 u.2.2.2) := by
  refine ctI_of (by decide) (Nat.le_of_ble_eq_true rfl) (fun p e s m below meth c A ls Q hx hb hml hts hown hE hP hD hA hl ret => ?_)
  have hUv : (v 35).toInt + (v 36).toInt ≤ 40 := hIv.2
  have hown : s.vm.findClass RX11 = some m.cls := hown
  have hS : va_S A s.heap s.heap [] := va_S.rf
  have hl : lv_has ls 3 [(0, .ref y0), (1, .int p1)] := hl
  refine lv_iload_n hx hb dX11_back_0 rfl (lv_at hl 1 rfl) ?_
  refine cbSi (n := 1) (rest := []) hx hb hml hown hts hE hP hD hS hA (sY_X11_isBox_1 l dC dI cy y0 r p1 v f w g hIv hCf hRf ) k_2048 k_2049 k_114 k_2050 (by decide +kernel) ⟨Nat.le_of_ble_eq_true rfl, Nat.le_of_ble_eq_true rfl⟩ (rfl) hl.1 rfl (Nat.le_of_ble_eq_true rfl) dX11_back_1 (fun r1 u H locs hw hP hD hS => ?_)
  rcases hw with ⟨g2, g2_0, g2_1⟩ | ⟨g2⟩
  · skip
    subst g2
    refine lv_if_eq (tgt := 16) hx hb dX11_back_4 (by decide) (fun c0 => absurd c0 (by decide)) (fun _ => ?_)
    refine lv_aload_n hx hb dX11_back_7 rfl (lv_at hl 0 rfl) ?_
    refine va_get (D := (dC, dI)) (ci := 11) (v := .ref (r 77)) (C := RX11) (T := TX11) (N := 79) hx hb hts inB_11 hown hE.1 hP 0 rfl rfl 77 (by decide) (hts _ k_1397) (fun _ h9 => h9) rfl dX11_back_8 ?_
    refine lv_iload_n hx hb dX11_back_11 rfl (lv_at hl 1 rfl) ?_
    refine ldZ hx hb hE hP 37 rfl (vp_in_iff.mpr ⟨by omega, by omega⟩) rfl rfl dX11_back_12 ?_
    refine lv_topi (fun t3 et3 => ?_)
    refine lv_if_ne (tgt := 18) hx hb dX11_back_13 (by decide) (fun c4 => ?_) (fun c4 => ?_)
    · skip
      have zc4 : ¬ (t3.toInt = 0) := by rw [fa_eq, show (0 : Int32).toInt = 0 from by decide] at c4; exact c4
      refine lv_iconst (v := 0) hx hb dX11_back_18 (by decide) ?_
      refine lv_istore_n (lv' := [(2, .int 0), (0, .ref y0), (1, .int p1)]) hx hb dX11_back_19 rfl hl (by decide) rfl (fun ls hl => ?_)
      have lp5 : ∀ (n5 : Nat) (l2_5 : Int32) (v5 : Nat → Int32) (f5 : Nat → Nat → Int32) (w5 : Int64) (g5 : Nat → Int64), YI v5 → YC f5 → progOK (f5 4) (f5 5) (v5 9).toInt.toNat → v5 0 = (v 0) → v5 1 = (v 1) → v5 3 = (v 3) → v5 4 = (v 4) → v5 5 = (v 5) → v5 8 = (v 8) → v5 9 = (v 9) → v5 10 = (v 10) → v5 17 = (v 17) → v5 18 = (v 18) → v5 24 = (v 24) → v5 25 = (v 25) → v5 35 = (v 35) → v5 36 = (v 36) → v5 38 = (v 38) → v5 39 = (v 39) → ((0 : Int) ≤ l2_5.toInt ∧ l2_5.toInt ≤ 2147483647) → (2147483647 - l2_5.toInt).toNat < n5 → ∀ (H : Heap) (locs : List Loc) (ls : Array Slot), va_P (dC, dI) vwCl (YW cy y0 r v5 f5 w5 g5) H → va_D A (YW cy y0 r v5 f5 w5 g5) → va_S A s.heap H locs → lv_has ls 3 [(2, .int l2_5), (0, .ref y0), (1, .int p1)] → W p l e { frames := 2, cells := 0, slots := 0, locals := 80 } s m ([.ref y0, .int p1] : List Value).toArray below meth c H locs 0 0 Q (F0 m 20 ls []) := by
        intro n5
        induction n5 with
        | zero => intro l2_5 v5 f5 w5 g5 hIv5 hCf5 hRf5 hq0_v5 hq1_v5 hq3_v5 hq4_v5 hq5_v5 hq8_v5 hq9_v5 hq10_v5 hq17_v5 hq18_v5 hq24_v5 hq25_v5 hq35_v5 hq36_v5 hq38_v5 hq39_v5 hr2_5 hm; exact absurd hm (Nat.not_lt_zero _)
        | succ n5 ih5 =>
          intro l2_5 v5 f5 w5 g5 hIv5 hCf5 hRf5 hq0_v5 hq1_v5 hq3_v5 hq4_v5 hq5_v5 hq8_v5 hq9_v5 hq10_v5 hq17_v5 hq18_v5 hq24_v5 hq25_v5 hq35_v5 hq36_v5 hq38_v5 hq39_v5 hr2_5 hm5 H locs ls hP hD hS hl
          have hUv5 : (v5 35).toInt + (v5 36).toInt ≤ 40 := hIv5.2
          have zq3_v5 := congrArg Int32.toInt hq3_v5
          have zq4_v5 := congrArg Int32.toInt hq4_v5
          have zq5_v5 := congrArg Int32.toInt hq5_v5
          have zq9_v5 := congrArg Int32.toInt hq9_v5
          have zq35_v5 := congrArg Int32.toInt hq35_v5
          have zq36_v5 := congrArg Int32.toInt hq36_v5
          refine lv_iload_n hx hb dX11_back_20 rfl (lv_at hl 0 rfl) ?_
          refine lv_bipush (v := 39) hx hb dX11_back_21 (by decide) ?_
          refine lv_icmp_ge (tgt := 49) hx hb dX11_back_23 (by decide) (fun c6 => ?_) (fun c6 => ?_)
          · skip
            have zc6 : 39 ≤ l2_5.toInt := by rw [fa_le, show (39 : Int32).toInt = 39 from by decide] at c6; exact c6
            refine lv_aload_n hx hb dX11_back_49 rfl (lv_at hl 1 rfl) ?_
            refine lv_iconst (v := 0) hx hb dX11_back_50 (by decide) ?_
            refine va_put (D := (dC, dI)) (ci := 11) (v := .int 0) (ty := tyX11 62) (C := RX11) (T := TX11) (N := 79) hx hb hts inB_11 tyX11 tyX11_ok nmX11 hown hE.1 hP hD hS 0 rfl rfl 62 (by decide) (hts _ k_1382) (fun _ h9 => h9) rfl (tyX11_ok 62 (by decide)) rfl rfl (Nat.le_of_ble_eq_true rfl) dX11_back_51 (fun H locs hP hD hS => ?_)
            have hP : va_P (dC, dI) vwCl (YW cy y0 r (upd v5 35 0) f5 w5 g5) H := hP
            have hD : va_D A (YW cy y0 r (upd v5 35 0) f5 w5 g5) := hD
            refine lv_aload_n hx hb dX11_back_54 rfl (lv_at hl 1 rfl) ?_
            refine lv_iconst (v := 0) hx hb dX11_back_55 (by decide) ?_
            refine va_put (D := (dC, dI)) (ci := 11) (v := .int 0) (ty := tyX11 63) (C := RX11) (T := TX11) (N := 79) hx hb hts inB_11 tyX11 tyX11_ok nmX11 hown hE.1 hP hD hS 0 rfl rfl 63 (by decide) (hts _ k_1383) (fun _ h9 => h9) rfl (tyX11_ok 63 (by decide)) rfl rfl (Nat.le_of_ble_eq_true rfl) dX11_back_56 (fun H locs hP hD hS => ?_)
            have hP : va_P (dC, dI) vwCl (YW cy y0 r (upd (upd v5 35 0) 36 0) f5 w5 g5) H := hP
            have hD : va_D A (YW cy y0 r (upd (upd v5 35 0) 36 0) f5 w5 g5) := hD
            refine lv_aload_n hx hb dX11_back_59 rfl (lv_at hl 1 rfl) ?_
            refine va_get (D := (dC, dI)) (ci := 11) (v := .ref (r 59)) (C := RX11) (T := TX11) (N := 79) hx hb hts inB_11 hown hE.1 hP 0 rfl rfl 59 (by decide) (hts _ k_1379) (fun _ h9 => h9) rfl dX11_back_60 ?_
            refine lv_bipush (v := 37) hx hb dX11_back_63 (by decide) ?_
            refine ldI hx hb hE hP 24 rfl (vp_in_nI (n := 37) (by decide) (by decide)) rfl rfl dX11_back_65 ?_
            refine lv_topi (fun t7 et7 => ?_)
            have zt7 : 37 % 39 < 6 ∨ 12 ≤ 37 % 39 ∨ (-1 ≤ t7.toInt ∧ t7.toInt ≤ 5) := by rw [et7]; exact wear_ld hCf5.1 (show 37 < 39 by omega)
            exact ret t7 ((upd (upd v5 35 0) 36 0), f5, w5, g5) _ _ _ _ _ _ rfl ⟨⟨(YIb.upd (j := 36) (x := 0) (YIb.upd (j := 35) (x := 0) hIv5.1 (by decide) (by decide)) (by decide) (by decide)), (by have q9 := hIv5.2; have q0 : (0 : Int32).toInt = 0 := (by decide); show (0 : Int32).toInt + (0 : Int32).toInt ≤ 40; omega)⟩, hCf5, hRf5, (show v5 0 = v 0 from hq0_v5), (show v5 1 = v 1 from hq1_v5), (show v5 3 = v 3 from hq3_v5), (show v5 4 = v 4 from hq4_v5), (show v5 5 = v 5 from hq5_v5), (show v5 8 = v 8 from hq8_v5), (show v5 9 = v 9 from hq9_v5), (show v5 10 = v 10 from hq10_v5), (show v5 17 = v 17 from hq17_v5), (show v5 18 = v 18 from hq18_v5), (show v5 24 = v 24 from hq24_v5), (show v5 25 = v 25 from hq25_v5), (show v5 38 = v 38 from hq38_v5), (show v5 39 = v 39 from hq39_v5)⟩ hP hD hS dX11_back_66 (Nat.le_refl _) (Nat.le_refl _)
          · skip
            have zc6 : ¬ (39 ≤ l2_5.toInt) := by rw [fa_le, show (39 : Int32).toInt = 39 from by decide] at c6; exact c6
            refine lv_aload_n hx hb dX11_back_26 rfl (lv_at hl 1 rfl) ?_
            refine va_get (D := (dC, dI)) (ci := 11) (v := .ref (r 59)) (C := RX11) (T := TX11) (N := 79) hx hb hts inB_11 hown hE.1 hP 0 rfl rfl 59 (by decide) (hts _ k_1379) (fun _ h9 => h9) rfl dX11_back_27 ?_
            refine lv_iload_n hx hb dX11_back_30 rfl (lv_at hl 0 rfl) ?_
            refine lv_aload_n hx hb dX11_back_31 rfl (lv_at hl 1 rfl) ?_
            refine va_get (D := (dC, dI)) (ci := 11) (v := .ref (r 78)) (C := RX11) (T := TX11) (N := 79) hx hb hts inB_11 hown hE.1 hP 0 rfl rfl 78 (by decide) (hts _ k_1398) (fun _ h9 => h9) rfl dX11_back_32 ?_
            refine lv_bipush (v := 39) hx hb dX11_back_35 (by decide) ?_
            refine lv_iload_n hx hb dX11_back_37 rfl (lv_at hl 2 rfl) ?_
            refine lv_imul hx hb dX11_back_38 ?_
            refine lv_topi (fun t8 et8 => ?_)
            have rg9 := fb_rng p1
            have zt8 : t8.toInt = 39 * p1.toInt := by rw [et8]; exact mul_i (by decide) rfl (by omega) (by omega)
            refine lv_iload_n hx hb dX11_back_39 rfl (lv_at hl 0 rfl) ?_
            refine lv_iadd hx hb dX11_back_40 ?_
            refine lv_topi (fun t10 et10 => ?_)
            have rg11 := fb_rng t8
            have rg12 := fb_rng l2_5
            have zt10 : t10.toInt = t8.toInt + l2_5.toInt := by rw [et10]; exact add_i rfl rfl (by omega) (by omega)
            refine ldI hx hb hE hP 38 rfl (vp_in_iff.mpr ⟨by omega, by omega⟩) rfl rfl dX11_back_41 ?_
            refine lv_topi (fun t13 et13 => ?_)
            have zt13 : t10.toInt.toNat % 39 < 6 ∨ 12 ≤ t10.toInt.toNat % 39 ∨ (-1 ≤ t13.toInt ∧ t13.toInt ≤ 5) := by rw [et13]; exact wear_ld hCf5.2.2.2.2.2 (show t10.toInt.toNat < 117 by omega)
            refine stI hx hb hE hP hD hS 24 rfl (vp_in_iff.mpr ⟨by omega, by omega⟩) rfl dX11_back_42 (fun H locs hP hD hS => ?_)
            obtain ⟨f14, ef14, hP, hD⟩ : ∃ fz9, fz9 = upd2 f5 23 (upd (f5 23) l2_5.toNatClampNeg t13) ∧ va_P (dC, dI) vwCl (YW cy y0 r v5 fz9 w5 g5) H ∧ va_D A (YW cy y0 r v5 fz9 w5 g5) := ⟨_, rfl, hP, hD⟩
            have hCf14 : YC f14 := by rw [ef14]; exact ⟨(wear_st hCf5.1 (by show l2_5.toInt.toNat % 39 < 6 ∨ 12 ≤ l2_5.toInt.toNat % 39 ∨ (-1 ≤ t13.toInt ∧ t13.toInt ≤ 5); omega)), hCf5.2.1, hCf5.2.2.1, hCf5.2.2.2.1, hCf5.2.2.2.2.1, hCf5.2.2.2.2.2⟩
            have hRf14 : progOK (f14 4) (f14 5) (v5 9).toInt.toNat := by rw [ef14]; exact hRf5
            obtain ⟨t15, et15⟩ : ∃ y : Int32, y = l2_5 + 1 := ⟨_, rfl⟩
            have zt15 : t15.toInt = l2_5.toInt + 1 := by rw [et15]; exact add_i rfl (by decide) (by omega) (by omega)
            refine lv_iinc (v := t15) (lv' := [(2, .int t15), (0, .ref y0), (1, .int p1)]) hx hb dX11_back_43 hl (k := 0) rfl (by rw [et15]; rfl) (by decide) rfl (fun ls hl => ?_)
            refine lv_goto (tgt := 20) hx hb dX11_back_46 (by decide) ?_
            have rg16 := fb_rng t15
            exact ih5 t15 v5 f14 w5 g5 hIv5 hCf14 hRf14 hq0_v5 hq1_v5 hq3_v5 hq4_v5 hq5_v5 hq8_v5 hq9_v5 hq10_v5 hq17_v5 hq18_v5 hq24_v5 hq25_v5 hq35_v5 hq36_v5 hq38_v5 hq39_v5 ⟨show (0 : Int) ≤ t15.toInt by omega, show t15.toInt ≤ (2147483647 : Int) by omega⟩ (by show (2147483647 - t15.toInt).toNat < n5; omega) _ _ _ hP hD hS (lv_sub hl [0, 1, 2] rfl)
      exact lp5 _ 0 v f w g hIv hCf hRf rfl rfl rfl rfl rfl rfl rfl rfl rfl rfl rfl rfl rfl rfl rfl rfl ⟨by decide, by decide⟩ (Nat.lt_succ_self _) _ _ _ hP hD hS (lv_sub hl [0, 1, 2] rfl)
    · skip
      have zc4 : t3.toInt = 0 := by rw [fa_eq, show (0 : Int32).toInt = 0 from by decide] at c4; exact c4
      refine lv_iconst (v := (-1)) hx hb dX11_back_16 (by decide) ?_
      exact ret (-1) (v, f, w, g) _ _ _ _ _ _ rfl ⟨hIv, hCf, hRf, rfl, rfl, rfl, rfl, rfl, rfl, rfl, rfl, rfl, rfl, rfl, rfl, rfl, rfl⟩ hP hD hS dX11_back_17 (Nat.le_refl _) (Nat.le_refl _)
  · skip
    subst g2
    refine lv_if_eq (tgt := 16) hx hb dX11_back_4 (by decide) (fun _ => ?_) (fun c0 => absurd (by decide) c0)
    refine lv_iconst (v := (-1)) hx hb dX11_back_16 (by decide) ?_
    exact ret (-1) (v, f, w, g) _ _ _ _ _ _ rfl ⟨hIv, hCf, hRf, rfl, rfl, rfl, rfl, rfl, rfl, rfl, rfl, rfl, rfl, rfl, rfl, rfl, rfl⟩ hP hD hS dX11_back_17 (Nat.le_refl _) (Nat.le_refl _)
set_option maxHeartbeats 4000000 in
set_option maxRecDepth 100000 in
theorem sY_X11_about_1 (l : Launch) (dC : Nat → ClassId) (dI : Nat → Nat → Nat) (cy : Nat → ClassId) (y0 : Nat) (r : Nat → Nat) (p1 : Int32) (v : Nat → Int32) (f : Nat → Nat → Int32) (w : Int64) (g : Nat → Int64) (hIv : YI v) (hCf : YC f) (hRf : progOK (f 4) (f 5) (v 9).toInt.toNat)  : ctI l (dC, dI) cy yX11_about cX11_about 2 .int 1 60 0 0 Unit [.ref y0, .int p1] (YW cy y0 r v f w g) (fun r u => True) (fun u => YW cy y0 r v f w g) := by
  refine ctI_of (by decide) (Nat.le_of_ble_eq_true rfl) (fun p e s m below meth c A ls Q hx hb hml hts hown hE hP hD hA hl ret => ?_)
  have hUv : (v 35).toInt + (v 36).toInt ≤ 40 := hIv.2
  have hown : s.vm.findClass RX11 = some m.cls := hown
  have hS : va_S A s.heap s.heap [] := va_S.rf
  have hl : lv_has ls 2 [(0, .ref y0), (1, .int p1)] := hl
  refine lv_iload_n hx hb dX11_about_0 rfl (lv_at hl 1 rfl) ?_
  by_cases c1 : p1 = 0
  · skip
    refine lv_tableIn (off := 71) (tgt := 72) hx hb dX11_about_1 (by rw [c1]; decide) (by rw [c1]; decide) (by rw [c1]; decide) (by decide) ?_
    have zc1 : p1.toInt = 0 := by rw [fa_eq, show (0 : Int32).toInt = 0 from by decide] at c1; exact c1
    refine lv_aload_n hx hb dX11_about_72 rfl (lv_at hl 0 rfl) ?_
    refine va_get (D := (dC, dI)) (ci := 11) (v := .int (v 24)) (C := RX11) (T := TX11) (N := 79) hx hb hts inB_11 hown hE.1 hP 0 rfl rfl 48 (by decide) (hts _ k_1368) (fun _ h9 => h9) rfl dX11_about_73 ?_
    have b24_v : 0 ≤ (v 24).toInt ∧ (v 24).toInt ≤ 6 := YIb.b hIv.1 24 (by decide)
    exact ret (v 24) () _ _ _ _ _ _ rfl trivial hP hD hS dX11_about_76 (Nat.le_refl _) (Nat.le_refl _)
  · skip
    have zc1 : ¬ (p1.toInt = 0) := by rw [fa_eq, show (0 : Int32).toInt = 0 from by decide] at c1; exact c1
    by_cases c2 : p1 = 1
    · skip
      refine lv_tableIn (off := 76) (tgt := 77) hx hb dX11_about_1 (by rw [c2]; decide) (by rw [c2]; decide) (by rw [c2]; decide) (by decide) ?_
      have zc2 : p1.toInt = 1 := by rw [fa_eq, show (1 : Int32).toInt = 1 from by decide] at c2; exact c2
      refine lv_aload_n hx hb dX11_about_77 rfl (lv_at hl 0 rfl) ?_
      refine va_get (D := (dC, dI)) (ci := 11) (v := .int (v 25)) (C := RX11) (T := TX11) (N := 79) hx hb hts inB_11 hown hE.1 hP 0 rfl rfl 49 (by decide) (hts _ k_1369) (fun _ h9 => h9) rfl dX11_about_78 ?_
      have b25_v : 0 ≤ (v 25).toInt ∧ (v 25).toInt ≤ 6 := YIb.b hIv.1 25 (by decide)
      exact ret (v 25) () _ _ _ _ _ _ rfl trivial hP hD hS dX11_about_81 (Nat.le_refl _) (Nat.le_refl _)
    · skip
      have zc2 : ¬ (p1.toInt = 1) := by rw [fa_eq, show (1 : Int32).toInt = 1 from by decide] at c2; exact c2
      by_cases c3 : p1 = 2
      · skip
        refine lv_tableIn (off := 81) (tgt := 82) hx hb dX11_about_1 (by rw [c3]; decide) (by rw [c3]; decide) (by rw [c3]; decide) (by decide) ?_
        have zc3 : p1.toInt = 2 := by rw [fa_eq, show (2 : Int32).toInt = 2 from by decide] at c3; exact c3
        refine lv_aload_n hx hb dX11_about_82 rfl (lv_at hl 0 rfl) ?_
        refine va_get (D := (dC, dI)) (ci := 11) (v := .int (v 26)) (C := RX11) (T := TX11) (N := 79) hx hb hts inB_11 hown hE.1 hP 0 rfl rfl 50 (by decide) (hts _ k_1370) (fun _ h9 => h9) rfl dX11_about_83 ?_
        exact ret (v 26) () _ _ _ _ _ _ rfl trivial hP hD hS dX11_about_86 (Nat.le_refl _) (Nat.le_refl _)
      · skip
        have zc3 : ¬ (p1.toInt = 2) := by rw [fa_eq, show (2 : Int32).toInt = 2 from by decide] at c3; exact c3
        by_cases c4 : p1 = 3
        · skip
          refine lv_tableIn (off := 86) (tgt := 87) hx hb dX11_about_1 (by rw [c4]; decide) (by rw [c4]; decide) (by rw [c4]; decide) (by decide) ?_
          have zc4 : p1.toInt = 3 := by rw [fa_eq, show (3 : Int32).toInt = 3 from by decide] at c4; exact c4
          refine lv_aload_n hx hb dX11_about_87 rfl (lv_at hl 0 rfl) ?_
          refine va_get (D := (dC, dI)) (ci := 11) (v := .int (v 27)) (C := RX11) (T := TX11) (N := 79) hx hb hts inB_11 hown hE.1 hP 0 rfl rfl 51 (by decide) (hts _ k_1371) (fun _ h9 => h9) rfl dX11_about_88 ?_
          exact ret (v 27) () _ _ _ _ _ _ rfl trivial hP hD hS dX11_about_91 (Nat.le_refl _) (Nat.le_refl _)
        · skip
          have zc4 : ¬ (p1.toInt = 3) := by rw [fa_eq, show (3 : Int32).toInt = 3 from by decide] at c4; exact c4
          by_cases c5 : p1 = 4
          · skip
            refine lv_tableIn (off := 91) (tgt := 92) hx hb dX11_about_1 (by rw [c5]; decide) (by rw [c5]; decide) (by rw [c5]; decide) (by decide) ?_
            have zc5 : p1.toInt = 4 := by rw [fa_eq, show (4 : Int32).toInt = 4 from by decide] at c5; exact c5
            refine lv_aload_n hx hb dX11_about_92 rfl (lv_at hl 0 rfl) ?_
            refine va_get (D := (dC, dI)) (ci := 11) (v := .int (v 28)) (C := RX11) (T := TX11) (N := 79) hx hb hts inB_11 hown hE.1 hP 0 rfl rfl 52 (by decide) (hts _ k_1372) (fun _ h9 => h9) rfl dX11_about_93 ?_
            exact ret (v 28) () _ _ _ _ _ _ rfl trivial hP hD hS dX11_about_96 (Nat.le_refl _) (Nat.le_refl _)
          · skip
            have zc5 : ¬ (p1.toInt = 4) := by rw [fa_eq, show (4 : Int32).toInt = 4 from by decide] at c5; exact c5
            by_cases c6 : p1 = 5
            · skip
              refine lv_tableIn (off := 96) (tgt := 97) hx hb dX11_about_1 (by rw [c6]; decide) (by rw [c6]; decide) (by rw [c6]; decide) (by decide) ?_
              have zc6 : p1.toInt = 5 := by rw [fa_eq, show (5 : Int32).toInt = 5 from by decide] at c6; exact c6
              refine lv_aload_n hx hb dX11_about_97 rfl (lv_at hl 0 rfl) ?_
              refine va_get (D := (dC, dI)) (ci := 11) (v := .ref (r 59)) (C := RX11) (T := TX11) (N := 79) hx hb hts inB_11 hown hE.1 hP 0 rfl rfl 59 (by decide) (hts _ k_1379) (fun _ h9 => h9) rfl dX11_about_98 ?_
              refine lv_bipush (v := 37) hx hb dX11_about_101 (by decide) ?_
              refine ldI hx hb hE hP 24 rfl (vp_in_nI (n := 37) (by decide) (by decide)) rfl rfl dX11_about_103 ?_
              refine lv_topi (fun t7 et7 => ?_)
              have zt7 : 37 % 39 < 6 ∨ 12 ≤ 37 % 39 ∨ (-1 ≤ t7.toInt ∧ t7.toInt ≤ 5) := by rw [et7]; exact wear_ld hCf.1 (show 37 < 39 by omega)
              exact ret t7 () _ _ _ _ _ _ rfl trivial hP hD hS dX11_about_104 (Nat.le_refl _) (Nat.le_refl _)
            · skip
              have zc6 : ¬ (p1.toInt = 5) := by rw [fa_eq, show (5 : Int32).toInt = 5 from by decide] at c6; exact c6
              by_cases c8 : p1 = 6
              · skip
                refine lv_tableIn (off := 104) (tgt := 105) hx hb dX11_about_1 (by rw [c8]; decide) (by rw [c8]; decide) (by rw [c8]; decide) (by decide) ?_
                have zc8 : p1.toInt = 6 := by rw [fa_eq, show (6 : Int32).toInt = 6 from by decide] at c8; exact c8
                refine lv_aload_n hx hb dX11_about_105 rfl (lv_at hl 0 rfl) ?_
                refine va_get (D := (dC, dI)) (ci := 11) (v := .ref (r 59)) (C := RX11) (T := TX11) (N := 79) hx hb hts inB_11 hown hE.1 hP 0 rfl rfl 59 (by decide) (hts _ k_1379) (fun _ h9 => h9) rfl dX11_about_106 ?_
                refine lv_bipush (v := 38) hx hb dX11_about_109 (by decide) ?_
                refine ldI hx hb hE hP 24 rfl (vp_in_nI (n := 38) (by decide) (by decide)) rfl rfl dX11_about_111 ?_
                refine lv_topi (fun t9 et9 => ?_)
                have zt9 : 38 % 39 < 6 ∨ 12 ≤ 38 % 39 ∨ (-1 ≤ t9.toInt ∧ t9.toInt ≤ 5) := by rw [et9]; exact wear_ld hCf.1 (show 38 < 39 by omega)
                exact ret t9 () _ _ _ _ _ _ rfl trivial hP hD hS dX11_about_112 (Nat.le_refl _) (Nat.le_refl _)
              · skip
                have zc8 : ¬ (p1.toInt = 6) := by rw [fa_eq, show (6 : Int32).toInt = 6 from by decide] at c8; exact c8
                by_cases c10 : p1 = 7
                · skip
                  refine lv_tableIn (off := 112) (tgt := 113) hx hb dX11_about_1 (by rw [c10]; decide) (by rw [c10]; decide) (by rw [c10]; decide) (by decide) ?_
                  have zc10 : p1.toInt = 7 := by rw [fa_eq, show (7 : Int32).toInt = 7 from by decide] at c10; exact c10
                  refine lv_aload_n hx hb dX11_about_113 rfl (lv_at hl 0 rfl) ?_
                  refine va_get (D := (dC, dI)) (ci := 11) (v := .int (v 35)) (C := RX11) (T := TX11) (N := 79) hx hb hts inB_11 hown hE.1 hP 0 rfl rfl 62 (by decide) (hts _ k_1382) (fun _ h9 => h9) rfl dX11_about_114 ?_
                  have b35_v : 0 ≤ (v 35).toInt ∧ (v 35).toInt ≤ 40 := YIb.b hIv.1 35 (by decide)
                  exact ret (v 35) () _ _ _ _ _ _ rfl trivial hP hD hS dX11_about_117 (Nat.le_refl _) (Nat.le_refl _)
                · skip
                  have zc10 : ¬ (p1.toInt = 7) := by rw [fa_eq, show (7 : Int32).toInt = 7 from by decide] at c10; exact c10
                  by_cases c11 : p1 = 8
                  · skip
                    refine lv_tableIn (off := 117) (tgt := 118) hx hb dX11_about_1 (by rw [c11]; decide) (by rw [c11]; decide) (by rw [c11]; decide) (by decide) ?_
                    have zc11 : p1.toInt = 8 := by rw [fa_eq, show (8 : Int32).toInt = 8 from by decide] at c11; exact c11
                    refine lv_aload_n hx hb dX11_about_118 rfl (lv_at hl 0 rfl) ?_
                    refine va_get (D := (dC, dI)) (ci := 11) (v := .int (v 36)) (C := RX11) (T := TX11) (N := 79) hx hb hts inB_11 hown hE.1 hP 0 rfl rfl 63 (by decide) (hts _ k_1383) (fun _ h9 => h9) rfl dX11_about_119 ?_
                    have b36_v : 0 ≤ (v 36).toInt ∧ (v 36).toInt ≤ 40 := YIb.b hIv.1 36 (by decide)
                    exact ret (v 36) () _ _ _ _ _ _ rfl trivial hP hD hS dX11_about_122 (Nat.le_refl _) (Nat.le_refl _)
                  · skip
                    have zc11 : ¬ (p1.toInt = 8) := by rw [fa_eq, show (8 : Int32).toInt = 8 from by decide] at c11; exact c11
                    by_cases c12 : p1 = 9
                    · skip
                      refine lv_tableIn (off := 122) (tgt := 123) hx hb dX11_about_1 (by rw [c12]; decide) (by rw [c12]; decide) (by rw [c12]; decide) (by decide) ?_
                      have zc12 : p1.toInt = 9 := by rw [fa_eq, show (9 : Int32).toInt = 9 from by decide] at c12; exact c12
                      refine lv_aload_n hx hb dX11_about_123 rfl (lv_at hl 0 rfl) ?_
                      refine va_get (D := (dC, dI)) (ci := 11) (v := .int (v 38)) (C := RX11) (T := TX11) (N := 79) hx hb hts inB_11 hown hE.1 hP 0 rfl rfl 73 (by decide) (hts _ k_1393) (fun _ h9 => h9) rfl dX11_about_124 ?_
                      have b38_v : 0 ≤ (v 38).toInt ∧ (v 38).toInt ≤ 30 := YIb.b hIv.1 38 (by decide)
                      exact ret (v 38) () _ _ _ _ _ _ rfl trivial hP hD hS dX11_about_127 (Nat.le_refl _) (Nat.le_refl _)
                    · skip
                      have zc12 : ¬ (p1.toInt = 9) := by rw [fa_eq, show (9 : Int32).toInt = 9 from by decide] at c12; exact c12
                      by_cases c13 : p1 = 10
                      · skip
                        refine lv_tableIn (off := 127) (tgt := 128) hx hb dX11_about_1 (by rw [c13]; decide) (by rw [c13]; decide) (by rw [c13]; decide) (by decide) ?_
                        have zc13 : p1.toInt = 10 := by rw [fa_eq, show (10 : Int32).toInt = 10 from by decide] at c13; exact c13
                        refine lv_aload_n hx hb dX11_about_128 rfl (lv_at hl 0 rfl) ?_
                        refine va_get (D := (dC, dI)) (ci := 11) (v := .int (v 39)) (C := RX11) (T := TX11) (N := 79) hx hb hts inB_11 hown hE.1 hP 0 rfl rfl 74 (by decide) (hts _ k_1394) (fun _ h9 => h9) rfl dX11_about_129 ?_
                        have b39_v : 0 ≤ (v 39).toInt ∧ (v 39).toInt ≤ 100000 := YIb.b hIv.1 39 (by decide)
                        exact ret (v 39) () _ _ _ _ _ _ rfl trivial hP hD hS dX11_about_132 (Nat.le_refl _) (Nat.le_refl _)
                      · skip
                        have zc13 : ¬ (p1.toInt = 10) := by rw [fa_eq, show (10 : Int32).toInt = 10 from by decide] at c13; exact c13
                        by_cases c14 : p1 = 11
                        · skip
                          refine lv_tableIn (off := 132) (tgt := 133) hx hb dX11_about_1 (by rw [c14]; decide) (by rw [c14]; decide) (by rw [c14]; decide) (by decide) ?_
                          have zc14 : p1.toInt = 11 := by rw [fa_eq, show (11 : Int32).toInt = 11 from by decide] at c14; exact c14
                          refine lv_aload_n hx hb dX11_about_133 rfl (lv_at hl 0 rfl) ?_
                          refine va_get (D := (dC, dI)) (ci := 11) (v := .int (v 0)) (C := RX11) (T := TX11) (N := 79) hx hb hts inB_11 hown hE.1 hP 0 rfl rfl 1 (by decide) (hts _ k_1321) (fun _ h9 => h9) rfl dX11_about_134 ?_
                          have b0_v : 0 ≤ (v 0).toInt ∧ (v 0).toInt ≤ 1600 := YIb.b hIv.1 0 (by decide)
                          exact ret (v 0) () _ _ _ _ _ _ rfl trivial hP hD hS dX11_about_137 (Nat.le_refl _) (Nat.le_refl _)
                        · skip
                          have zc14 : ¬ (p1.toInt = 11) := by rw [fa_eq, show (11 : Int32).toInt = 11 from by decide] at c14; exact c14
                          by_cases c15 : p1 = 12
                          · skip
                            refine lv_tableIn (off := 137) (tgt := 138) hx hb dX11_about_1 (by rw [c15]; decide) (by rw [c15]; decide) (by rw [c15]; decide) (by decide) ?_
                            have zc15 : p1.toInt = 12 := by rw [fa_eq, show (12 : Int32).toInt = 12 from by decide] at c15; exact c15
                            refine lv_aload_n hx hb dX11_about_138 rfl (lv_at hl 0 rfl) ?_
                            refine va_get (D := (dC, dI)) (ci := 11) (v := .int (v 12)) (C := RX11) (T := TX11) (N := 79) hx hb hts inB_11 hown hE.1 hP 0 rfl rfl 21 (by decide) (hts _ k_1341) (fun _ h9 => h9) rfl dX11_about_139 ?_
                            exact ret (v 12) () _ _ _ _ _ _ rfl trivial hP hD hS dX11_about_142 (Nat.le_refl _) (Nat.le_refl _)
                          · skip
                            have zc15 : ¬ (p1.toInt = 12) := by rw [fa_eq, show (12 : Int32).toInt = 12 from by decide] at c15; exact c15
                            by_cases c16 : p1 = 13
                            · skip
                              refine lv_tableIn (off := 142) (tgt := 143) hx hb dX11_about_1 (by rw [c16]; decide) (by rw [c16]; decide) (by rw [c16]; decide) (by decide) ?_
                              have zc16 : p1.toInt = 13 := by rw [fa_eq, show (13 : Int32).toInt = 13 from by decide] at c16; exact c16
                              refine lv_aload_n hx hb dX11_about_143 rfl (lv_at hl 0 rfl) ?_
                              refine va_get (D := (dC, dI)) (ci := 11) (v := .int (v 37)) (C := RX11) (T := TX11) (N := 79) hx hb hts inB_11 hown hE.1 hP 0 rfl rfl 67 (by decide) (hts _ k_1387) (fun _ h9 => h9) rfl dX11_about_144 ?_
                              have b37_v : 0 ≤ (v 37).toInt ∧ (v 37).toInt ≤ 6 := YIb.b hIv.1 37 (by decide)
                              exact ret (v 37) () _ _ _ _ _ _ rfl trivial hP hD hS dX11_about_147 (Nat.le_refl _) (Nat.le_refl _)
                            · skip
                              have zc16 : ¬ (p1.toInt = 13) := by rw [fa_eq, show (13 : Int32).toInt = 13 from by decide] at c16; exact c16
                              refine lv_tableOut (tgt := 148) hx hb dX11_about_1 (by omega) (by decide) ?_
                              refine lv_iconst (v := (-1)) hx hb dX11_about_148 (by decide) ?_
                              exact ret (-1) () _ _ _ _ _ _ rfl trivial hP hD hS dX11_about_149 (Nat.le_refl _) (Nat.le_refl _)
set_option maxHeartbeats 4000000 in
set_option maxRecDepth 100000 in
theorem sY_X11_wrong_1 (l : Launch) (dC : Nat → ClassId) (dI : Nat → Nat → Nat) (cy : Nat → ClassId) (y0 : Nat) (r : Nat → Nat) (p1 : Int32) (v : Nat → Int32) (f : Nat → Nat → Int32) (w : Int64) (g : Nat → Int64) (hIv : YI v) (hCf : YC f) (hRf : progOK (f 4) (f 5) (v 9).toInt.toNat)  : ctV l (dC, dI) cy yX11_wrong cX11_wrong 2 1 60 0 0 ((Nat → Int32) × (Nat → Nat → Int32) × (Int64) × (Nat → Int64)) [.ref y0, .int p1] (YW cy y0 r v f w g) (fun u => YI u.1 ∧ YC u.2.1 ∧ progOK (u.2.1 4) (u.2.1 5) (u.1 9).toInt.toNat ∧ u.1 0 = v 0 ∧ u.1 3 = v 3 ∧ u.1 4 = v 4 ∧ u.1 5 = v 5 ∧ u.1 8 = v 8 ∧ u.1 9 = v 9 ∧ u.1 10 = v 10 ∧ u.1 17 = v 17 ∧ u.1 18 = v 18 ∧ u.1 24 = v 24 ∧ u.1 25 = v 25 ∧ u.1 35 = v 35 ∧ u.1 36 = v 36 ∧ u.1 38 = v 38 ∧ u.1 39 = v 39 ∧ ((v 3).toInt ≤ (u.1 3).toInt) ∧ ((u.1 5).toInt = (v 5).toInt ∨ (v 3).toInt < (u.1 3).toInt ∨ ¬ (u.1 5).toInt = 59)) (fun u => YW cy y0 r u.1 u.2.1 u.2.2.1 u.2.2.2) := by
  refine ctV_of (by decide) (Nat.le_of_ble_eq_true rfl) (fun p e s m below meth c A ls Q hx hb hml hts hown hnm hE hP hD hA hl ret => ?_)
  have hUv : (v 35).toInt + (v 36).toInt ≤ 40 := hIv.2
  have hown : s.vm.findClass RX11 = some m.cls := hown
  have hS : va_S A s.heap s.heap [] := va_S.rf
  have hl : lv_has ls 2 [(0, .ref y0), (1, .int p1)] := hl
  refine lv_aload_n hx hb dX11_wrong_0 rfl (lv_at hl 0 rfl) ?_
  refine va_get (D := (dC, dI)) (ci := 11) (v := .int (v 1)) (C := RX11) (T := TX11) (N := 79) hx hb hts inB_11 hown hE.1 hP 0 rfl rfl 2 (by decide) (hts _ k_1322) (fun _ h9 => h9) rfl dX11_wrong_1 ?_
  refine lv_if_le (tgt := 8) hx hb dX11_wrong_4 (by decide) (fun c1 => ?_) (fun c1 => ?_)
  · skip
    have zc1 : (v 1).toInt ≤ 0 := by rw [fa_le, show (0 : Int32).toInt = 0 from by decide] at c1; exact c1
    refine lv_aload_n hx hb dX11_wrong_8 rfl (lv_at hl 0 rfl) ?_
    refine lv_aload_n hx hb dX11_wrong_9 rfl (lv_at hl 0 rfl) ?_
    refine va_get (D := (dC, dI)) (ci := 11) (v := .int (v 5)) (C := RX11) (T := TX11) (N := 79) hx hb hts inB_11 hown hE.1 hP 0 rfl rfl 6 (by decide) (hts _ k_1326) (fun _ h9 => h9) rfl dX11_wrong_10 ?_
    refine lv_iconst (v := 3) hx hb dX11_wrong_13 (by decide) ?_
    refine lv_icmp_ne (tgt := 21) hx hb dX11_wrong_14 (by decide) (fun c2 => ?_) (fun c2 => ?_)
    · skip
      have zc2 : ¬ ((v 5).toInt = 3) := by rw [fa_eq, show (3 : Int32).toInt = 3 from by decide] at c2; exact c2
      refine lv_iload_n hx hb dX11_wrong_21 rfl (lv_at hl 1 rfl) ?_
      refine va_put (D := (dC, dI)) (ci := 11) (v := .int p1) (ty := tyX11 2) (C := RX11) (T := TX11) (N := 79) hx hb hts inB_11 tyX11 tyX11_ok nmX11 hown hE.1 hP hD hS 0 rfl rfl 2 (by decide) (hts _ k_1322) (fun _ h9 => h9) rfl (tyX11_ok 2 (by decide)) rfl rfl (Nat.le_of_ble_eq_true rfl) dX11_wrong_22 (fun H locs hP hD hS => ?_)
      have hP : va_P (dC, dI) vwCl (YW cy y0 r (upd v 1 p1) f w g) H := hP
      have hD : va_D A (YW cy y0 r (upd v 1 p1) f w g) := hD
      refine lv_aload_n hx hb dX11_wrong_25 rfl (lv_at hl 0 rfl) ?_
      refine lv_aload_n hx hb dX11_wrong_26 rfl (lv_at hl 0 rfl) ?_
      refine va_get (D := (dC, dI)) (ci := 11) (v := .int (v 6)) (C := RX11) (T := TX11) (N := 79) hx hb hts inB_11 hown hE.1 hP 0 rfl rfl 7 (by decide) (hts _ k_1327) (fun _ h9 => h9) rfl dX11_wrong_27 ?_
      refine va_put (D := (dC, dI)) (ci := 11) (v := .int (v 6)) (ty := tyX11 3) (C := RX11) (T := TX11) (N := 79) hx hb hts inB_11 tyX11 tyX11_ok nmX11 hown hE.1 hP hD hS 0 rfl rfl 3 (by decide) (hts _ k_1323) (fun _ h9 => h9) rfl (tyX11_ok 3 (by decide)) rfl rfl (Nat.le_of_ble_eq_true rfl) dX11_wrong_30 (fun H locs hP hD hS => ?_)
      have hP : va_P (dC, dI) vwCl (YW cy y0 r (upd (upd v 1 p1) 2 (v 6)) f w g) H := hP
      have hD : va_D A (YW cy y0 r (upd (upd v 1 p1) 2 (v 6)) f w g) := hD
      exact ret ((upd (upd v 1 p1) 2 (v 6)), f, w, g) _ _ _ _ _ _ ⟨⟨(YIb.upd (j := 2) (x := (v 6)) (YIb.upd (j := 1) (x := p1) hIv.1 (rlo _) (rhi _)) (rlo _) (rhi _)), hIv.2⟩, hCf, hRf, rfl, rfl, rfl, rfl, rfl, rfl, rfl, rfl, rfl, rfl, rfl, rfl, rfl, rfl, rfl, (by show (v 3).toInt ≤ (v 3).toInt; omega), (by show (v 5).toInt = (v 5).toInt ∨ (v 3).toInt < (v 3).toInt ∨ ¬ (v 5).toInt = 59; omega)⟩ hP hD hS dX11_wrong_33 (Nat.le_refl _) (Nat.le_refl _)
    · skip
      have zc2 : (v 5).toInt = 3 := by rw [fa_eq, show (3 : Int32).toInt = 3 from by decide] at c2; exact c2
      refine lv_iconst (v := 1) hx hb dX11_wrong_17 (by decide) ?_
      refine lv_goto (tgt := 22) hx hb dX11_wrong_18 (by decide) ?_
      refine va_put (D := (dC, dI)) (ci := 11) (v := .int 1) (ty := tyX11 2) (C := RX11) (T := TX11) (N := 79) hx hb hts inB_11 tyX11 tyX11_ok nmX11 hown hE.1 hP hD hS 0 rfl rfl 2 (by decide) (hts _ k_1322) (fun _ h9 => h9) rfl (tyX11_ok 2 (by decide)) rfl rfl (Nat.le_of_ble_eq_true rfl) dX11_wrong_22 (fun H locs hP hD hS => ?_)
      have hP : va_P (dC, dI) vwCl (YW cy y0 r (upd v 1 1) f w g) H := hP
      have hD : va_D A (YW cy y0 r (upd v 1 1) f w g) := hD
      refine lv_aload_n hx hb dX11_wrong_25 rfl (lv_at hl 0 rfl) ?_
      refine lv_aload_n hx hb dX11_wrong_26 rfl (lv_at hl 0 rfl) ?_
      refine va_get (D := (dC, dI)) (ci := 11) (v := .int (v 6)) (C := RX11) (T := TX11) (N := 79) hx hb hts inB_11 hown hE.1 hP 0 rfl rfl 7 (by decide) (hts _ k_1327) (fun _ h9 => h9) rfl dX11_wrong_27 ?_
      refine va_put (D := (dC, dI)) (ci := 11) (v := .int (v 6)) (ty := tyX11 3) (C := RX11) (T := TX11) (N := 79) hx hb hts inB_11 tyX11 tyX11_ok nmX11 hown hE.1 hP hD hS 0 rfl rfl 3 (by decide) (hts _ k_1323) (fun _ h9 => h9) rfl (tyX11_ok 3 (by decide)) rfl rfl (Nat.le_of_ble_eq_true rfl) dX11_wrong_30 (fun H locs hP hD hS => ?_)
      have hP : va_P (dC, dI) vwCl (YW cy y0 r (upd (upd v 1 1) 2 (v 6)) f w g) H := hP
      have hD : va_D A (YW cy y0 r (upd (upd v 1 1) 2 (v 6)) f w g) := hD
      exact ret ((upd (upd v 1 1) 2 (v 6)), f, w, g) _ _ _ _ _ _ ⟨⟨(YIb.upd (j := 2) (x := (v 6)) (YIb.upd (j := 1) (x := 1) hIv.1 (rlo _) (rhi _)) (rlo _) (rhi _)), hIv.2⟩, hCf, hRf, rfl, rfl, rfl, rfl, rfl, rfl, rfl, rfl, rfl, rfl, rfl, rfl, rfl, rfl, rfl, (by have q0 : (1 : Int32).toInt = 1 := (by decide); show (v 3).toInt ≤ (v 3).toInt; omega), (by have q0 : (1 : Int32).toInt = 1 := (by decide); show (v 5).toInt = (v 5).toInt ∨ (v 3).toInt < (v 3).toInt ∨ ¬ (v 5).toInt = 59; omega)⟩ hP hD hS dX11_wrong_33 (Nat.le_refl _) (Nat.le_refl _)
  · skip
    have zc1 : ¬ ((v 1).toInt ≤ 0) := by rw [fa_le, show (0 : Int32).toInt = 0 from by decide] at c1; exact c1
    exact ret (v, f, w, g) _ _ _ _ _ _ ⟨hIv, hCf, hRf, rfl, rfl, rfl, rfl, rfl, rfl, rfl, rfl, rfl, rfl, rfl, rfl, rfl, rfl, rfl, (by show (v 3).toInt ≤ (v 3).toInt; omega), (by show (v 5).toInt = (v 5).toInt ∨ (v 3).toInt < (v 3).toInt ∨ ¬ (v 5).toInt = 59; omega)⟩ hP hD hS dX11_wrong_7 (Nat.le_refl _) (Nat.le_refl _)
set_option maxHeartbeats 4000000 in
set_option maxRecDepth 100000 in
theorem sY_X11_isWord_1 (l : Launch) (dC : Nat → ClassId) (dI : Nat → Nat → Nat) (cy : Nat → ClassId) (y0 : Nat) (r : Nat → Nat) (j1 : Int64) (v : Nat → Int32) (f : Nat → Nat → Int32) (w : Int64) (g : Nat → Int64) (hIv : YI v) (hCf : YC f) (hRf : progOK (f 4) (f 5) (v 9).toInt.toNat)  : ctI l (dC, dI) cy yX11_isWord cX11_isWord 3 .boolean 1 60 0 0 Unit [.ref y0, .long j1] (YW cy y0 r v f w g) (fun r u => ((r = 1 ∧ (v 5).toInt = 1) ∨ (r = 0))) (fun u => YW cy y0 r v f w g) := by
  refine ctI_of (by decide) (Nat.le_of_ble_eq_true rfl) (fun p e s m below meth c A ls Q hx hb hml hts hown hE hP hD hA hl ret => ?_)
  have hUv : (v 35).toInt + (v 36).toInt ≤ 40 := hIv.2
  have hown : s.vm.findClass RX11 = some m.cls := hown
  have hS : va_S A s.heap s.heap [] := va_S.rf
  have hl : lv_has ls 3 [(0, .ref y0), (1, .long j1)] := hl
  refine lv_aload_n hx hb dX11_isWord_0 rfl (lv_at hl 0 rfl) ?_
  refine va_get (D := (dC, dI)) (ci := 11) (v := .int (v 5)) (C := RX11) (T := TX11) (N := 79) hx hb hts inB_11 hown hE.1 hP 0 rfl rfl 6 (by decide) (hts _ k_1326) (fun _ h9 => h9) rfl dX11_isWord_1 ?_
  refine lv_iconst (v := 1) hx hb dX11_isWord_4 (by decide) ?_
  refine lv_icmp_ne (tgt := 21) hx hb dX11_isWord_5 (by decide) (fun c1 => ?_) (fun c1 => ?_)
  · skip
    have zc1 : ¬ ((v 5).toInt = 1) := by rw [fa_eq, show (1 : Int32).toInt = 1 from by decide] at c1; exact c1
    refine lv_iconst (v := 0) hx hb dX11_isWord_21 (by decide) ?_
    exact ret 0 () _ _ _ _ _ _ rfl (Or.inr rfl) hP hD hS dX11_isWord_22 (Nat.le_refl _) (Nat.le_refl _)
  · skip
    have zc1 : (v 5).toInt = 1 := by rw [fa_eq, show (1 : Int32).toInt = 1 from by decide] at c1; exact c1
    refine lv_aload_n hx hb dX11_isWord_8 rfl (lv_at hl 0 rfl) ?_
    refine va_get (D := (dC, dI)) (ci := 11) (v := .long w) (C := RX11) (T := TX11) (N := 79) hx hb hts inB_11 hown hE.1 hP 0 rfl rfl 9 (by decide) (hts _ k_1329) (fun _ h9 => h9) rfl dX11_isWord_9 ?_
    refine lv_lload_n hx hb dX11_isWord_12 rfl (lv_at hl 1 rfl) ?_
    refine W.lcmp hx hb dX11_isWord_13 ?_
    refine lv_topi (fun t2 et2 => ?_)
    refine lv_if_ne (tgt := 21) hx hb dX11_isWord_14 (by decide) (fun c3 => ?_) (fun c3 => ?_)
    · skip
      have zc3 : ¬ (t2.toInt = 0) := by rw [fa_eq, show (0 : Int32).toInt = 0 from by decide] at c3; exact c3
      refine lv_iconst (v := 0) hx hb dX11_isWord_21 (by decide) ?_
      exact ret 0 () _ _ _ _ _ _ rfl (Or.inr rfl) hP hD hS dX11_isWord_22 (Nat.le_refl _) (Nat.le_refl _)
    · skip
      have zc3 : t2.toInt = 0 := by rw [fa_eq, show (0 : Int32).toInt = 0 from by decide] at c3; exact c3
      refine lv_iconst (v := 1) hx hb dX11_isWord_17 (by decide) ?_
      refine lv_goto (tgt := 22) hx hb dX11_isWord_18 (by decide) ?_
      exact ret 1 () _ _ _ _ _ _ rfl (Or.inl ⟨rfl, by omega⟩) hP hD hS dX11_isWord_22 (Nat.le_refl _) (Nat.le_refl _)
set_option maxHeartbeats 4000000 in
set_option maxRecDepth 100000 in
theorem sY_X11_want_1 (l : Launch) (dC : Nat → ClassId) (dI : Nat → Nat → Nat) (cy : Nat → ClassId) (y0 : Nat) (r : Nat → Nat) (j1 : Int64) (v : Nat → Int32) (f : Nat → Nat → Int32) (w : Int64) (g : Nat → Int64) (hIv : YI v) (hCf : YC f) (hRf : progOK (f 4) (f 5) (v 9).toInt.toNat)  : ctV l (dC, dI) cy yX11_want cX11_want 3 3 103 0 0 ((Nat → Int32) × (Nat → Nat → Int32) × (Int64) × (Nat → Int64)) [.ref y0, .long j1] (YW cy y0 r v f w g) (fun u => YI u.1 ∧ YC u.2.1 ∧ progOK (u.2.1 4) (u.2.1 5) (u.1 9).toInt.toNat ∧ u.1 0 = v 0 ∧ u.1 4 = v 4 ∧ u.1 8 = v 8 ∧ u.1 9 = v 9 ∧ u.1 10 = v 10 ∧ u.1 17 = v 17 ∧ u.1 18 = v 18 ∧ u.1 24 = v 24 ∧ u.1 25 = v 25 ∧ u.1 35 = v 35 ∧ u.1 36 = v 36 ∧ u.1 38 = v 38 ∧ u.1 39 = v 39 ∧ ((v 3).toInt ≤ (u.1 3).toInt) ∧ ((u.1 5).toInt = (v 5).toInt ∨ (v 3).toInt < (u.1 3).toInt ∨ ¬ (u.1 5).toInt = 59)) (fun u => YW cy y0 r u.1 u.2.1 u.2.2.1 u.2.2.2) := by
  refine ctV_of (by decide) (Nat.le_of_ble_eq_true rfl) (fun p e s m below meth c A ls Q hx hb hml hts hown hnm hE hP hD hA hl ret => ?_)
  have hUv : (v 35).toInt + (v 36).toInt ≤ 40 := hIv.2
  have hown : s.vm.findClass RX11 = some m.cls := hown
  have hS : va_S A s.heap s.heap [] := va_S.rf
  have hl : lv_has ls 3 [(0, .ref y0), (1, .long j1)] := hl
  refine lv_aload_n hx hb dX11_want_0 rfl (lv_at hl 0 rfl) ?_
  refine va_get (D := (dC, dI)) (ci := 11) (v := .int (v 1)) (C := RX11) (T := TX11) (N := 79) hx hb hts inB_11 hown hE.1 hP 0 rfl rfl 2 (by decide) (hts _ k_1322) (fun _ h9 => h9) rfl dX11_want_1 ?_
  refine lv_if_le (tgt := 8) hx hb dX11_want_4 (by decide) (fun c1 => ?_) (fun c1 => ?_)
  · skip
    have zc1 : (v 1).toInt ≤ 0 := by rw [fa_le, show (0 : Int32).toInt = 0 from by decide] at c1; exact c1
    refine lv_aload_n hx hb dX11_want_8 rfl (lv_at hl 0 rfl) ?_
    refine lv_lload_n hx hb dX11_want_9 rfl (lv_at hl 1 rfl) ?_
    refine cbVi (n := 1) (rest := []) hx hb hml hown hts hE hP hD hS hA (sY_X11_isWord_1 l dC dI cy y0 r j1 v f w g hIv hCf hRf ) k_1601 k_1603 k_45 k_114 k_1604 (by decide +kernel) ⟨Nat.le_of_ble_eq_true rfl, Nat.le_of_ble_eq_true rfl⟩ 0 11 rfl rfl (rfl) hl.1 rfl (Nat.le_of_ble_eq_true rfl) dX11_want_10 (fun r2 u H locs hw hP hD hS => ?_)
    rcases hw with ⟨g3, g3_0⟩ | ⟨g3⟩
    · skip
      subst g3
      refine lv_if_ne (tgt := 24) hx hb dX11_want_13 (by decide) (fun _ => ?_) (fun c0 => absurd c0 (by decide))
      refine lv_aload_n hx hb dX11_want_24 rfl (lv_at hl 0 rfl) ?_
      refine cbVv (n := 0) (rest := []) hx hb hml hown hts hE hP hD hS hA (sY_X11_token_1 l dC dI cy y0 r  v f w g hIv hCf hRf ) k_1579 k_1581 k_42 k_114 k_1582 (by decide +kernel) ⟨Nat.le_of_ble_eq_true rfl, Nat.le_of_ble_eq_true rfl⟩ 0 11 rfl rfl (rfl) hl.1 rfl (Nat.le_of_ble_eq_true rfl) dX11_want_25 (fun u H locs hw hP hD hS => ?_)
      obtain ⟨v4, f5, w6, g7⟩ := u
      obtain ⟨hIv4, hCf5, hRf5, hk0_v4, hk1_v4, hk4_v4, hk8_v4, hk9_v4, hk10_v4, hk17_v4, hk18_v4, hk24_v4, hk25_v4, hk35_v4, hk36_v4, hk38_v4, hk39_v4, pv8, pv9⟩ := hw
      have hP : va_P (dC, dI) vwCl (YW cy y0 r v4 f5 w6 g7) H := hP
      have hD : va_D A (YW cy y0 r v4 f5 w6 g7) := hD
      have b3_v4 : 0 ≤ (v4 3).toInt ∧ (v4 3).toInt ≤ 1600 := YIb.b hIv4.1 3 (by decide)
      have pv8 : (v 3).toInt ≤ (v4 3).toInt := pv8
      have pv9 : (v4 5).toInt = (v 5).toInt ∨ (v 3).toInt < (v4 3).toInt ∨ ¬ (v4 5).toInt = 59 := pv9
      have hUv4 : (v4 35).toInt + (v4 36).toInt ≤ 40 := hIv4.2
      have hq0_v4 : v4 0 = (v 0) := hk0_v4
      have hq1_v4 : v4 1 = (v 1) := hk1_v4
      have hq4_v4 : v4 4 = (v 4) := hk4_v4
      have zq4_v4 := congrArg Int32.toInt hq4_v4
      have hq8_v4 : v4 8 = (v 8) := hk8_v4
      have hq9_v4 : v4 9 = (v 9) := hk9_v4
      have zq9_v4 := congrArg Int32.toInt hq9_v4
      have hq10_v4 : v4 10 = (v 10) := hk10_v4
      have hq17_v4 : v4 17 = (v 17) := hk17_v4
      have hq18_v4 : v4 18 = (v 18) := hk18_v4
      have hq24_v4 : v4 24 = (v 24) := hk24_v4
      have hq25_v4 : v4 25 = (v 25) := hk25_v4
      have hq35_v4 : v4 35 = (v 35) := hk35_v4
      have zq35_v4 := congrArg Int32.toInt hq35_v4
      have hq36_v4 : v4 36 = (v 36) := hk36_v4
      have zq36_v4 := congrArg Int32.toInt hq36_v4
      have hq38_v4 : v4 38 = (v 38) := hk38_v4
      have hq39_v4 : v4 39 = (v 39) := hk39_v4
      exact ret (v4, f5, w6, g7) _ _ _ _ _ _ ⟨hIv4, hCf5, hRf5, hk0_v4, hk4_v4, hk8_v4, hk9_v4, hk10_v4, hk17_v4, hk18_v4, hk24_v4, hk25_v4, hk35_v4, hk36_v4, hk38_v4, hk39_v4, (by show (v 3).toInt ≤ (v4 3).toInt; omega), (by show (v4 5).toInt = (v 5).toInt ∨ (v 3).toInt < (v4 3).toInt ∨ ¬ (v4 5).toInt = 59; omega)⟩ hP hD hS dX11_want_28 (Nat.le_refl _) (Nat.le_refl _)
    · skip
      subst g3
      refine lv_if_ne (tgt := 24) hx hb dX11_want_13 (by decide) (fun c0 => absurd (by decide) c0) (fun _ => ?_)
      refine lv_aload_n hx hb dX11_want_16 rfl (lv_at hl 0 rfl) ?_
      refine lv_iconst (v := 2) hx hb dX11_want_17 (by decide) ?_
      refine cbVv (n := 1) (rest := []) hx hb hml hown hts hE hP hD hS hA (sY_X11_wrong_1 l dC dI cy y0 r 2 v f w g hIv hCf hRf ) k_1641 k_1643 k_50 k_114 k_1644 (by decide +kernel) ⟨Nat.le_of_ble_eq_true rfl, Nat.le_of_ble_eq_true rfl⟩ 0 11 rfl rfl (rfl) hl.1 rfl (Nat.le_of_ble_eq_true rfl) dX11_want_18 (fun u H locs hw hP hD hS => ?_)
      obtain ⟨v10, f11, w12, g13⟩ := u
      obtain ⟨hIv10, hCf11, hRf11, hk0_v10, hk3_v10, hk4_v10, hk5_v10, hk8_v10, hk9_v10, hk10_v10, hk17_v10, hk18_v10, hk24_v10, hk25_v10, hk35_v10, hk36_v10, hk38_v10, hk39_v10, pv14, pv15⟩ := hw
      have hP : va_P (dC, dI) vwCl (YW cy y0 r v10 f11 w12 g13) H := hP
      have hD : va_D A (YW cy y0 r v10 f11 w12 g13) := hD
      have b3_v10 : 0 ≤ (v10 3).toInt ∧ (v10 3).toInt ≤ 1600 := YIb.b hIv10.1 3 (by decide)
      have pv14 : (v 3).toInt ≤ (v10 3).toInt := pv14
      have pv15 : (v10 5).toInt = (v 5).toInt ∨ (v 3).toInt < (v10 3).toInt ∨ ¬ (v10 5).toInt = 59 := pv15
      have hUv10 : (v10 35).toInt + (v10 36).toInt ≤ 40 := hIv10.2
      have hq0_v10 : v10 0 = (v 0) := hk0_v10
      have hq3_v10 : v10 3 = (v 3) := hk3_v10
      have zq3_v10 := congrArg Int32.toInt hq3_v10
      have hq4_v10 : v10 4 = (v 4) := hk4_v10
      have zq4_v10 := congrArg Int32.toInt hq4_v10
      have hq5_v10 : v10 5 = (v 5) := hk5_v10
      have zq5_v10 := congrArg Int32.toInt hq5_v10
      have hq8_v10 : v10 8 = (v 8) := hk8_v10
      have hq9_v10 : v10 9 = (v 9) := hk9_v10
      have zq9_v10 := congrArg Int32.toInt hq9_v10
      have hq10_v10 : v10 10 = (v 10) := hk10_v10
      have hq17_v10 : v10 17 = (v 17) := hk17_v10
      have hq18_v10 : v10 18 = (v 18) := hk18_v10
      have hq24_v10 : v10 24 = (v 24) := hk24_v10
      have hq25_v10 : v10 25 = (v 25) := hk25_v10
      have hq35_v10 : v10 35 = (v 35) := hk35_v10
      have zq35_v10 := congrArg Int32.toInt hq35_v10
      have hq36_v10 : v10 36 = (v 36) := hk36_v10
      have zq36_v10 := congrArg Int32.toInt hq36_v10
      have hq38_v10 : v10 38 = (v 38) := hk38_v10
      have hq39_v10 : v10 39 = (v 39) := hk39_v10
      refine lv_goto (tgt := 28) hx hb dX11_want_21 (by decide) ?_
      exact ret (v10, f11, w12, g13) _ _ _ _ _ _ ⟨hIv10, hCf11, hRf11, hk0_v10, hk4_v10, hk8_v10, hk9_v10, hk10_v10, hk17_v10, hk18_v10, hk24_v10, hk25_v10, hk35_v10, hk36_v10, hk38_v10, hk39_v10, (by show (v 3).toInt ≤ (v10 3).toInt; omega), (by show (v10 5).toInt = (v 5).toInt ∨ (v 3).toInt < (v10 3).toInt ∨ ¬ (v10 5).toInt = 59; omega)⟩ hP hD hS dX11_want_28 (Nat.le_refl _) (Nat.le_refl _)
  · skip
    have zc1 : ¬ ((v 1).toInt ≤ 0) := by rw [fa_le, show (0 : Int32).toInt = 0 from by decide] at c1; exact c1
    exact ret (v, f, w, g) _ _ _ _ _ _ ⟨hIv, hCf, hRf, rfl, rfl, rfl, rfl, rfl, rfl, rfl, rfl, rfl, rfl, rfl, rfl, rfl, (by show (v 3).toInt ≤ (v 3).toInt; omega), (by show (v 5).toInt = (v 5).toInt ∨ (v 3).toInt < (v 3).toInt ∨ ¬ (v 5).toInt = 59; omega)⟩ hP hD hS dX11_want_7 (Nat.le_refl _) (Nat.le_refl _)
set_option maxHeartbeats 4000000 in
set_option maxRecDepth 100000 in
theorem sY_X11_toldNumber_1 (l : Launch) (dC : Nat → ClassId) (dI : Nat → Nat → Nat) (cy : Nat → ClassId) (y0 : Nat) (r : Nat → Nat) (p1 : Int32) (p2 : Int32) (v : Nat → Int32) (f : Nat → Nat → Int32) (w : Int64) (g : Nat → Int64) (hIv : YI v) (hCf : YC f) (hRf : progOK (f 4) (f 5) (v 9).toInt.toNat)  : ctI l (dC, dI) cy yX11_toldNumber cX11_toldNumber 4 .int 3 103 0 0 ((Nat → Int32) × (Nat → Nat → Int32) × (Int64) × (Nat → Int64)) [.ref y0, .int p1, .int p2] (YW cy y0 r v f w g) (fun r u => YI u.1 ∧ YC u.2.1 ∧ progOK (u.2.1 4) (u.2.1 5) (u.1 9).toInt.toNat ∧ u.1 0 = v 0 ∧ u.1 4 = v 4 ∧ u.1 8 = v 8 ∧ u.1 9 = v 9 ∧ u.1 10 = v 10 ∧ u.1 17 = v 17 ∧ u.1 18 = v 18 ∧ u.1 24 = v 24 ∧ u.1 25 = v 25 ∧ u.1 35 = v 35 ∧ u.1 36 = v 36 ∧ u.1 38 = v 38 ∧ u.1 39 = v 39 ∧ ((v 3).toInt ≤ (u.1 3).toInt) ∧ ((u.1 5).toInt = (v 5).toInt ∨ (v 3).toInt < (u.1 3).toInt ∨ ¬ (u.1 5).toInt = 59)) (fun u => YW cy y0 r u.1 u.2.1 u.2.2.1 u.2.2.2) := by
  refine ctI_of (by decide) (Nat.le_of_ble_eq_true rfl) (fun p e s m below meth c A ls Q hx hb hml hts hown hE hP hD hA hl ret => ?_)
  have hUv : (v 35).toInt + (v 36).toInt ≤ 40 := hIv.2
  have hown : s.vm.findClass RX11 = some m.cls := hown
  have hS : va_S A s.heap s.heap [] := va_S.rf
  have hl : lv_has ls 4 [(0, .ref y0), (1, .int p1), (2, .int p2)] := hl
  refine lv_aload_n hx hb dX11_toldNumber_0 rfl (lv_at hl 0 rfl) ?_
  refine va_get (D := (dC, dI)) (ci := 11) (v := .int (v 1)) (C := RX11) (T := TX11) (N := 79) hx hb hts inB_11 hown hE.1 hP 0 rfl rfl 2 (by decide) (hts _ k_1322) (fun _ h9 => h9) rfl dX11_toldNumber_1 ?_
  refine lv_if_le (tgt := 9) hx hb dX11_toldNumber_4 (by decide) (fun c1 => ?_) (fun c1 => ?_)
  · skip
    have zc1 : (v 1).toInt ≤ 0 := by rw [fa_le, show (0 : Int32).toInt = 0 from by decide] at c1; exact c1
    refine lv_aload_n hx hb dX11_toldNumber_9 rfl (lv_at hl 0 rfl) ?_
    refine va_get (D := (dC, dI)) (ci := 11) (v := .int (v 5)) (C := RX11) (T := TX11) (N := 79) hx hb hts inB_11 hown hE.1 hP 0 rfl rfl 6 (by decide) (hts _ k_1326) (fun _ h9 => h9) rfl dX11_toldNumber_10 ?_
    refine lv_iconst (v := 2) hx hb dX11_toldNumber_13 (by decide) ?_
    refine lv_icmp_eq (tgt := 25) hx hb dX11_toldNumber_14 (by decide) (fun c2 => ?_) (fun c2 => ?_)
    · skip
      have zc2 : (v 5).toInt = 2 := by rw [fa_eq, show (2 : Int32).toInt = 2 from by decide] at c2; exact c2
      refine lv_aload_n hx hb dX11_toldNumber_25 rfl (lv_at hl 0 rfl) ?_
      refine va_get (D := (dC, dI)) (ci := 11) (v := .int (v 7)) (C := RX11) (T := TX11) (N := 79) hx hb hts inB_11 hown hE.1 hP 0 rfl rfl 8 (by decide) (hts _ k_1328) (fun _ h9 => h9) rfl dX11_toldNumber_26 ?_
      refine lv_iload_n hx hb dX11_toldNumber_29 rfl (lv_at hl 1 rfl) ?_
      refine lv_icmp_lt (tgt := 41) hx hb dX11_toldNumber_30 (by decide) (fun c3 => ?_) (fun c3 => ?_)
      · skip
        have zc3 : (v 7).toInt < p1.toInt := by rw [fa_lt] at c3; exact c3
        have rg4 := fb_rng (v 7)
        have rg5 := fb_rng p1
        refine lv_aload_n hx hb dX11_toldNumber_41 rfl (lv_at hl 0 rfl) ?_
        refine lv_iconst (v := 4) hx hb dX11_toldNumber_42 (by decide) ?_
        refine cbVv (n := 1) (rest := []) hx hb hml hown hts hE hP hD hS hA (sY_X11_wrong_1 l dC dI cy y0 r 4 v f w g hIv hCf hRf ) k_1641 k_1643 k_50 k_114 k_1644 (by decide +kernel) ⟨Nat.le_of_ble_eq_true rfl, Nat.le_of_ble_eq_true rfl⟩ 0 11 rfl rfl (rfl) hl.1 rfl (Nat.le_of_ble_eq_true rfl) dX11_toldNumber_43 (fun u H locs hw hP hD hS => ?_)
        obtain ⟨v6, f7, w8, g9⟩ := u
        obtain ⟨hIv6, hCf7, hRf7, hk0_v6, hk3_v6, hk4_v6, hk5_v6, hk8_v6, hk9_v6, hk10_v6, hk17_v6, hk18_v6, hk24_v6, hk25_v6, hk35_v6, hk36_v6, hk38_v6, hk39_v6, pv10, pv11⟩ := hw
        have hP : va_P (dC, dI) vwCl (YW cy y0 r v6 f7 w8 g9) H := hP
        have hD : va_D A (YW cy y0 r v6 f7 w8 g9) := hD
        have b3_v6 : 0 ≤ (v6 3).toInt ∧ (v6 3).toInt ≤ 1600 := YIb.b hIv6.1 3 (by decide)
        have pv10 : (v 3).toInt ≤ (v6 3).toInt := pv10
        have pv11 : (v6 5).toInt = (v 5).toInt ∨ (v 3).toInt < (v6 3).toInt ∨ ¬ (v6 5).toInt = 59 := pv11
        have hUv6 : (v6 35).toInt + (v6 36).toInt ≤ 40 := hIv6.2
        have hq0_v6 : v6 0 = (v 0) := hk0_v6
        have hq3_v6 : v6 3 = (v 3) := hk3_v6
        have zq3_v6 := congrArg Int32.toInt hq3_v6
        have hq4_v6 : v6 4 = (v 4) := hk4_v6
        have zq4_v6 := congrArg Int32.toInt hq4_v6
        have hq5_v6 : v6 5 = (v 5) := hk5_v6
        have zq5_v6 := congrArg Int32.toInt hq5_v6
        have hq8_v6 : v6 8 = (v 8) := hk8_v6
        have hq9_v6 : v6 9 = (v 9) := hk9_v6
        have zq9_v6 := congrArg Int32.toInt hq9_v6
        have hq10_v6 : v6 10 = (v 10) := hk10_v6
        have hq17_v6 : v6 17 = (v 17) := hk17_v6
        have hq18_v6 : v6 18 = (v 18) := hk18_v6
        have hq24_v6 : v6 24 = (v 24) := hk24_v6
        have hq25_v6 : v6 25 = (v 25) := hk25_v6
        have hq35_v6 : v6 35 = (v 35) := hk35_v6
        have zq35_v6 := congrArg Int32.toInt hq35_v6
        have hq36_v6 : v6 36 = (v 36) := hk36_v6
        have zq36_v6 := congrArg Int32.toInt hq36_v6
        have hq38_v6 : v6 38 = (v 38) := hk38_v6
        have hq39_v6 : v6 39 = (v 39) := hk39_v6
        refine lv_aload_n hx hb dX11_toldNumber_46 rfl (lv_at hl 0 rfl) ?_
        refine va_get (D := (dC, dI)) (ci := 11) (v := .int (v6 7)) (C := RX11) (T := TX11) (N := 79) hx hb hts inB_11 hown hE.1 hP 0 rfl rfl 8 (by decide) (hts _ k_1328) (fun _ h9 => h9) rfl dX11_toldNumber_47 ?_
        refine lv_istore_n (lv' := [(3, .int (v6 7)), (0, .ref y0), (1, .int p1), (2, .int p2)]) hx hb dX11_toldNumber_50 rfl hl (by decide) rfl (fun ls hl => ?_)
        refine lv_aload_n hx hb dX11_toldNumber_51 rfl (lv_at hl 1 rfl) ?_
        refine va_get (D := (dC, dI)) (ci := 11) (v := .int (v6 1)) (C := RX11) (T := TX11) (N := 79) hx hb hts inB_11 hown hE.1 hP 0 rfl rfl 2 (by decide) (hts _ k_1322) (fun _ h9 => h9) rfl dX11_toldNumber_52 ?_
        refine lv_if_ne (tgt := 62) hx hb dX11_toldNumber_55 (by decide) (fun c12 => ?_) (fun c12 => ?_)
        · skip
          have zc12 : ¬ ((v6 1).toInt = 0) := by rw [fa_eq, show (0 : Int32).toInt = 0 from by decide] at c12; exact c12
          refine lv_iload_n hx hb dX11_toldNumber_62 rfl (lv_at hl 0 rfl) ?_
          exact ret (v6 7) (v6, f7, w8, g9) _ _ _ _ _ _ rfl ⟨hIv6, hCf7, hRf7, hk0_v6, hk4_v6, hk8_v6, hk9_v6, hk10_v6, hk17_v6, hk18_v6, hk24_v6, hk25_v6, hk35_v6, hk36_v6, hk38_v6, hk39_v6, (by show (v 3).toInt ≤ (v6 3).toInt; omega), (by show (v6 5).toInt = (v 5).toInt ∨ (v 3).toInt < (v6 3).toInt ∨ ¬ (v6 5).toInt = 59; omega)⟩ hP hD hS dX11_toldNumber_63 (Nat.le_refl _) (Nat.le_refl _)
        · skip
          have zc12 : (v6 1).toInt = 0 := by rw [fa_eq, show (0 : Int32).toInt = 0 from by decide] at c12; exact c12
          refine lv_aload_n hx hb dX11_toldNumber_58 rfl (lv_at hl 1 rfl) ?_
          refine cbVv (n := 0) (rest := []) hx hb hml hown hts hE hP hD hS hA (sY_X11_token_1 l dC dI cy y0 r  v6 f7 w8 g9 hIv6 hCf7 hRf7 ) k_1579 k_1581 k_42 k_114 k_1582 (by decide +kernel) ⟨Nat.le_of_ble_eq_true rfl, Nat.le_of_ble_eq_true rfl⟩ 0 11 rfl rfl (rfl) hl.1 rfl (Nat.le_of_ble_eq_true rfl) dX11_toldNumber_59 (fun u H locs hw hP hD hS => ?_)
          obtain ⟨v13, f14, w15, g16⟩ := u
          obtain ⟨hIv13, hCf14, hRf14, hk0_v13, hk1_v13, hk4_v13, hk8_v13, hk9_v13, hk10_v13, hk17_v13, hk18_v13, hk24_v13, hk25_v13, hk35_v13, hk36_v13, hk38_v13, hk39_v13, pv17, pv18⟩ := hw
          have hP : va_P (dC, dI) vwCl (YW cy y0 r v13 f14 w15 g16) H := hP
          have hD : va_D A (YW cy y0 r v13 f14 w15 g16) := hD
          have b3_v13 : 0 ≤ (v13 3).toInt ∧ (v13 3).toInt ≤ 1600 := YIb.b hIv13.1 3 (by decide)
          have pv17 : (v6 3).toInt ≤ (v13 3).toInt := pv17
          have pv18 : (v13 5).toInt = (v6 5).toInt ∨ (v6 3).toInt < (v13 3).toInt ∨ ¬ (v13 5).toInt = 59 := pv18
          have hUv13 : (v13 35).toInt + (v13 36).toInt ≤ 40 := hIv13.2
          have hq0_v13 : v13 0 = (v 0) := hk0_v13.trans hq0_v6
          have hq1_v13 : v13 1 = (v6 1) := hk1_v13
          have hq4_v13 : v13 4 = (v 4) := hk4_v13.trans hq4_v6
          have zq4_v13 := congrArg Int32.toInt hq4_v13
          have hq8_v13 : v13 8 = (v 8) := hk8_v13.trans hq8_v6
          have hq9_v13 : v13 9 = (v 9) := hk9_v13.trans hq9_v6
          have zq9_v13 := congrArg Int32.toInt hq9_v13
          have hq10_v13 : v13 10 = (v 10) := hk10_v13.trans hq10_v6
          have hq17_v13 : v13 17 = (v 17) := hk17_v13.trans hq17_v6
          have hq18_v13 : v13 18 = (v 18) := hk18_v13.trans hq18_v6
          have hq24_v13 : v13 24 = (v 24) := hk24_v13.trans hq24_v6
          have hq25_v13 : v13 25 = (v 25) := hk25_v13.trans hq25_v6
          have hq35_v13 : v13 35 = (v 35) := hk35_v13.trans hq35_v6
          have zq35_v13 := congrArg Int32.toInt hq35_v13
          have hq36_v13 : v13 36 = (v 36) := hk36_v13.trans hq36_v6
          have zq36_v13 := congrArg Int32.toInt hq36_v13
          have hq38_v13 : v13 38 = (v 38) := hk38_v13.trans hq38_v6
          have hq39_v13 : v13 39 = (v 39) := hk39_v13.trans hq39_v6
          refine lv_iload_n hx hb dX11_toldNumber_62 rfl (lv_at hl 0 rfl) ?_
          exact ret (v6 7) (v13, f14, w15, g16) _ _ _ _ _ _ rfl ⟨hIv13, hCf14, hRf14, (hk0_v13.trans hk0_v6), (hk4_v13.trans hk4_v6), (hk8_v13.trans hk8_v6), (hk9_v13.trans hk9_v6), (hk10_v13.trans hk10_v6), (hk17_v13.trans hk17_v6), (hk18_v13.trans hk18_v6), (hk24_v13.trans hk24_v6), (hk25_v13.trans hk25_v6), (hk35_v13.trans hk35_v6), (hk36_v13.trans hk36_v6), (hk38_v13.trans hk38_v6), (hk39_v13.trans hk39_v6), (by show (v 3).toInt ≤ (v13 3).toInt; omega), (by show (v13 5).toInt = (v 5).toInt ∨ (v 3).toInt < (v13 3).toInt ∨ ¬ (v13 5).toInt = 59; omega)⟩ hP hD hS dX11_toldNumber_63 (Nat.le_refl _) (Nat.le_refl _)
      · skip
        have zc3 : ¬ ((v 7).toInt < p1.toInt) := by rw [fa_lt] at c3; exact c3
        have rg19 := fb_rng (v 7)
        have rg20 := fb_rng p1
        refine lv_aload_n hx hb dX11_toldNumber_33 rfl (lv_at hl 0 rfl) ?_
        refine va_get (D := (dC, dI)) (ci := 11) (v := .int (v 7)) (C := RX11) (T := TX11) (N := 79) hx hb hts inB_11 hown hE.1 hP 0 rfl rfl 8 (by decide) (hts _ k_1328) (fun _ h9 => h9) rfl dX11_toldNumber_34 ?_
        refine lv_iload_n hx hb dX11_toldNumber_37 rfl (lv_at hl 2 rfl) ?_
        refine lv_icmp_le (tgt := 46) hx hb dX11_toldNumber_38 (by decide) (fun c21 => ?_) (fun c21 => ?_)
        · skip
          have zc21 : (v 7).toInt ≤ p2.toInt := by rw [fa_le] at c21; exact c21
          have rg22 := fb_rng p2
          refine lv_aload_n hx hb dX11_toldNumber_46 rfl (lv_at hl 0 rfl) ?_
          refine va_get (D := (dC, dI)) (ci := 11) (v := .int (v 7)) (C := RX11) (T := TX11) (N := 79) hx hb hts inB_11 hown hE.1 hP 0 rfl rfl 8 (by decide) (hts _ k_1328) (fun _ h9 => h9) rfl dX11_toldNumber_47 ?_
          refine lv_istore_n (lv' := [(3, .int (v 7)), (0, .ref y0), (1, .int p1), (2, .int p2)]) hx hb dX11_toldNumber_50 rfl hl (by decide) rfl (fun ls hl => ?_)
          refine lv_aload_n hx hb dX11_toldNumber_51 rfl (lv_at hl 1 rfl) ?_
          refine va_get (D := (dC, dI)) (ci := 11) (v := .int (v 1)) (C := RX11) (T := TX11) (N := 79) hx hb hts inB_11 hown hE.1 hP 0 rfl rfl 2 (by decide) (hts _ k_1322) (fun _ h9 => h9) rfl dX11_toldNumber_52 ?_
          refine lv_if_ne (tgt := 62) hx hb dX11_toldNumber_55 (by decide) (fun c23 => ?_) (fun c23 => ?_)
          · skip
            have zc23 : ¬ ((v 1).toInt = 0) := by rw [fa_eq, show (0 : Int32).toInt = 0 from by decide] at c23; exact c23
            refine lv_iload_n hx hb dX11_toldNumber_62 rfl (lv_at hl 0 rfl) ?_
            exact ret (v 7) (v, f, w, g) _ _ _ _ _ _ rfl ⟨hIv, hCf, hRf, rfl, rfl, rfl, rfl, rfl, rfl, rfl, rfl, rfl, rfl, rfl, rfl, rfl, (by show (v 3).toInt ≤ (v 3).toInt; omega), (by show (v 5).toInt = (v 5).toInt ∨ (v 3).toInt < (v 3).toInt ∨ ¬ (v 5).toInt = 59; omega)⟩ hP hD hS dX11_toldNumber_63 (Nat.le_refl _) (Nat.le_refl _)
          · skip
            have zc23 : (v 1).toInt = 0 := by rw [fa_eq, show (0 : Int32).toInt = 0 from by decide] at c23; exact c23
            refine lv_aload_n hx hb dX11_toldNumber_58 rfl (lv_at hl 1 rfl) ?_
            refine cbVv (n := 0) (rest := []) hx hb hml hown hts hE hP hD hS hA (sY_X11_token_1 l dC dI cy y0 r  v f w g hIv hCf hRf ) k_1579 k_1581 k_42 k_114 k_1582 (by decide +kernel) ⟨Nat.le_of_ble_eq_true rfl, Nat.le_of_ble_eq_true rfl⟩ 0 11 rfl rfl (rfl) hl.1 rfl (Nat.le_of_ble_eq_true rfl) dX11_toldNumber_59 (fun u H locs hw hP hD hS => ?_)
            obtain ⟨v24, f25, w26, g27⟩ := u
            obtain ⟨hIv24, hCf25, hRf25, hk0_v24, hk1_v24, hk4_v24, hk8_v24, hk9_v24, hk10_v24, hk17_v24, hk18_v24, hk24_v24, hk25_v24, hk35_v24, hk36_v24, hk38_v24, hk39_v24, pv28, pv29⟩ := hw
            have hP : va_P (dC, dI) vwCl (YW cy y0 r v24 f25 w26 g27) H := hP
            have hD : va_D A (YW cy y0 r v24 f25 w26 g27) := hD
            have b3_v24 : 0 ≤ (v24 3).toInt ∧ (v24 3).toInt ≤ 1600 := YIb.b hIv24.1 3 (by decide)
            have pv28 : (v 3).toInt ≤ (v24 3).toInt := pv28
            have pv29 : (v24 5).toInt = (v 5).toInt ∨ (v 3).toInt < (v24 3).toInt ∨ ¬ (v24 5).toInt = 59 := pv29
            have hUv24 : (v24 35).toInt + (v24 36).toInt ≤ 40 := hIv24.2
            have hq0_v24 : v24 0 = (v 0) := hk0_v24
            have hq1_v24 : v24 1 = (v 1) := hk1_v24
            have hq4_v24 : v24 4 = (v 4) := hk4_v24
            have zq4_v24 := congrArg Int32.toInt hq4_v24
            have hq8_v24 : v24 8 = (v 8) := hk8_v24
            have hq9_v24 : v24 9 = (v 9) := hk9_v24
            have zq9_v24 := congrArg Int32.toInt hq9_v24
            have hq10_v24 : v24 10 = (v 10) := hk10_v24
            have hq17_v24 : v24 17 = (v 17) := hk17_v24
            have hq18_v24 : v24 18 = (v 18) := hk18_v24
            have hq24_v24 : v24 24 = (v 24) := hk24_v24
            have hq25_v24 : v24 25 = (v 25) := hk25_v24
            have hq35_v24 : v24 35 = (v 35) := hk35_v24
            have zq35_v24 := congrArg Int32.toInt hq35_v24
            have hq36_v24 : v24 36 = (v 36) := hk36_v24
            have zq36_v24 := congrArg Int32.toInt hq36_v24
            have hq38_v24 : v24 38 = (v 38) := hk38_v24
            have hq39_v24 : v24 39 = (v 39) := hk39_v24
            refine lv_iload_n hx hb dX11_toldNumber_62 rfl (lv_at hl 0 rfl) ?_
            exact ret (v 7) (v24, f25, w26, g27) _ _ _ _ _ _ rfl ⟨hIv24, hCf25, hRf25, hk0_v24, hk4_v24, hk8_v24, hk9_v24, hk10_v24, hk17_v24, hk18_v24, hk24_v24, hk25_v24, hk35_v24, hk36_v24, hk38_v24, hk39_v24, (by show (v 3).toInt ≤ (v24 3).toInt; omega), (by show (v24 5).toInt = (v 5).toInt ∨ (v 3).toInt < (v24 3).toInt ∨ ¬ (v24 5).toInt = 59; omega)⟩ hP hD hS dX11_toldNumber_63 (Nat.le_refl _) (Nat.le_refl _)
        · skip
          have zc21 : ¬ ((v 7).toInt ≤ p2.toInt) := by rw [fa_le] at c21; exact c21
          have rg30 := fb_rng p2
          refine lv_aload_n hx hb dX11_toldNumber_41 rfl (lv_at hl 0 rfl) ?_
          refine lv_iconst (v := 4) hx hb dX11_toldNumber_42 (by decide) ?_
          refine cbVv (n := 1) (rest := []) hx hb hml hown hts hE hP hD hS hA (sY_X11_wrong_1 l dC dI cy y0 r 4 v f w g hIv hCf hRf ) k_1641 k_1643 k_50 k_114 k_1644 (by decide +kernel) ⟨Nat.le_of_ble_eq_true rfl, Nat.le_of_ble_eq_true rfl⟩ 0 11 rfl rfl (rfl) hl.1 rfl (Nat.le_of_ble_eq_true rfl) dX11_toldNumber_43 (fun u H locs hw hP hD hS => ?_)
          obtain ⟨v31, f32, w33, g34⟩ := u
          obtain ⟨hIv31, hCf32, hRf32, hk0_v31, hk3_v31, hk4_v31, hk5_v31, hk8_v31, hk9_v31, hk10_v31, hk17_v31, hk18_v31, hk24_v31, hk25_v31, hk35_v31, hk36_v31, hk38_v31, hk39_v31, pv35, pv36⟩ := hw
          have hP : va_P (dC, dI) vwCl (YW cy y0 r v31 f32 w33 g34) H := hP
          have hD : va_D A (YW cy y0 r v31 f32 w33 g34) := hD
          have b3_v31 : 0 ≤ (v31 3).toInt ∧ (v31 3).toInt ≤ 1600 := YIb.b hIv31.1 3 (by decide)
          have pv35 : (v 3).toInt ≤ (v31 3).toInt := pv35
          have pv36 : (v31 5).toInt = (v 5).toInt ∨ (v 3).toInt < (v31 3).toInt ∨ ¬ (v31 5).toInt = 59 := pv36
          have hUv31 : (v31 35).toInt + (v31 36).toInt ≤ 40 := hIv31.2
          have hq0_v31 : v31 0 = (v 0) := hk0_v31
          have hq3_v31 : v31 3 = (v 3) := hk3_v31
          have zq3_v31 := congrArg Int32.toInt hq3_v31
          have hq4_v31 : v31 4 = (v 4) := hk4_v31
          have zq4_v31 := congrArg Int32.toInt hq4_v31
          have hq5_v31 : v31 5 = (v 5) := hk5_v31
          have zq5_v31 := congrArg Int32.toInt hq5_v31
          have hq8_v31 : v31 8 = (v 8) := hk8_v31
          have hq9_v31 : v31 9 = (v 9) := hk9_v31
          have zq9_v31 := congrArg Int32.toInt hq9_v31
          have hq10_v31 : v31 10 = (v 10) := hk10_v31
          have hq17_v31 : v31 17 = (v 17) := hk17_v31
          have hq18_v31 : v31 18 = (v 18) := hk18_v31
          have hq24_v31 : v31 24 = (v 24) := hk24_v31
          have hq25_v31 : v31 25 = (v 25) := hk25_v31
          have hq35_v31 : v31 35 = (v 35) := hk35_v31
          have zq35_v31 := congrArg Int32.toInt hq35_v31
          have hq36_v31 : v31 36 = (v 36) := hk36_v31
          have zq36_v31 := congrArg Int32.toInt hq36_v31
          have hq38_v31 : v31 38 = (v 38) := hk38_v31
          have hq39_v31 : v31 39 = (v 39) := hk39_v31
          refine lv_aload_n hx hb dX11_toldNumber_46 rfl (lv_at hl 0 rfl) ?_
          refine va_get (D := (dC, dI)) (ci := 11) (v := .int (v31 7)) (C := RX11) (T := TX11) (N := 79) hx hb hts inB_11 hown hE.1 hP 0 rfl rfl 8 (by decide) (hts _ k_1328) (fun _ h9 => h9) rfl dX11_toldNumber_47 ?_
          refine lv_istore_n (lv' := [(3, .int (v31 7)), (0, .ref y0), (1, .int p1), (2, .int p2)]) hx hb dX11_toldNumber_50 rfl hl (by decide) rfl (fun ls hl => ?_)
          refine lv_aload_n hx hb dX11_toldNumber_51 rfl (lv_at hl 1 rfl) ?_
          refine va_get (D := (dC, dI)) (ci := 11) (v := .int (v31 1)) (C := RX11) (T := TX11) (N := 79) hx hb hts inB_11 hown hE.1 hP 0 rfl rfl 2 (by decide) (hts _ k_1322) (fun _ h9 => h9) rfl dX11_toldNumber_52 ?_
          refine lv_if_ne (tgt := 62) hx hb dX11_toldNumber_55 (by decide) (fun c37 => ?_) (fun c37 => ?_)
          · skip
            have zc37 : ¬ ((v31 1).toInt = 0) := by rw [fa_eq, show (0 : Int32).toInt = 0 from by decide] at c37; exact c37
            refine lv_iload_n hx hb dX11_toldNumber_62 rfl (lv_at hl 0 rfl) ?_
            exact ret (v31 7) (v31, f32, w33, g34) _ _ _ _ _ _ rfl ⟨hIv31, hCf32, hRf32, hk0_v31, hk4_v31, hk8_v31, hk9_v31, hk10_v31, hk17_v31, hk18_v31, hk24_v31, hk25_v31, hk35_v31, hk36_v31, hk38_v31, hk39_v31, (by show (v 3).toInt ≤ (v31 3).toInt; omega), (by show (v31 5).toInt = (v 5).toInt ∨ (v 3).toInt < (v31 3).toInt ∨ ¬ (v31 5).toInt = 59; omega)⟩ hP hD hS dX11_toldNumber_63 (Nat.le_refl _) (Nat.le_refl _)
          · skip
            have zc37 : (v31 1).toInt = 0 := by rw [fa_eq, show (0 : Int32).toInt = 0 from by decide] at c37; exact c37
            refine lv_aload_n hx hb dX11_toldNumber_58 rfl (lv_at hl 1 rfl) ?_
            refine cbVv (n := 0) (rest := []) hx hb hml hown hts hE hP hD hS hA (sY_X11_token_1 l dC dI cy y0 r  v31 f32 w33 g34 hIv31 hCf32 hRf32 ) k_1579 k_1581 k_42 k_114 k_1582 (by decide +kernel) ⟨Nat.le_of_ble_eq_true rfl, Nat.le_of_ble_eq_true rfl⟩ 0 11 rfl rfl (rfl) hl.1 rfl (Nat.le_of_ble_eq_true rfl) dX11_toldNumber_59 (fun u H locs hw hP hD hS => ?_)
            obtain ⟨v38, f39, w40, g41⟩ := u
            obtain ⟨hIv38, hCf39, hRf39, hk0_v38, hk1_v38, hk4_v38, hk8_v38, hk9_v38, hk10_v38, hk17_v38, hk18_v38, hk24_v38, hk25_v38, hk35_v38, hk36_v38, hk38_v38, hk39_v38, pv42, pv43⟩ := hw
            have hP : va_P (dC, dI) vwCl (YW cy y0 r v38 f39 w40 g41) H := hP
            have hD : va_D A (YW cy y0 r v38 f39 w40 g41) := hD
            have b3_v38 : 0 ≤ (v38 3).toInt ∧ (v38 3).toInt ≤ 1600 := YIb.b hIv38.1 3 (by decide)
            have pv42 : (v31 3).toInt ≤ (v38 3).toInt := pv42
            have pv43 : (v38 5).toInt = (v31 5).toInt ∨ (v31 3).toInt < (v38 3).toInt ∨ ¬ (v38 5).toInt = 59 := pv43
            have hUv38 : (v38 35).toInt + (v38 36).toInt ≤ 40 := hIv38.2
            have hq0_v38 : v38 0 = (v 0) := hk0_v38.trans hq0_v31
            have hq1_v38 : v38 1 = (v31 1) := hk1_v38
            have hq4_v38 : v38 4 = (v 4) := hk4_v38.trans hq4_v31
            have zq4_v38 := congrArg Int32.toInt hq4_v38
            have hq8_v38 : v38 8 = (v 8) := hk8_v38.trans hq8_v31
            have hq9_v38 : v38 9 = (v 9) := hk9_v38.trans hq9_v31
            have zq9_v38 := congrArg Int32.toInt hq9_v38
            have hq10_v38 : v38 10 = (v 10) := hk10_v38.trans hq10_v31
            have hq17_v38 : v38 17 = (v 17) := hk17_v38.trans hq17_v31
            have hq18_v38 : v38 18 = (v 18) := hk18_v38.trans hq18_v31
            have hq24_v38 : v38 24 = (v 24) := hk24_v38.trans hq24_v31
            have hq25_v38 : v38 25 = (v 25) := hk25_v38.trans hq25_v31
            have hq35_v38 : v38 35 = (v 35) := hk35_v38.trans hq35_v31
            have zq35_v38 := congrArg Int32.toInt hq35_v38
            have hq36_v38 : v38 36 = (v 36) := hk36_v38.trans hq36_v31
            have zq36_v38 := congrArg Int32.toInt hq36_v38
            have hq38_v38 : v38 38 = (v 38) := hk38_v38.trans hq38_v31
            have hq39_v38 : v38 39 = (v 39) := hk39_v38.trans hq39_v31
            refine lv_iload_n hx hb dX11_toldNumber_62 rfl (lv_at hl 0 rfl) ?_
            exact ret (v31 7) (v38, f39, w40, g41) _ _ _ _ _ _ rfl ⟨hIv38, hCf39, hRf39, (hk0_v38.trans hk0_v31), (hk4_v38.trans hk4_v31), (hk8_v38.trans hk8_v31), (hk9_v38.trans hk9_v31), (hk10_v38.trans hk10_v31), (hk17_v38.trans hk17_v31), (hk18_v38.trans hk18_v31), (hk24_v38.trans hk24_v31), (hk25_v38.trans hk25_v31), (hk35_v38.trans hk35_v31), (hk36_v38.trans hk36_v31), (hk38_v38.trans hk38_v31), (hk39_v38.trans hk39_v31), (by show (v 3).toInt ≤ (v38 3).toInt; omega), (by show (v38 5).toInt = (v 5).toInt ∨ (v 3).toInt < (v38 3).toInt ∨ ¬ (v38 5).toInt = 59; omega)⟩ hP hD hS dX11_toldNumber_63 (Nat.le_refl _) (Nat.le_refl _)
    · skip
      have zc2 : ¬ ((v 5).toInt = 2) := by rw [fa_eq, show (2 : Int32).toInt = 2 from by decide] at c2; exact c2
      refine lv_aload_n hx hb dX11_toldNumber_17 rfl (lv_at hl 0 rfl) ?_
      refine lv_iconst (v := 2) hx hb dX11_toldNumber_18 (by decide) ?_
      refine cbVv (n := 1) (rest := []) hx hb hml hown hts hE hP hD hS hA (sY_X11_wrong_1 l dC dI cy y0 r 2 v f w g hIv hCf hRf ) k_1641 k_1643 k_50 k_114 k_1644 (by decide +kernel) ⟨Nat.le_of_ble_eq_true rfl, Nat.le_of_ble_eq_true rfl⟩ 0 11 rfl rfl (rfl) hl.1 rfl (Nat.le_of_ble_eq_true rfl) dX11_toldNumber_19 (fun u H locs hw hP hD hS => ?_)
      obtain ⟨v44, f45, w46, g47⟩ := u
      obtain ⟨hIv44, hCf45, hRf45, hk0_v44, hk3_v44, hk4_v44, hk5_v44, hk8_v44, hk9_v44, hk10_v44, hk17_v44, hk18_v44, hk24_v44, hk25_v44, hk35_v44, hk36_v44, hk38_v44, hk39_v44, pv48, pv49⟩ := hw
      have hP : va_P (dC, dI) vwCl (YW cy y0 r v44 f45 w46 g47) H := hP
      have hD : va_D A (YW cy y0 r v44 f45 w46 g47) := hD
      have b3_v44 : 0 ≤ (v44 3).toInt ∧ (v44 3).toInt ≤ 1600 := YIb.b hIv44.1 3 (by decide)
      have pv48 : (v 3).toInt ≤ (v44 3).toInt := pv48
      have pv49 : (v44 5).toInt = (v 5).toInt ∨ (v 3).toInt < (v44 3).toInt ∨ ¬ (v44 5).toInt = 59 := pv49
      have hUv44 : (v44 35).toInt + (v44 36).toInt ≤ 40 := hIv44.2
      have hq0_v44 : v44 0 = (v 0) := hk0_v44
      have hq3_v44 : v44 3 = (v 3) := hk3_v44
      have zq3_v44 := congrArg Int32.toInt hq3_v44
      have hq4_v44 : v44 4 = (v 4) := hk4_v44
      have zq4_v44 := congrArg Int32.toInt hq4_v44
      have hq5_v44 : v44 5 = (v 5) := hk5_v44
      have zq5_v44 := congrArg Int32.toInt hq5_v44
      have hq8_v44 : v44 8 = (v 8) := hk8_v44
      have hq9_v44 : v44 9 = (v 9) := hk9_v44
      have zq9_v44 := congrArg Int32.toInt hq9_v44
      have hq10_v44 : v44 10 = (v 10) := hk10_v44
      have hq17_v44 : v44 17 = (v 17) := hk17_v44
      have hq18_v44 : v44 18 = (v 18) := hk18_v44
      have hq24_v44 : v44 24 = (v 24) := hk24_v44
      have hq25_v44 : v44 25 = (v 25) := hk25_v44
      have hq35_v44 : v44 35 = (v 35) := hk35_v44
      have zq35_v44 := congrArg Int32.toInt hq35_v44
      have hq36_v44 : v44 36 = (v 36) := hk36_v44
      have zq36_v44 := congrArg Int32.toInt hq36_v44
      have hq38_v44 : v44 38 = (v 38) := hk38_v44
      have hq39_v44 : v44 39 = (v 39) := hk39_v44
      refine lv_goto (tgt := 46) hx hb dX11_toldNumber_22 (by decide) ?_
      refine lv_aload_n hx hb dX11_toldNumber_46 rfl (lv_at hl 0 rfl) ?_
      refine va_get (D := (dC, dI)) (ci := 11) (v := .int (v44 7)) (C := RX11) (T := TX11) (N := 79) hx hb hts inB_11 hown hE.1 hP 0 rfl rfl 8 (by decide) (hts _ k_1328) (fun _ h9 => h9) rfl dX11_toldNumber_47 ?_
      refine lv_istore_n (lv' := [(3, .int (v44 7)), (0, .ref y0), (1, .int p1), (2, .int p2)]) hx hb dX11_toldNumber_50 rfl hl (by decide) rfl (fun ls hl => ?_)
      refine lv_aload_n hx hb dX11_toldNumber_51 rfl (lv_at hl 1 rfl) ?_
      refine va_get (D := (dC, dI)) (ci := 11) (v := .int (v44 1)) (C := RX11) (T := TX11) (N := 79) hx hb hts inB_11 hown hE.1 hP 0 rfl rfl 2 (by decide) (hts _ k_1322) (fun _ h9 => h9) rfl dX11_toldNumber_52 ?_
      refine lv_if_ne (tgt := 62) hx hb dX11_toldNumber_55 (by decide) (fun c50 => ?_) (fun c50 => ?_)
      · skip
        have zc50 : ¬ ((v44 1).toInt = 0) := by rw [fa_eq, show (0 : Int32).toInt = 0 from by decide] at c50; exact c50
        refine lv_iload_n hx hb dX11_toldNumber_62 rfl (lv_at hl 0 rfl) ?_
        exact ret (v44 7) (v44, f45, w46, g47) _ _ _ _ _ _ rfl ⟨hIv44, hCf45, hRf45, hk0_v44, hk4_v44, hk8_v44, hk9_v44, hk10_v44, hk17_v44, hk18_v44, hk24_v44, hk25_v44, hk35_v44, hk36_v44, hk38_v44, hk39_v44, (by show (v 3).toInt ≤ (v44 3).toInt; omega), (by show (v44 5).toInt = (v 5).toInt ∨ (v 3).toInt < (v44 3).toInt ∨ ¬ (v44 5).toInt = 59; omega)⟩ hP hD hS dX11_toldNumber_63 (Nat.le_refl _) (Nat.le_refl _)
      · skip
        have zc50 : (v44 1).toInt = 0 := by rw [fa_eq, show (0 : Int32).toInt = 0 from by decide] at c50; exact c50
        refine lv_aload_n hx hb dX11_toldNumber_58 rfl (lv_at hl 1 rfl) ?_
        refine cbVv (n := 0) (rest := []) hx hb hml hown hts hE hP hD hS hA (sY_X11_token_1 l dC dI cy y0 r  v44 f45 w46 g47 hIv44 hCf45 hRf45 ) k_1579 k_1581 k_42 k_114 k_1582 (by decide +kernel) ⟨Nat.le_of_ble_eq_true rfl, Nat.le_of_ble_eq_true rfl⟩ 0 11 rfl rfl (rfl) hl.1 rfl (Nat.le_of_ble_eq_true rfl) dX11_toldNumber_59 (fun u H locs hw hP hD hS => ?_)
        obtain ⟨v51, f52, w53, g54⟩ := u
        obtain ⟨hIv51, hCf52, hRf52, hk0_v51, hk1_v51, hk4_v51, hk8_v51, hk9_v51, hk10_v51, hk17_v51, hk18_v51, hk24_v51, hk25_v51, hk35_v51, hk36_v51, hk38_v51, hk39_v51, pv55, pv56⟩ := hw
        have hP : va_P (dC, dI) vwCl (YW cy y0 r v51 f52 w53 g54) H := hP
        have hD : va_D A (YW cy y0 r v51 f52 w53 g54) := hD
        have b3_v51 : 0 ≤ (v51 3).toInt ∧ (v51 3).toInt ≤ 1600 := YIb.b hIv51.1 3 (by decide)
        have pv55 : (v44 3).toInt ≤ (v51 3).toInt := pv55
        have pv56 : (v51 5).toInt = (v44 5).toInt ∨ (v44 3).toInt < (v51 3).toInt ∨ ¬ (v51 5).toInt = 59 := pv56
        have hUv51 : (v51 35).toInt + (v51 36).toInt ≤ 40 := hIv51.2
        have hq0_v51 : v51 0 = (v 0) := hk0_v51.trans hq0_v44
        have hq1_v51 : v51 1 = (v44 1) := hk1_v51
        have hq4_v51 : v51 4 = (v 4) := hk4_v51.trans hq4_v44
        have zq4_v51 := congrArg Int32.toInt hq4_v51
        have hq8_v51 : v51 8 = (v 8) := hk8_v51.trans hq8_v44
        have hq9_v51 : v51 9 = (v 9) := hk9_v51.trans hq9_v44
        have zq9_v51 := congrArg Int32.toInt hq9_v51
        have hq10_v51 : v51 10 = (v 10) := hk10_v51.trans hq10_v44
        have hq17_v51 : v51 17 = (v 17) := hk17_v51.trans hq17_v44
        have hq18_v51 : v51 18 = (v 18) := hk18_v51.trans hq18_v44
        have hq24_v51 : v51 24 = (v 24) := hk24_v51.trans hq24_v44
        have hq25_v51 : v51 25 = (v 25) := hk25_v51.trans hq25_v44
        have hq35_v51 : v51 35 = (v 35) := hk35_v51.trans hq35_v44
        have zq35_v51 := congrArg Int32.toInt hq35_v51
        have hq36_v51 : v51 36 = (v 36) := hk36_v51.trans hq36_v44
        have zq36_v51 := congrArg Int32.toInt hq36_v51
        have hq38_v51 : v51 38 = (v 38) := hk38_v51.trans hq38_v44
        have hq39_v51 : v51 39 = (v 39) := hk39_v51.trans hq39_v44
        refine lv_iload_n hx hb dX11_toldNumber_62 rfl (lv_at hl 0 rfl) ?_
        exact ret (v44 7) (v51, f52, w53, g54) _ _ _ _ _ _ rfl ⟨hIv51, hCf52, hRf52, (hk0_v51.trans hk0_v44), (hk4_v51.trans hk4_v44), (hk8_v51.trans hk8_v44), (hk9_v51.trans hk9_v44), (hk10_v51.trans hk10_v44), (hk17_v51.trans hk17_v44), (hk18_v51.trans hk18_v44), (hk24_v51.trans hk24_v44), (hk25_v51.trans hk25_v44), (hk35_v51.trans hk35_v44), (hk36_v51.trans hk36_v44), (hk38_v51.trans hk38_v44), (hk39_v51.trans hk39_v44), (by show (v 3).toInt ≤ (v51 3).toInt; omega), (by show (v51 5).toInt = (v 5).toInt ∨ (v 3).toInt < (v51 3).toInt ∨ ¬ (v51 5).toInt = 59; omega)⟩ hP hD hS dX11_toldNumber_63 (Nat.le_refl _) (Nat.le_refl _)
  · skip
    have zc1 : ¬ ((v 1).toInt ≤ 0) := by rw [fa_le, show (0 : Int32).toInt = 0 from by decide] at c1; exact c1
    refine lv_iconst (v := 0) hx hb dX11_toldNumber_7 (by decide) ?_
    exact ret 0 (v, f, w, g) _ _ _ _ _ _ rfl ⟨hIv, hCf, hRf, rfl, rfl, rfl, rfl, rfl, rfl, rfl, rfl, rfl, rfl, rfl, rfl, rfl, (by show (v 3).toInt ≤ (v 3).toInt; omega), (by show (v 5).toInt = (v 5).toInt ∨ (v 3).toInt < (v 3).toInt ∨ ¬ (v 5).toInt = 59; omega)⟩ hP hD hS dX11_toldNumber_8 (Nat.le_refl _) (Nat.le_refl _)
set_option maxHeartbeats 4000000 in
set_option maxRecDepth 100000 in
theorem sY_X11_told_1 (l : Launch) (dC : Nat → ClassId) (dI : Nat → Nat → Nat) (cy : Nat → ClassId) (y0 : Nat) (r : Nat → Nat) (j1 : Int64) (p2 : Int32) (v : Nat → Int32) (f : Nat → Nat → Int32) (w : Int64) (g : Nat → Int64) (hIv : YI v) (hCf : YC f) (hRf : progOK (f 4) (f 5) (v 9).toInt.toNat)  : ctI l (dC, dI) cy yX11_told cX11_told 4 .int 4 126 0 0 ((Nat → Int32) × (Nat → Nat → Int32) × (Int64) × (Nat → Int64)) [.ref y0, .long j1, .int p2] (YW cy y0 r v f w g) (fun r u => YI u.1 ∧ YC u.2.1 ∧ progOK (u.2.1 4) (u.2.1 5) (u.1 9).toInt.toNat ∧ u.1 0 = v 0 ∧ u.1 4 = v 4 ∧ u.1 8 = v 8 ∧ u.1 9 = v 9 ∧ u.1 10 = v 10 ∧ u.1 17 = v 17 ∧ u.1 18 = v 18 ∧ u.1 24 = v 24 ∧ u.1 25 = v 25 ∧ u.1 35 = v 35 ∧ u.1 36 = v 36 ∧ u.1 38 = v 38 ∧ u.1 39 = v 39 ∧ ((v 3).toInt ≤ (u.1 3).toInt) ∧ ((u.1 5).toInt = (v 5).toInt ∨ (v 3).toInt < (u.1 3).toInt ∨ ¬ (u.1 5).toInt = 59)) (fun u => YW cy y0 r u.1 u.2.1 u.2.2.1 u.2.2.2) := by
  refine ctI_of (by decide) (Nat.le_of_ble_eq_true rfl) (fun p e s m below meth c A ls Q hx hb hml hts hown hE hP hD hA hl ret => ?_)
  have hUv : (v 35).toInt + (v 36).toInt ≤ 40 := hIv.2
  have hown : s.vm.findClass RX11 = some m.cls := hown
  have hS : va_S A s.heap s.heap [] := va_S.rf
  have hl : lv_has ls 4 [(0, .ref y0), (1, .long j1), (3, .int p2)] := hl
  refine lv_aload_n hx hb dX11_told_0 rfl (lv_at hl 0 rfl) ?_
  refine lv_lload_n hx hb dX11_told_1 rfl (lv_at hl 1 rfl) ?_
  refine cbVv (n := 1) (rest := []) hx hb hml hown hts hE hP hD hS hA (sY_X11_want_1 l dC dI cy y0 r j1 v f w g hIv hCf hRf ) k_1649 k_1651 k_52 k_114 k_1652 (by decide +kernel) ⟨Nat.le_of_ble_eq_true rfl, Nat.le_of_ble_eq_true rfl⟩ 0 11 rfl rfl (rfl) hl.1 rfl (Nat.le_of_ble_eq_true rfl) dX11_told_2 (fun u H locs hw hP hD hS => ?_)
  obtain ⟨v1, f2, w3, g4⟩ := u
  obtain ⟨hIv1, hCf2, hRf2, hk0_v1, hk4_v1, hk8_v1, hk9_v1, hk10_v1, hk17_v1, hk18_v1, hk24_v1, hk25_v1, hk35_v1, hk36_v1, hk38_v1, hk39_v1, pv5, pv6⟩ := hw
  have hP : va_P (dC, dI) vwCl (YW cy y0 r v1 f2 w3 g4) H := hP
  have hD : va_D A (YW cy y0 r v1 f2 w3 g4) := hD
  have b3_v1 : 0 ≤ (v1 3).toInt ∧ (v1 3).toInt ≤ 1600 := YIb.b hIv1.1 3 (by decide)
  have pv5 : (v 3).toInt ≤ (v1 3).toInt := pv5
  have pv6 : (v1 5).toInt = (v 5).toInt ∨ (v 3).toInt < (v1 3).toInt ∨ ¬ (v1 5).toInt = 59 := pv6
  have hUv1 : (v1 35).toInt + (v1 36).toInt ≤ 40 := hIv1.2
  have hq0_v1 : v1 0 = (v 0) := hk0_v1
  have hq4_v1 : v1 4 = (v 4) := hk4_v1
  have zq4_v1 := congrArg Int32.toInt hq4_v1
  have hq8_v1 : v1 8 = (v 8) := hk8_v1
  have hq9_v1 : v1 9 = (v 9) := hk9_v1
  have zq9_v1 := congrArg Int32.toInt hq9_v1
  have hq10_v1 : v1 10 = (v 10) := hk10_v1
  have hq17_v1 : v1 17 = (v 17) := hk17_v1
  have hq18_v1 : v1 18 = (v 18) := hk18_v1
  have hq24_v1 : v1 24 = (v 24) := hk24_v1
  have hq25_v1 : v1 25 = (v 25) := hk25_v1
  have hq35_v1 : v1 35 = (v 35) := hk35_v1
  have zq35_v1 := congrArg Int32.toInt hq35_v1
  have hq36_v1 : v1 36 = (v 36) := hk36_v1
  have zq36_v1 := congrArg Int32.toInt hq36_v1
  have hq38_v1 : v1 38 = (v 38) := hk38_v1
  have hq39_v1 : v1 39 = (v 39) := hk39_v1
  refine lv_aload_n hx hb dX11_told_5 rfl (lv_at hl 0 rfl) ?_
  refine lv_iconst (v := 0) hx hb dX11_told_6 (by decide) ?_
  refine lv_iload_n hx hb dX11_told_7 rfl (lv_at hl 2 rfl) ?_
  refine cbVi (n := 2) (rest := []) hx hb hml hown hts hE hP hD hS hA (sY_X11_toldNumber_1 l dC dI cy y0 r 0 p2 v1 f2 w3 g4 hIv1 hCf2 hRf2 ) k_1653 k_1655 k_53 k_114 k_1656 (by decide +kernel) ⟨Nat.le_of_ble_eq_true rfl, Nat.le_of_ble_eq_true rfl⟩ 0 11 rfl rfl (rfl) hl.1 rfl (Nat.le_of_ble_eq_true rfl) dX11_told_8 (fun r7 u H locs hw hP hD hS => ?_)
  obtain ⟨v8, f9, w10, g11⟩ := u
  obtain ⟨hIv8, hCf9, hRf9, hk0_v8, hk4_v8, hk8_v8, hk9_v8, hk10_v8, hk17_v8, hk18_v8, hk24_v8, hk25_v8, hk35_v8, hk36_v8, hk38_v8, hk39_v8, pv12, pv13⟩ := hw
  have hP : va_P (dC, dI) vwCl (YW cy y0 r v8 f9 w10 g11) H := hP
  have hD : va_D A (YW cy y0 r v8 f9 w10 g11) := hD
  have b3_v8 : 0 ≤ (v8 3).toInt ∧ (v8 3).toInt ≤ 1600 := YIb.b hIv8.1 3 (by decide)
  have pv12 : (v1 3).toInt ≤ (v8 3).toInt := pv12
  have pv13 : (v8 5).toInt = (v1 5).toInt ∨ (v1 3).toInt < (v8 3).toInt ∨ ¬ (v8 5).toInt = 59 := pv13
  have hUv8 : (v8 35).toInt + (v8 36).toInt ≤ 40 := hIv8.2
  have hq0_v8 : v8 0 = (v 0) := hk0_v8.trans hq0_v1
  have hq4_v8 : v8 4 = (v 4) := hk4_v8.trans hq4_v1
  have zq4_v8 := congrArg Int32.toInt hq4_v8
  have hq8_v8 : v8 8 = (v 8) := hk8_v8.trans hq8_v1
  have hq9_v8 : v8 9 = (v 9) := hk9_v8.trans hq9_v1
  have zq9_v8 := congrArg Int32.toInt hq9_v8
  have hq10_v8 : v8 10 = (v 10) := hk10_v8.trans hq10_v1
  have hq17_v8 : v8 17 = (v 17) := hk17_v8.trans hq17_v1
  have hq18_v8 : v8 18 = (v 18) := hk18_v8.trans hq18_v1
  have hq24_v8 : v8 24 = (v 24) := hk24_v8.trans hq24_v1
  have hq25_v8 : v8 25 = (v 25) := hk25_v8.trans hq25_v1
  have hq35_v8 : v8 35 = (v 35) := hk35_v8.trans hq35_v1
  have zq35_v8 := congrArg Int32.toInt hq35_v8
  have hq36_v8 : v8 36 = (v 36) := hk36_v8.trans hq36_v1
  have zq36_v8 := congrArg Int32.toInt hq36_v8
  have hq38_v8 : v8 38 = (v 38) := hk38_v8.trans hq38_v1
  have hq39_v8 : v8 39 = (v 39) := hk39_v8.trans hq39_v1
  exact ret r7 (v8, f9, w10, g11) _ _ _ _ _ _ rfl ⟨hIv8, hCf9, hRf9, (hk0_v8.trans hk0_v1), (hk4_v8.trans hk4_v1), (hk8_v8.trans hk8_v1), (hk9_v8.trans hk9_v1), (hk10_v8.trans hk10_v1), (hk17_v8.trans hk17_v1), (hk18_v8.trans hk18_v1), (hk24_v8.trans hk24_v1), (hk25_v8.trans hk25_v1), (hk35_v8.trans hk35_v1), (hk36_v8.trans hk36_v1), (hk38_v8.trans hk38_v1), (hk39_v8.trans hk39_v1), (by show (v 3).toInt ≤ (v8 3).toInt; omega), (by show (v8 5).toInt = (v 5).toInt ∨ (v 3).toInt < (v8 3).toInt ∨ ¬ (v8 5).toInt = 59; omega)⟩ hP hD hS dX11_told_11 (Nat.le_refl _) (Nat.le_refl _)
set_option maxHeartbeats 4000000 in
set_option maxRecDepth 100000 in
theorem sY_X11_option_1 (l : Launch) (dC : Nat → ClassId) (dI : Nat → Nat → Nat) (cy : Nat → ClassId) (y0 : Nat) (r : Nat → Nat) (j1 : Int64) (p2 : Int32) (v : Nat → Int32) (f : Nat → Nat → Int32) (w : Int64) (g : Nat → Int64) (hIv : YI v) (hCf : YC f) (hRf : progOK (f 4) (f 5) (v 9).toInt.toNat)  : ctI l (dC, dI) cy yX11_option cX11_option 4 .int 5 149 0 0 ((Nat → Int32) × (Nat → Nat → Int32) × (Int64) × (Nat → Int64)) [.ref y0, .long j1, .int p2] (YW cy y0 r v f w g) (fun r u => YI u.1 ∧ YC u.2.1 ∧ progOK (u.2.1 4) (u.2.1 5) (u.1 9).toInt.toNat ∧ u.1 0 = v 0 ∧ u.1 4 = v 4 ∧ u.1 8 = v 8 ∧ u.1 9 = v 9 ∧ u.1 10 = v 10 ∧ u.1 17 = v 17 ∧ u.1 18 = v 18 ∧ u.1 24 = v 24 ∧ u.1 25 = v 25 ∧ u.1 35 = v 35 ∧ u.1 36 = v 36 ∧ u.1 38 = v 38 ∧ u.1 39 = v 39 ∧ ((v 3).toInt ≤ (u.1 3).toInt) ∧ ((u.1 5).toInt = (v 5).toInt ∨ (v 3).toInt < (u.1 3).toInt ∨ ¬ (u.1 5).toInt = 59)) (fun u => YW cy y0 r u.1 u.2.1 u.2.2.1 u.2.2.2) := by
  refine ctI_of (by decide) (Nat.le_of_ble_eq_true rfl) (fun p e s m below meth c A ls Q hx hb hml hts hown hE hP hD hA hl ret => ?_)
  have hUv : (v 35).toInt + (v 36).toInt ≤ 40 := hIv.2
  have hown : s.vm.findClass RX11 = some m.cls := hown
  have hS : va_S A s.heap s.heap [] := va_S.rf
  have hl : lv_has ls 4 [(0, .ref y0), (1, .long j1), (3, .int p2)] := hl
  refine lv_aload_n hx hb dX11_option_0 rfl (lv_at hl 0 rfl) ?_
  refine va_get (D := (dC, dI)) (ci := 11) (v := .int (v 1)) (C := RX11) (T := TX11) (N := 79) hx hb hts inB_11 hown hE.1 hP 0 rfl rfl 2 (by decide) (hts _ k_1322) (fun _ h9 => h9) rfl dX11_option_1 ?_
  refine lv_if_ne (tgt := 24) hx hb dX11_option_4 (by decide) (fun c1 => ?_) (fun c1 => ?_)
  · skip
    have zc1 : ¬ ((v 1).toInt = 0) := by rw [fa_eq, show (0 : Int32).toInt = 0 from by decide] at c1; exact c1
    refine lv_iconst (v := 0) hx hb dX11_option_24 (by decide) ?_
    exact ret 0 (v, f, w, g) _ _ _ _ _ _ rfl ⟨hIv, hCf, hRf, rfl, rfl, rfl, rfl, rfl, rfl, rfl, rfl, rfl, rfl, rfl, rfl, rfl, (by show (v 3).toInt ≤ (v 3).toInt; omega), (by show (v 5).toInt = (v 5).toInt ∨ (v 3).toInt < (v 3).toInt ∨ ¬ (v 5).toInt = 59; omega)⟩ hP hD hS dX11_option_25 (Nat.le_refl _) (Nat.le_refl _)
  · skip
    have zc1 : (v 1).toInt = 0 := by rw [fa_eq, show (0 : Int32).toInt = 0 from by decide] at c1; exact c1
    refine lv_aload_n hx hb dX11_option_7 rfl (lv_at hl 0 rfl) ?_
    refine lv_lload_n hx hb dX11_option_8 rfl (lv_at hl 1 rfl) ?_
    refine cbVi (n := 1) (rest := []) hx hb hml hown hts hE hP hD hS hA (sY_X11_isWord_1 l dC dI cy y0 r j1 v f w g hIv hCf hRf ) k_1601 k_1603 k_45 k_114 k_1604 (by decide +kernel) ⟨Nat.le_of_ble_eq_true rfl, Nat.le_of_ble_eq_true rfl⟩ 0 11 rfl rfl (rfl) hl.1 rfl (Nat.le_of_ble_eq_true rfl) dX11_option_9 (fun r2 u H locs hw hP hD hS => ?_)
    rcases hw with ⟨g3, g3_0⟩ | ⟨g3⟩
    · skip
      subst g3
      refine lv_if_eq (tgt := 24) hx hb dX11_option_12 (by decide) (fun c0 => absurd c0 (by decide)) (fun _ => ?_)
      refine lv_aload_n hx hb dX11_option_15 rfl (lv_at hl 0 rfl) ?_
      refine lv_lload_n hx hb dX11_option_16 rfl (lv_at hl 1 rfl) ?_
      refine lv_iload_n hx hb dX11_option_17 rfl (lv_at hl 2 rfl) ?_
      refine cbVi (n := 2) (rest := []) hx hb hml hown hts hE hP hD hS hA (sY_X11_told_1 l dC dI cy y0 r j1 p2 v f w g hIv hCf hRf ) k_1645 k_1647 k_51 k_114 k_1648 (by decide +kernel) ⟨Nat.le_of_ble_eq_true rfl, Nat.le_of_ble_eq_true rfl⟩ 0 11 rfl rfl (rfl) hl.1 rfl (Nat.le_of_ble_eq_true rfl) dX11_option_18 (fun r4 u H locs hw hP hD hS => ?_)
      obtain ⟨v5, f6, w7, g8⟩ := u
      obtain ⟨hIv5, hCf6, hRf6, hk0_v5, hk4_v5, hk8_v5, hk9_v5, hk10_v5, hk17_v5, hk18_v5, hk24_v5, hk25_v5, hk35_v5, hk36_v5, hk38_v5, hk39_v5, pv9, pv10⟩ := hw
      have hP : va_P (dC, dI) vwCl (YW cy y0 r v5 f6 w7 g8) H := hP
      have hD : va_D A (YW cy y0 r v5 f6 w7 g8) := hD
      have b3_v5 : 0 ≤ (v5 3).toInt ∧ (v5 3).toInt ≤ 1600 := YIb.b hIv5.1 3 (by decide)
      have pv9 : (v 3).toInt ≤ (v5 3).toInt := pv9
      have pv10 : (v5 5).toInt = (v 5).toInt ∨ (v 3).toInt < (v5 3).toInt ∨ ¬ (v5 5).toInt = 59 := pv10
      have hUv5 : (v5 35).toInt + (v5 36).toInt ≤ 40 := hIv5.2
      have hq0_v5 : v5 0 = (v 0) := hk0_v5
      have hq4_v5 : v5 4 = (v 4) := hk4_v5
      have zq4_v5 := congrArg Int32.toInt hq4_v5
      have hq8_v5 : v5 8 = (v 8) := hk8_v5
      have hq9_v5 : v5 9 = (v 9) := hk9_v5
      have zq9_v5 := congrArg Int32.toInt hq9_v5
      have hq10_v5 : v5 10 = (v 10) := hk10_v5
      have hq17_v5 : v5 17 = (v 17) := hk17_v5
      have hq18_v5 : v5 18 = (v 18) := hk18_v5
      have hq24_v5 : v5 24 = (v 24) := hk24_v5
      have hq25_v5 : v5 25 = (v 25) := hk25_v5
      have hq35_v5 : v5 35 = (v 35) := hk35_v5
      have zq35_v5 := congrArg Int32.toInt hq35_v5
      have hq36_v5 : v5 36 = (v 36) := hk36_v5
      have zq36_v5 := congrArg Int32.toInt hq36_v5
      have hq38_v5 : v5 38 = (v 38) := hk38_v5
      have hq39_v5 : v5 39 = (v 39) := hk39_v5
      refine lv_goto (tgt := 25) hx hb dX11_option_21 (by decide) ?_
      exact ret r4 (v5, f6, w7, g8) _ _ _ _ _ _ rfl ⟨hIv5, hCf6, hRf6, hk0_v5, hk4_v5, hk8_v5, hk9_v5, hk10_v5, hk17_v5, hk18_v5, hk24_v5, hk25_v5, hk35_v5, hk36_v5, hk38_v5, hk39_v5, (by show (v 3).toInt ≤ (v5 3).toInt; omega), (by show (v5 5).toInt = (v 5).toInt ∨ (v 3).toInt < (v5 3).toInt ∨ ¬ (v5 5).toInt = 59; omega)⟩ hP hD hS dX11_option_25 (Nat.le_refl _) (Nat.le_refl _)
    · skip
      subst g3
      refine lv_if_eq (tgt := 24) hx hb dX11_option_12 (by decide) (fun _ => ?_) (fun c0 => absurd (by decide) c0)
      refine lv_iconst (v := 0) hx hb dX11_option_24 (by decide) ?_
      exact ret 0 (v, f, w, g) _ _ _ _ _ _ rfl ⟨hIv, hCf, hRf, rfl, rfl, rfl, rfl, rfl, rfl, rfl, rfl, rfl, rfl, rfl, rfl, rfl, (by show (v 3).toInt ≤ (v 3).toInt; omega), (by show (v 5).toInt = (v 5).toInt ∨ (v 3).toInt < (v 3).toInt ∨ ¬ (v 5).toInt = 59; omega)⟩ hP hD hS dX11_option_25 (Nat.le_refl _) (Nat.le_refl _)
set_option maxHeartbeats 4000000 in
set_option maxRecDepth 100000 in
theorem sY_X11_isOwn_1 (l : Launch) (dC : Nat → ClassId) (dI : Nat → Nat → Nat) (cy : Nat → ClassId) (y0 : Nat) (r : Nat → Nat)  (v : Nat → Int32) (f : Nat → Nat → Int32) (w : Int64) (g : Nat → Int64) (hIv : YI v) (hCf : YC f) (hRf : progOK (f 4) (f 5) (v 9).toInt.toNat)  : ctI l (dC, dI) cy yX11_isOwn cX11_isOwn 1 .boolean 1 60 0 0 Unit [.ref y0] (YW cy y0 r v f w g) (fun r u => ((r = 1) ∨ (r = 0))) (fun u => YW cy y0 r v f w g) := by
  refine ctI_of (by decide) (Nat.le_of_ble_eq_true rfl) (fun p e s m below meth c A ls Q hx hb hml hts hown hE hP hD hA hl ret => ?_)
  have hUv : (v 35).toInt + (v 36).toInt ≤ 40 := hIv.2
  have hown : s.vm.findClass RX11 = some m.cls := hown
  have hS : va_S A s.heap s.heap [] := va_S.rf
  have hl : lv_has ls 1 [(0, .ref y0)] := hl
  refine lv_aload_n hx hb dX11_isOwn_0 rfl (lv_at hl 0 rfl) ?_
  refine va_get (D := (dC, dI)) (ci := 11) (v := .long w) (C := RX11) (T := TX11) (N := 79) hx hb hts inB_11 hown hE.1 hP 0 rfl rfl 9 (by decide) (hts _ k_1329) (fun _ h9 => h9) rfl dX11_isOwn_1 ?_
  refine lv_ldc2 (v := 7168366) hx hb hown (hts _ k_1600) dX11_isOwn_4 ?_
  refine W.lcmp hx hb dX11_isOwn_7 ?_
  refine lv_topi (fun t1 et1 => ?_)
  refine lv_if_eq (tgt := 231) hx hb dX11_isOwn_8 (by decide) (fun c2 => ?_) (fun c2 => ?_)
  · skip
    have zc2 : t1.toInt = 0 := by rw [fa_eq, show (0 : Int32).toInt = 0 from by decide] at c2; exact c2
    refine lv_iconst (v := 1) hx hb dX11_isOwn_231 (by decide) ?_
    refine lv_goto (tgt := 236) hx hb dX11_isOwn_232 (by decide) ?_
    exact ret 1 () _ _ _ _ _ _ rfl (Or.inl rfl) hP hD hS dX11_isOwn_236 (Nat.le_refl _) (Nat.le_refl _)
  · skip
    have zc2 : ¬ (t1.toInt = 0) := by rw [fa_eq, show (0 : Int32).toInt = 0 from by decide] at c2; exact c2
    refine lv_aload_n hx hb dX11_isOwn_11 rfl (lv_at hl 0 rfl) ?_
    refine va_get (D := (dC, dI)) (ci := 11) (v := .long w) (C := RX11) (T := TX11) (N := 79) hx hb hts inB_11 hown hE.1 hP 0 rfl rfl 9 (by decide) (hts _ k_1329) (fun _ h9 => h9) rfl dX11_isOwn_12 ?_
    refine lv_ldc2 (v := 1952541804) hx hb hown (hts _ k_1621) dX11_isOwn_15 ?_
    refine W.lcmp hx hb dX11_isOwn_18 ?_
    refine lv_topi (fun t3 et3 => ?_)
    refine lv_if_eq (tgt := 231) hx hb dX11_isOwn_19 (by decide) (fun c4 => ?_) (fun c4 => ?_)
    · skip
      have zc4 : t3.toInt = 0 := by rw [fa_eq, show (0 : Int32).toInt = 0 from by decide] at c4; exact c4
      refine lv_iconst (v := 1) hx hb dX11_isOwn_231 (by decide) ?_
      refine lv_goto (tgt := 236) hx hb dX11_isOwn_232 (by decide) ?_
      exact ret 1 () _ _ _ _ _ _ rfl (Or.inl rfl) hP hD hS dX11_isOwn_236 (Nat.le_refl _) (Nat.le_refl _)
    · skip
      have zc4 : ¬ (t3.toInt = 0) := by rw [fa_eq, show (0 : Int32).toInt = 0 from by decide] at c4; exact c4
      refine lv_aload_n hx hb dX11_isOwn_22 rfl (lv_at hl 0 rfl) ?_
      refine va_get (D := (dC, dI)) (ci := 11) (v := .long w) (C := RX11) (T := TX11) (N := 79) hx hb hts inB_11 hown hE.1 hP 0 rfl rfl 9 (by decide) (hts _ k_1329) (fun _ h9 => h9) rfl dX11_isOwn_23 ?_
      refine lv_ldc2 (v := 2003395685) hx hb hown (hts _ k_1622) dX11_isOwn_26 ?_
      refine W.lcmp hx hb dX11_isOwn_29 ?_
      refine lv_topi (fun t5 et5 => ?_)
      refine lv_if_eq (tgt := 231) hx hb dX11_isOwn_30 (by decide) (fun c6 => ?_) (fun c6 => ?_)
      · skip
        have zc6 : t5.toInt = 0 := by rw [fa_eq, show (0 : Int32).toInt = 0 from by decide] at c6; exact c6
        refine lv_iconst (v := 1) hx hb dX11_isOwn_231 (by decide) ?_
        refine lv_goto (tgt := 236) hx hb dX11_isOwn_232 (by decide) ?_
        exact ret 1 () _ _ _ _ _ _ rfl (Or.inl rfl) hP hD hS dX11_isOwn_236 (Nat.le_refl _) (Nat.le_refl _)
      · skip
        have zc6 : ¬ (t5.toInt = 0) := by rw [fa_eq, show (0 : Int32).toInt = 0 from by decide] at c6; exact c6
        refine lv_aload_n hx hb dX11_isOwn_33 rfl (lv_at hl 0 rfl) ?_
        refine va_get (D := (dC, dI)) (ci := 11) (v := .long w) (C := RX11) (T := TX11) (N := 79) hx hb hts inB_11 hown hE.1 hP 0 rfl rfl 9 (by decide) (hts _ k_1329) (fun _ h9 => h9) rfl dX11_isOwn_34 ?_
        refine lv_ldc2 (v := 444301539187) hx hb hown (hts _ k_1623) dX11_isOwn_37 ?_
        refine W.lcmp hx hb dX11_isOwn_40 ?_
        refine lv_topi (fun t7 et7 => ?_)
        refine lv_if_eq (tgt := 231) hx hb dX11_isOwn_41 (by decide) (fun c8 => ?_) (fun c8 => ?_)
        · skip
          have zc8 : t7.toInt = 0 := by rw [fa_eq, show (0 : Int32).toInt = 0 from by decide] at c8; exact c8
          refine lv_iconst (v := 1) hx hb dX11_isOwn_231 (by decide) ?_
          refine lv_goto (tgt := 236) hx hb dX11_isOwn_232 (by decide) ?_
          exact ret 1 () _ _ _ _ _ _ rfl (Or.inl rfl) hP hD hS dX11_isOwn_236 (Nat.le_refl _) (Nat.le_refl _)
        · skip
          have zc8 : ¬ (t7.toInt = 0) := by rw [fa_eq, show (0 : Int32).toInt = 0 from by decide] at c8; exact c8
          refine lv_aload_n hx hb dX11_isOwn_44 rfl (lv_at hl 0 rfl) ?_
          refine va_get (D := (dC, dI)) (ci := 11) (v := .long w) (C := RX11) (T := TX11) (N := 79) hx hb hts inB_11 hown hE.1 hP 0 rfl rfl 9 (by decide) (hts _ k_1329) (fun _ h9 => h9) rfl dX11_isOwn_45 ?_
          refine lv_ldc2 (v := 1668243828) hx hb hown (hts _ k_1624) dX11_isOwn_48 ?_
          refine W.lcmp hx hb dX11_isOwn_51 ?_
          refine lv_topi (fun t9 et9 => ?_)
          refine lv_if_eq (tgt := 231) hx hb dX11_isOwn_52 (by decide) (fun c10 => ?_) (fun c10 => ?_)
          · skip
            have zc10 : t9.toInt = 0 := by rw [fa_eq, show (0 : Int32).toInt = 0 from by decide] at c10; exact c10
            refine lv_iconst (v := 1) hx hb dX11_isOwn_231 (by decide) ?_
            refine lv_goto (tgt := 236) hx hb dX11_isOwn_232 (by decide) ?_
            exact ret 1 () _ _ _ _ _ _ rfl (Or.inl rfl) hP hD hS dX11_isOwn_236 (Nat.le_refl _) (Nat.le_refl _)
          · skip
            have zc10 : ¬ (t9.toInt = 0) := by rw [fa_eq, show (0 : Int32).toInt = 0 from by decide] at c10; exact c10
            refine lv_aload_n hx hb dX11_isOwn_55 rfl (lv_at hl 0 rfl) ?_
            refine va_get (D := (dC, dI)) (ci := 11) (v := .long w) (C := RX11) (T := TX11) (N := 79) hx hb hts inB_11 hown hE.1 hP 0 rfl rfl 9 (by decide) (hts _ k_1329) (fun _ h9 => h9) rfl dX11_isOwn_56 ?_
            refine lv_ldc2 (v := 1936023917) hx hb hown (hts _ k_1625) dX11_isOwn_59 ?_
            refine W.lcmp hx hb dX11_isOwn_62 ?_
            refine lv_topi (fun t11 et11 => ?_)
            refine lv_if_eq (tgt := 231) hx hb dX11_isOwn_63 (by decide) (fun c12 => ?_) (fun c12 => ?_)
            · skip
              have zc12 : t11.toInt = 0 := by rw [fa_eq, show (0 : Int32).toInt = 0 from by decide] at c12; exact c12
              refine lv_iconst (v := 1) hx hb dX11_isOwn_231 (by decide) ?_
              refine lv_goto (tgt := 236) hx hb dX11_isOwn_232 (by decide) ?_
              exact ret 1 () _ _ _ _ _ _ rfl (Or.inl rfl) hP hD hS dX11_isOwn_236 (Nat.le_refl _) (Nat.le_refl _)
            · skip
              have zc12 : ¬ (t11.toInt = 0) := by rw [fa_eq, show (0 : Int32).toInt = 0 from by decide] at c12; exact c12
              refine lv_aload_n hx hb dX11_isOwn_66 rfl (lv_at hl 0 rfl) ?_
              refine va_get (D := (dC, dI)) (ci := 11) (v := .long w) (C := RX11) (T := TX11) (N := 79) hx hb hts inB_11 hown hE.1 hP 0 rfl rfl 9 (by decide) (hts _ k_1329) (fun _ h9 => h9) rfl dX11_isOwn_67 ?_
              refine lv_ldc2 (v := 2003792494) hx hb hown (hts _ k_1626) dX11_isOwn_70 ?_
              refine W.lcmp hx hb dX11_isOwn_73 ?_
              refine lv_topi (fun t13 et13 => ?_)
              refine lv_if_eq (tgt := 231) hx hb dX11_isOwn_74 (by decide) (fun c14 => ?_) (fun c14 => ?_)
              · skip
                have zc14 : t13.toInt = 0 := by rw [fa_eq, show (0 : Int32).toInt = 0 from by decide] at c14; exact c14
                refine lv_iconst (v := 1) hx hb dX11_isOwn_231 (by decide) ?_
                refine lv_goto (tgt := 236) hx hb dX11_isOwn_232 (by decide) ?_
                exact ret 1 () _ _ _ _ _ _ rfl (Or.inl rfl) hP hD hS dX11_isOwn_236 (Nat.le_refl _) (Nat.le_refl _)
              · skip
                have zc14 : ¬ (t13.toInt = 0) := by rw [fa_eq, show (0 : Int32).toInt = 0 from by decide] at c14; exact c14
                refine lv_aload_n hx hb dX11_isOwn_77 rfl (lv_at hl 0 rfl) ?_
                refine va_get (D := (dC, dI)) (ci := 11) (v := .long w) (C := RX11) (T := TX11) (N := 79) hx hb hts inB_11 hown hE.1 hP 0 rfl rfl 9 (by decide) (hts _ k_1329) (fun _ h9 => h9) rfl dX11_isOwn_78 ?_
                refine lv_ldc2 (v := 6909036) hx hb hown (hts _ k_1627) dX11_isOwn_81 ?_
                refine W.lcmp hx hb dX11_isOwn_84 ?_
                refine lv_topi (fun t15 et15 => ?_)
                refine lv_if_eq (tgt := 231) hx hb dX11_isOwn_85 (by decide) (fun c16 => ?_) (fun c16 => ?_)
                · skip
                  have zc16 : t15.toInt = 0 := by rw [fa_eq, show (0 : Int32).toInt = 0 from by decide] at c16; exact c16
                  refine lv_iconst (v := 1) hx hb dX11_isOwn_231 (by decide) ?_
                  refine lv_goto (tgt := 236) hx hb dX11_isOwn_232 (by decide) ?_
                  exact ret 1 () _ _ _ _ _ _ rfl (Or.inl rfl) hP hD hS dX11_isOwn_236 (Nat.le_refl _) (Nat.le_refl _)
                · skip
                  have zc16 : ¬ (t15.toInt = 0) := by rw [fa_eq, show (0 : Int32).toInt = 0 from by decide] at c16; exact c16
                  refine lv_aload_n hx hb dX11_isOwn_88 rfl (lv_at hl 0 rfl) ?_
                  refine va_get (D := (dC, dI)) (ci := 11) (v := .long w) (C := RX11) (T := TX11) (N := 79) hx hb hts inB_11 hown hE.1 hP 0 rfl rfl 9 (by decide) (hts _ k_1329) (fun _ h9 => h9) rfl dX11_isOwn_89 ?_
                  refine lv_ldc2 (v := 1700885369) hx hb hown (hts _ k_1628) dX11_isOwn_92 ?_
                  refine W.lcmp hx hb dX11_isOwn_95 ?_
                  refine lv_topi (fun t17 et17 => ?_)
                  refine lv_if_eq (tgt := 231) hx hb dX11_isOwn_96 (by decide) (fun c18 => ?_) (fun c18 => ?_)
                  · skip
                    have zc18 : t17.toInt = 0 := by rw [fa_eq, show (0 : Int32).toInt = 0 from by decide] at c18; exact c18
                    refine lv_iconst (v := 1) hx hb dX11_isOwn_231 (by decide) ?_
                    refine lv_goto (tgt := 236) hx hb dX11_isOwn_232 (by decide) ?_
                    exact ret 1 () _ _ _ _ _ _ rfl (Or.inl rfl) hP hD hS dX11_isOwn_236 (Nat.le_refl _) (Nat.le_refl _)
                  · skip
                    have zc18 : ¬ (t17.toInt = 0) := by rw [fa_eq, show (0 : Int32).toInt = 0 from by decide] at c18; exact c18
                    refine lv_aload_n hx hb dX11_isOwn_99 rfl (lv_at hl 0 rfl) ?_
                    refine va_get (D := (dC, dI)) (ci := 11) (v := .long w) (C := RX11) (T := TX11) (N := 79) hx hb hts inB_11 hown hE.1 hP 0 rfl rfl 9 (by decide) (hts _ k_1329) (fun _ h9 => h9) rfl dX11_isOwn_100 ?_
                    refine lv_ldc2 (v := 1651469428) hx hb hown (hts _ k_1629) dX11_isOwn_103 ?_
                    refine W.lcmp hx hb dX11_isOwn_106 ?_
                    refine lv_topi (fun t19 et19 => ?_)
                    refine lv_if_eq (tgt := 231) hx hb dX11_isOwn_107 (by decide) (fun c20 => ?_) (fun c20 => ?_)
                    · skip
                      have zc20 : t19.toInt = 0 := by rw [fa_eq, show (0 : Int32).toInt = 0 from by decide] at c20; exact c20
                      refine lv_iconst (v := 1) hx hb dX11_isOwn_231 (by decide) ?_
                      refine lv_goto (tgt := 236) hx hb dX11_isOwn_232 (by decide) ?_
                      exact ret 1 () _ _ _ _ _ _ rfl (Or.inl rfl) hP hD hS dX11_isOwn_236 (Nat.le_refl _) (Nat.le_refl _)
                    · skip
                      have zc20 : ¬ (t19.toInt = 0) := by rw [fa_eq, show (0 : Int32).toInt = 0 from by decide] at c20; exact c20
                      refine lv_aload_n hx hb dX11_isOwn_110 rfl (lv_at hl 0 rfl) ?_
                      refine va_get (D := (dC, dI)) (ci := 11) (v := .long w) (C := RX11) (T := TX11) (N := 79) hx hb hts inB_11 hown hE.1 hP 0 rfl rfl 9 (by decide) (hts _ k_1329) (fun _ h9 => h9) rfl dX11_isOwn_111 ?_
                      refine lv_ldc2 (v := 1818848101) hx hb hown (hts _ k_1630) dX11_isOwn_114 ?_
                      refine W.lcmp hx hb dX11_isOwn_117 ?_
                      refine lv_topi (fun t21 et21 => ?_)
                      refine lv_if_eq (tgt := 231) hx hb dX11_isOwn_118 (by decide) (fun c22 => ?_) (fun c22 => ?_)
                      · skip
                        have zc22 : t21.toInt = 0 := by rw [fa_eq, show (0 : Int32).toInt = 0 from by decide] at c22; exact c22
                        refine lv_iconst (v := 1) hx hb dX11_isOwn_231 (by decide) ?_
                        refine lv_goto (tgt := 236) hx hb dX11_isOwn_232 (by decide) ?_
                        exact ret 1 () _ _ _ _ _ _ rfl (Or.inl rfl) hP hD hS dX11_isOwn_236 (Nat.le_refl _) (Nat.le_refl _)
                      · skip
                        have zc22 : ¬ (t21.toInt = 0) := by rw [fa_eq, show (0 : Int32).toInt = 0 from by decide] at c22; exact c22
                        refine lv_aload_n hx hb dX11_isOwn_121 rfl (lv_at hl 0 rfl) ?_
                        refine va_get (D := (dC, dI)) (ci := 11) (v := .long w) (C := RX11) (T := TX11) (N := 79) hx hb hts inB_11 hown hE.1 hP 0 rfl rfl 9 (by decide) (hts _ k_1329) (fun _ h9 => h9) rfl dX11_isOwn_122 ?_
                        refine lv_ldc2 (v := 1918986606) hx hb hown (hts _ k_1631) dX11_isOwn_125 ?_
                        refine W.lcmp hx hb dX11_isOwn_128 ?_
                        refine lv_topi (fun t23 et23 => ?_)
                        refine lv_if_eq (tgt := 231) hx hb dX11_isOwn_129 (by decide) (fun c24 => ?_) (fun c24 => ?_)
                        · skip
                          have zc24 : t23.toInt = 0 := by rw [fa_eq, show (0 : Int32).toInt = 0 from by decide] at c24; exact c24
                          refine lv_iconst (v := 1) hx hb dX11_isOwn_231 (by decide) ?_
                          refine lv_goto (tgt := 236) hx hb dX11_isOwn_232 (by decide) ?_
                          exact ret 1 () _ _ _ _ _ _ rfl (Or.inl rfl) hP hD hS dX11_isOwn_236 (Nat.le_refl _) (Nat.le_refl _)
                        · skip
                          have zc24 : ¬ (t23.toInt = 0) := by rw [fa_eq, show (0 : Int32).toInt = 0 from by decide] at c24; exact c24
                          refine lv_aload_n hx hb dX11_isOwn_132 rfl (lv_at hl 0 rfl) ?_
                          refine va_get (D := (dC, dI)) (ci := 11) (v := .long w) (C := RX11) (T := TX11) (N := 79) hx hb hts inB_11 hown hE.1 hP 0 rfl rfl 9 (by decide) (hts _ k_1329) (fun _ h9 => h9) rfl dX11_isOwn_133 ?_
                          refine lv_ldc2 (v := 1685217655) hx hb hown (hts _ k_1632) dX11_isOwn_136 ?_
                          refine W.lcmp hx hb dX11_isOwn_139 ?_
                          refine lv_topi (fun t25 et25 => ?_)
                          refine lv_if_eq (tgt := 231) hx hb dX11_isOwn_140 (by decide) (fun c26 => ?_) (fun c26 => ?_)
                          · skip
                            have zc26 : t25.toInt = 0 := by rw [fa_eq, show (0 : Int32).toInt = 0 from by decide] at c26; exact c26
                            refine lv_iconst (v := 1) hx hb dX11_isOwn_231 (by decide) ?_
                            refine lv_goto (tgt := 236) hx hb dX11_isOwn_232 (by decide) ?_
                            exact ret 1 () _ _ _ _ _ _ rfl (Or.inl rfl) hP hD hS dX11_isOwn_236 (Nat.le_refl _) (Nat.le_refl _)
                          · skip
                            have zc26 : ¬ (t25.toInt = 0) := by rw [fa_eq, show (0 : Int32).toInt = 0 from by decide] at c26; exact c26
                            refine lv_aload_n hx hb dX11_isOwn_143 rfl (lv_at hl 0 rfl) ?_
                            refine va_get (D := (dC, dI)) (ci := 11) (v := .long w) (C := RX11) (T := TX11) (N := 79) hx hb hts inB_11 hown hE.1 hP 0 rfl rfl 9 (by decide) (hts _ k_1329) (fun _ h9 => h9) rfl dX11_isOwn_144 ?_
                            refine lv_ldc2 (v := 499984590964) hx hb hown (hts _ k_1633) dX11_isOwn_147 ?_
                            refine W.lcmp hx hb dX11_isOwn_150 ?_
                            refine lv_topi (fun t27 et27 => ?_)
                            refine lv_if_eq (tgt := 231) hx hb dX11_isOwn_151 (by decide) (fun c28 => ?_) (fun c28 => ?_)
                            · skip
                              have zc28 : t27.toInt = 0 := by rw [fa_eq, show (0 : Int32).toInt = 0 from by decide] at c28; exact c28
                              refine lv_iconst (v := 1) hx hb dX11_isOwn_231 (by decide) ?_
                              refine lv_goto (tgt := 236) hx hb dX11_isOwn_232 (by decide) ?_
                              exact ret 1 () _ _ _ _ _ _ rfl (Or.inl rfl) hP hD hS dX11_isOwn_236 (Nat.le_refl _) (Nat.le_refl _)
                            · skip
                              have zc28 : ¬ (t27.toInt = 0) := by rw [fa_eq, show (0 : Int32).toInt = 0 from by decide] at c28; exact c28
                              refine lv_aload_n hx hb dX11_isOwn_154 rfl (lv_at hl 0 rfl) ?_
                              refine va_get (D := (dC, dI)) (ci := 11) (v := .long w) (C := RX11) (T := TX11) (N := 79) hx hb hts inB_11 hown hE.1 hP 0 rfl rfl 9 (by decide) (hts _ k_1329) (fun _ h9 => h9) rfl dX11_isOwn_155 ?_
                              refine lv_ldc2 (v := 465726042981) hx hb hown (hts _ k_1634) dX11_isOwn_158 ?_
                              refine W.lcmp hx hb dX11_isOwn_161 ?_
                              refine lv_topi (fun t29 et29 => ?_)
                              refine lv_if_eq (tgt := 231) hx hb dX11_isOwn_162 (by decide) (fun c30 => ?_) (fun c30 => ?_)
                              · skip
                                have zc30 : t29.toInt = 0 := by rw [fa_eq, show (0 : Int32).toInt = 0 from by decide] at c30; exact c30
                                refine lv_iconst (v := 1) hx hb dX11_isOwn_231 (by decide) ?_
                                refine lv_goto (tgt := 236) hx hb dX11_isOwn_232 (by decide) ?_
                                exact ret 1 () _ _ _ _ _ _ rfl (Or.inl rfl) hP hD hS dX11_isOwn_236 (Nat.le_refl _) (Nat.le_refl _)
                              · skip
                                have zc30 : ¬ (t29.toInt = 0) := by rw [fa_eq, show (0 : Int32).toInt = 0 from by decide] at c30; exact c30
                                refine lv_aload_n hx hb dX11_isOwn_165 rfl (lv_at hl 0 rfl) ?_
                                refine va_get (D := (dC, dI)) (ci := 11) (v := .long w) (C := RX11) (T := TX11) (N := 79) hx hb hts inB_11 hown hE.1 hP 0 rfl rfl 9 (by decide) (hts _ k_1329) (fun _ h9 => h9) rfl dX11_isOwn_166 ?_
                                refine lv_ldc2 (v := 495673373300) hx hb hown (hts _ k_1635) dX11_isOwn_169 ?_
                                refine W.lcmp hx hb dX11_isOwn_172 ?_
                                refine lv_topi (fun t31 et31 => ?_)
                                refine lv_if_eq (tgt := 231) hx hb dX11_isOwn_173 (by decide) (fun c32 => ?_) (fun c32 => ?_)
                                · skip
                                  have zc32 : t31.toInt = 0 := by rw [fa_eq, show (0 : Int32).toInt = 0 from by decide] at c32; exact c32
                                  refine lv_iconst (v := 1) hx hb dX11_isOwn_231 (by decide) ?_
                                  refine lv_goto (tgt := 236) hx hb dX11_isOwn_232 (by decide) ?_
                                  exact ret 1 () _ _ _ _ _ _ rfl (Or.inl rfl) hP hD hS dX11_isOwn_236 (Nat.le_refl _) (Nat.le_refl _)
                                · skip
                                  have zc32 : ¬ (t31.toInt = 0) := by rw [fa_eq, show (0 : Int32).toInt = 0 from by decide] at c32; exact c32
                                  refine lv_aload_n hx hb dX11_isOwn_176 rfl (lv_at hl 0 rfl) ?_
                                  refine va_get (D := (dC, dI)) (ci := 11) (v := .long w) (C := RX11) (T := TX11) (N := 79) hx hb hts inB_11 hown hE.1 hP 0 rfl rfl 9 (by decide) (hts _ k_1329) (fun _ h9 => h9) rfl dX11_isOwn_177 ?_
                                  refine lv_ldc2 (v := 1819242087) hx hb hown (hts _ k_1636) dX11_isOwn_180 ?_
                                  refine W.lcmp hx hb dX11_isOwn_183 ?_
                                  refine lv_topi (fun t33 et33 => ?_)
                                  refine lv_if_eq (tgt := 231) hx hb dX11_isOwn_184 (by decide) (fun c34 => ?_) (fun c34 => ?_)
                                  · skip
                                    have zc34 : t33.toInt = 0 := by rw [fa_eq, show (0 : Int32).toInt = 0 from by decide] at c34; exact c34
                                    refine lv_iconst (v := 1) hx hb dX11_isOwn_231 (by decide) ?_
                                    refine lv_goto (tgt := 236) hx hb dX11_isOwn_232 (by decide) ?_
                                    exact ret 1 () _ _ _ _ _ _ rfl (Or.inl rfl) hP hD hS dX11_isOwn_236 (Nat.le_refl _) (Nat.le_refl _)
                                  · skip
                                    have zc34 : ¬ (t33.toInt = 0) := by rw [fa_eq, show (0 : Int32).toInt = 0 from by decide] at c34; exact c34
                                    refine lv_aload_n hx hb dX11_isOwn_187 rfl (lv_at hl 0 rfl) ?_
                                    refine va_get (D := (dC, dI)) (ci := 11) (v := .long w) (C := RX11) (T := TX11) (N := 79) hx hb hts inB_11 hown hE.1 hP 0 rfl rfl 9 (by decide) (hts _ k_1329) (fun _ h9 => h9) rfl dX11_isOwn_188 ?_
                                    refine lv_ldc2 (v := 6578553) hx hb hown (hts _ k_1637) dX11_isOwn_191 ?_
                                    refine W.lcmp hx hb dX11_isOwn_194 ?_
                                    refine lv_topi (fun t35 et35 => ?_)
                                    refine lv_if_eq (tgt := 231) hx hb dX11_isOwn_195 (by decide) (fun c36 => ?_) (fun c36 => ?_)
                                    · skip
                                      have zc36 : t35.toInt = 0 := by rw [fa_eq, show (0 : Int32).toInt = 0 from by decide] at c36; exact c36
                                      refine lv_iconst (v := 1) hx hb dX11_isOwn_231 (by decide) ?_
                                      refine lv_goto (tgt := 236) hx hb dX11_isOwn_232 (by decide) ?_
                                      exact ret 1 () _ _ _ _ _ _ rfl (Or.inl rfl) hP hD hS dX11_isOwn_236 (Nat.le_refl _) (Nat.le_refl _)
                                    · skip
                                      have zc36 : ¬ (t35.toInt = 0) := by rw [fa_eq, show (0 : Int32).toInt = 0 from by decide] at c36; exact c36
                                      refine lv_aload_n hx hb dX11_isOwn_198 rfl (lv_at hl 0 rfl) ?_
                                      refine va_get (D := (dC, dI)) (ci := 11) (v := .long w) (C := RX11) (T := TX11) (N := 79) hx hb hts inB_11 hown hE.1 hP 0 rfl rfl 9 (by decide) (hts _ k_1329) (fun _ h9 => h9) rfl dX11_isOwn_199 ?_
                                      refine lv_ldc2 (v := 6385252) hx hb hown (hts _ k_1638) dX11_isOwn_202 ?_
                                      refine W.lcmp hx hb dX11_isOwn_205 ?_
                                      refine lv_topi (fun t37 et37 => ?_)
                                      refine lv_if_eq (tgt := 231) hx hb dX11_isOwn_206 (by decide) (fun c38 => ?_) (fun c38 => ?_)
                                      · skip
                                        have zc38 : t37.toInt = 0 := by rw [fa_eq, show (0 : Int32).toInt = 0 from by decide] at c38; exact c38
                                        refine lv_iconst (v := 1) hx hb dX11_isOwn_231 (by decide) ?_
                                        refine lv_goto (tgt := 236) hx hb dX11_isOwn_232 (by decide) ?_
                                        exact ret 1 () _ _ _ _ _ _ rfl (Or.inl rfl) hP hD hS dX11_isOwn_236 (Nat.le_refl _) (Nat.le_refl _)
                                      · skip
                                        have zc38 : ¬ (t37.toInt = 0) := by rw [fa_eq, show (0 : Int32).toInt = 0 from by decide] at c38; exact c38
                                        refine lv_aload_n hx hb dX11_isOwn_209 rfl (lv_at hl 0 rfl) ?_
                                        refine va_get (D := (dC, dI)) (ci := 11) (v := .long w) (C := RX11) (T := TX11) (N := 79) hx hb hts inB_11 hown hE.1 hP 0 rfl rfl 9 (by decide) (hts _ k_1329) (fun _ h9 => h9) rfl dX11_isOwn_210 ?_
                                        refine lv_ldc2 (v := 28530) hx hb hown (hts _ k_1639) dX11_isOwn_213 ?_
                                        refine W.lcmp hx hb dX11_isOwn_216 ?_
                                        refine lv_topi (fun t39 et39 => ?_)
                                        refine lv_if_eq (tgt := 231) hx hb dX11_isOwn_217 (by decide) (fun c40 => ?_) (fun c40 => ?_)
                                        · skip
                                          have zc40 : t39.toInt = 0 := by rw [fa_eq, show (0 : Int32).toInt = 0 from by decide] at c40; exact c40
                                          refine lv_iconst (v := 1) hx hb dX11_isOwn_231 (by decide) ?_
                                          refine lv_goto (tgt := 236) hx hb dX11_isOwn_232 (by decide) ?_
                                          exact ret 1 () _ _ _ _ _ _ rfl (Or.inl rfl) hP hD hS dX11_isOwn_236 (Nat.le_refl _) (Nat.le_refl _)
                                        · skip
                                          have zc40 : ¬ (t39.toInt = 0) := by rw [fa_eq, show (0 : Int32).toInt = 0 from by decide] at c40; exact c40
                                          refine lv_aload_n hx hb dX11_isOwn_220 rfl (lv_at hl 0 rfl) ?_
                                          refine va_get (D := (dC, dI)) (ci := 11) (v := .long w) (C := RX11) (T := TX11) (N := 79) hx hb hts inB_11 hown hE.1 hP 0 rfl rfl 9 (by decide) (hts _ k_1329) (fun _ h9 => h9) rfl dX11_isOwn_221 ?_
                                          refine lv_ldc2 (v := 7237492) hx hb hown (hts _ k_1640) dX11_isOwn_224 ?_
                                          refine W.lcmp hx hb dX11_isOwn_227 ?_
                                          refine lv_topi (fun t41 et41 => ?_)
                                          refine lv_if_ne (tgt := 235) hx hb dX11_isOwn_228 (by decide) (fun c42 => ?_) (fun c42 => ?_)
                                          · skip
                                            have zc42 : ¬ (t41.toInt = 0) := by rw [fa_eq, show (0 : Int32).toInt = 0 from by decide] at c42; exact c42
                                            refine lv_iconst (v := 0) hx hb dX11_isOwn_235 (by decide) ?_
                                            exact ret 0 () _ _ _ _ _ _ rfl (Or.inr rfl) hP hD hS dX11_isOwn_236 (Nat.le_refl _) (Nat.le_refl _)
                                          · skip
                                            have zc42 : t41.toInt = 0 := by rw [fa_eq, show (0 : Int32).toInt = 0 from by decide] at c42; exact c42
                                            refine lv_iconst (v := 1) hx hb dX11_isOwn_231 (by decide) ?_
                                            refine lv_goto (tgt := 236) hx hb dX11_isOwn_232 (by decide) ?_
                                            exact ret 1 () _ _ _ _ _ _ rfl (Or.inl rfl) hP hD hS dX11_isOwn_236 (Nat.le_refl _) (Nat.le_refl _)
