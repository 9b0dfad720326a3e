set_option maxHeartbeats 4000000 in
set_option maxRecDepth 100000 in
theorem sY_X11_sewing_1 (l : Launch) (dC : Nat → ClassId) (dI : Nat → Nat → Nat) (cy : Nat → ClassId) (y0 : Nat) (r : Nat → Nat) (p1 : Int32) (p2 : Int32) (p3 : Int32) (v : Nat → Int32) (f : Nat → Nat → Int32) (w : Int64) (g : Nat → Int64) (hIv : YI v) (hCf : YC f) (hRf : progOK (f 4) (f 5) (v 9).toInt.toNat)  : ctI l (dC, dI) cy yX11_sewing cX11_sewing 10 .int 5 150 0 0 ((Nat → Int32) × (Nat → Nat → Int32) × (Int64) × (Nat → Int64)) [.ref y0, .int p1, .int p2, .int p3] (YW cy y0 r v f w g) (fun r u => KV [] u.1 v ∧ KF [7, 8, 24] u.2.1 f ∧ YI u.1 ∧ YC u.2.1 ∧ progOK (u.2.1 4) (u.2.1 5) (u.1 9).toInt.toNat ∧ u.1 0 = v 0 ∧ u.1 1 = v 1 ∧ u.1 2 = v 2 ∧ u.1 3 = v 3 ∧ u.1 4 = v 4 ∧ u.1 5 = v 5 ∧ u.1 8 = v 8 ∧ u.1 9 = v 9 ∧ u.1 10 = v 10 ∧ u.1 13 = v 13 ∧ u.1 14 = v 14 ∧ u.1 15 = v 15 ∧ u.1 17 = v 17 ∧ u.1 18 = v 18 ∧ u.1 24 = v 24 ∧ u.1 25 = v 25 ∧ u.1 35 = v 35 ∧ u.1 36 = v 36 ∧ u.1 38 = v 38 ∧ u.1 39 = v 39) (fun u => YW cy y0 r u.1 u.2.1 u.2.2.1 u.2.2.2) := by
  refine ctI_of (by decide) (Nat.le_of_ble_eq_true rfl) (fun p e s m below meth c A ls Q hx hb hml hts hown hE hP hD hA hl ret => ?_)
  have hUv : (v 35).toInt + (v 36).toInt ≤ 40 := hIv.2
  have hM_v : KV [] v v := fun _ _ => rfl
  have hA_f : KF [7, 8, 24] f f := fun _ _ => rfl
  have hown : s.vm.findClass RX11 = some m.cls := hown
  have hS : va_S A s.heap s.heap [] := va_S.rf
  have hl : lv_has ls 10 [(0, .ref y0), (1, .int p1), (2, .int p2), (3, .int p3)] := hl
  refine lv_aload_n hx hb dX11_sewing_0 rfl (lv_at hl 0 rfl) ?_
  refine lv_iload_n hx hb dX11_sewing_1 rfl (lv_at hl 1 rfl) ?_
  refine cbVi (n := 1) (rest := []) hx hb hml hown hts hE hP hD hS hA (sY_X11_isCoat_1 0 l dC dI cy y0 r p1 v f w g hIv hCf hRf ) k_1771 k_1773 k_75 k_114 k_1774 (by decide +kernel) ⟨Nat.le_of_ble_eq_true rfl, Nat.le_of_ble_eq_true rfl⟩ 0 11 rfl rfl (rfl) hl.1 rfl (Nat.le_of_ble_eq_true rfl) dX11_sewing_2 (fun r1 u H locs hw hP hD hS => ?_)
  obtain ⟨hG2, hw⟩ := hw
  rcases hw with ⟨g3, g3_0, g3_1, g3_2⟩ | ⟨g3⟩
  · skip
    subst g3
    refine lv_if_eq (tgt := 25) hx hb dX11_sewing_5 (by decide) (fun c0 => absurd c0 (by decide)) (fun _ => ?_)
    refine lv_aload_n hx hb dX11_sewing_8 rfl (lv_at hl 0 rfl) ?_
    refine lv_iload_n hx hb dX11_sewing_9 rfl (lv_at hl 2 rfl) ?_
    refine cbVi (n := 1) (rest := []) hx hb hml hown hts hE hP hD hS hA (sY_X11_isMan_1 0 l dC dI cy y0 r p2 v f w g hIv hCf hRf ) k_1732 k_1734 k_70 k_114 k_1735 (by decide +kernel) ⟨Nat.le_of_ble_eq_true rfl, Nat.le_of_ble_eq_true rfl⟩ 0 11 rfl rfl (rfl) hl.1 rfl (Nat.le_of_ble_eq_true rfl) dX11_sewing_10 (fun r4 u H locs hw hP hD hS => ?_)
    obtain ⟨hG5, hw⟩ := hw
    rcases hw with ⟨g6, g6_0, g6_1, g6_2⟩ | ⟨g6⟩
    · skip
      subst g6
      refine lv_if_eq (tgt := 25) hx hb dX11_sewing_13 (by decide) (fun c0 => absurd c0 (by decide)) (fun _ => ?_)
      refine lv_iload_n hx hb dX11_sewing_16 rfl (lv_at hl 3 rfl) ?_
      refine lv_iconst (v := 0) hx hb dX11_sewing_17 (by decide) ?_
      refine lv_iconst (v := 2) hx hb dX11_sewing_18 (by decide) ?_
      have lt7 : (0 : Int32).toInt = 0 := by decide
      have lt8 : (2 : Int32).toInt = 2 := by decide
      refine cbSi (n := 3) (rest := []) hx hb hml hown hts hE hP hD hS hA (sY_X11_isIn_1 0 l dC dI cy y0 r p3 0 2 v f w g hIv hCf hRf ) k_1736 k_1737 k_114 k_1738 (by decide +kernel) ⟨Nat.le_of_ble_eq_true rfl, Nat.le_of_ble_eq_true rfl⟩ (rfl) hl.1 rfl (Nat.le_of_ble_eq_true rfl) dX11_sewing_19 (fun r9 u H locs hw hP hD hS => ?_)
      obtain ⟨hG10, hw⟩ := hw
      rcases hw with ⟨g11, g11_0, g11_1⟩ | ⟨g11⟩
      · skip
        subst g11
        refine lv_if_ne (tgt := 28) hx hb dX11_sewing_22 (by decide) (fun _ => ?_) (fun c0 => absurd c0 (by decide))
        refine lv_bipush (v := 20) hx hb dX11_sewing_28 (by decide) ?_
        refine lv_aload_n hx hb dX11_sewing_30 rfl (lv_at hl 0 rfl) ?_
        refine va_get (D := (dC, dI)) (ci := 11) (v := .ref (r 59)) (C := RX11) (T := TX11) (N := 79) hx hb hts inB_11 hown hE.1 hP 0 rfl rfl 59 (by decide) (hts _ k_1379) (fun _ h9 => h9) rfl dX11_sewing_31 ?_
        refine lv_bipush (v := 12) hx hb dX11_sewing_34 (by decide) ?_
        refine lv_iload_n hx hb dX11_sewing_36 rfl (lv_at hl 1 rfl) ?_
        refine lv_iadd hx hb dX11_sewing_37 ?_
        refine lv_topi (fun t12 et12 => ?_)
        have rg13 := fb_rng p1
        have zt12 : t12.toInt = 12 + p1.toInt := by rw [et12]; exact add_i (by decide) rfl (by omega) (by omega)
        refine ldI hx hb hE hP 24 rfl (vp_in_iff.mpr ⟨by omega, by omega⟩) rfl rfl dX11_sewing_38 ?_
        refine lv_topi (fun t14 et14 => ?_)
        have zt14 : t12.toInt.toNat % 39 < 6 ∨ 12 ≤ t12.toInt.toNat % 39 ∨ (-1 ≤ t14.toInt ∧ t14.toInt ≤ 5) := by rw [et14]; exact wear_ld hCf.1 (show t12.toInt.toNat < 39 by omega)
        have lt15 : (20 : Int32).toInt = 20 := by decide
        refine cbSi (n := 2) (rest := []) hx hb hml hown hts hE hP hD hS hA (sY_X11_lesser_1 0 l dC dI cy y0 r 20 t14 v f w g hIv hCf hRf ) k_1799 k_1800 k_114 k_1801 (by decide +kernel) ⟨Nat.le_of_ble_eq_true rfl, Nat.le_of_ble_eq_true rfl⟩ (rfl) hl.1 rfl (Nat.le_of_ble_eq_true rfl) dX11_sewing_39 (fun r16 u H locs hw hP hD hS => ?_)
        obtain ⟨hG17, hw⟩ := hw
        obtain ⟨pp18, pp19⟩ := hw
        have pp18 : r16.toInt ≤ (20 : Int32).toInt := pp18
        have pp19 : r16.toInt ≤ t14.toInt := pp19
        refine lv_istore (lv' := [(4, .int r16), (0, .ref y0), (1, .int p1), (2, .int p2), (3, .int p3)]) hx hb dX11_sewing_42 hl (by decide) rfl (fun ls hl => ?_)
        refine lv_bipush (v := 20) hx hb dX11_sewing_44 (by decide) ?_
        refine lv_aload_n hx hb dX11_sewing_46 rfl (lv_at hl 1 rfl) ?_
        refine va_get (D := (dC, dI)) (ci := 11) (v := .ref (r 59)) (C := RX11) (T := TX11) (N := 79) hx hb hts inB_11 hown hE.1 hP 0 rfl rfl 59 (by decide) (hts _ k_1379) (fun _ h9 => h9) rfl dX11_sewing_47 ?_
        refine lv_bipush (v := 18) hx hb dX11_sewing_50 (by decide) ?_
        refine lv_iload_n hx hb dX11_sewing_52 rfl (lv_at hl 2 rfl) ?_
        refine lv_iadd hx hb dX11_sewing_53 ?_
        refine lv_topi (fun t20 et20 => ?_)
        have zt20 : t20.toInt = 18 + p1.toInt := by rw [et20]; exact add_i (by decide) rfl (by omega) (by omega)
        refine ldI hx hb hE hP 24 rfl (vp_in_iff.mpr ⟨by omega, by omega⟩) rfl rfl dX11_sewing_54 ?_
        refine lv_topi (fun t21 et21 => ?_)
        have zt21 : t20.toInt.toNat % 39 < 6 ∨ 12 ≤ t20.toInt.toNat % 39 ∨ (-1 ≤ t21.toInt ∧ t21.toInt ≤ 5) := by rw [et21]; exact wear_ld hCf.1 (show t20.toInt.toNat < 39 by omega)
        refine cbSi (n := 2) (rest := []) hx hb hml hown hts hE hP hD hS hA (sY_X11_lesser_1 0 l dC dI cy y0 r 20 t21 v f w g hIv hCf hRf ) k_1799 k_1800 k_114 k_1801 (by decide +kernel) ⟨Nat.le_of_ble_eq_true rfl, Nat.le_of_ble_eq_true rfl⟩ (rfl) hl.1 rfl (Nat.le_of_ble_eq_true rfl) dX11_sewing_55 (fun r22 u H locs hw hP hD hS => ?_)
        obtain ⟨hG23, hw⟩ := hw
        obtain ⟨pp24, pp25⟩ := hw
        have pp24 : r22.toInt ≤ (20 : Int32).toInt := pp24
        have pp25 : r22.toInt ≤ t21.toInt := pp25
        refine lv_istore (lv' := [(5, .int r22), (4, .int r16), (0, .ref y0), (1, .int p1), (2, .int p2), (3, .int p3)]) hx hb dX11_sewing_58 hl (by decide) rfl (fun ls hl => ?_)
        refine lv_bipush (v := 20) hx hb dX11_sewing_60 (by decide) ?_
        refine lv_aload_n hx hb dX11_sewing_62 rfl (lv_at hl 2 rfl) ?_
        refine va_get (D := (dC, dI)) (ci := 11) (v := .ref (r 59)) (C := RX11) (T := TX11) (N := 79) hx hb hts inB_11 hown hE.1 hP 0 rfl rfl 59 (by decide) (hts _ k_1379) (fun _ h9 => h9) rfl dX11_sewing_63 ?_
        refine lv_bipush (v := 24) hx hb dX11_sewing_66 (by decide) ?_
        refine lv_iload_n hx hb dX11_sewing_68 rfl (lv_at hl 3 rfl) ?_
        refine lv_iadd hx hb dX11_sewing_69 ?_
        refine lv_topi (fun t26 et26 => ?_)
        have zt26 : t26.toInt = 24 + p1.toInt := by rw [et26]; exact add_i (by decide) rfl (by omega) (by omega)
        refine ldI hx hb hE hP 24 rfl (vp_in_iff.mpr ⟨by omega, by omega⟩) rfl rfl dX11_sewing_70 ?_
        refine lv_topi (fun t27 et27 => ?_)
        have zt27 : t26.toInt.toNat % 39 < 6 ∨ 12 ≤ t26.toInt.toNat % 39 ∨ (-1 ≤ t27.toInt ∧ t27.toInt ≤ 5) := by rw [et27]; exact wear_ld hCf.1 (show t26.toInt.toNat < 39 by omega)
        refine cbSi (n := 2) (rest := []) hx hb hml hown hts hE hP hD hS hA (sY_X11_lesser_1 0 l dC dI cy y0 r 20 t27 v f w g hIv hCf hRf ) k_1799 k_1800 k_114 k_1801 (by decide +kernel) ⟨Nat.le_of_ble_eq_true rfl, Nat.le_of_ble_eq_true rfl⟩ (rfl) hl.1 rfl (Nat.le_of_ble_eq_true rfl) dX11_sewing_71 (fun r28 u H locs hw hP hD hS => ?_)
        obtain ⟨hG29, hw⟩ := hw
        obtain ⟨pp30, pp31⟩ := hw
        have pp30 : r28.toInt ≤ (20 : Int32).toInt := pp30
        have pp31 : r28.toInt ≤ t27.toInt := pp31
        refine lv_bipush (v := 99) hx hb dX11_sewing_74 (by decide) ?_
        refine lv_aload_n hx hb dX11_sewing_76 rfl (lv_at hl 2 rfl) ?_
        refine va_get (D := (dC, dI)) (ci := 11) (v := .ref (r 59)) (C := RX11) (T := TX11) (N := 79) hx hb hts inB_11 hown hE.1 hP 0 rfl rfl 59 (by decide) (hts _ k_1379) (fun _ h9 => h9) rfl dX11_sewing_77 ?_
        refine lv_bipush (v := 18) hx hb dX11_sewing_80 (by decide) ?_
        refine lv_iload_n hx hb dX11_sewing_82 rfl (lv_at hl 3 rfl) ?_
        refine lv_iadd hx hb dX11_sewing_83 ?_
        refine tI (y := t20) et20.symm ?_
        refine ldI hx hb hE hP 24 rfl (vp_in_iff.mpr ⟨by omega, by omega⟩) rfl rfl dX11_sewing_84 ?_
        refine tI (y := t21) et21.symm ?_
        refine lv_isub hx hb dX11_sewing_85 ?_
        refine lv_topi (fun t32 et32 => ?_)
        refine cbSi (n := 2) (rest := []) hx hb hml hown hts hE hP hD hS hA (sY_X11_lesser_1 0 l dC dI cy y0 r r28 t32 v f w g hIv hCf hRf ) k_1799 k_1800 k_114 k_1801 (by decide +kernel) ⟨Nat.le_of_ble_eq_true rfl, Nat.le_of_ble_eq_true rfl⟩ (rfl) hl.1 rfl (Nat.le_of_ble_eq_true rfl) dX11_sewing_86 (fun r33 u H locs hw hP hD hS => ?_)
        obtain ⟨hG34, hw⟩ := hw
        obtain ⟨pp35, pp36⟩ := hw
        have pp35 : r33.toInt ≤ r28.toInt := pp35
        have pp36 : r33.toInt ≤ t32.toInt := pp36
        refine lv_istore (lv' := [(6, .int r33), (5, .int r22), (4, .int r16), (0, .ref y0), (1, .int p1), (2, .int p2), (3, .int p3)]) hx hb dX11_sewing_89 hl (by decide) rfl (fun ls hl => ?_)
        refine lv_iconst (v := 0) hx hb dX11_sewing_91 (by decide) ?_
        refine lv_istore (lv' := [(7, .int 0), (6, .int r33), (5, .int r22), (4, .int r16), (0, .ref y0), (1, .int p1), (2, .int p2), (3, .int p3)]) hx hb dX11_sewing_92 hl (by decide) rfl (fun ls hl => ?_)
        have lp37 : ∀ (n37 : Nat) (l7_37 : Int32) (v37 : Nat → Int32) (f37 : Nat → Nat → Int32) (w37 : Int64) (g37 : Nat → Int64), YI v37 → YC f37 → progOK (f37 4) (f37 5) (v37 9).toInt.toNat → v37 0 = (v 0) → v37 1 = (v 1) → v37 2 = (v 2) → v37 3 = (v 3) → v37 4 = (v 4) → v37 5 = (v 5) → v37 8 = (v 8) → v37 9 = (v 9) → v37 10 = (v 10) → v37 13 = (v 13) → v37 14 = (v 14) → v37 15 = (v 15) → v37 17 = (v 17) → v37 18 = (v 18) → v37 24 = (v 24) → v37 25 = (v 25) → v37 35 = (v 35) → v37 36 = (v 36) → v37 38 = (v 38) → v37 39 = (v 39) → ((0 : Int) ≤ l7_37.toInt ∧ l7_37.toInt ≤ 2147483647) → KV [] v37 v → KF [7, 8, 24] f37 f → (2147483647 - l7_37.toInt).toNat < n37 → ∀ (H : Heap) (locs : List Loc) (ls : Array Slot), va_P (dC, dI) vwCl (YW cy y0 r v37 f37 w37 g37) H → va_D A (YW cy y0 r v37 f37 w37 g37) → va_S A s.heap H locs → lv_has ls 10 [(7, .int l7_37), (6, .int r33), (5, .int r22), (4, .int r16), (0, .ref y0), (1, .int p1), (2, .int p2), (3, .int p3)] → W p l e { frames := 5, cells := 0, slots := 0, locals := 150 } s m ([.ref y0, .int p1, .int p2, .int p3] : List Value).toArray below meth c H locs 0 0 Q (F0 m 94 ls []) := by
          intro n37
          induction n37 with
          | zero => intro l7_37 v37 f37 w37 g37 hIv37 hCf37 hRf37 hq0_v37 hq1_v37 hq2_v37 hq3_v37 hq4_v37 hq5_v37 hq8_v37 hq9_v37 hq10_v37 hq13_v37 hq14_v37 hq15_v37 hq17_v37 hq18_v37 hq24_v37 hq25_v37 hq35_v37 hq36_v37 hq38_v37 hq39_v37 hr7_37 hM_v37 hA_f37 hm; exact absurd hm (Nat.not_lt_zero _)
          | succ n37 ih37 =>
            intro l7_37 v37 f37 w37 g37 hIv37 hCf37 hRf37 hq0_v37 hq1_v37 hq2_v37 hq3_v37 hq4_v37 hq5_v37 hq8_v37 hq9_v37 hq10_v37 hq13_v37 hq14_v37 hq15_v37 hq17_v37 hq18_v37 hq24_v37 hq25_v37 hq35_v37 hq36_v37 hq38_v37 hq39_v37 hr7_37 hM_v37 hA_f37 hm37 H locs ls hP hD hS hl
            have hUv37 : (v37 35).toInt + (v37 36).toInt ≤ 40 := hIv37.2
            have zq9_v37 := congrArg Int32.toInt hq9_v37
            refine lv_iload hx hb dX11_sewing_94 (lv_at hl 0 rfl) ?_
            refine lv_bipush (v := 40) hx hb dX11_sewing_96 (by decide) ?_
            refine lv_icmp_gt (tgt := 226) hx hb dX11_sewing_98 (by decide) (fun c38 => ?_) (fun c38 => ?_)
            · skip
              have zc38 : 40 < l7_37.toInt := by rw [fa_lt, show (40 : Int32).toInt = 40 from by decide] at c38; exact c38
              refine lv_bipush (v := (-100)) hx hb dX11_sewing_226 (by decide) ?_
              exact ret (-100) (v37, f37, w37, g37) _ _ _ _ _ _ rfl ⟨hM_v37, hA_f37, hIv37, hCf37, hRf37, (show v37 0 = v 0 from hq0_v37), (show v37 1 = v 1 from hq1_v37), (show v37 2 = v 2 from hq2_v37), (show v37 3 = v 3 from hq3_v37), (show v37 4 = v 4 from hq4_v37), (show v37 5 = v 5 from hq5_v37), (show v37 8 = v 8 from hq8_v37), (show v37 9 = v 9 from hq9_v37), (show v37 10 = v 10 from hq10_v37), (show v37 13 = v 13 from hq13_v37), (show v37 14 = v 14 from hq14_v37), (show v37 15 = v 15 from hq15_v37), (show v37 17 = v 17 from hq17_v37), (show v37 18 = v 18 from hq18_v37), (show v37 24 = v 24 from hq24_v37), (show v37 25 = v 25 from hq25_v37), (show v37 35 = v 35 from hq35_v37), (show v37 36 = v 36 from hq36_v37), (show v37 38 = v 38 from hq38_v37), (show v37 39 = v 39 from hq39_v37)⟩ hP hD hS dX11_sewing_228 (Nat.le_refl _) (Nat.le_refl _)
            · skip
              have zc38 : ¬ (40 < l7_37.toInt) := by rw [fa_lt, show (40 : Int32).toInt = 40 from by decide] at c38; exact c38
              refine lv_iconst (v := 0) hx hb dX11_sewing_101 (by decide) ?_
              refine lv_istore (lv' := [(8, .int 0), (7, .int l7_37), (6, .int r33), (5, .int r22), (4, .int r16), (0, .ref y0), (1, .int p1), (2, .int p2), (3, .int p3)]) hx hb dX11_sewing_102 hl (by decide) rfl (fun ls hl => ?_)
              have lp39 : ∀ (n39 : Nat) (l8_39 : Int32) (v39 : Nat → Int32) (f39 : Nat → Nat → Int32) (w39 : Int64) (g39 : Nat → Int64), YI v39 → YC f39 → progOK (f39 4) (f39 5) (v39 9).toInt.toNat → v39 0 = (v 0) → v39 1 = (v 1) → v39 2 = (v 2) → v39 3 = (v 3) → v39 4 = (v 4) → v39 5 = (v 5) → v39 8 = (v 8) → v39 9 = (v 9) → v39 10 = (v 10) → v39 13 = (v 13) → v39 14 = (v 14) → v39 15 = (v 15) → v39 17 = (v 17) → v39 18 = (v 18) → v39 24 = (v 24) → v39 25 = (v 25) → v39 35 = (v 35) → v39 36 = (v 36) → v39 38 = (v 38) → v39 39 = (v 39) → ((0 : Int) ≤ l8_39.toInt ∧ l8_39.toInt ≤ 2147483647) → KV [] v39 v → KF [7, 8, 24] f39 f → (2147483647 - l8_39.toInt).toNat < n39 → ∀ (H : Heap) (locs : List Loc) (ls : Array Slot), va_P (dC, dI) vwCl (YW cy y0 r v39 f39 w39 g39) H → va_D A (YW cy y0 r v39 f39 w39 g39) → va_S A s.heap H locs → lv_has ls 10 [(8, .int l8_39), (7, .int l7_37), (6, .int r33), (5, .int r22), (4, .int r16), (0, .ref y0), (1, .int p1), (2, .int p2), (3, .int p3)] → W p l e { frames := 5, cells := 0, slots := 0, locals := 150 } s m ([.ref y0, .int p1, .int p2, .int p3] : List Value).toArray below meth c H locs 0 0 Q (F0 m 104 ls []) := by
                intro n39
                induction n39 with
                | zero => intro l8_39 v39 f39 w39 g39 hIv39 hCf39 hRf39 hq0_v39 hq1_v39 hq2_v39 hq3_v39 hq4_v39 hq5_v39 hq8_v39 hq9_v39 hq10_v39 hq13_v39 hq14_v39 hq15_v39 hq17_v39 hq18_v39 hq24_v39 hq25_v39 hq35_v39 hq36_v39 hq38_v39 hq39_v39 hr8_39 hM_v39 hA_f39 hm; exact absurd hm (Nat.not_lt_zero _)
                | succ n39 ih39 =>
                  intro l8_39 v39 f39 w39 g39 hIv39 hCf39 hRf39 hq0_v39 hq1_v39 hq2_v39 hq3_v39 hq4_v39 hq5_v39 hq8_v39 hq9_v39 hq10_v39 hq13_v39 hq14_v39 hq15_v39 hq17_v39 hq18_v39 hq24_v39 hq25_v39 hq35_v39 hq36_v39 hq38_v39 hq39_v39 hr8_39 hM_v39 hA_f39 hm39 H locs ls hP hD hS hl
                  have hUv39 : (v39 35).toInt + (v39 36).toInt ≤ 40 := hIv39.2
                  have zq9_v39 := congrArg Int32.toInt hq9_v39
                  refine lv_iload hx hb dX11_sewing_104 (lv_at hl 0 rfl) ?_
                  refine lv_iload hx hb dX11_sewing_106 (lv_at hl 1 rfl) ?_
                  refine lv_iload hx hb dX11_sewing_108 (lv_at hl 4 rfl) ?_
                  refine cbSi (n := 2) (rest := [.int l8_39]) hx hb hml hown hts hE hP hD hS hA (sY_X11_lesser_1 0 l dC dI cy y0 r l7_37 r16 v39 f39 w39 g39 hIv39 hCf39 hRf39 ) k_1799 k_1800 k_114 k_1801 (by decide +kernel) ⟨Nat.le_of_ble_eq_true rfl, Nat.le_of_ble_eq_true rfl⟩ (rfl) hl.1 rfl (Nat.le_of_ble_eq_true rfl) dX11_sewing_110 (fun r40 u H locs hw hP hD hS => ?_)
                  obtain ⟨hG41, hw⟩ := hw
                  obtain ⟨pp42, pp43⟩ := hw
                  have pp42 : r40.toInt ≤ l7_37.toInt := pp42
                  have pp43 : r40.toInt ≤ r16.toInt := pp43
                  refine lv_icmp_gt (tgt := 220) hx hb dX11_sewing_113 (by decide) (fun c44 => ?_) (fun c44 => ?_)
                  · skip
                    have zc44 : r40.toInt < l8_39.toInt := by rw [fa_lt] at c44; exact c44
                    have rg45 := fb_rng l8_39
                    have rg46 := fb_rng r40
                    obtain ⟨t47, et47⟩ : ∃ y : Int32, y = l7_37 + 1 := ⟨_, rfl⟩
                    have rg48 := fb_rng l7_37
                    have zt47 : t47.toInt = l7_37.toInt + 1 := by rw [et47]; exact add_i rfl (by decide) (by omega) (by omega)
                    refine lv_iinc (v := t47) (lv' := [(7, .int t47), (8, .int l8_39), (6, .int r33), (5, .int r22), (4, .int r16), (0, .ref y0), (1, .int p1), (2, .int p2), (3, .int p3)]) hx hb dX11_sewing_220 hl (k := 1) rfl (by rw [et47]; rfl) (by decide) rfl (fun ls hl => ?_)
                    refine lv_goto (tgt := 94) hx hb dX11_sewing_223 (by decide) ?_
                    have rg49 := fb_rng t47
                    exact ih37 t47 v39 f39 w39 g39 hIv39 hCf39 hRf39 hq0_v39 hq1_v39 hq2_v39 hq3_v39 hq4_v39 hq5_v39 hq8_v39 hq9_v39 hq10_v39 hq13_v39 hq14_v39 hq15_v39 hq17_v39 hq18_v39 hq24_v39 hq25_v39 hq35_v39 hq36_v39 hq38_v39 hq39_v39 ⟨show (0 : Int) ≤ t47.toInt by omega, show t47.toInt ≤ (2147483647 : Int) by omega⟩ hM_v39 hA_f39 (by show (2147483647 - t47.toInt).toNat < n37; omega) _ _ _ hP hD hS (lv_sub hl [0, 2, 3, 4, 5, 6, 7, 8] rfl)
                  · skip
                    have zc44 : ¬ (r40.toInt < l8_39.toInt) := by rw [fa_lt] at c44; exact c44
                    have rg50 := fb_rng l8_39
                    have rg51 := fb_rng r40
                    refine lv_iload hx hb dX11_sewing_116 (lv_at hl 1 rfl) ?_
                    refine lv_iload hx hb dX11_sewing_118 (lv_at hl 0 rfl) ?_
                    refine lv_isub hx hb dX11_sewing_120 ?_
                    refine lv_topi (fun t52 et52 => ?_)
                    have rg53 := fb_rng l7_37
                    have zt52 : t52.toInt = l7_37.toInt - l8_39.toInt := by rw [et52]; exact sub_i rfl rfl (by omega) (by omega)
                    refine lv_istore (lv' := [(9, .int t52), (8, .int l8_39), (7, .int l7_37), (6, .int r33), (5, .int r22), (4, .int r16), (0, .ref y0), (1, .int p1), (2, .int p2), (3, .int p3)]) hx hb dX11_sewing_121 hl (by decide) rfl (fun ls hl => ?_)
                    refine lv_iload hx hb dX11_sewing_123 (lv_at hl 0 rfl) ?_
                    refine lv_iload hx hb dX11_sewing_125 (lv_at hl 4 rfl) ?_
                    refine lv_icmp_gt (tgt := 165) hx hb dX11_sewing_127 (by decide) (fun c54 => ?_) (fun c54 => ?_)
                    · skip
                      have zc54 : r22.toInt < t52.toInt := by rw [fa_lt] at c54; exact c54
                      have rg55 := fb_rng t52
                      have rg56 := fb_rng r22
                      refine lv_iload hx hb dX11_sewing_165 (lv_at hl 0 rfl) ?_
                      refine lv_if_le (tgt := 214) hx hb dX11_sewing_167 (by decide) (fun c57 => ?_) (fun c57 => ?_)
                      · skip
                        have zc57 : t52.toInt ≤ 0 := by rw [fa_le, show (0 : Int32).toInt = 0 from by decide] at c57; exact c57
                        obtain ⟨t58, et58⟩ : ∃ y : Int32, y = l8_39 + 1 := ⟨_, rfl⟩
                        have zt58 : t58.toInt = l8_39.toInt + 1 := by rw [et58]; exact add_i rfl (by decide) (by omega) (by omega)
                        refine lv_iinc (v := t58) (lv' := [(8, .int t58), (9, .int t52), (7, .int l7_37), (6, .int r33), (5, .int r22), (4, .int r16), (0, .ref y0), (1, .int p1), (2, .int p2), (3, .int p3)]) hx hb dX11_sewing_214 hl (k := 1) rfl (by rw [et58]; rfl) (by decide) rfl (fun ls hl => ?_)
                        refine lv_goto (tgt := 104) hx hb dX11_sewing_217 (by decide) ?_
                        have rg59 := fb_rng t58
                        exact ih39 t58 v39 f39 w39 g39 hIv39 hCf39 hRf39 hq0_v39 hq1_v39 hq2_v39 hq3_v39 hq4_v39 hq5_v39 hq8_v39 hq9_v39 hq10_v39 hq13_v39 hq14_v39 hq15_v39 hq17_v39 hq18_v39 hq24_v39 hq25_v39 hq35_v39 hq36_v39 hq38_v39 hq39_v39 ⟨show (0 : Int) ≤ t58.toInt by omega, show t58.toInt ≤ (2147483647 : Int) by omega⟩ hM_v39 hA_f39 (by show (2147483647 - t58.toInt).toNat < n39; omega) _ _ _ hP hD hS (lv_sub hl [0, 2, 3, 4, 5, 6, 7, 8, 9] rfl)
                      · skip
                        have zc57 : ¬ (t52.toInt ≤ 0) := by rw [fa_le, show (0 : Int32).toInt = 0 from by decide] at c57; exact c57
                        refine lv_iload hx hb dX11_sewing_170 (lv_at hl 0 rfl) ?_
                        refine lv_iload hx hb dX11_sewing_172 (lv_at hl 3 rfl) ?_
                        refine lv_icmp_gt (tgt := 214) hx hb dX11_sewing_174 (by decide) (fun c60 => ?_) (fun c60 => ?_)
                        · skip
                          have zc60 : r33.toInt < t52.toInt := by rw [fa_lt] at c60; exact c60
                          have rg61 := fb_rng r33
                          obtain ⟨t62, et62⟩ : ∃ y : Int32, y = l8_39 + 1 := ⟨_, rfl⟩
                          have zt62 : t62.toInt = l8_39.toInt + 1 := by rw [et62]; exact add_i rfl (by decide) (by omega) (by omega)
                          refine lv_iinc (v := t62) (lv' := [(8, .int t62), (9, .int t52), (7, .int l7_37), (6, .int r33), (5, .int r22), (4, .int r16), (0, .ref y0), (1, .int p1), (2, .int p2), (3, .int p3)]) hx hb dX11_sewing_214 hl (k := 1) rfl (by rw [et62]; rfl) (by decide) rfl (fun ls hl => ?_)
                          refine lv_goto (tgt := 104) hx hb dX11_sewing_217 (by decide) ?_
                          have rg63 := fb_rng t62
                          exact ih39 t62 v39 f39 w39 g39 hIv39 hCf39 hRf39 hq0_v39 hq1_v39 hq2_v39 hq3_v39 hq4_v39 hq5_v39 hq8_v39 hq9_v39 hq10_v39 hq13_v39 hq14_v39 hq15_v39 hq17_v39 hq18_v39 hq24_v39 hq25_v39 hq35_v39 hq36_v39 hq38_v39 hq39_v39 ⟨show (0 : Int) ≤ t62.toInt by omega, show t62.toInt ≤ (2147483647 : Int) by omega⟩ hM_v39 hA_f39 (by show (2147483647 - t62.toInt).toNat < n39; omega) _ _ _ hP hD hS (lv_sub hl [0, 2, 3, 4, 5, 6, 7, 8, 9] rfl)
                        · skip
                          have zc60 : ¬ (r33.toInt < t52.toInt) := by rw [fa_lt] at c60; exact c60
                          have rg64 := fb_rng r33
                          refine lv_aload_n hx hb dX11_sewing_177 rfl (lv_at hl 6 rfl) ?_
                          refine lv_iload_n hx hb dX11_sewing_178 rfl (lv_at hl 7 rfl) ?_
                          refine lv_iload_n hx hb dX11_sewing_179 rfl (lv_at hl 8 rfl) ?_
                          refine lv_iload hx hb dX11_sewing_180 (lv_at hl 1 rfl) ?_
                          refine lv_iload hx hb dX11_sewing_182 (lv_at hl 0 rfl) ?_
                          refine lv_ineg hx hb dX11_sewing_184 ?_
                          refine lv_topi (fun t65 et65 => ?_)
                          refine cbVi (n := 4) (rest := []) hx hb hml hown hts hE hP hD hS hA (sY_X11_isSewn_1 l dC dI cy y0 r p1 p2 l8_39 t65 v39 f39 w39 g39 hIv39 hCf39 hRf39 ⟨show (0 : Int) ≤ p1.toInt by omega, show p1.toInt ≤ (5 : Int) by omega⟩ ⟨show (0 : Int) ≤ p2.toInt by omega, show p2.toInt ≤ (5 : Int) by omega⟩) k_1892 k_1894 k_87 k_114 k_1895 (by decide +kernel) ⟨Nat.le_of_ble_eq_true rfl, Nat.le_of_ble_eq_true rfl⟩ 0 11 rfl rfl (rfl) hl.1 rfl (Nat.le_of_ble_eq_true rfl) dX11_sewing_185 (fun r66 u H locs hw hP hD hS => ?_)
                          obtain ⟨v67, f68, w69, g70⟩ := u
                          obtain ⟨kV_v67, kF_f68, hIv67, hCf68, hRf68, hk0_v67, hk1_v67, hk2_v67, hk3_v67, hk4_v67, hk5_v67, hk8_v67, hk9_v67, hk10_v67, hk13_v67, hk14_v67, hk15_v67, hk17_v67, hk18_v67, hk24_v67, hk25_v67, hk35_v67, hk36_v67, hk38_v67, hk39_v67, hw⟩ := hw
                          have hM_v67 : KV [] v67 v := KV.tr kV_v67 hM_v39 rfl
                          have hA_f68 : KF [7, 8, 24] f68 f := KF.tr kF_f68 hA_f39 rfl
                          have hP : va_P (dC, dI) vwCl (YW cy y0 r v67 f68 w69 g70) H := hP
                          have hD : va_D A (YW cy y0 r v67 f68 w69 g70) := hD
                          have hUv67 : (v67 35).toInt + (v67 36).toInt ≤ 40 := hIv67.2
                          have hq0_v67 : v67 0 = (v 0) := hk0_v67.trans hq0_v39
                          have hq1_v67 : v67 1 = (v 1) := hk1_v67.trans hq1_v39
                          have hq2_v67 : v67 2 = (v 2) := hk2_v67.trans hq2_v39
                          have hq3_v67 : v67 3 = (v 3) := hk3_v67.trans hq3_v39
                          have hq4_v67 : v67 4 = (v 4) := hk4_v67.trans hq4_v39
                          have hq5_v67 : v67 5 = (v 5) := hk5_v67.trans hq5_v39
                          have hq8_v67 : v67 8 = (v 8) := hk8_v67.trans hq8_v39
                          have hq9_v67 : v67 9 = (v 9) := hk9_v67.trans hq9_v39
                          have zq9_v67 := congrArg Int32.toInt hq9_v67
                          have hq10_v67 : v67 10 = (v 10) := hk10_v67.trans hq10_v39
                          have hq13_v67 : v67 13 = (v 13) := hk13_v67.trans hq13_v39
                          have hq14_v67 : v67 14 = (v 14) := hk14_v67.trans hq14_v39
                          have hq15_v67 : v67 15 = (v 15) := hk15_v67.trans hq15_v39
                          have hq17_v67 : v67 17 = (v 17) := hk17_v67.trans hq17_v39
                          have hq18_v67 : v67 18 = (v 18) := hk18_v67.trans hq18_v39
                          have hq24_v67 : v67 24 = (v 24) := hk24_v67.trans hq24_v39
                          have hq25_v67 : v67 25 = (v 25) := hk25_v67.trans hq25_v39
                          have hq35_v67 : v67 35 = (v 35) := hk35_v67.trans hq35_v39
                          have hq36_v67 : v67 36 = (v 36) := hk36_v67.trans hq36_v39
                          have hq38_v67 : v67 38 = (v 38) := hk38_v67.trans hq38_v39
                          have hq39_v67 : v67 39 = (v 39) := hk39_v67.trans hq39_v39
                          rcases hw with ⟨g71⟩ | ⟨g71⟩
                          · skip
                            subst g71
                            refine lv_if_eq (tgt := 214) hx hb dX11_sewing_188 (by decide) (fun c0 => absurd c0 (by decide)) (fun _ => ?_)
                            refine lv_iload_n hx hb dX11_sewing_191 rfl (lv_at hl 9 rfl) ?_
                            refine lv_if_ne (tgt := 200) hx hb dX11_sewing_192 (by decide) (fun c72 => ?_) (fun c72 => ?_)
                            · skip
                              have zc72 : ¬ (p3.toInt = 0) := by rw [fa_eq, show (0 : Int32).toInt = 0 from by decide] at c72; exact c72
                              refine lv_iload_n hx hb dX11_sewing_200 rfl (lv_at hl 9 rfl) ?_
                              refine lv_iconst (v := 1) hx hb dX11_sewing_201 (by decide) ?_
                              refine lv_icmp_ne (tgt := 210) hx hb dX11_sewing_202 (by decide) (fun c73 => ?_) (fun c73 => ?_)
                              · skip
                                have zc73 : ¬ (p3.toInt = 1) := by rw [fa_eq, show (1 : Int32).toInt = 1 from by decide] at c73; exact c73
                                refine lv_iload hx hb dX11_sewing_210 (lv_at hl 0 rfl) ?_
                                refine lv_ineg hx hb dX11_sewing_212 ?_
                                refine lv_topi (fun t74 et74 => ?_)
                                exact ret t74 (v67, f68, w69, g70) _ _ _ _ _ _ rfl ⟨hM_v67, hA_f68, hIv67, hCf68, hRf68, (hk0_v67.trans hq0_v39), (hk1_v67.trans hq1_v39), (hk2_v67.trans hq2_v39), (hk3_v67.trans hq3_v39), (hk4_v67.trans hq4_v39), (hk5_v67.trans hq5_v39), (hk8_v67.trans hq8_v39), (hk9_v67.trans hq9_v39), (hk10_v67.trans hq10_v39), (hk13_v67.trans hq13_v39), (hk14_v67.trans hq14_v39), (hk15_v67.trans hq15_v39), (hk17_v67.trans hq17_v39), (hk18_v67.trans hq18_v39), (hk24_v67.trans hq24_v39), (hk25_v67.trans hq25_v39), (hk35_v67.trans hq35_v39), (hk36_v67.trans hq36_v39), (hk38_v67.trans hq38_v39), (hk39_v67.trans hq39_v39)⟩ hP hD hS dX11_sewing_213 (Nat.le_refl _) (Nat.le_refl _)
                              · skip
                                have zc73 : p3.toInt = 1 := by rw [fa_eq, show (1 : Int32).toInt = 1 from by decide] at c73; exact c73
                                refine lv_iload hx hb dX11_sewing_205 (lv_at hl 1 rfl) ?_
                                refine lv_goto (tgt := 213) hx hb dX11_sewing_207 (by decide) ?_
                                exact ret l8_39 (v67, f68, w69, g70) _ _ _ _ _ _ rfl ⟨hM_v67, hA_f68, hIv67, hCf68, hRf68, (hk0_v67.trans hq0_v39), (hk1_v67.trans hq1_v39), (hk2_v67.trans hq2_v39), (hk3_v67.trans hq3_v39), (hk4_v67.trans hq4_v39), (hk5_v67.trans hq5_v39), (hk8_v67.trans hq8_v39), (hk9_v67.trans hq9_v39), (hk10_v67.trans hq10_v39), (hk13_v67.trans hq13_v39), (hk14_v67.trans hq14_v39), (hk15_v67.trans hq15_v39), (hk17_v67.trans hq17_v39), (hk18_v67.trans hq18_v39), (hk24_v67.trans hq24_v39), (hk25_v67.trans hq25_v39), (hk35_v67.trans hq35_v39), (hk36_v67.trans hq36_v39), (hk38_v67.trans hq38_v39), (hk39_v67.trans hq39_v39)⟩ hP hD hS dX11_sewing_213 (Nat.le_refl _) (Nat.le_refl _)
                            · skip
                              have zc72 : p3.toInt = 0 := by rw [fa_eq, show (0 : Int32).toInt = 0 from by decide] at c72; exact c72
                              refine lv_iload hx hb dX11_sewing_195 (lv_at hl 2 rfl) ?_
                              refine lv_goto (tgt := 213) hx hb dX11_sewing_197 (by decide) ?_
                              exact ret l7_37 (v67, f68, w69, g70) _ _ _ _ _ _ rfl ⟨hM_v67, hA_f68, hIv67, hCf68, hRf68, (hk0_v67.trans hq0_v39), (hk1_v67.trans hq1_v39), (hk2_v67.trans hq2_v39), (hk3_v67.trans hq3_v39), (hk4_v67.trans hq4_v39), (hk5_v67.trans hq5_v39), (hk8_v67.trans hq8_v39), (hk9_v67.trans hq9_v39), (hk10_v67.trans hq10_v39), (hk13_v67.trans hq13_v39), (hk14_v67.trans hq14_v39), (hk15_v67.trans hq15_v39), (hk17_v67.trans hq17_v39), (hk18_v67.trans hq18_v39), (hk24_v67.trans hq24_v39), (hk25_v67.trans hq25_v39), (hk35_v67.trans hq35_v39), (hk36_v67.trans hq36_v39), (hk38_v67.trans hq38_v39), (hk39_v67.trans hq39_v39)⟩ hP hD hS dX11_sewing_213 (Nat.le_refl _) (Nat.le_refl _)
                          · skip
                            subst g71
                            refine lv_if_eq (tgt := 214) hx hb dX11_sewing_188 (by decide) (fun _ => ?_) (fun c0 => absurd (by decide) c0)
                            obtain ⟨t75, et75⟩ : ∃ y : Int32, y = l8_39 + 1 := ⟨_, rfl⟩
                            have zt75 : t75.toInt = l8_39.toInt + 1 := by rw [et75]; exact add_i rfl (by decide) (by omega) (by omega)
                            refine lv_iinc (v := t75) (lv' := [(8, .int t75), (9, .int t52), (7, .int l7_37), (6, .int r33), (5, .int r22), (4, .int r16), (0, .ref y0), (1, .int p1), (2, .int p2), (3, .int p3)]) hx hb dX11_sewing_214 hl (k := 1) rfl (by rw [et75]; rfl) (by decide) rfl (fun ls hl => ?_)
                            refine lv_goto (tgt := 104) hx hb dX11_sewing_217 (by decide) ?_
                            have rg76 := fb_rng t75
                            exact ih39 t75 v67 f68 w69 g70 hIv67 hCf68 hRf68 hq0_v67 hq1_v67 hq2_v67 hq3_v67 hq4_v67 hq5_v67 hq8_v67 hq9_v67 hq10_v67 hq13_v67 hq14_v67 hq15_v67 hq17_v67 hq18_v67 hq24_v67 hq25_v67 hq35_v67 hq36_v67 hq38_v67 hq39_v67 ⟨show (0 : Int) ≤ t75.toInt by omega, show t75.toInt ≤ (2147483647 : Int) by omega⟩ hM_v67 hA_f68 (by show (2147483647 - t75.toInt).toNat < n39; omega) _ _ _ hP hD hS (lv_sub hl [0, 2, 3, 4, 5, 6, 7, 8, 9] rfl)
                    · skip
                      have zc54 : ¬ (r22.toInt < t52.toInt) := by rw [fa_lt] at c54; exact c54
                      have rg77 := fb_rng t52
                      have rg78 := fb_rng r22
                      refine lv_aload_n hx hb dX11_sewing_130 rfl (lv_at hl 6 rfl) ?_
                      refine lv_iload_n hx hb dX11_sewing_131 rfl (lv_at hl 7 rfl) ?_
                      refine lv_iload_n hx hb dX11_sewing_132 rfl (lv_at hl 8 rfl) ?_
                      refine lv_iload hx hb dX11_sewing_133 (lv_at hl 1 rfl) ?_
                      refine lv_iload hx hb dX11_sewing_135 (lv_at hl 0 rfl) ?_
                      refine cbVi (n := 4) (rest := []) hx hb hml hown hts hE hP hD hS hA (sY_X11_isSewn_1 l dC dI cy y0 r p1 p2 l8_39 t52 v39 f39 w39 g39 hIv39 hCf39 hRf39 ⟨show (0 : Int) ≤ p1.toInt by omega, show p1.toInt ≤ (5 : Int) by omega⟩ ⟨show (0 : Int) ≤ p2.toInt by omega, show p2.toInt ≤ (5 : Int) by omega⟩) k_1892 k_1894 k_87 k_114 k_1895 (by decide +kernel) ⟨Nat.le_of_ble_eq_true rfl, Nat.le_of_ble_eq_true rfl⟩ 0 11 rfl rfl (rfl) hl.1 rfl (Nat.le_of_ble_eq_true rfl) dX11_sewing_137 (fun r79 u H locs hw hP hD hS => ?_)
                      obtain ⟨v80, f81, w82, g83⟩ := u
                      obtain ⟨kV_v80, kF_f81, hIv80, hCf81, hRf81, hk0_v80, hk1_v80, hk2_v80, hk3_v80, hk4_v80, hk5_v80, hk8_v80, hk9_v80, hk10_v80, hk13_v80, hk14_v80, hk15_v80, hk17_v80, hk18_v80, hk24_v80, hk25_v80, hk35_v80, hk36_v80, hk38_v80, hk39_v80, hw⟩ := hw
                      have hM_v80 : KV [] v80 v := KV.tr kV_v80 hM_v39 rfl
                      have hA_f81 : KF [7, 8, 24] f81 f := KF.tr kF_f81 hA_f39 rfl
                      have hP : va_P (dC, dI) vwCl (YW cy y0 r v80 f81 w82 g83) H := hP
                      have hD : va_D A (YW cy y0 r v80 f81 w82 g83) := hD
                      have hUv80 : (v80 35).toInt + (v80 36).toInt ≤ 40 := hIv80.2
                      have hq0_v80 : v80 0 = (v 0) := hk0_v80.trans hq0_v39
                      have hq1_v80 : v80 1 = (v 1) := hk1_v80.trans hq1_v39
                      have hq2_v80 : v80 2 = (v 2) := hk2_v80.trans hq2_v39
                      have hq3_v80 : v80 3 = (v 3) := hk3_v80.trans hq3_v39
                      have hq4_v80 : v80 4 = (v 4) := hk4_v80.trans hq4_v39
                      have hq5_v80 : v80 5 = (v 5) := hk5_v80.trans hq5_v39
                      have hq8_v80 : v80 8 = (v 8) := hk8_v80.trans hq8_v39
                      have hq9_v80 : v80 9 = (v 9) := hk9_v80.trans hq9_v39
                      have zq9_v80 := congrArg Int32.toInt hq9_v80
                      have hq10_v80 : v80 10 = (v 10) := hk10_v80.trans hq10_v39
                      have hq13_v80 : v80 13 = (v 13) := hk13_v80.trans hq13_v39
                      have hq14_v80 : v80 14 = (v 14) := hk14_v80.trans hq14_v39
                      have hq15_v80 : v80 15 = (v 15) := hk15_v80.trans hq15_v39
                      have hq17_v80 : v80 17 = (v 17) := hk17_v80.trans hq17_v39
                      have hq18_v80 : v80 18 = (v 18) := hk18_v80.trans hq18_v39
                      have hq24_v80 : v80 24 = (v 24) := hk24_v80.trans hq24_v39
                      have hq25_v80 : v80 25 = (v 25) := hk25_v80.trans hq25_v39
                      have hq35_v80 : v80 35 = (v 35) := hk35_v80.trans hq35_v39
                      have hq36_v80 : v80 36 = (v 36) := hk36_v80.trans hq36_v39
                      have hq38_v80 : v80 38 = (v 38) := hk38_v80.trans hq38_v39
                      have hq39_v80 : v80 39 = (v 39) := hk39_v80.trans hq39_v39
                      rcases hw with ⟨g84⟩ | ⟨g84⟩
                      · skip
                        subst g84
                        refine lv_if_eq (tgt := 165) hx hb dX11_sewing_140 (by decide) (fun c0 => absurd c0 (by decide)) (fun _ => ?_)
                        refine lv_iload_n hx hb dX11_sewing_143 rfl (lv_at hl 9 rfl) ?_
                        refine lv_if_ne (tgt := 152) hx hb dX11_sewing_144 (by decide) (fun c85 => ?_) (fun c85 => ?_)
                        · skip
                          have zc85 : ¬ (p3.toInt = 0) := by rw [fa_eq, show (0 : Int32).toInt = 0 from by decide] at c85; exact c85
                          refine lv_iload_n hx hb dX11_sewing_152 rfl (lv_at hl 9 rfl) ?_
                          refine lv_iconst (v := 1) hx hb dX11_sewing_153 (by decide) ?_
                          refine lv_icmp_ne (tgt := 162) hx hb dX11_sewing_154 (by decide) (fun c86 => ?_) (fun c86 => ?_)
                          · skip
                            have zc86 : ¬ (p3.toInt = 1) := by rw [fa_eq, show (1 : Int32).toInt = 1 from by decide] at c86; exact c86
                            refine lv_iload hx hb dX11_sewing_162 (lv_at hl 0 rfl) ?_
                            exact ret t52 (v80, f81, w82, g83) _ _ _ _ _ _ rfl ⟨hM_v80, hA_f81, hIv80, hCf81, hRf81, (hk0_v80.trans hq0_v39), (hk1_v80.trans hq1_v39), (hk2_v80.trans hq2_v39), (hk3_v80.trans hq3_v39), (hk4_v80.trans hq4_v39), (hk5_v80.trans hq5_v39), (hk8_v80.trans hq8_v39), (hk9_v80.trans hq9_v39), (hk10_v80.trans hq10_v39), (hk13_v80.trans hq13_v39), (hk14_v80.trans hq14_v39), (hk15_v80.trans hq15_v39), (hk17_v80.trans hq17_v39), (hk18_v80.trans hq18_v39), (hk24_v80.trans hq24_v39), (hk25_v80.trans hq25_v39), (hk35_v80.trans hq35_v39), (hk36_v80.trans hq36_v39), (hk38_v80.trans hq38_v39), (hk39_v80.trans hq39_v39)⟩ hP hD hS dX11_sewing_164 (Nat.le_refl _) (Nat.le_refl _)
                          · skip
                            have zc86 : p3.toInt = 1 := by rw [fa_eq, show (1 : Int32).toInt = 1 from by decide] at c86; exact c86
                            refine lv_iload hx hb dX11_sewing_157 (lv_at hl 1 rfl) ?_
                            refine lv_goto (tgt := 164) hx hb dX11_sewing_159 (by decide) ?_
                            exact ret l8_39 (v80, f81, w82, g83) _ _ _ _ _ _ rfl ⟨hM_v80, hA_f81, hIv80, hCf81, hRf81, (hk0_v80.trans hq0_v39), (hk1_v80.trans hq1_v39), (hk2_v80.trans hq2_v39), (hk3_v80.trans hq3_v39), (hk4_v80.trans hq4_v39), (hk5_v80.trans hq5_v39), (hk8_v80.trans hq8_v39), (hk9_v80.trans hq9_v39), (hk10_v80.trans hq10_v39), (hk13_v80.trans hq13_v39), (hk14_v80.trans hq14_v39), (hk15_v80.trans hq15_v39), (hk17_v80.trans hq17_v39), (hk18_v80.trans hq18_v39), (hk24_v80.trans hq24_v39), (hk25_v80.trans hq25_v39), (hk35_v80.trans hq35_v39), (hk36_v80.trans hq36_v39), (hk38_v80.trans hq38_v39), (hk39_v80.trans hq39_v39)⟩ hP hD hS dX11_sewing_164 (Nat.le_refl _) (Nat.le_refl _)
                        · skip
                          have zc85 : p3.toInt = 0 := by rw [fa_eq, show (0 : Int32).toInt = 0 from by decide] at c85; exact c85
                          refine lv_iload hx hb dX11_sewing_147 (lv_at hl 2 rfl) ?_
                          refine lv_goto (tgt := 164) hx hb dX11_sewing_149 (by decide) ?_
                          exact ret l7_37 (v80, f81, w82, g83) _ _ _ _ _ _ rfl ⟨hM_v80, hA_f81, hIv80, hCf81, hRf81, (hk0_v80.trans hq0_v39), (hk1_v80.trans hq1_v39), (hk2_v80.trans hq2_v39), (hk3_v80.trans hq3_v39), (hk4_v80.trans hq4_v39), (hk5_v80.trans hq5_v39), (hk8_v80.trans hq8_v39), (hk9_v80.trans hq9_v39), (hk10_v80.trans hq10_v39), (hk13_v80.trans hq13_v39), (hk14_v80.trans hq14_v39), (hk15_v80.trans hq15_v39), (hk17_v80.trans hq17_v39), (hk18_v80.trans hq18_v39), (hk24_v80.trans hq24_v39), (hk25_v80.trans hq25_v39), (hk35_v80.trans hq35_v39), (hk36_v80.trans hq36_v39), (hk38_v80.trans hq38_v39), (hk39_v80.trans hq39_v39)⟩ hP hD hS dX11_sewing_164 (Nat.le_refl _) (Nat.le_refl _)
                      · skip
                        subst g84
                        refine lv_if_eq (tgt := 165) hx hb dX11_sewing_140 (by decide) (fun _ => ?_) (fun c0 => absurd (by decide) c0)
                        refine lv_iload hx hb dX11_sewing_165 (lv_at hl 0 rfl) ?_
                        refine lv_if_le (tgt := 214) hx hb dX11_sewing_167 (by decide) (fun c87 => ?_) (fun c87 => ?_)
                        · skip
                          have zc87 : t52.toInt ≤ 0 := by rw [fa_le, show (0 : Int32).toInt = 0 from by decide] at c87; exact c87
                          obtain ⟨t88, et88⟩ : ∃ y : Int32, y = l8_39 + 1 := ⟨_, rfl⟩
                          have zt88 : t88.toInt = l8_39.toInt + 1 := by rw [et88]; exact add_i rfl (by decide) (by omega) (by omega)
                          refine lv_iinc (v := t88) (lv' := [(8, .int t88), (9, .int t52), (7, .int l7_37), (6, .int r33), (5, .int r22), (4, .int r16), (0, .ref y0), (1, .int p1), (2, .int p2), (3, .int p3)]) hx hb dX11_sewing_214 hl (k := 1) rfl (by rw [et88]; rfl) (by decide) rfl (fun ls hl => ?_)
                          refine lv_goto (tgt := 104) hx hb dX11_sewing_217 (by decide) ?_
                          have rg89 := fb_rng t88
                          exact ih39 t88 v80 f81 w82 g83 hIv80 hCf81 hRf81 hq0_v80 hq1_v80 hq2_v80 hq3_v80 hq4_v80 hq5_v80 hq8_v80 hq9_v80 hq10_v80 hq13_v80 hq14_v80 hq15_v80 hq17_v80 hq18_v80 hq24_v80 hq25_v80 hq35_v80 hq36_v80 hq38_v80 hq39_v80 ⟨show (0 : Int) ≤ t88.toInt by omega, show t88.toInt ≤ (2147483647 : Int) by omega⟩ hM_v80 hA_f81 (by show (2147483647 - t88.toInt).toNat < n39; omega) _ _ _ hP hD hS (lv_sub hl [0, 2, 3, 4, 5, 6, 7, 8, 9] rfl)
                        · skip
                          have zc87 : ¬ (t52.toInt ≤ 0) := by rw [fa_le, show (0 : Int32).toInt = 0 from by decide] at c87; exact c87
                          refine lv_iload hx hb dX11_sewing_170 (lv_at hl 0 rfl) ?_
                          refine lv_iload hx hb dX11_sewing_172 (lv_at hl 3 rfl) ?_
                          refine lv_icmp_gt (tgt := 214) hx hb dX11_sewing_174 (by decide) (fun c90 => ?_) (fun c90 => ?_)
                          · skip
                            have zc90 : r33.toInt < t52.toInt := by rw [fa_lt] at c90; exact c90
                            have rg91 := fb_rng r33
                            obtain ⟨t92, et92⟩ : ∃ y : Int32, y = l8_39 + 1 := ⟨_, rfl⟩
                            have zt92 : t92.toInt = l8_39.toInt + 1 := by rw [et92]; exact add_i rfl (by decide) (by omega) (by omega)
                            refine lv_iinc (v := t92) (lv' := [(8, .int t92), (9, .int t52), (7, .int l7_37), (6, .int r33), (5, .int r22), (4, .int r16), (0, .ref y0), (1, .int p1), (2, .int p2), (3, .int p3)]) hx hb dX11_sewing_214 hl (k := 1) rfl (by rw [et92]; rfl) (by decide) rfl (fun ls hl => ?_)
                            refine lv_goto (tgt := 104) hx hb dX11_sewing_217 (by decide) ?_
                            have rg93 := fb_rng t92
                            exact ih39 t92 v80 f81 w82 g83 hIv80 hCf81 hRf81 hq0_v80 hq1_v80 hq2_v80 hq3_v80 hq4_v80 hq5_v80 hq8_v80 hq9_v80 hq10_v80 hq13_v80 hq14_v80 hq15_v80 hq17_v80 hq18_v80 hq24_v80 hq25_v80 hq35_v80 hq36_v80 hq38_v80 hq39_v80 ⟨show (0 : Int) ≤ t92.toInt by omega, show t92.toInt ≤ (2147483647 : Int) by omega⟩ hM_v80 hA_f81 (by show (2147483647 - t92.toInt).toNat < n39; omega) _ _ _ hP hD hS (lv_sub hl [0, 2, 3, 4, 5, 6, 7, 8, 9] rfl)
                          · skip
                            have zc90 : ¬ (r33.toInt < t52.toInt) := by rw [fa_lt] at c90; exact c90
                            have rg94 := fb_rng r33
                            refine lv_aload_n hx hb dX11_sewing_177 rfl (lv_at hl 6 rfl) ?_
                            refine lv_iload_n hx hb dX11_sewing_178 rfl (lv_at hl 7 rfl) ?_
                            refine lv_iload_n hx hb dX11_sewing_179 rfl (lv_at hl 8 rfl) ?_
                            refine lv_iload hx hb dX11_sewing_180 (lv_at hl 1 rfl) ?_
                            refine lv_iload hx hb dX11_sewing_182 (lv_at hl 0 rfl) ?_
                            refine lv_ineg hx hb dX11_sewing_184 ?_
                            refine lv_topi (fun t95 et95 => ?_)
                            refine cbVi (n := 4) (rest := []) hx hb hml hown hts hE hP hD hS hA (sY_X11_isSewn_1 l dC dI cy y0 r p1 p2 l8_39 t95 v80 f81 w82 g83 hIv80 hCf81 hRf81 ⟨show (0 : Int) ≤ p1.toInt by omega, show p1.toInt ≤ (5 : Int) by omega⟩ ⟨show (0 : Int) ≤ p2.toInt by omega, show p2.toInt ≤ (5 : Int) by omega⟩) k_1892 k_1894 k_87 k_114 k_1895 (by decide +kernel) ⟨Nat.le_of_ble_eq_true rfl, Nat.le_of_ble_eq_true rfl⟩ 0 11 rfl rfl (rfl) hl.1 rfl (Nat.le_of_ble_eq_true rfl) dX11_sewing_185 (fun r96 u H locs hw hP hD hS => ?_)
                            obtain ⟨v97, f98, w99, g100⟩ := u
                            obtain ⟨kV_v97, kF_f98, hIv97, hCf98, hRf98, hk0_v97, hk1_v97, hk2_v97, hk3_v97, hk4_v97, hk5_v97, hk8_v97, hk9_v97, hk10_v97, hk13_v97, hk14_v97, hk15_v97, hk17_v97, hk18_v97, hk24_v97, hk25_v97, hk35_v97, hk36_v97, hk38_v97, hk39_v97, hw⟩ := hw
                            have hM_v97 : KV [] v97 v := KV.tr kV_v97 hM_v80 rfl
                            have hA_f98 : KF [7, 8, 24] f98 f := KF.tr kF_f98 hA_f81 rfl
                            have hP : va_P (dC, dI) vwCl (YW cy y0 r v97 f98 w99 g100) H := hP
                            have hD : va_D A (YW cy y0 r v97 f98 w99 g100) := hD
                            have hUv97 : (v97 35).toInt + (v97 36).toInt ≤ 40 := hIv97.2
                            have hq0_v97 : v97 0 = (v 0) := hk0_v97.trans hq0_v80
                            have hq1_v97 : v97 1 = (v 1) := hk1_v97.trans hq1_v80
                            have hq2_v97 : v97 2 = (v 2) := hk2_v97.trans hq2_v80
                            have hq3_v97 : v97 3 = (v 3) := hk3_v97.trans hq3_v80
                            have hq4_v97 : v97 4 = (v 4) := hk4_v97.trans hq4_v80
                            have hq5_v97 : v97 5 = (v 5) := hk5_v97.trans hq5_v80
                            have hq8_v97 : v97 8 = (v 8) := hk8_v97.trans hq8_v80
                            have hq9_v97 : v97 9 = (v 9) := hk9_v97.trans hq9_v80
                            have zq9_v97 := congrArg Int32.toInt hq9_v97
                            have hq10_v97 : v97 10 = (v 10) := hk10_v97.trans hq10_v80
                            have hq13_v97 : v97 13 = (v 13) := hk13_v97.trans hq13_v80
                            have hq14_v97 : v97 14 = (v 14) := hk14_v97.trans hq14_v80
                            have hq15_v97 : v97 15 = (v 15) := hk15_v97.trans hq15_v80
                            have hq17_v97 : v97 17 = (v 17) := hk17_v97.trans hq17_v80
                            have hq18_v97 : v97 18 = (v 18) := hk18_v97.trans hq18_v80
                            have hq24_v97 : v97 24 = (v 24) := hk24_v97.trans hq24_v80
                            have hq25_v97 : v97 25 = (v 25) := hk25_v97.trans hq25_v80
                            have hq35_v97 : v97 35 = (v 35) := hk35_v97.trans hq35_v80
                            have hq36_v97 : v97 36 = (v 36) := hk36_v97.trans hq36_v80
                            have hq38_v97 : v97 38 = (v 38) := hk38_v97.trans hq38_v80
                            have hq39_v97 : v97 39 = (v 39) := hk39_v97.trans hq39_v80
                            rcases hw with ⟨g101⟩ | ⟨g101⟩
                            · skip
                              subst g101
                              refine lv_if_eq (tgt := 214) hx hb dX11_sewing_188 (by decide) (fun c0 => absurd c0 (by decide)) (fun _ => ?_)
                              refine lv_iload_n hx hb dX11_sewing_191 rfl (lv_at hl 9 rfl) ?_
                              refine lv_if_ne (tgt := 200) hx hb dX11_sewing_192 (by decide) (fun c102 => ?_) (fun c102 => ?_)
                              · skip
                                have zc102 : ¬ (p3.toInt = 0) := by rw [fa_eq, show (0 : Int32).toInt = 0 from by decide] at c102; exact c102
                                refine lv_iload_n hx hb dX11_sewing_200 rfl (lv_at hl 9 rfl) ?_
                                refine lv_iconst (v := 1) hx hb dX11_sewing_201 (by decide) ?_
                                refine lv_icmp_ne (tgt := 210) hx hb dX11_sewing_202 (by decide) (fun c103 => ?_) (fun c103 => ?_)
                                · skip
                                  have zc103 : ¬ (p3.toInt = 1) := by rw [fa_eq, show (1 : Int32).toInt = 1 from by decide] at c103; exact c103
                                  refine lv_iload hx hb dX11_sewing_210 (lv_at hl 0 rfl) ?_
                                  refine lv_ineg hx hb dX11_sewing_212 ?_
                                  refine lv_topi (fun t104 et104 => ?_)
                                  exact ret t104 (v97, f98, w99, g100) _ _ _ _ _ _ rfl ⟨hM_v97, hA_f98, hIv97, hCf98, hRf98, (hk0_v97.trans (hk0_v80.trans hq0_v39)), (hk1_v97.trans (hk1_v80.trans hq1_v39)), (hk2_v97.trans (hk2_v80.trans hq2_v39)), (hk3_v97.trans (hk3_v80.trans hq3_v39)), (hk4_v97.trans (hk4_v80.trans hq4_v39)), (hk5_v97.trans (hk5_v80.trans hq5_v39)), (hk8_v97.trans (hk8_v80.trans hq8_v39)), (hk9_v97.trans (hk9_v80.trans hq9_v39)), (hk10_v97.trans (hk10_v80.trans hq10_v39)), (hk13_v97.trans (hk13_v80.trans hq13_v39)), (hk14_v97.trans (hk14_v80.trans hq14_v39)), (hk15_v97.trans (hk15_v80.trans hq15_v39)), (hk17_v97.trans (hk17_v80.trans hq17_v39)), (hk18_v97.trans (hk18_v80.trans hq18_v39)), (hk24_v97.trans (hk24_v80.trans hq24_v39)), (hk25_v97.trans (hk25_v80.trans hq25_v39)), (hk35_v97.trans (hk35_v80.trans hq35_v39)), (hk36_v97.trans (hk36_v80.trans hq36_v39)), (hk38_v97.trans (hk38_v80.trans hq38_v39)), (hk39_v97.trans (hk39_v80.trans hq39_v39))⟩ hP hD hS dX11_sewing_213 (Nat.le_refl _) (Nat.le_refl _)
                                · skip
                                  have zc103 : p3.toInt = 1 := by rw [fa_eq, show (1 : Int32).toInt = 1 from by decide] at c103; exact c103
                                  refine lv_iload hx hb dX11_sewing_205 (lv_at hl 1 rfl) ?_
                                  refine lv_goto (tgt := 213) hx hb dX11_sewing_207 (by decide) ?_
                                  exact ret l8_39 (v97, f98, w99, g100) _ _ _ _ _ _ rfl ⟨hM_v97, hA_f98, hIv97, hCf98, hRf98, (hk0_v97.trans (hk0_v80.trans hq0_v39)), (hk1_v97.trans (hk1_v80.trans hq1_v39)), (hk2_v97.trans (hk2_v80.trans hq2_v39)), (hk3_v97.trans (hk3_v80.trans hq3_v39)), (hk4_v97.trans (hk4_v80.trans hq4_v39)), (hk5_v97.trans (hk5_v80.trans hq5_v39)), (hk8_v97.trans (hk8_v80.trans hq8_v39)), (hk9_v97.trans (hk9_v80.trans hq9_v39)), (hk10_v97.trans (hk10_v80.trans hq10_v39)), (hk13_v97.trans (hk13_v80.trans hq13_v39)), (hk14_v97.trans (hk14_v80.trans hq14_v39)), (hk15_v97.trans (hk15_v80.trans hq15_v39)), (hk17_v97.trans (hk17_v80.trans hq17_v39)), (hk18_v97.trans (hk18_v80.trans hq18_v39)), (hk24_v97.trans (hk24_v80.trans hq24_v39)), (hk25_v97.trans (hk25_v80.trans hq25_v39)), (hk35_v97.trans (hk35_v80.trans hq35_v39)), (hk36_v97.trans (hk36_v80.trans hq36_v39)), (hk38_v97.trans (hk38_v80.trans hq38_v39)), (hk39_v97.trans (hk39_v80.trans hq39_v39))⟩ hP hD hS dX11_sewing_213 (Nat.le_refl _) (Nat.le_refl _)
                              · skip
                                have zc102 : p3.toInt = 0 := by rw [fa_eq, show (0 : Int32).toInt = 0 from by decide] at c102; exact c102
                                refine lv_iload hx hb dX11_sewing_195 (lv_at hl 2 rfl) ?_
                                refine lv_goto (tgt := 213) hx hb dX11_sewing_197 (by decide) ?_
                                exact ret l7_37 (v97, f98, w99, g100) _ _ _ _ _ _ rfl ⟨hM_v97, hA_f98, hIv97, hCf98, hRf98, (hk0_v97.trans (hk0_v80.trans hq0_v39)), (hk1_v97.trans (hk1_v80.trans hq1_v39)), (hk2_v97.trans (hk2_v80.trans hq2_v39)), (hk3_v97.trans (hk3_v80.trans hq3_v39)), (hk4_v97.trans (hk4_v80.trans hq4_v39)), (hk5_v97.trans (hk5_v80.trans hq5_v39)), (hk8_v97.trans (hk8_v80.trans hq8_v39)), (hk9_v97.trans (hk9_v80.trans hq9_v39)), (hk10_v97.trans (hk10_v80.trans hq10_v39)), (hk13_v97.trans (hk13_v80.trans hq13_v39)), (hk14_v97.trans (hk14_v80.trans hq14_v39)), (hk15_v97.trans (hk15_v80.trans hq15_v39)), (hk17_v97.trans (hk17_v80.trans hq17_v39)), (hk18_v97.trans (hk18_v80.trans hq18_v39)), (hk24_v97.trans (hk24_v80.trans hq24_v39)), (hk25_v97.trans (hk25_v80.trans hq25_v39)), (hk35_v97.trans (hk35_v80.trans hq35_v39)), (hk36_v97.trans (hk36_v80.trans hq36_v39)), (hk38_v97.trans (hk38_v80.trans hq38_v39)), (hk39_v97.trans (hk39_v80.trans hq39_v39))⟩ hP hD hS dX11_sewing_213 (Nat.le_refl _) (Nat.le_refl _)
                            · skip
                              subst g101
                              refine lv_if_eq (tgt := 214) hx hb dX11_sewing_188 (by decide) (fun _ => ?_) (fun c0 => absurd (by decide) c0)
                              obtain ⟨t105, et105⟩ : ∃ y : Int32, y = l8_39 + 1 := ⟨_, rfl⟩
                              have zt105 : t105.toInt = l8_39.toInt + 1 := by rw [et105]; exact add_i rfl (by decide) (by omega) (by omega)
                              refine lv_iinc (v := t105) (lv' := [(8, .int t105), (9, .int t52), (7, .int l7_37), (6, .int r33), (5, .int r22), (4, .int r16), (0, .ref y0), (1, .int p1), (2, .int p2), (3, .int p3)]) hx hb dX11_sewing_214 hl (k := 1) rfl (by rw [et105]; rfl) (by decide) rfl (fun ls hl => ?_)
                              refine lv_goto (tgt := 104) hx hb dX11_sewing_217 (by decide) ?_
                              have rg106 := fb_rng t105
                              exact ih39 t105 v97 f98 w99 g100 hIv97 hCf98 hRf98 hq0_v97 hq1_v97 hq2_v97 hq3_v97 hq4_v97 hq5_v97 hq8_v97 hq9_v97 hq10_v97 hq13_v97 hq14_v97 hq15_v97 hq17_v97 hq18_v97 hq24_v97 hq25_v97 hq35_v97 hq36_v97 hq38_v97 hq39_v97 ⟨show (0 : Int) ≤ t105.toInt by omega, show t105.toInt ≤ (2147483647 : Int) by omega⟩ hM_v97 hA_f98 (by show (2147483647 - t105.toInt).toNat < n39; omega) _ _ _ hP hD hS (lv_sub hl [0, 2, 3, 4, 5, 6, 7, 8, 9] rfl)
              exact lp39 _ 0 v37 f37 w37 g37 hIv37 hCf37 hRf37 hq0_v37 hq1_v37 hq2_v37 hq3_v37 hq4_v37 hq5_v37 hq8_v37 hq9_v37 hq10_v37 hq13_v37 hq14_v37 hq15_v37 hq17_v37 hq18_v37 hq24_v37 hq25_v37 hq35_v37 hq36_v37 hq38_v37 hq39_v37 ⟨by decide, by decide⟩ hM_v37 hA_f37 (Nat.lt_succ_self _) _ _ _ hP hD hS (lv_sub hl [0, 1, 2, 3, 4, 5, 6, 7, 8] rfl)
        exact lp37 _ 0 v f w g hIv hCf hRf rfl rfl rfl rfl rfl rfl rfl rfl rfl rfl rfl rfl rfl rfl rfl rfl rfl rfl rfl rfl ⟨by decide, by decide⟩ hM_v hA_f (Nat.lt_succ_self _) _ _ _ hP hD hS (lv_sub hl [0, 1, 2, 3, 4, 5, 6, 7] rfl)
      · skip
        subst g11
        refine lv_if_ne (tgt := 28) hx hb dX11_sewing_22 (by decide) (fun c0 => absurd (by decide) c0) (fun _ => ?_)
        refine lv_bipush (v := (-100)) hx hb dX11_sewing_25 (by decide) ?_
        exact ret (-100) (v, f, w, g) _ _ _ _ _ _ rfl ⟨hM_v, hA_f, hIv, hCf, hRf, rfl, rfl, rfl, rfl, rfl, rfl, rfl, rfl, rfl, rfl, rfl, rfl, rfl, rfl, rfl, rfl, rfl, rfl, rfl, rfl⟩ hP hD hS dX11_sewing_27 (Nat.le_refl _) (Nat.le_refl _)
    · skip
      subst g6
      refine lv_if_eq (tgt := 25) hx hb dX11_sewing_13 (by decide) (fun _ => ?_) (fun c0 => absurd (by decide) c0)
      refine lv_bipush (v := (-100)) hx hb dX11_sewing_25 (by decide) ?_
      exact ret (-100) (v, f, w, g) _ _ _ _ _ _ rfl ⟨hM_v, hA_f, hIv, hCf, hRf, rfl, rfl, rfl, rfl, rfl, rfl, rfl, rfl, rfl, rfl, rfl, rfl, rfl, rfl, rfl, rfl, rfl, rfl, rfl, rfl⟩ hP hD hS dX11_sewing_27 (Nat.le_refl _) (Nat.le_refl _)
  · skip
    subst g3
    refine lv_if_eq (tgt := 25) hx hb dX11_sewing_5 (by decide) (fun _ => ?_) (fun c0 => absurd (by decide) c0)
    refine lv_bipush (v := (-100)) hx hb dX11_sewing_25 (by decide) ?_
    exact ret (-100) (v, f, w, g) _ _ _ _ _ _ rfl ⟨hM_v, hA_f, hIv, hCf, hRf, rfl, rfl, rfl, rfl, rfl, rfl, rfl, rfl, rfl, rfl, rfl, rfl, rfl, rfl, rfl, rfl, rfl, rfl, rfl, rfl⟩ hP hD hS dX11_sewing_27 (Nat.le_refl _) (Nat.le_refl _)
