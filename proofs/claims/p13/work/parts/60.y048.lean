set_option maxHeartbeats 4000000 in
set_option maxRecDepth 100000 in
theorem sY_X11_lies_1 (l : Launch) (dC : Nat → ClassId) (dI : Nat → Nat → Nat) (cy : Nat → ClassId) (y0 : Nat) (r : Nat → Nat) (p1 : Int32) (v : Nat → Int32) (f : Nat → Nat → Int32) (w : Int64) (g : Nat → Int64) (hIv : YI v) (hCf : YC f) (hRf : progOK (f 4) (f 5) (v 9).toInt.toNat)  : ctI l (dC, dI) cy yX11_lies cX11_lies 2 .int 2 82 0 0 Unit [.ref y0, .int p1] (YW cy y0 r v f w g) (fun r u => True) (fun u => YW cy y0 r v f w g) := by
  refine ctI_of (by decide) (Nat.le_of_ble_eq_true rfl) (fun p e s m below meth c A ls Q hx hb hml hts hown hE hP hD hA hl ret => ?_)
  have hUv : (v 35).toInt + (v 36).toInt ≤ 40 := hIv.2
  have hown : s.vm.findClass RX11 = some m.cls := hown
  have hS : va_S A s.heap s.heap [] := va_S.rf
  have hl : lv_has ls 2 [(0, .ref y0), (1, .int p1)] := hl
  refine lv_iload_n hx hb dX11_lies_0 rfl (lv_at hl 1 rfl) ?_
  refine lv_iconst (v := 0) hx hb dX11_lies_1 (by decide) ?_
  refine lv_aload_n hx hb dX11_lies_2 rfl (lv_at hl 0 rfl) ?_
  refine va_get (D := (dC, dI)) (ci := 11) (v := .int (v 37)) (C := RX11) (T := TX11) (N := 79) hx hb hts inB_11 hown hE.1 hP 0 rfl rfl 67 (by decide) (hts _ k_1387) (fun _ h9 => h9) rfl dX11_lies_3 ?_
  have b37_v : 0 ≤ (v 37).toInt ∧ (v 37).toInt ≤ 6 := YIb.b hIv.1 37 (by decide)
  refine lv_iconst (v := 1) hx hb dX11_lies_6 (by decide) ?_
  refine lv_isub hx hb dX11_lies_7 ?_
  refine lv_topi (fun t1 et1 => ?_)
  have rg2 := fb_rng (v 37)
  have zt1 : t1.toInt = (v 37).toInt - 1 := by rw [et1]; exact sub_i rfl (by decide) (by omega) (by omega)
  have lt3 : (0 : Int32).toInt = 0 := by decide
  refine cbSi (n := 3) (rest := []) hx hb hml hown hts hE hP hD hS hA (sY_X11_isIn_1 0 l dC dI cy y0 r p1 0 t1 v f w g hIv hCf hRf ) k_1736 k_1737 k_114 k_1738 (by decide +kernel) ⟨Nat.le_of_ble_eq_true rfl, Nat.le_of_ble_eq_true rfl⟩ (rfl) hl.1 rfl (Nat.le_of_ble_eq_true rfl) dX11_lies_8 (fun r4 u H locs hw hP hD hS => ?_)
  obtain ⟨hG5, hw⟩ := hw
  rcases hw with ⟨g6, g6_0, g6_1⟩ | ⟨g6⟩
  · skip
    subst g6
    refine lv_if_eq (tgt := 23) hx hb dX11_lies_11 (by decide) (fun c0 => absurd c0 (by decide)) (fun _ => ?_)
    refine lv_aload_n hx hb dX11_lies_14 rfl (lv_at hl 0 rfl) ?_
    refine va_get (D := (dC, dI)) (ci := 11) (v := .ref (r 64)) (C := RX11) (T := TX11) (N := 79) hx hb hts inB_11 hown hE.1 hP 0 rfl rfl 64 (by decide) (hts _ k_1384) (fun _ h9 => h9) rfl dX11_lies_15 ?_
    refine lv_iload_n hx hb dX11_lies_18 rfl (lv_at hl 1 rfl) ?_
    refine ldI hx hb hE hP 27 rfl (vp_in_iff.mpr ⟨by omega, by omega⟩) rfl rfl dX11_lies_19 ?_
    refine lv_topi (fun t7 et7 => ?_)
    refine lv_goto (tgt := 25) hx hb dX11_lies_20 (by decide) ?_
    exact ret t7 () _ _ _ _ _ _ rfl trivial hP hD hS dX11_lies_25 (Nat.le_refl _) (Nat.le_refl _)
  · skip
    subst g6
    refine lv_if_eq (tgt := 23) hx hb dX11_lies_11 (by decide) (fun _ => ?_) (fun c0 => absurd (by decide) c0)
    refine lv_bipush (v := (-2)) hx hb dX11_lies_23 (by decide) ?_
    exact ret (-2) () _ _ _ _ _ _ rfl trivial hP hD hS dX11_lies_25 (Nat.le_refl _) (Nat.le_refl _)
set_option maxHeartbeats 4000000 in
set_option maxRecDepth 100000 in
theorem sY_X11_fitsGrowth_1 (l : Launch) (dC : Nat → ClassId) (dI : Nat → Nat → Nat) (cy : Nat → ClassId) (y0 : Nat) (r : Nat → Nat) (p1 : Int32) (p2 : Int32) (v : Nat → Int32) (f : Nat → Nat → Int32) (w : Int64) (g : Nat → Int64) (hIv : YI v) (hCf : YC f) (hRf : progOK (f 4) (f 5) (v 9).toInt.toNat) (hp1 : (0 : Int) ≤ p1.toInt ∧ p1.toInt ≤ 30) : ctI l (dC, dI) cy yX11_fitsGrowth cX11_fitsGrowth 5 .boolean 1 60 0 0 Unit [.ref y0, .int p1, .int p2] (YW cy y0 r v f w g) (fun r u => ((r = 1) ∨ (r = 0))) (fun u => YW cy y0 r v f w g) := by
  refine ctI_of (by decide) (Nat.le_of_ble_eq_true rfl) (fun p e s m below meth c A ls Q hx hb hml hts hown hE hP hD hA hl ret => ?_)
  have hUv : (v 35).toInt + (v 36).toInt ≤ 40 := hIv.2
  have hown : s.vm.findClass RX11 = some m.cls := hown
  have hS : va_S A s.heap s.heap [] := va_S.rf
  have hl : lv_has ls 5 [(0, .ref y0), (1, .int p1), (2, .int p2)] := hl
  refine lv_iconst (v := 1) hx hb dX11_fitsGrowth_0 (by decide) ?_
  refine lv_istore_n (lv' := [(3, .int 1), (0, .ref y0), (1, .int p1), (2, .int p2)]) hx hb dX11_fitsGrowth_1 rfl hl (by decide) rfl (fun ls hl => ?_)
  refine lv_iconst (v := 0) hx hb dX11_fitsGrowth_2 (by decide) ?_
  refine lv_istore (lv' := [(4, .int 0), (3, .int 1), (0, .ref y0), (1, .int p1), (2, .int p2)]) hx hb dX11_fitsGrowth_3 hl (by decide) rfl (fun ls hl => ?_)
  have lp1 : ∀ (n1 : Nat) (l3_1 : Int32) (l4_1 : Int32), ((0 : Int) ≤ l3_1.toInt ∧ l3_1.toInt ≤ 1) → ((0 : Int) ≤ l4_1.toInt ∧ l4_1.toInt ≤ 2147483647) → (2147483647 - l4_1.toInt).toNat < n1 → ∀ (H : Heap) (locs : List Loc) (ls : Array Slot), va_P (dC, dI) vwCl (YW cy y0 r v f w g) H → va_D A (YW cy y0 r v f w g) → va_S A s.heap H locs → lv_has ls 5 [(4, .int l4_1), (3, .int l3_1), (0, .ref y0), (1, .int p1), (2, .int p2)] → W p l e { frames := 1, cells := 0, slots := 0, locals := 60 } s m ([.ref y0, .int p1, .int p2] : List Value).toArray below meth c H locs 0 0 Q (F0 m 5 ls []) := by
    intro n1
    induction n1 with
    | zero => intro l3_1 l4_1 hr3_1 hr4_1 hm; exact absurd hm (Nat.not_lt_zero _)
    | succ n1 ih1 =>
      intro l3_1 l4_1 hr3_1 hr4_1 hm1 H locs ls hP hD hS hl
      refine lv_iload hx hb dX11_fitsGrowth_5 (lv_at hl 0 rfl) ?_
      refine lv_aload_n hx hb dX11_fitsGrowth_7 rfl (lv_at hl 2 rfl) ?_
      refine va_get (D := (dC, dI)) (ci := 11) (v := .int (v 38)) (C := RX11) (T := TX11) (N := 79) hx hb hts inB_11 hown hE.1 hP 0 rfl rfl 73 (by decide) (hts _ k_1393) (fun _ h9 => h9) rfl dX11_fitsGrowth_8 ?_
      have b38_v : 0 ≤ (v 38).toInt ∧ (v 38).toInt ≤ 30 := YIb.b hIv.1 38 (by decide)
      refine lv_icmp_ge (tgt := 92) hx hb dX11_fitsGrowth_11 (by decide) (fun c2 => ?_) (fun c2 => ?_)
      · skip
        have zc2 : (v 38).toInt ≤ l4_1.toInt := by rw [fa_le] at c2; exact c2
        have rg3 := fb_rng l4_1
        have rg4 := fb_rng (v 38)
        refine lv_iload_n hx hb dX11_fitsGrowth_92 rfl (lv_at hl 1 rfl) ?_
        rcases b01 (x := l3_1) (by omega) (by omega) with h5 | h5
        · skip
          refine tI (y := 1) h5 ?_
          exact ret 1 () _ _ _ _ _ _ rfl (Or.inl rfl) hP hD hS dX11_fitsGrowth_93 (Nat.le_refl _) (Nat.le_refl _)
        · skip
          refine tI (y := 0) h5 ?_
          exact ret 0 () _ _ _ _ _ _ rfl (Or.inr rfl) hP hD hS dX11_fitsGrowth_93 (Nat.le_refl _) (Nat.le_refl _)
      · skip
        have zc2 : ¬ ((v 38).toInt ≤ l4_1.toInt) := by rw [fa_le] at c2; exact c2
        have rg6 := fb_rng l4_1
        have rg7 := fb_rng (v 38)
        refine lv_iload_n hx hb dX11_fitsGrowth_14 rfl (lv_at hl 1 rfl) ?_
        refine lv_if_eq (tgt := 92) hx hb dX11_fitsGrowth_15 (by decide) (fun c8 => ?_) (fun c8 => ?_)
        · skip
          have zc8 : l3_1.toInt = 0 := by rw [fa_eq, show (0 : Int32).toInt = 0 from by decide] at c8; exact c8
          refine lv_iload_n hx hb dX11_fitsGrowth_92 rfl (lv_at hl 1 rfl) ?_
          rcases b01 (x := l3_1) (by omega) (by omega) with h9 | h9
          · skip
            refine tI (y := 1) h9 ?_
            exact ret 1 () _ _ _ _ _ _ rfl (Or.inl rfl) hP hD hS dX11_fitsGrowth_93 (Nat.le_refl _) (Nat.le_refl _)
          · skip
            refine tI (y := 0) h9 ?_
            exact ret 0 () _ _ _ _ _ _ rfl (Or.inr rfl) hP hD hS dX11_fitsGrowth_93 (Nat.le_refl _) (Nat.le_refl _)
        · skip
          have zc8 : ¬ (l3_1.toInt = 0) := by rw [fa_eq, show (0 : Int32).toInt = 0 from by decide] at c8; exact c8
          refine lv_aload_n hx hb dX11_fitsGrowth_18 rfl (lv_at hl 2 rfl) ?_
          refine va_get (D := (dC, dI)) (ci := 11) (v := .ref (r 70)) (C := RX11) (T := TX11) (N := 79) hx hb hts inB_11 hown hE.1 hP 0 rfl rfl 70 (by decide) (hts _ k_1390) (fun _ h9 => h9) rfl dX11_fitsGrowth_19 ?_
          refine lv_iload hx hb dX11_fitsGrowth_22 (lv_at hl 0 rfl) ?_
          refine ldI hx hb hE hP 32 rfl (vp_in_iff.mpr ⟨by omega, by omega⟩) rfl rfl dX11_fitsGrowth_24 ?_
          refine lv_topi (fun t10 et10 => ?_)
          refine lv_iload_n hx hb dX11_fitsGrowth_25 rfl (lv_at hl 4 rfl) ?_
          refine lv_icmp_gt (tgt := 86) hx hb dX11_fitsGrowth_26 (by decide) (fun c11 => ?_) (fun c11 => ?_)
          · skip
            have zc11 : p2.toInt < t10.toInt := by rw [fa_lt] at c11; exact c11
            have rg12 := fb_rng t10
            have rg13 := fb_rng p2
            obtain ⟨t14, et14⟩ : ∃ y : Int32, y = l4_1 + 1 := ⟨_, rfl⟩
            have zt14 : t14.toInt = l4_1.toInt + 1 := by rw [et14]; exact add_i rfl (by decide) (by omega) (by omega)
            refine lv_iinc (v := t14) (lv' := [(4, .int t14), (3, .int l3_1), (0, .ref y0), (1, .int p1), (2, .int p2)]) hx hb dX11_fitsGrowth_86 hl (k := 0) rfl (by rw [et14]; rfl) (by decide) rfl (fun ls hl => ?_)
            refine lv_goto (tgt := 5) hx hb dX11_fitsGrowth_89 (by decide) ?_
            have rg15 := fb_rng l3_1
            have rg16 := fb_rng t14
            exact ih1 l3_1 t14 ⟨show (0 : Int) ≤ l3_1.toInt by omega, show l3_1.toInt ≤ (1 : Int) by omega⟩ ⟨show (0 : Int) ≤ t14.toInt by omega, show t14.toInt ≤ (2147483647 : Int) by omega⟩ (by show (2147483647 - t14.toInt).toNat < n1; omega) _ _ _ hP hD hS (lv_sub hl [0, 1, 2, 3, 4] rfl)
          · skip
            have zc11 : ¬ (p2.toInt < t10.toInt) := by rw [fa_lt] at c11; exact c11
            have rg17 := fb_rng t10
            have rg18 := fb_rng p2
            refine lv_aload_n hx hb dX11_fitsGrowth_29 rfl (lv_at hl 2 rfl) ?_
            refine va_get (D := (dC, dI)) (ci := 11) (v := .ref (r 71)) (C := RX11) (T := TX11) (N := 79) hx hb hts inB_11 hown hE.1 hP 0 rfl rfl 71 (by decide) (hts _ k_1391) (fun _ h9 => h9) rfl dX11_fitsGrowth_30 ?_
            refine lv_iload hx hb dX11_fitsGrowth_33 (lv_at hl 0 rfl) ?_
            refine ldI hx hb hE hP 33 rfl (vp_in_iff.mpr ⟨by omega, by omega⟩) rfl rfl dX11_fitsGrowth_35 ?_
            refine lv_topi (fun t19 et19 => ?_)
            refine lv_if_lt (tgt := 53) hx hb dX11_fitsGrowth_36 (by decide) (fun c20 => ?_) (fun c20 => ?_)
            · skip
              have zc20 : t19.toInt < 0 := by rw [fa_lt, show (0 : Int32).toInt = 0 from by decide] at c20; exact c20
              refine lv_aload_n hx hb dX11_fitsGrowth_53 rfl (lv_at hl 2 rfl) ?_
              refine va_get (D := (dC, dI)) (ci := 11) (v := .ref (r 75)) (C := RX11) (T := TX11) (N := 79) hx hb hts inB_11 hown hE.1 hP 0 rfl rfl 75 (by decide) (hts _ k_1395) (fun _ h9 => h9) rfl dX11_fitsGrowth_54 ?_
              refine lv_bipush (v := 21) hx hb dX11_fitsGrowth_57 (by decide) ?_
              refine lv_iload_n hx hb dX11_fitsGrowth_59 rfl (lv_at hl 3 rfl) ?_
              refine lv_imul hx hb dX11_fitsGrowth_60 ?_
              refine lv_topi (fun t21 et21 => ?_)
              have rg22 := fb_rng p1
              have zt21 : t21.toInt = 21 * p1.toInt := by rw [et21]; exact mul_i (by decide) rfl (by omega) (by omega)
              refine lv_aload_n hx hb dX11_fitsGrowth_61 rfl (lv_at hl 2 rfl) ?_
              refine va_get (D := (dC, dI)) (ci := 11) (v := .ref (r 69)) (C := RX11) (T := TX11) (N := 79) hx hb hts inB_11 hown hE.1 hP 0 rfl rfl 69 (by decide) (hts _ k_1389) (fun _ h9 => h9) rfl dX11_fitsGrowth_62 ?_
              refine lv_iload hx hb dX11_fitsGrowth_65 (lv_at hl 0 rfl) ?_
              refine ldI hx hb hE hP 31 rfl (vp_in_iff.mpr ⟨by omega, by omega⟩) rfl rfl dX11_fitsGrowth_67 ?_
              refine lv_topi (fun t23 et23 => ?_)
              have zt23 : 0 ≤ t23.toInt ∧ t23.toInt ≤ 20 := by rw [et23]; exact hCf.2.2.2.2.1 l4_1.toInt.toNat (show l4_1.toInt.toNat < 30 by omega)
              refine lv_iadd hx hb dX11_fitsGrowth_68 ?_
              refine lv_topi (fun t24 et24 => ?_)
              have rg25 := fb_rng t21
              have rg26 := fb_rng t23
              have zt24 : t24.toInt = t21.toInt + t23.toInt := by rw [et24]; exact add_i rfl rfl (by omega) (by omega)
              refine ldZ hx hb hE hP 35 rfl (vp_in_iff.mpr ⟨by omega, by omega⟩) rfl rfl dX11_fitsGrowth_69 ?_
              refine lv_topi (fun t27 et27 => ?_)
              refine lv_aload_n hx hb dX11_fitsGrowth_70 rfl (lv_at hl 2 rfl) ?_
              refine va_get (D := (dC, dI)) (ci := 11) (v := .ref (r 72)) (C := RX11) (T := TX11) (N := 79) hx hb hts inB_11 hown hE.1 hP 0 rfl rfl 72 (by decide) (hts _ k_1392) (fun _ h9 => h9) rfl dX11_fitsGrowth_71 ?_
              refine lv_iload hx hb dX11_fitsGrowth_74 (lv_at hl 0 rfl) ?_
              refine ldZ hx hb hE hP 34 rfl (vp_in_iff.mpr ⟨by omega, by omega⟩) rfl rfl dX11_fitsGrowth_76 ?_
              refine lv_topi (fun t28 et28 => ?_)
              refine lv_icmp_ne (tgt := 84) hx hb dX11_fitsGrowth_77 (by decide) (fun c29 => ?_) (fun c29 => ?_)
              · skip
                have zc29 : ¬ (t27.toInt = t28.toInt) := by rw [fa_eq] at c29; exact c29
                have rg30 := fb_rng t27
                have rg31 := fb_rng t28
                refine lv_iconst (v := 0) hx hb dX11_fitsGrowth_84 (by decide) ?_
                refine lv_istore_n (lv' := [(3, .int 0), (4, .int l4_1), (0, .ref y0), (1, .int p1), (2, .int p2)]) hx hb dX11_fitsGrowth_85 rfl hl (by decide) rfl (fun ls hl => ?_)
                obtain ⟨t32, et32⟩ : ∃ y : Int32, y = l4_1 + 1 := ⟨_, rfl⟩
                have zt32 : t32.toInt = l4_1.toInt + 1 := by rw [et32]; exact add_i rfl (by decide) (by omega) (by omega)
                refine lv_iinc (v := t32) (lv' := [(4, .int t32), (3, .int 0), (0, .ref y0), (1, .int p1), (2, .int p2)]) hx hb dX11_fitsGrowth_86 hl (k := 1) rfl (by rw [et32]; rfl) (by decide) rfl (fun ls hl => ?_)
                refine lv_goto (tgt := 5) hx hb dX11_fitsGrowth_89 (by decide) ?_
                have rg33 := fb_rng t32
                exact ih1 0 t32 ⟨by decide, by decide⟩ ⟨show (0 : Int) ≤ t32.toInt by omega, show t32.toInt ≤ (2147483647 : Int) by omega⟩ (by show (2147483647 - t32.toInt).toNat < n1; omega) _ _ _ hP hD hS (lv_sub hl [0, 1, 2, 3, 4] rfl)
              · skip
                have zc29 : t27.toInt = t28.toInt := by rw [fa_eq] at c29; exact c29
                have rg34 := fb_rng t27
                have rg35 := fb_rng t28
                refine lv_iconst (v := 1) hx hb dX11_fitsGrowth_80 (by decide) ?_
                refine lv_goto (tgt := 85) hx hb dX11_fitsGrowth_81 (by decide) ?_
                refine lv_istore_n (lv' := [(3, .int 1), (4, .int l4_1), (0, .ref y0), (1, .int p1), (2, .int p2)]) hx hb dX11_fitsGrowth_85 rfl hl (by decide) rfl (fun ls hl => ?_)
                obtain ⟨t36, et36⟩ : ∃ y : Int32, y = l4_1 + 1 := ⟨_, rfl⟩
                have zt36 : t36.toInt = l4_1.toInt + 1 := by rw [et36]; exact add_i rfl (by decide) (by omega) (by omega)
                refine lv_iinc (v := t36) (lv' := [(4, .int t36), (3, .int 1), (0, .ref y0), (1, .int p1), (2, .int p2)]) hx hb dX11_fitsGrowth_86 hl (k := 1) rfl (by rw [et36]; rfl) (by decide) rfl (fun ls hl => ?_)
                refine lv_goto (tgt := 5) hx hb dX11_fitsGrowth_89 (by decide) ?_
                have rg37 := fb_rng t36
                exact ih1 1 t36 ⟨by decide, by decide⟩ ⟨show (0 : Int) ≤ t36.toInt by omega, show t36.toInt ≤ (2147483647 : Int) by omega⟩ (by show (2147483647 - t36.toInt).toNat < n1; omega) _ _ _ hP hD hS (lv_sub hl [0, 1, 2, 3, 4] rfl)
            · skip
              have zc20 : ¬ (t19.toInt < 0) := by rw [fa_lt, show (0 : Int32).toInt = 0 from by decide] at c20; exact c20
              refine lv_aload_n hx hb dX11_fitsGrowth_39 rfl (lv_at hl 2 rfl) ?_
              refine va_get (D := (dC, dI)) (ci := 11) (v := .ref (r 71)) (C := RX11) (T := TX11) (N := 79) hx hb hts inB_11 hown hE.1 hP 0 rfl rfl 71 (by decide) (hts _ k_1391) (fun _ h9 => h9) rfl dX11_fitsGrowth_40 ?_
              refine lv_iload hx hb dX11_fitsGrowth_43 (lv_at hl 0 rfl) ?_
              refine ldI hx hb hE hP 33 rfl (vp_in_iff.mpr ⟨by omega, by omega⟩) rfl rfl dX11_fitsGrowth_45 ?_
              refine tI (y := t19) et19.symm ?_
              refine lv_iload_n hx hb dX11_fitsGrowth_46 rfl (lv_at hl 4 rfl) ?_
              refine lv_icmp_gt (tgt := 53) hx hb dX11_fitsGrowth_47 (by decide) (fun c38 => ?_) (fun c38 => ?_)
              · skip
                have zc38 : p2.toInt < t19.toInt := by rw [fa_lt] at c38; exact c38
                have rg39 := fb_rng t19
                refine lv_aload_n hx hb dX11_fitsGrowth_53 rfl (lv_at hl 2 rfl) ?_
                refine va_get (D := (dC, dI)) (ci := 11) (v := .ref (r 75)) (C := RX11) (T := TX11) (N := 79) hx hb hts inB_11 hown hE.1 hP 0 rfl rfl 75 (by decide) (hts _ k_1395) (fun _ h9 => h9) rfl dX11_fitsGrowth_54 ?_
                refine lv_bipush (v := 21) hx hb dX11_fitsGrowth_57 (by decide) ?_
                refine lv_iload_n hx hb dX11_fitsGrowth_59 rfl (lv_at hl 3 rfl) ?_
                refine lv_imul hx hb dX11_fitsGrowth_60 ?_
                refine lv_topi (fun t40 et40 => ?_)
                have rg41 := fb_rng p1
                have zt40 : t40.toInt = 21 * p1.toInt := by rw [et40]; exact mul_i (by decide) rfl (by omega) (by omega)
                refine lv_aload_n hx hb dX11_fitsGrowth_61 rfl (lv_at hl 2 rfl) ?_
                refine va_get (D := (dC, dI)) (ci := 11) (v := .ref (r 69)) (C := RX11) (T := TX11) (N := 79) hx hb hts inB_11 hown hE.1 hP 0 rfl rfl 69 (by decide) (hts _ k_1389) (fun _ h9 => h9) rfl dX11_fitsGrowth_62 ?_
                refine lv_iload hx hb dX11_fitsGrowth_65 (lv_at hl 0 rfl) ?_
                refine ldI hx hb hE hP 31 rfl (vp_in_iff.mpr ⟨by omega, by omega⟩) rfl rfl dX11_fitsGrowth_67 ?_
                refine lv_topi (fun t42 et42 => ?_)
                have zt42 : 0 ≤ t42.toInt ∧ t42.toInt ≤ 20 := by rw [et42]; exact hCf.2.2.2.2.1 l4_1.toInt.toNat (show l4_1.toInt.toNat < 30 by omega)
                refine lv_iadd hx hb dX11_fitsGrowth_68 ?_
                refine lv_topi (fun t43 et43 => ?_)
                have rg44 := fb_rng t40
                have rg45 := fb_rng t42
                have zt43 : t43.toInt = t40.toInt + t42.toInt := by rw [et43]; exact add_i rfl rfl (by omega) (by omega)
                refine ldZ hx hb hE hP 35 rfl (vp_in_iff.mpr ⟨by omega, by omega⟩) rfl rfl dX11_fitsGrowth_69 ?_
                refine lv_topi (fun t46 et46 => ?_)
                refine lv_aload_n hx hb dX11_fitsGrowth_70 rfl (lv_at hl 2 rfl) ?_
                refine va_get (D := (dC, dI)) (ci := 11) (v := .ref (r 72)) (C := RX11) (T := TX11) (N := 79) hx hb hts inB_11 hown hE.1 hP 0 rfl rfl 72 (by decide) (hts _ k_1392) (fun _ h9 => h9) rfl dX11_fitsGrowth_71 ?_
                refine lv_iload hx hb dX11_fitsGrowth_74 (lv_at hl 0 rfl) ?_
                refine ldZ hx hb hE hP 34 rfl (vp_in_iff.mpr ⟨by omega, by omega⟩) rfl rfl dX11_fitsGrowth_76 ?_
                refine lv_topi (fun t47 et47 => ?_)
                refine lv_icmp_ne (tgt := 84) hx hb dX11_fitsGrowth_77 (by decide) (fun c48 => ?_) (fun c48 => ?_)
                · skip
                  have zc48 : ¬ (t46.toInt = t47.toInt) := by rw [fa_eq] at c48; exact c48
                  have rg49 := fb_rng t46
                  have rg50 := fb_rng t47
                  refine lv_iconst (v := 0) hx hb dX11_fitsGrowth_84 (by decide) ?_
                  refine lv_istore_n (lv' := [(3, .int 0), (4, .int l4_1), (0, .ref y0), (1, .int p1), (2, .int p2)]) hx hb dX11_fitsGrowth_85 rfl hl (by decide) rfl (fun ls hl => ?_)
                  obtain ⟨t51, et51⟩ : ∃ y : Int32, y = l4_1 + 1 := ⟨_, rfl⟩
                  have zt51 : t51.toInt = l4_1.toInt + 1 := by rw [et51]; exact add_i rfl (by decide) (by omega) (by omega)
                  refine lv_iinc (v := t51) (lv' := [(4, .int t51), (3, .int 0), (0, .ref y0), (1, .int p1), (2, .int p2)]) hx hb dX11_fitsGrowth_86 hl (k := 1) rfl (by rw [et51]; rfl) (by decide) rfl (fun ls hl => ?_)
                  refine lv_goto (tgt := 5) hx hb dX11_fitsGrowth_89 (by decide) ?_
                  have rg52 := fb_rng t51
                  exact ih1 0 t51 ⟨by decide, by decide⟩ ⟨show (0 : Int) ≤ t51.toInt by omega, show t51.toInt ≤ (2147483647 : Int) by omega⟩ (by show (2147483647 - t51.toInt).toNat < n1; omega) _ _ _ hP hD hS (lv_sub hl [0, 1, 2, 3, 4] rfl)
                · skip
                  have zc48 : t46.toInt = t47.toInt := by rw [fa_eq] at c48; exact c48
                  have rg53 := fb_rng t46
                  have rg54 := fb_rng t47
                  refine lv_iconst (v := 1) hx hb dX11_fitsGrowth_80 (by decide) ?_
                  refine lv_goto (tgt := 85) hx hb dX11_fitsGrowth_81 (by decide) ?_
                  refine lv_istore_n (lv' := [(3, .int 1), (4, .int l4_1), (0, .ref y0), (1, .int p1), (2, .int p2)]) hx hb dX11_fitsGrowth_85 rfl hl (by decide) rfl (fun ls hl => ?_)
                  obtain ⟨t55, et55⟩ : ∃ y : Int32, y = l4_1 + 1 := ⟨_, rfl⟩
                  have zt55 : t55.toInt = l4_1.toInt + 1 := by rw [et55]; exact add_i rfl (by decide) (by omega) (by omega)
                  refine lv_iinc (v := t55) (lv' := [(4, .int t55), (3, .int 1), (0, .ref y0), (1, .int p1), (2, .int p2)]) hx hb dX11_fitsGrowth_86 hl (k := 1) rfl (by rw [et55]; rfl) (by decide) rfl (fun ls hl => ?_)
                  refine lv_goto (tgt := 5) hx hb dX11_fitsGrowth_89 (by decide) ?_
                  have rg56 := fb_rng t55
                  exact ih1 1 t55 ⟨by decide, by decide⟩ ⟨show (0 : Int) ≤ t55.toInt by omega, show t55.toInt ≤ (2147483647 : Int) by omega⟩ (by show (2147483647 - t55.toInt).toNat < n1; omega) _ _ _ hP hD hS (lv_sub hl [0, 1, 2, 3, 4] rfl)
              · skip
                have zc38 : ¬ (p2.toInt < t19.toInt) := by rw [fa_lt] at c38; exact c38
                have rg57 := fb_rng t19
                refine lv_goto (tgt := 86) hx hb dX11_fitsGrowth_50 (by decide) ?_
                obtain ⟨t58, et58⟩ : ∃ y : Int32, y = l4_1 + 1 := ⟨_, rfl⟩
                have zt58 : t58.toInt = l4_1.toInt + 1 := by rw [et58]; exact add_i rfl (by decide) (by omega) (by omega)
                refine lv_iinc (v := t58) (lv' := [(4, .int t58), (3, .int l3_1), (0, .ref y0), (1, .int p1), (2, .int p2)]) hx hb dX11_fitsGrowth_86 hl (k := 0) rfl (by rw [et58]; rfl) (by decide) rfl (fun ls hl => ?_)
                refine lv_goto (tgt := 5) hx hb dX11_fitsGrowth_89 (by decide) ?_
                have rg59 := fb_rng l3_1
                have rg60 := fb_rng t58
                exact ih1 l3_1 t58 ⟨show (0 : Int) ≤ l3_1.toInt by omega, show l3_1.toInt ≤ (1 : Int) by omega⟩ ⟨show (0 : Int) ≤ t58.toInt by omega, show t58.toInt ≤ (2147483647 : Int) by omega⟩ (by show (2147483647 - t58.toInt).toNat < n1; omega) _ _ _ hP hD hS (lv_sub hl [0, 1, 2, 3, 4] rfl)
  exact lp1 _ 1 0 ⟨by decide, by decide⟩ ⟨by decide, by decide⟩ (Nat.lt_succ_self _) _ _ _ hP hD hS (lv_sub hl [0, 1, 2, 3, 4] rfl)
