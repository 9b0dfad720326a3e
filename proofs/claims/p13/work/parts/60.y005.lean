set_option maxHeartbeats 4000000 in
set_option maxRecDepth 100000 in
theorem sY_X11_tight_1 (NF : Nat) (l : Launch) (dC : Nat → ClassId) (dI : Nat → Nat → Nat) (cy : Nat → ClassId) (y0 : Nat) (r : Nat → Nat) (p0 : Int32) (v : Nat → Int32) (f : Nat → Nat → Int32) (w : Int64) (g : Nat → Int64) (hIv : YI v) (hCf : YC f) (hRf : progOK (f 4) (f 5) (v 9).toInt.toNat)  : ctI l (dC, dI) cy yX11_tight cX11_tight 1 .int 1 60 0 0 Unit [.int p0] (YW cy y0 r v f w g) (fun r u => gsY_X11_tight_1 NF p0 v f w g = r ∧ ((1 : Int) ≤ r.toInt ∧ r.toInt ≤ 6)) (fun u => YW cy y0 r v f w g) := by
  refine ctI_of (by decide) (Nat.le_of_ble_eq_true rfl) (fun p e s m below meth c A ls Q hx hb hml hts hown hE hP hD hA hl ret => ?_)
  have hUv : (v 35).toInt + (v 36).toInt ≤ 40 := hIv.2
  have hown : s.vm.findClass RX11 = some m.cls := hown
  have hS : va_S A s.heap s.heap [] := va_S.rf
  have hl : lv_has ls 1 [(0, .int p0)] := hl
  refine lv_iload_n hx hb dX11_tight_0 rfl (lv_at hl 0 rfl) ?_
  by_cases c1 : p0 = 21
  · skip
    refine lv_lookup (off := 79) (tgt := 80) hx hb dX11_tight_1 (by decide) (by rw [c1]; decide) (by decide) ?_
    have zc1 : p0.toInt = 21 := by rw [fa_eq, show (21 : Int32).toInt = 21 from by decide] at c1; exact c1
    refine lv_iconst (v := 3) hx hb dX11_tight_80 (by decide) ?_
    exact ret 3 () _ _ _ _ _ _ rfl ⟨(gsY_X11_tight_1_q0 c1), ⟨by decide, by decide⟩⟩ hP hD hS dX11_tight_81 (Nat.le_refl _) (Nat.le_refl _)
  · skip
    have zc1 : ¬ (p0.toInt = 21) := by rw [fa_eq, show (21 : Int32).toInt = 21 from by decide] at c1; exact c1
    by_cases c2 : p0 = 38
    · skip
      refine lv_lookup (off := 77) (tgt := 78) hx hb dX11_tight_1 (by decide) (by rw [c2]; decide) (by decide) ?_
      have zc2 : p0.toInt = 38 := by rw [fa_eq, show (38 : Int32).toInt = 38 from by decide] at c2; exact c2
      refine lv_iconst (v := 2) hx hb dX11_tight_78 (by decide) ?_
      exact ret 2 () _ _ _ _ _ _ rfl ⟨(gsY_X11_tight_1_q1 c1 c2), ⟨by decide, by decide⟩⟩ hP hD hS dX11_tight_79 (Nat.le_refl _) (Nat.le_refl _)
    · skip
      have zc2 : ¬ (p0.toInt = 38) := by rw [fa_eq, show (38 : Int32).toInt = 38 from by decide] at c2; exact c2
      by_cases c3 : p0 = 43
      · skip
        refine lv_lookup (off := 83) (tgt := 84) hx hb dX11_tight_1 (by decide) (by rw [c3]; decide) (by decide) ?_
        have zc3 : p0.toInt = 43 := by rw [fa_eq, show (43 : Int32).toInt = 43 from by decide] at c3; exact c3
        refine lv_iconst (v := 5) hx hb dX11_tight_84 (by decide) ?_
        exact ret 5 () _ _ _ _ _ _ rfl ⟨(gsY_X11_tight_1_q2 c1 c2 c3), ⟨by decide, by decide⟩⟩ hP hD hS dX11_tight_85 (Nat.le_refl _) (Nat.le_refl _)
      · skip
        have zc3 : ¬ (p0.toInt = 43) := by rw [fa_eq, show (43 : Int32).toInt = 43 from by decide] at c3; exact c3
        by_cases c4 : p0 = 45
        · skip
          refine lv_lookup (off := 83) (tgt := 84) hx hb dX11_tight_1 (by decide) (by rw [c4]; decide) (by decide) ?_
          have zc4 : p0.toInt = 45 := by rw [fa_eq, show (45 : Int32).toInt = 45 from by decide] at c4; exact c4
          refine lv_iconst (v := 5) hx hb dX11_tight_84 (by decide) ?_
          exact ret 5 () _ _ _ _ _ _ rfl ⟨(gsY_X11_tight_1_q3 c1 c2 c3 c4), ⟨by decide, by decide⟩⟩ hP hD hS dX11_tight_85 (Nat.le_refl _) (Nat.le_refl _)
        · skip
          have zc4 : ¬ (p0.toInt = 45) := by rw [fa_eq, show (45 : Int32).toInt = 45 from by decide] at c4; exact c4
          by_cases c5 : p0 = 60
          · skip
            refine lv_lookup (off := 81) (tgt := 82) hx hb dX11_tight_1 (by decide) (by rw [c5]; decide) (by decide) ?_
            have zc5 : p0.toInt = 60 := by rw [fa_eq, show (60 : Int32).toInt = 60 from by decide] at c5; exact c5
            refine lv_iconst (v := 4) hx hb dX11_tight_82 (by decide) ?_
            exact ret 4 () _ _ _ _ _ _ rfl ⟨(gsY_X11_tight_1_q4 c1 c2 c3 c4 c5), ⟨by decide, by decide⟩⟩ hP hD hS dX11_tight_83 (Nat.le_refl _) (Nat.le_refl _)
          · skip
            have zc5 : ¬ (p0.toInt = 60) := by rw [fa_eq, show (60 : Int32).toInt = 60 from by decide] at c5; exact c5
            by_cases c6 : p0 = 61
            · skip
              refine lv_lookup (off := 81) (tgt := 82) hx hb dX11_tight_1 (by decide) (by rw [c6]; decide) (by decide) ?_
              have zc6 : p0.toInt = 61 := by rw [fa_eq, show (61 : Int32).toInt = 61 from by decide] at c6; exact c6
              refine lv_iconst (v := 4) hx hb dX11_tight_82 (by decide) ?_
              exact ret 4 () _ _ _ _ _ _ rfl ⟨(gsY_X11_tight_1_q5 c1 c2 c3 c4 c5 c6), ⟨by decide, by decide⟩⟩ hP hD hS dX11_tight_83 (Nat.le_refl _) (Nat.le_refl _)
            · skip
              have zc6 : ¬ (p0.toInt = 61) := by rw [fa_eq, show (61 : Int32).toInt = 61 from by decide] at c6; exact c6
              by_cases c7 : p0 = 62
              · skip
                refine lv_lookup (off := 81) (tgt := 82) hx hb dX11_tight_1 (by decide) (by rw [c7]; decide) (by decide) ?_
                have zc7 : p0.toInt = 62 := by rw [fa_eq, show (62 : Int32).toInt = 62 from by decide] at c7; exact c7
                refine lv_iconst (v := 4) hx hb dX11_tight_82 (by decide) ?_
                exact ret 4 () _ _ _ _ _ _ rfl ⟨(gsY_X11_tight_1_q6 c1 c2 c3 c4 c5 c6 c7), ⟨by decide, by decide⟩⟩ hP hD hS dX11_tight_83 (Nat.le_refl _) (Nat.le_refl _)
              · skip
                have zc7 : ¬ (p0.toInt = 62) := by rw [fa_eq, show (62 : Int32).toInt = 62 from by decide] at c7; exact c7
                by_cases c8 : p0 = 124
                · skip
                  refine lv_lookup (off := 75) (tgt := 76) hx hb dX11_tight_1 (by decide) (by rw [c8]; decide) (by decide) ?_
                  have zc8 : p0.toInt = 124 := by rw [fa_eq, show (124 : Int32).toInt = 124 from by decide] at c8; exact c8
                  refine lv_iconst (v := 1) hx hb dX11_tight_76 (by decide) ?_
                  exact ret 1 () _ _ _ _ _ _ rfl ⟨(gsY_X11_tight_1_q7 c1 c2 c3 c4 c5 c6 c7 c8), ⟨by decide, by decide⟩⟩ hP hD hS dX11_tight_77 (Nat.le_refl _) (Nat.le_refl _)
                · skip
                  have zc8 : ¬ (p0.toInt = 124) := by rw [fa_eq, show (124 : Int32).toInt = 124 from by decide] at c8; exact c8
                  refine lv_lookup (off := 85) (tgt := 86) hx hb dX11_tight_1 (by decide) (by show Op.lookupswitch.offset [(21, 79), (38, 77), (43, 83), (45, 83), (60, 81), (61, 81), (62, 81), (124, 75)] 85 p0.toInt = 85; rw [lv_osw c1 (by decide), lv_osw c2 (by decide), lv_osw c3 (by decide), lv_osw c4 (by decide), lv_osw c5 (by decide), lv_osw c6 (by decide), lv_osw c7 (by decide), lv_osw c8 (by decide)]; rfl) (by decide) ?_
                  refine lv_bipush (v := 6) hx hb dX11_tight_86 (by decide) ?_
                  exact ret 6 () _ _ _ _ _ _ rfl ⟨(gsY_X11_tight_1_q8 c1 c2 c3 c4 c5 c6 c7 c8), ⟨by decide, by decide⟩⟩ hP hD hS dX11_tight_88 (Nat.le_refl _) (Nat.le_refl _)
set_option maxHeartbeats 4000000 in
set_option maxRecDepth 100000 in
theorem sY_X11_mayNot_1 (NF : Nat) (l : Launch) (dC : Nat → ClassId) (dI : Nat → Nat → Nat) (cy : Nat → ClassId) (y0 : Nat) (r : Nat → Nat)  (v : Nat → Int32) (f : Nat → Nat → Int32) (w : Int64) (g : Nat → Int64) (hIv : YI v) (hCf : YC f) (hRf : progOK (f 4) (f 5) (v 9).toInt.toNat)  : ctI l (dC, dI) cy yX11_mayNot cX11_mayNot 1 .boolean 2 80 0 0 Unit [.ref y0] (YW cy y0 r v f w g) (fun r u => gsY_X11_mayNot_1 NF v f w g = r ∧ ((r = 1) ∨ (r = 0))) (fun u => YW cy y0 r v f w g) := by
  refine ctI_of (by decide) (Nat.le_of_ble_eq_true rfl) (fun p e s m below meth c A ls Q hx hb hml hts hown hE hP hD hA hl ret => ?_)
  have hUv : (v 35).toInt + (v 36).toInt ≤ 40 := hIv.2
  have hown : s.vm.findClass RX11 = some m.cls := hown
  have hS : va_S A s.heap s.heap [] := va_S.rf
  have hl : lv_has ls 1 [(0, .ref y0)] := hl
  refine lv_aload_n hx hb dX11_mayNot_0 rfl (lv_at hl 0 rfl) ?_
  refine va_get (D := (dC, dI)) (ci := 11) (v := .int (v 10)) (C := RX11) (T := TX11) (N := 79) hx hb hts inB_11 hown hE.1 hP 0 rfl rfl 19 (by decide) (hts _ k_1339) (fun _ h9 => h9) rfl dX11_mayNot_1 ?_
  have b10_v : 0 ≤ (v 10).toInt ∧ (v 10).toInt ≤ 160 := YIb.b hIv.1 10 (by decide)
  refine lv_if_eq (tgt := 41) hx hb dX11_mayNot_4 (by decide) (fun c1 => ?_) (fun c1 => ?_)
  · skip
    have zc1 : (v 10).toInt = 0 := by rw [fa_eq, show (0 : Int32).toInt = 0 from by decide] at c1; exact c1
    refine lv_iconst (v := 1) hx hb dX11_mayNot_41 (by decide) ?_
    refine lv_goto (tgt := 46) hx hb dX11_mayNot_42 (by decide) ?_
    exact ret 1 () _ _ _ _ _ _ rfl ⟨(gsY_X11_mayNot_1_q0 c1), (Or.inl rfl)⟩ hP hD hS dX11_mayNot_46 (Nat.le_refl _) (Nat.le_refl _)
  · skip
    have zc1 : ¬ ((v 10).toInt = 0) := by rw [fa_eq, show (0 : Int32).toInt = 0 from by decide] at c1; exact c1
    refine lv_aload_n hx hb dX11_mayNot_7 rfl (lv_at hl 0 rfl) ?_
    refine va_get (D := (dC, dI)) (ci := 11) (v := .ref (r 15)) (C := RX11) (T := TX11) (N := 79) hx hb hts inB_11 hown hE.1 hP 0 rfl rfl 15 (by decide) (hts _ k_1335) (fun _ h9 => h9) rfl dX11_mayNot_8 ?_
    refine lv_aload_n hx hb dX11_mayNot_11 rfl (lv_at hl 0 rfl) ?_
    refine va_get (D := (dC, dI)) (ci := 11) (v := .int (v 10)) (C := RX11) (T := TX11) (N := 79) hx hb hts inB_11 hown hE.1 hP 0 rfl rfl 19 (by decide) (hts _ k_1339) (fun _ h9 => h9) rfl dX11_mayNot_12 ?_
    refine lv_iconst (v := 1) hx hb dX11_mayNot_15 (by decide) ?_
    refine lv_isub hx hb dX11_mayNot_16 ?_
    refine lv_topi (fun t2 et2 => ?_)
    have rg3 := fb_rng (v 10)
    have zt2 : t2.toInt = (v 10).toInt - 1 := by rw [et2]; exact sub_i rfl (by decide) (by omega) (by omega)
    refine ldI hx hb hE hP 7 rfl (vp_in_iff.mpr ⟨by omega, by omega⟩) rfl rfl dX11_mayNot_17 ?_
    refine lv_topi (fun t4 et4 => ?_)
    refine lv_bipush (v := 20) hx hb dX11_mayNot_18 (by decide) ?_
    refine lv_icmp_eq (tgt := 41) hx hb dX11_mayNot_20 (by decide) (fun c5 => ?_) (fun c5 => ?_)
    · skip
      have zc5 : t4.toInt = 20 := by rw [fa_eq, show (20 : Int32).toInt = 20 from by decide] at c5; exact c5
      refine lv_iconst (v := 1) hx hb dX11_mayNot_41 (by decide) ?_
      refine lv_goto (tgt := 46) hx hb dX11_mayNot_42 (by decide) ?_
      exact ret 1 () _ _ _ _ _ _ rfl ⟨(gsY_X11_mayNot_1_q1 c1 et2 et4 c5), (Or.inl rfl)⟩ hP hD hS dX11_mayNot_46 (Nat.le_refl _) (Nat.le_refl _)
    · skip
      have zc5 : ¬ (t4.toInt = 20) := by rw [fa_eq, show (20 : Int32).toInt = 20 from by decide] at c5; exact c5
      refine lv_aload_n hx hb dX11_mayNot_23 rfl (lv_at hl 0 rfl) ?_
      refine va_get (D := (dC, dI)) (ci := 11) (v := .ref (r 15)) (C := RX11) (T := TX11) (N := 79) hx hb hts inB_11 hown hE.1 hP 0 rfl rfl 15 (by decide) (hts _ k_1335) (fun _ h9 => h9) rfl dX11_mayNot_24 ?_
      refine lv_aload_n hx hb dX11_mayNot_27 rfl (lv_at hl 0 rfl) ?_
      refine va_get (D := (dC, dI)) (ci := 11) (v := .int (v 10)) (C := RX11) (T := TX11) (N := 79) hx hb hts inB_11 hown hE.1 hP 0 rfl rfl 19 (by decide) (hts _ k_1339) (fun _ h9 => h9) rfl dX11_mayNot_28 ?_
      refine lv_iconst (v := 1) hx hb dX11_mayNot_31 (by decide) ?_
      refine lv_isub hx hb dX11_mayNot_32 ?_
      refine tI (y := t2) et2.symm ?_
      refine ldI hx hb hE hP 7 rfl (vp_in_iff.mpr ⟨by omega, by omega⟩) rfl rfl dX11_mayNot_33 ?_
      refine tI (y := t4) et4.symm ?_
      refine cbSi (n := 1) (rest := []) hx hb hml hown hts hE hP hD hS hA (sY_X11_tight_1 NF l dC dI cy y0 r t4 v f w g hIv hCf hRf ) k_1677 k_1678 k_114 k_1679 (by decide +kernel) ⟨Nat.le_of_ble_eq_true rfl, Nat.le_of_ble_eq_true rfl⟩ (rfl) hl.1 rfl (Nat.le_of_ble_eq_true rfl) dX11_mayNot_34 (fun r6 u H locs hw hP hD hS => ?_)
      obtain ⟨hG7, hw⟩ := hw
      refine lv_iconst (v := 4) hx hb dX11_mayNot_37 (by decide) ?_
      refine lv_icmp_ge (tgt := 45) hx hb dX11_mayNot_38 (by decide) (fun c8 => ?_) (fun c8 => ?_)
      · skip
        have zc8 : 4 ≤ r6.toInt := by rw [fa_le, show (4 : Int32).toInt = 4 from by decide] at c8; exact c8
        refine lv_iconst (v := 0) hx hb dX11_mayNot_45 (by decide) ?_
        exact ret 0 () _ _ _ _ _ _ rfl ⟨(gsY_X11_mayNot_1_q2 c1 et2 et4 c5 hG7.symm c8), (Or.inr rfl)⟩ hP hD hS dX11_mayNot_46 (Nat.le_refl _) (Nat.le_refl _)
      · skip
        have zc8 : ¬ (4 ≤ r6.toInt) := by rw [fa_le, show (4 : Int32).toInt = 4 from by decide] at c8; exact c8
        refine lv_iconst (v := 1) hx hb dX11_mayNot_41 (by decide) ?_
        refine lv_goto (tgt := 46) hx hb dX11_mayNot_42 (by decide) ?_
        exact ret 1 () _ _ _ _ _ _ rfl ⟨(gsY_X11_mayNot_1_q3 c1 et2 et4 c5 hG7.symm c8), (Or.inl rfl)⟩ hP hD hS dX11_mayNot_46 (Nat.le_refl _) (Nat.le_refl _)
