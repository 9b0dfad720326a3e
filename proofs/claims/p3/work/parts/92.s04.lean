set_option maxHeartbeats 4000000 in
set_option maxRecDepth 100000 in
theorem sX_X6_unit_7 (l : Launch) (dC : Nat → ClassId) (dI : Nat → Nat → Nat) (cy : Nat → ClassId) (x0 : Nat) (x : Nat → Nat)  (v : Nat → Int32) (f : Nat → Nat → Int32) (hIv : XI v)  : ctIS l (dC, dI) cy yX6_unit cX6_unit 4 .boolean 14 364 0 0 ((Nat → Int32) × (Nat → Nat → Int32)) [.ref (x 2), .int 6] (XW cy x0 x v f) (fun r u => XI u.1 ∧ u.1 0 = v 0 ∧ u.1 1 = v 1 ∧ u.1 9 = v 9 ∧ u.1 10 = v 10 ∧ u.1 31 = v 31 ∧ u.1 32 = v 32 ∧ ((r = 1) ∨ (r = 0))) (fun u => XW cy x0 x u.1 u.2) := by
  refine ctIS_of (by decide) (Nat.le_of_ble_eq_true rfl) (fun p e s m below meth c A ls Q hx hb hml hts hown hE hF hT hP hD hA hl ret => ?_)
  have hown : s.vm.findClass RX6 = some m.cls := hown
  have hS : va_S A s.heap s.heap [] := va_S.rf
  have hl : lv_has ls 4 [(0, .ref (x 2)), (1, .int 6)] := hl
  refine lv_aload_n hx hb dX6_unit_0 rfl (lv_at hl 0 rfl) ?_
  refine va_get (D := (dC, dI)) (ci := 6) (v := .ref (x 0)) (C := RX6) (T := TX6) (N := 7) hx hb hts inB_6 hown hE.1 hP 3 rfl rfl 0 (by decide) (hts _ k_265) (fun _ h9 => h9) rfl dX6_unit_1 ?_
  refine va_getN (D := (dC, dI)) (ci := 9) (v := .int (v 2)) (C := RX9) (T := TX9) (N := 6) hx hb hts inB_9 hown hE.1 hP 1 rfl rfl 2 (by decide) (va_Nw.use rfl (hE.2 _ k_139)) (fun _ h9 => h9) rfl dX6_unit_4 ?_
  refine lv_istore_n (lv' := [(2, .int (v 2)), (0, .ref (x 2)), (1, .int 6)]) hx hb dX6_unit_7 rfl hl (by decide) rfl (fun ls hl => ?_)
  refine lv_iload_n hx hb dX6_unit_8 rfl (lv_at hl 0 rfl) ?_
  refine lv_iconst (v := 2) hx hb dX6_unit_9 (by decide) ?_
  refine lv_icmp_eq (tgt := 25) hx hb dX6_unit_10 (by decide) (fun c1 => ?_) (fun c1 => ?_)
  · skip
    have zc1 : (v 2).toInt = 2 := by rw [fa_eq, show (2 : Int32).toInt = 2 from by decide] at c1; exact c1
    refine lv_iconst (v := 1) hx hb dX6_unit_25 (by decide) ?_
    refine lv_goto (tgt := 30) hx hb dX6_unit_26 (by decide) ?_
    refine lv_istore_n (lv' := [(3, .int 1), (2, .int (v 2)), (0, .ref (x 2)), (1, .int 6)]) hx hb dX6_unit_30 rfl hl (by decide) rfl (fun ls hl => ?_)
    refine lv_iload_n hx hb dX6_unit_31 rfl (lv_at hl 0 rfl) ?_
    refine lv_if_ne (tgt := 41) hx hb dX6_unit_32 (by decide) (fun _ => ?_) (fun c0 => absurd c0 (by decide))
    refine lv_aload_n hx hb dX6_unit_41 rfl (lv_at hl 2 rfl) ?_
    refine va_get (D := (dC, dI)) (ci := 6) (v := .ref (x 3)) (C := RX6) (T := TX6) (N := 7) hx hb hts inB_6 hown hE.1 hP 3 rfl rfl 1 (by decide) (hts _ k_266) (fun _ h9 => h9) rfl dX6_unit_42 ?_
    refine va_getN (D := (dC, dI)) (ci := 7) (v := .ref (x 6)) (C := RX7) (T := TX7) (N := 10) hx hb hts inB_7 hown hE.1 hP 4 rfl rfl 2 (by decide) (va_Nw.use rfl (hE.2 _ k_210)) (fun _ h9 => h9) rfl dX6_unit_45 ?_
    refine va_getN (D := (dC, dI)) (ci := 4) (v := .int (v 17)) (C := RX4) (T := TX4) (N := 6) hx hb hts inB_4 hown hE.1 hP 7 rfl rfl 5 (by decide) (va_Nw.use rfl (hE.2 _ k_184)) (fun _ h9 => h9) rfl dX6_unit_48 ?_
    refine lv_bipush (v := 30) hx hb dX6_unit_51 (by decide) ?_
    refine lv_icmp_lt (tgt := 61) hx hb dX6_unit_53 (by decide) (fun c2 => ?_) (fun c2 => ?_)
    · skip
      have zc2 : (v 17).toInt < 30 := by rw [fa_lt, show (30 : Int32).toInt = 30 from by decide] at c2; exact c2
      refine lv_iload_n hx hb dX6_unit_61 rfl (lv_at hl 0 rfl) ?_
      refine lv_if_eq (tgt := 108) hx hb dX6_unit_62 (by decide) (fun c0 => absurd c0 (by decide)) (fun _ => ?_)
      refine lv_aload_n hx hb dX6_unit_65 rfl (lv_at hl 2 rfl) ?_
      refine va_get (D := (dC, dI)) (ci := 6) (v := .ref (x 3)) (C := RX6) (T := TX6) (N := 7) hx hb hts inB_6 hown hE.1 hP 3 rfl rfl 1 (by decide) (hts _ k_266) (fun _ h9 => h9) rfl dX6_unit_66 ?_
      refine va_getN (D := (dC, dI)) (ci := 7) (v := .ref (x 6)) (C := RX7) (T := TX7) (N := 10) hx hb hts inB_7 hown hE.1 hP 4 rfl rfl 2 (by decide) (va_Nw.use rfl (hE.2 _ k_210)) (fun _ h9 => h9) rfl dX6_unit_69 ?_
      refine lv_iload_n hx hb dX6_unit_72 rfl (lv_at hl 1 rfl) ?_
      refine lv_aload_n hx hb dX6_unit_73 rfl (lv_at hl 2 rfl) ?_
      refine va_get (D := (dC, dI)) (ci := 6) (v := .ref (x 0)) (C := RX6) (T := TX6) (N := 7) hx hb hts inB_6 hown hE.1 hP 3 rfl rfl 0 (by decide) (hts _ k_265) (fun _ h9 => h9) rfl dX6_unit_74 ?_
      refine va_getN (D := (dC, dI)) (ci := 9) (v := .int (v 5)) (C := RX9) (T := TX9) (N := 6) hx hb hts inB_9 hown hE.1 hP 1 rfl rfl 5 (by decide) (va_Nw.use rfl (hE.2 _ k_145)) (fun _ h9 => h9) rfl dX6_unit_77 ?_
      refine cbVv (n := 2) (rest := []) hx hb hml hown hts hE hP hD hS hA (sX_X4_add_1 l dC dI cy x0 x (v 2) (v 5) v f hIv ) k_748 k_749 k_750 k_105 k_751 (by decide +kernel) ⟨Nat.le_of_ble_eq_true rfl, Nat.le_of_ble_eq_true rfl⟩ 7 4 rfl rfl (rfl) hl.1 rfl (Nat.le_of_ble_eq_true rfl) dX6_unit_80 (fun u H locs hw hP hD hS => ?_)
      obtain ⟨v3, f4⟩ := u
      obtain ⟨hIv3, hk0_v3, hk1_v3, hk9_v3, hk10_v3, hk31_v3, hk32_v3⟩ := hw
      have hP : va_P (dC, dI) vwCl (XW cy x0 x v3 f4) H := hP
      have hD : va_D A (XW cy x0 x v3 f4) := hD
      have hq0_v3 : v3 0 = (v 0) := hk0_v3
      have hq1_v3 : v3 1 = (v 1) := hk1_v3
      have hq9_v3 : v3 9 = (v 9) := hk9_v3
      have hq10_v3 : v3 10 = (v 10) := hk10_v3
      have hq31_v3 : v3 31 = (v 31) := hk31_v3
      have hq32_v3 : v3 32 = (v 32) := hk32_v3
      refine lv_aload_n hx hb dX6_unit_83 rfl (lv_at hl 2 rfl) ?_
      refine va_get (D := (dC, dI)) (ci := 6) (v := .ref (x 3)) (C := RX6) (T := TX6) (N := 7) hx hb hts inB_6 hown hE.1 hP 3 rfl rfl 1 (by decide) (hts _ k_266) (fun _ h9 => h9) rfl dX6_unit_84 ?_
      refine va_getN (D := (dC, dI)) (ci := 7) (v := .ref (x 6)) (C := RX7) (T := TX7) (N := 10) hx hb hts inB_7 hown hE.1 hP 4 rfl rfl 2 (by decide) (va_Nw.use rfl (hE.2 _ k_210)) (fun _ h9 => h9) rfl dX6_unit_87 ?_
      refine lv_dup hx hb dX6_unit_90 rfl ?_
      refine va_getN (D := (dC, dI)) (ci := 4) (v := .int (v3 17)) (C := RX4) (T := TX4) (N := 6) hx hb hts inB_4 hown hE.1 hP 7 rfl rfl 5 (by decide) (va_Nw.use rfl (hE.2 _ k_184)) (fun _ h9 => h9) rfl dX6_unit_91 ?_
      refine lv_iconst (v := 1) hx hb dX6_unit_94 (by decide) ?_
      refine lv_iadd hx hb dX6_unit_95 ?_
      refine lv_topi (fun t5 et5 => ?_)
      refine va_putN (D := (dC, dI)) (ci := 4) (v := .int t5) (ty := tyX4 5) (C := RX4) (T := TX4) (N := 6) hx hb hts inB_4 tyX4 tyX4_ok nmX4 hown hE.1 hP hD hS 7 rfl rfl 5 (by decide) (va_Nw.use rfl (hE.2 _ k_184)) (fun _ h9 => h9) rfl (tyX4_ok 5 (by decide)) rfl rfl (Nat.le_of_ble_eq_true rfl) dX6_unit_96 (fun H locs hP hD hS => ?_)
      have hP : va_P (dC, dI) vwCl (XW cy x0 x (upd v3 17 t5) f4) H := hP
      have hD : va_D A (XW cy x0 x (upd v3 17 t5) f4) := hD
      refine lv_aload_n hx hb dX6_unit_99 rfl (lv_at hl 2 rfl) ?_
      refine va_get (D := (dC, dI)) (ci := 6) (v := .ref (x 0)) (C := RX6) (T := TX6) (N := 7) hx hb hts inB_6 hown hE.1 hP 3 rfl rfl 0 (by decide) (hts _ k_265) (fun _ h9 => h9) rfl dX6_unit_100 ?_
      refine csVv (n := 0) (rest := []) hx hb hml hown hts hE hP hD hS hA hF hT (sX_X9_advance_1 l dC dI cy x0 x  (upd v3 17 t5) f4 (XI.upd (j := 17) (x := t5) hIv3 (rlo _) (rhi _)) ) k_699 k_559 k_560 k_102 k_561 (by decide +kernel) ⟨Nat.le_of_ble_eq_true rfl, Nat.le_of_ble_eq_true rfl⟩ 1 9 rfl rfl (rfl) hl.1 rfl (Nat.le_of_ble_eq_true rfl) dX6_unit_103 (fun u H locs hw hP hD hS => ?_)
      obtain ⟨v6, f7⟩ := u
      obtain ⟨hIv6, hk0_v6, hk1_v6, hk9_v6, hk10_v6, hk31_v6, hk32_v6⟩ := hw
      have hP : va_P (dC, dI) vwCl (XW cy x0 x v6 f7) H := hP
      have hD : va_D A (XW cy x0 x v6 f7) := hD
      have hq0_v6 : v6 0 = (v 0) := hk0_v6.trans hq0_v3
      have hq1_v6 : v6 1 = (v 1) := hk1_v6.trans hq1_v3
      have hq9_v6 : v6 9 = (v 9) := hk9_v6.trans hq9_v3
      have hq10_v6 : v6 10 = (v 10) := hk10_v6.trans hq10_v3
      have hq31_v6 : v6 31 = (v 31) := hk31_v6.trans hq31_v3
      have hq32_v6 : v6 32 = (v 32) := hk32_v6.trans hq32_v3
      refine lv_iconst (v := 1) hx hb dX6_unit_106 (by decide) ?_
      exact ret 1 (v6, f7) _ _ _ _ _ _ rfl ⟨hIv6, (hk0_v6.trans hk0_v3), (hk1_v6.trans hk1_v3), (hk9_v6.trans hk9_v3), (hk10_v6.trans hk10_v3), (hk31_v6.trans hk31_v3), (hk32_v6.trans hk32_v3), (Or.inl rfl)⟩ hP hD hS dX6_unit_107 (Nat.le_refl _) (Nat.le_refl _)
    · skip
      have zc2 : ¬ ((v 17).toInt < 30) := by rw [fa_lt, show (30 : Int32).toInt = 30 from by decide] at c2; exact c2
      refine lv_aload_n hx hb dX6_unit_56 rfl (lv_at hl 2 rfl) ?_
      refine cbVi (n := 0) (rest := []) hx hb hml hown hts hE hP hD hS hA (sX_X6_refuse_1 l dC dI cy x0 x  v f hIv ) k_691 k_693 k_6 k_103 k_694 (by decide +kernel) ⟨Nat.le_of_ble_eq_true rfl, Nat.le_of_ble_eq_true rfl⟩ 3 6 rfl rfl (rfl) hl.1 rfl (Nat.le_of_ble_eq_true rfl) dX6_unit_57 (fun r8 u H locs hw hP hD hS => ?_)
      obtain ⟨v9, f10⟩ := u
      obtain ⟨hIv9, hk0_v9, hk1_v9, hk9_v9, hk10_v9, hk31_v9, hk32_v9, hw⟩ := hw
      have hP : va_P (dC, dI) vwCl (XW cy x0 x v9 f10) H := hP
      have hD : va_D A (XW cy x0 x v9 f10) := hD
      have hq0_v9 : v9 0 = (v 0) := hk0_v9
      have hq1_v9 : v9 1 = (v 1) := hk1_v9
      have hq9_v9 : v9 9 = (v 9) := hk9_v9
      have hq10_v9 : v9 10 = (v 10) := hk10_v9
      have hq31_v9 : v9 31 = (v 31) := hk31_v9
      have hq32_v9 : v9 32 = (v 32) := hk32_v9
      rcases hw with ⟨g11⟩ | ⟨g11⟩
      · skip
        subst g11
        exact ret 1 (v9, f10) _ _ _ _ _ _ rfl ⟨hIv9, hk0_v9, hk1_v9, hk9_v9, hk10_v9, hk31_v9, hk32_v9, (Or.inl rfl)⟩ hP hD hS dX6_unit_60 (Nat.le_refl _) (Nat.le_refl _)
      · skip
        subst g11
        exact ret 0 (v9, f10) _ _ _ _ _ _ rfl ⟨hIv9, hk0_v9, hk1_v9, hk9_v9, hk10_v9, hk31_v9, hk32_v9, (Or.inr rfl)⟩ hP hD hS dX6_unit_60 (Nat.le_refl _) (Nat.le_refl _)
  · skip
    have zc1 : ¬ ((v 2).toInt = 2) := by rw [fa_eq, show (2 : Int32).toInt = 2 from by decide] at c1; exact c1
    refine lv_iload_n hx hb dX6_unit_13 rfl (lv_at hl 0 rfl) ?_
    refine lv_bipush (v := 116) hx hb dX6_unit_14 (by decide) ?_
    refine lv_icmp_lt (tgt := 29) hx hb dX6_unit_16 (by decide) (fun c12 => ?_) (fun c12 => ?_)
    · skip
      have zc12 : (v 2).toInt < 116 := by rw [fa_lt, show (116 : Int32).toInt = 116 from by decide] at c12; exact c12
      refine lv_iconst (v := 0) hx hb dX6_unit_29 (by decide) ?_
      refine lv_istore_n (lv' := [(3, .int 0), (2, .int (v 2)), (0, .ref (x 2)), (1, .int 6)]) hx hb dX6_unit_30 rfl hl (by decide) rfl (fun ls hl => ?_)
      refine lv_iload_n hx hb dX6_unit_31 rfl (lv_at hl 0 rfl) ?_
      refine lv_if_ne (tgt := 41) hx hb dX6_unit_32 (by decide) (fun c0 => absurd (by decide) c0) (fun _ => ?_)
      refine lv_iload_n hx hb dX6_unit_35 rfl (lv_at hl 1 rfl) ?_
      refine lv_bipush (v := 40) hx hb dX6_unit_36 (by decide) ?_
      refine lv_icmp_ne (tgt := 56) hx hb dX6_unit_38 (by decide) (fun c13 => ?_) (fun c13 => ?_)
      · skip
        have zc13 : ¬ ((v 2).toInt = 40) := by rw [fa_eq, show (40 : Int32).toInt = 40 from by decide] at c13; exact c13
        refine lv_aload_n hx hb dX6_unit_56 rfl (lv_at hl 2 rfl) ?_
        refine cbVi (n := 0) (rest := []) hx hb hml hown hts hE hP hD hS hA (sX_X6_refuse_1 l dC dI cy x0 x  v f hIv ) k_691 k_693 k_6 k_103 k_694 (by decide +kernel) ⟨Nat.le_of_ble_eq_true rfl, Nat.le_of_ble_eq_true rfl⟩ 3 6 rfl rfl (rfl) hl.1 rfl (Nat.le_of_ble_eq_true rfl) dX6_unit_57 (fun r14 u H locs hw hP hD hS => ?_)
        obtain ⟨v15, f16⟩ := u
        obtain ⟨hIv15, hk0_v15, hk1_v15, hk9_v15, hk10_v15, hk31_v15, hk32_v15, hw⟩ := hw
        have hP : va_P (dC, dI) vwCl (XW cy x0 x v15 f16) H := hP
        have hD : va_D A (XW cy x0 x v15 f16) := hD
        have hq0_v15 : v15 0 = (v 0) := hk0_v15
        have hq1_v15 : v15 1 = (v 1) := hk1_v15
        have hq9_v15 : v15 9 = (v 9) := hk9_v15
        have hq10_v15 : v15 10 = (v 10) := hk10_v15
        have hq31_v15 : v15 31 = (v 31) := hk31_v15
        have hq32_v15 : v15 32 = (v 32) := hk32_v15
        rcases hw with ⟨g17⟩ | ⟨g17⟩
        · skip
          subst g17
          exact ret 1 (v15, f16) _ _ _ _ _ _ rfl ⟨hIv15, hk0_v15, hk1_v15, hk9_v15, hk10_v15, hk31_v15, hk32_v15, (Or.inl rfl)⟩ hP hD hS dX6_unit_60 (Nat.le_refl _) (Nat.le_refl _)
        · skip
          subst g17
          exact ret 0 (v15, f16) _ _ _ _ _ _ rfl ⟨hIv15, hk0_v15, hk1_v15, hk9_v15, hk10_v15, hk31_v15, hk32_v15, (Or.inr rfl)⟩ hP hD hS dX6_unit_60 (Nat.le_refl _) (Nat.le_refl _)
      · skip
        have zc13 : (v 2).toInt = 40 := by rw [fa_eq, show (40 : Int32).toInt = 40 from by decide] at c13; exact c13
        refine lv_aload_n hx hb dX6_unit_41 rfl (lv_at hl 2 rfl) ?_
        refine va_get (D := (dC, dI)) (ci := 6) (v := .ref (x 3)) (C := RX6) (T := TX6) (N := 7) hx hb hts inB_6 hown hE.1 hP 3 rfl rfl 1 (by decide) (hts _ k_266) (fun _ h9 => h9) rfl dX6_unit_42 ?_
        refine va_getN (D := (dC, dI)) (ci := 7) (v := .ref (x 6)) (C := RX7) (T := TX7) (N := 10) hx hb hts inB_7 hown hE.1 hP 4 rfl rfl 2 (by decide) (va_Nw.use rfl (hE.2 _ k_210)) (fun _ h9 => h9) rfl dX6_unit_45 ?_
        refine va_getN (D := (dC, dI)) (ci := 4) (v := .int (v 17)) (C := RX4) (T := TX4) (N := 6) hx hb hts inB_4 hown hE.1 hP 7 rfl rfl 5 (by decide) (va_Nw.use rfl (hE.2 _ k_184)) (fun _ h9 => h9) rfl dX6_unit_48 ?_
        refine lv_bipush (v := 30) hx hb dX6_unit_51 (by decide) ?_
        refine lv_icmp_lt (tgt := 61) hx hb dX6_unit_53 (by decide) (fun c18 => ?_) (fun c18 => ?_)
        · skip
          have zc18 : (v 17).toInt < 30 := by rw [fa_lt, show (30 : Int32).toInt = 30 from by decide] at c18; exact c18
          refine lv_iload_n hx hb dX6_unit_61 rfl (lv_at hl 0 rfl) ?_
          refine lv_if_eq (tgt := 108) hx hb dX6_unit_62 (by decide) (fun _ => ?_) (fun c0 => absurd (by decide) c0)
          refine lv_iload_n hx hb dX6_unit_108 rfl (lv_at hl 3 rfl) ?_
          refine lv_bipush (v := 7) hx hb dX6_unit_109 (by decide) ?_
          refine lv_icmp_lt (tgt := 119) hx hb dX6_unit_111 (by decide) (fun _ => ?_) (fun c0 => absurd (by decide) c0)
          refine lv_aload_n hx hb dX6_unit_119 rfl (lv_at hl 2 rfl) ?_
          refine va_get (D := (dC, dI)) (ci := 6) (v := .ref (x 3)) (C := RX6) (T := TX6) (N := 7) hx hb hts inB_6 hown hE.1 hP 3 rfl rfl 1 (by decide) (hts _ k_266) (fun _ h9 => h9) rfl dX6_unit_120 ?_
          refine va_getN (D := (dC, dI)) (ci := 7) (v := .ref (x 6)) (C := RX7) (T := TX7) (N := 10) hx hb hts inB_7 hown hE.1 hP 4 rfl rfl 2 (by decide) (va_Nw.use rfl (hE.2 _ k_210)) (fun _ h9 => h9) rfl dX6_unit_123 ?_
          refine lv_dup hx hb dX6_unit_126 rfl ?_
          refine va_getN (D := (dC, dI)) (ci := 4) (v := .int (v 17)) (C := RX4) (T := TX4) (N := 6) hx hb hts inB_4 hown hE.1 hP 7 rfl rfl 5 (by decide) (va_Nw.use rfl (hE.2 _ k_184)) (fun _ h9 => h9) rfl dX6_unit_127 ?_
          refine lv_iconst (v := 1) hx hb dX6_unit_130 (by decide) ?_
          refine lv_iadd hx hb dX6_unit_131 ?_
          refine lv_topi (fun t19 et19 => ?_)
          have rg20 := fb_rng (v 17)
          have zt19 : t19.toInt = (v 17).toInt + 1 := by rw [et19]; exact add_i rfl (by decide) (by omega) (by omega)
          refine va_putN (D := (dC, dI)) (ci := 4) (v := .int t19) (ty := tyX4 5) (C := RX4) (T := TX4) (N := 6) hx hb hts inB_4 tyX4 tyX4_ok nmX4 hown hE.1 hP hD hS 7 rfl rfl 5 (by decide) (va_Nw.use rfl (hE.2 _ k_184)) (fun _ h9 => h9) rfl (tyX4_ok 5 (by decide)) rfl rfl (Nat.le_of_ble_eq_true rfl) dX6_unit_132 (fun H locs hP hD hS => ?_)
          have hP : va_P (dC, dI) vwCl (XW cy x0 x (upd v 17 t19) f) H := hP
          have hD : va_D A (XW cy x0 x (upd v 17 t19) f) := hD
          refine lv_aload_n hx hb dX6_unit_135 rfl (lv_at hl 2 rfl) ?_
          refine va_get (D := (dC, dI)) (ci := 6) (v := .ref (x 0)) (C := RX6) (T := TX6) (N := 7) hx hb hts inB_6 hown hE.1 hP 3 rfl rfl 0 (by decide) (hts _ k_265) (fun _ h9 => h9) rfl dX6_unit_136 ?_
          refine csVv (n := 0) (rest := []) hx hb hml hown hts hE hP hD hS hA hF hT (sX_X9_advance_1 l dC dI cy x0 x  (upd v 17 t19) f (XI.upd (j := 17) (x := t19) hIv (rlo _) (rhi _)) ) k_699 k_559 k_560 k_102 k_561 (by decide +kernel) ⟨Nat.le_of_ble_eq_true rfl, Nat.le_of_ble_eq_true rfl⟩ 1 9 rfl rfl (rfl) hl.1 rfl (Nat.le_of_ble_eq_true rfl) dX6_unit_139 (fun u H locs hw hP hD hS => ?_)
          obtain ⟨v21, f22⟩ := u
          obtain ⟨hIv21, hk0_v21, hk1_v21, hk9_v21, hk10_v21, hk31_v21, hk32_v21⟩ := hw
          have hP : va_P (dC, dI) vwCl (XW cy x0 x v21 f22) H := hP
          have hD : va_D A (XW cy x0 x v21 f22) := hD
          have hq0_v21 : v21 0 = (v 0) := hk0_v21
          have hq1_v21 : v21 1 = (v 1) := hk1_v21
          have hq9_v21 : v21 9 = (v 9) := hk9_v21
          have hq10_v21 : v21 10 = (v 10) := hk10_v21
          have hq31_v21 : v21 31 = (v 31) := hk31_v21
          have hq32_v21 : v21 32 = (v 32) := hk32_v21
          refine lv_aload_n hx hb dX6_unit_142 rfl (lv_at hl 2 rfl) ?_
          refine lv_iconst (v := 0) hx hb dX6_unit_143 (by decide) ?_
          refine lv_iload_n hx hb dX6_unit_144 rfl (lv_at hl 3 rfl) ?_
          refine lv_iconst (v := 1) hx hb dX6_unit_145 (by decide) ?_
          refine lv_iadd hx hb dX6_unit_146 ?_
          refine tI (y := 7) (by decide) ?_
          refine csVi (n := 2) (rest := []) hx hb hml hown hts hE hP hD hS hA hF hT (sX_X6_expression_43 l dC dI cy x0 x  v21 f22 hIv21 ) k_740 k_742 k_15 k_103 k_743 (by decide +kernel) ⟨Nat.le_of_ble_eq_true rfl, Nat.le_of_ble_eq_true rfl⟩ 3 6 rfl rfl (rfl) hl.1 rfl (Nat.le_of_ble_eq_true rfl) dX6_unit_147 (fun r23 u H locs hw hP hD hS => ?_)
          obtain ⟨v24, f25⟩ := u
          obtain ⟨hIv24, hk0_v24, hk1_v24, hk9_v24, hk10_v24, hk31_v24, hk32_v24, hw⟩ := hw
          have hP : va_P (dC, dI) vwCl (XW cy x0 x v24 f25) H := hP
          have hD : va_D A (XW cy x0 x v24 f25) := hD
          have hq0_v24 : v24 0 = (v 0) := hk0_v24.trans hq0_v21
          have hq1_v24 : v24 1 = (v 1) := hk1_v24.trans hq1_v21
          have hq9_v24 : v24 9 = (v 9) := hk9_v24.trans hq9_v21
          have hq10_v24 : v24 10 = (v 10) := hk10_v24.trans hq10_v21
          have hq31_v24 : v24 31 = (v 31) := hk31_v24.trans hq31_v21
          have hq32_v24 : v24 32 = (v 32) := hk32_v24.trans hq32_v21
          rcases hw with ⟨g26⟩ | ⟨g26⟩
          · skip
            subst g26
            refine lv_if_eq (tgt := 166) hx hb dX6_unit_150 (by decide) (fun c0 => absurd c0 (by decide)) (fun _ => ?_)
            refine lv_aload_n hx hb dX6_unit_153 rfl (lv_at hl 2 rfl) ?_
            refine lv_bipush (v := 41) hx hb dX6_unit_154 (by decide) ?_
            refine csVi (n := 1) (rest := []) hx hb hml hown hts hE hP hD hS hA hF hT (sX_X6_taken_1 l dC dI cy x0 x 41 v24 f25 hIv24 ) k_724 k_726 k_12 k_103 k_727 (by decide +kernel) ⟨Nat.le_of_ble_eq_true rfl, Nat.le_of_ble_eq_true rfl⟩ 3 6 rfl rfl (rfl) hl.1 rfl (Nat.le_of_ble_eq_true rfl) dX6_unit_156 (fun r27 u H locs hw hP hD hS => ?_)
            obtain ⟨v28, f29⟩ := u
            obtain ⟨hIv28, hk0_v28, hk1_v28, hk9_v28, hk10_v28, hk31_v28, hk32_v28, hw⟩ := hw
            have hP : va_P (dC, dI) vwCl (XW cy x0 x v28 f29) H := hP
            have hD : va_D A (XW cy x0 x v28 f29) := hD
            have hq0_v28 : v28 0 = (v 0) := hk0_v28.trans hq0_v24
            have hq1_v28 : v28 1 = (v 1) := hk1_v28.trans hq1_v24
            have hq9_v28 : v28 9 = (v 9) := hk9_v28.trans hq9_v24
            have hq10_v28 : v28 10 = (v 10) := hk10_v28.trans hq10_v24
            have hq31_v28 : v28 31 = (v 31) := hk31_v28.trans hq31_v24
            have hq32_v28 : v28 32 = (v 32) := hk32_v28.trans hq32_v24
            rcases hw with ⟨g30⟩ | ⟨g30⟩
            · skip
              subst g30
              refine lv_if_eq (tgt := 166) hx hb dX6_unit_159 (by decide) (fun c0 => absurd c0 (by decide)) (fun _ => ?_)
              refine lv_iconst (v := 1) hx hb dX6_unit_162 (by decide) ?_
              refine lv_goto (tgt := 167) hx hb dX6_unit_163 (by decide) ?_
              exact ret 1 (v28, f29) _ _ _ _ _ _ rfl ⟨hIv28, (hk0_v28.trans (hk0_v24.trans hk0_v21)), (hk1_v28.trans (hk1_v24.trans hk1_v21)), (hk9_v28.trans (hk9_v24.trans hk9_v21)), (hk10_v28.trans (hk10_v24.trans hk10_v21)), (hk31_v28.trans (hk31_v24.trans hk31_v21)), (hk32_v28.trans (hk32_v24.trans hk32_v21)), (Or.inl rfl)⟩ hP hD hS dX6_unit_167 (Nat.le_refl _) (Nat.le_refl _)
            · skip
              subst g30
              refine lv_if_eq (tgt := 166) hx hb dX6_unit_159 (by decide) (fun _ => ?_) (fun c0 => absurd (by decide) c0)
              refine lv_iconst (v := 0) hx hb dX6_unit_166 (by decide) ?_
              exact ret 0 (v28, f29) _ _ _ _ _ _ rfl ⟨hIv28, (hk0_v28.trans (hk0_v24.trans hk0_v21)), (hk1_v28.trans (hk1_v24.trans hk1_v21)), (hk9_v28.trans (hk9_v24.trans hk9_v21)), (hk10_v28.trans (hk10_v24.trans hk10_v21)), (hk31_v28.trans (hk31_v24.trans hk31_v21)), (hk32_v28.trans (hk32_v24.trans hk32_v21)), (Or.inr rfl)⟩ hP hD hS dX6_unit_167 (Nat.le_refl _) (Nat.le_refl _)
          · skip
            subst g26
            refine lv_if_eq (tgt := 166) hx hb dX6_unit_150 (by decide) (fun _ => ?_) (fun c0 => absurd (by decide) c0)
            refine lv_iconst (v := 0) hx hb dX6_unit_166 (by decide) ?_
            exact ret 0 (v24, f25) _ _ _ _ _ _ rfl ⟨hIv24, (hk0_v24.trans hk0_v21), (hk1_v24.trans hk1_v21), (hk9_v24.trans hk9_v21), (hk10_v24.trans hk10_v21), (hk31_v24.trans hk31_v21), (hk32_v24.trans hk32_v21), (Or.inr rfl)⟩ hP hD hS dX6_unit_167 (Nat.le_refl _) (Nat.le_refl _)
        · skip
          have zc18 : ¬ ((v 17).toInt < 30) := by rw [fa_lt, show (30 : Int32).toInt = 30 from by decide] at c18; exact c18
          refine lv_aload_n hx hb dX6_unit_56 rfl (lv_at hl 2 rfl) ?_
          refine cbVi (n := 0) (rest := []) hx hb hml hown hts hE hP hD hS hA (sX_X6_refuse_1 l dC dI cy x0 x  v f hIv ) k_691 k_693 k_6 k_103 k_694 (by decide +kernel) ⟨Nat.le_of_ble_eq_true rfl, Nat.le_of_ble_eq_true rfl⟩ 3 6 rfl rfl (rfl) hl.1 rfl (Nat.le_of_ble_eq_true rfl) dX6_unit_57 (fun r31 u H locs hw hP hD hS => ?_)
          obtain ⟨v32, f33⟩ := u
          obtain ⟨hIv32, hk0_v32, hk1_v32, hk9_v32, hk10_v32, hk31_v32, hk32_v32, hw⟩ := hw
          have hP : va_P (dC, dI) vwCl (XW cy x0 x v32 f33) H := hP
          have hD : va_D A (XW cy x0 x v32 f33) := hD
          have hq0_v32 : v32 0 = (v 0) := hk0_v32
          have hq1_v32 : v32 1 = (v 1) := hk1_v32
          have hq9_v32 : v32 9 = (v 9) := hk9_v32
          have hq10_v32 : v32 10 = (v 10) := hk10_v32
          have hq31_v32 : v32 31 = (v 31) := hk31_v32
          have hq32_v32 : v32 32 = (v 32) := hk32_v32
          rcases hw with ⟨g34⟩ | ⟨g34⟩
          · skip
            subst g34
            exact ret 1 (v32, f33) _ _ _ _ _ _ rfl ⟨hIv32, hk0_v32, hk1_v32, hk9_v32, hk10_v32, hk31_v32, hk32_v32, (Or.inl rfl)⟩ hP hD hS dX6_unit_60 (Nat.le_refl _) (Nat.le_refl _)
          · skip
            subst g34
            exact ret 0 (v32, f33) _ _ _ _ _ _ rfl ⟨hIv32, hk0_v32, hk1_v32, hk9_v32, hk10_v32, hk31_v32, hk32_v32, (Or.inr rfl)⟩ hP hD hS dX6_unit_60 (Nat.le_refl _) (Nat.le_refl _)
    · skip
      have zc12 : ¬ ((v 2).toInt < 116) := by rw [fa_lt, show (116 : Int32).toInt = 116 from by decide] at c12; exact c12
      refine lv_iload_n hx hb dX6_unit_19 rfl (lv_at hl 0 rfl) ?_
      refine lv_bipush (v := 121) hx hb dX6_unit_20 (by decide) ?_
      refine lv_icmp_gt (tgt := 29) hx hb dX6_unit_22 (by decide) (fun c35 => ?_) (fun c35 => ?_)
      · skip
        have zc35 : 121 < (v 2).toInt := by rw [fa_lt, show (121 : Int32).toInt = 121 from by decide] at c35; exact c35
        refine lv_iconst (v := 0) hx hb dX6_unit_29 (by decide) ?_
        refine lv_istore_n (lv' := [(3, .int 0), (2, .int (v 2)), (0, .ref (x 2)), (1, .int 6)]) hx hb dX6_unit_30 rfl hl (by decide) rfl (fun ls hl => ?_)
        refine lv_iload_n hx hb dX6_unit_31 rfl (lv_at hl 0 rfl) ?_
        refine lv_if_ne (tgt := 41) hx hb dX6_unit_32 (by decide) (fun c0 => absurd (by decide) c0) (fun _ => ?_)
        refine lv_iload_n hx hb dX6_unit_35 rfl (lv_at hl 1 rfl) ?_
        refine lv_bipush (v := 40) hx hb dX6_unit_36 (by decide) ?_
        refine lv_icmp_ne (tgt := 56) hx hb dX6_unit_38 (by decide) (fun c36 => ?_) (fun c36 => ?_)
        · skip
          have zc36 : ¬ ((v 2).toInt = 40) := by rw [fa_eq, show (40 : Int32).toInt = 40 from by decide] at c36; exact c36
          refine lv_aload_n hx hb dX6_unit_56 rfl (lv_at hl 2 rfl) ?_
          refine cbVi (n := 0) (rest := []) hx hb hml hown hts hE hP hD hS hA (sX_X6_refuse_1 l dC dI cy x0 x  v f hIv ) k_691 k_693 k_6 k_103 k_694 (by decide +kernel) ⟨Nat.le_of_ble_eq_true rfl, Nat.le_of_ble_eq_true rfl⟩ 3 6 rfl rfl (rfl) hl.1 rfl (Nat.le_of_ble_eq_true rfl) dX6_unit_57 (fun r37 u H locs hw hP hD hS => ?_)
          obtain ⟨v38, f39⟩ := u
          obtain ⟨hIv38, hk0_v38, hk1_v38, hk9_v38, hk10_v38, hk31_v38, hk32_v38, hw⟩ := hw
          have hP : va_P (dC, dI) vwCl (XW cy x0 x v38 f39) H := hP
          have hD : va_D A (XW cy x0 x v38 f39) := hD
          have hq0_v38 : v38 0 = (v 0) := hk0_v38
          have hq1_v38 : v38 1 = (v 1) := hk1_v38
          have hq9_v38 : v38 9 = (v 9) := hk9_v38
          have hq10_v38 : v38 10 = (v 10) := hk10_v38
          have hq31_v38 : v38 31 = (v 31) := hk31_v38
          have hq32_v38 : v38 32 = (v 32) := hk32_v38
          rcases hw with ⟨g40⟩ | ⟨g40⟩
          · skip
            subst g40
            exact ret 1 (v38, f39) _ _ _ _ _ _ rfl ⟨hIv38, hk0_v38, hk1_v38, hk9_v38, hk10_v38, hk31_v38, hk32_v38, (Or.inl rfl)⟩ hP hD hS dX6_unit_60 (Nat.le_refl _) (Nat.le_refl _)
          · skip
            subst g40
            exact ret 0 (v38, f39) _ _ _ _ _ _ rfl ⟨hIv38, hk0_v38, hk1_v38, hk9_v38, hk10_v38, hk31_v38, hk32_v38, (Or.inr rfl)⟩ hP hD hS dX6_unit_60 (Nat.le_refl _) (Nat.le_refl _)
        · skip
          have zc36 : (v 2).toInt = 40 := by rw [fa_eq, show (40 : Int32).toInt = 40 from by decide] at c36; exact c36
          refine lv_aload_n hx hb dX6_unit_41 rfl (lv_at hl 2 rfl) ?_
          refine va_get (D := (dC, dI)) (ci := 6) (v := .ref (x 3)) (C := RX6) (T := TX6) (N := 7) hx hb hts inB_6 hown hE.1 hP 3 rfl rfl 1 (by decide) (hts _ k_266) (fun _ h9 => h9) rfl dX6_unit_42 ?_
          refine va_getN (D := (dC, dI)) (ci := 7) (v := .ref (x 6)) (C := RX7) (T := TX7) (N := 10) hx hb hts inB_7 hown hE.1 hP 4 rfl rfl 2 (by decide) (va_Nw.use rfl (hE.2 _ k_210)) (fun _ h9 => h9) rfl dX6_unit_45 ?_
          refine va_getN (D := (dC, dI)) (ci := 4) (v := .int (v 17)) (C := RX4) (T := TX4) (N := 6) hx hb hts inB_4 hown hE.1 hP 7 rfl rfl 5 (by decide) (va_Nw.use rfl (hE.2 _ k_184)) (fun _ h9 => h9) rfl dX6_unit_48 ?_
          refine lv_bipush (v := 30) hx hb dX6_unit_51 (by decide) ?_
          refine lv_icmp_lt (tgt := 61) hx hb dX6_unit_53 (by decide) (fun c41 => ?_) (fun c41 => ?_)
          · skip
            have zc41 : (v 17).toInt < 30 := by rw [fa_lt, show (30 : Int32).toInt = 30 from by decide] at c41; exact c41
            refine lv_iload_n hx hb dX6_unit_61 rfl (lv_at hl 0 rfl) ?_
            refine lv_if_eq (tgt := 108) hx hb dX6_unit_62 (by decide) (fun _ => ?_) (fun c0 => absurd (by decide) c0)
            refine lv_iload_n hx hb dX6_unit_108 rfl (lv_at hl 3 rfl) ?_
            refine lv_bipush (v := 7) hx hb dX6_unit_109 (by decide) ?_
            refine lv_icmp_lt (tgt := 119) hx hb dX6_unit_111 (by decide) (fun _ => ?_) (fun c0 => absurd (by decide) c0)
            refine lv_aload_n hx hb dX6_unit_119 rfl (lv_at hl 2 rfl) ?_
            refine va_get (D := (dC, dI)) (ci := 6) (v := .ref (x 3)) (C := RX6) (T := TX6) (N := 7) hx hb hts inB_6 hown hE.1 hP 3 rfl rfl 1 (by decide) (hts _ k_266) (fun _ h9 => h9) rfl dX6_unit_120 ?_
            refine va_getN (D := (dC, dI)) (ci := 7) (v := .ref (x 6)) (C := RX7) (T := TX7) (N := 10) hx hb hts inB_7 hown hE.1 hP 4 rfl rfl 2 (by decide) (va_Nw.use rfl (hE.2 _ k_210)) (fun _ h9 => h9) rfl dX6_unit_123 ?_
            refine lv_dup hx hb dX6_unit_126 rfl ?_
            refine va_getN (D := (dC, dI)) (ci := 4) (v := .int (v 17)) (C := RX4) (T := TX4) (N := 6) hx hb hts inB_4 hown hE.1 hP 7 rfl rfl 5 (by decide) (va_Nw.use rfl (hE.2 _ k_184)) (fun _ h9 => h9) rfl dX6_unit_127 ?_
            refine lv_iconst (v := 1) hx hb dX6_unit_130 (by decide) ?_
            refine lv_iadd hx hb dX6_unit_131 ?_
            refine lv_topi (fun t42 et42 => ?_)
            have rg43 := fb_rng (v 17)
            have zt42 : t42.toInt = (v 17).toInt + 1 := by rw [et42]; exact add_i rfl (by decide) (by omega) (by omega)
            refine va_putN (D := (dC, dI)) (ci := 4) (v := .int t42) (ty := tyX4 5) (C := RX4) (T := TX4) (N := 6) hx hb hts inB_4 tyX4 tyX4_ok nmX4 hown hE.1 hP hD hS 7 rfl rfl 5 (by decide) (va_Nw.use rfl (hE.2 _ k_184)) (fun _ h9 => h9) rfl (tyX4_ok 5 (by decide)) rfl rfl (Nat.le_of_ble_eq_true rfl) dX6_unit_132 (fun H locs hP hD hS => ?_)
            have hP : va_P (dC, dI) vwCl (XW cy x0 x (upd v 17 t42) f) H := hP
            have hD : va_D A (XW cy x0 x (upd v 17 t42) f) := hD
            refine lv_aload_n hx hb dX6_unit_135 rfl (lv_at hl 2 rfl) ?_
            refine va_get (D := (dC, dI)) (ci := 6) (v := .ref (x 0)) (C := RX6) (T := TX6) (N := 7) hx hb hts inB_6 hown hE.1 hP 3 rfl rfl 0 (by decide) (hts _ k_265) (fun _ h9 => h9) rfl dX6_unit_136 ?_
            refine csVv (n := 0) (rest := []) hx hb hml hown hts hE hP hD hS hA hF hT (sX_X9_advance_1 l dC dI cy x0 x  (upd v 17 t42) f (XI.upd (j := 17) (x := t42) hIv (rlo _) (rhi _)) ) k_699 k_559 k_560 k_102 k_561 (by decide +kernel) ⟨Nat.le_of_ble_eq_true rfl, Nat.le_of_ble_eq_true rfl⟩ 1 9 rfl rfl (rfl) hl.1 rfl (Nat.le_of_ble_eq_true rfl) dX6_unit_139 (fun u H locs hw hP hD hS => ?_)
            obtain ⟨v44, f45⟩ := u
            obtain ⟨hIv44, hk0_v44, hk1_v44, hk9_v44, hk10_v44, hk31_v44, hk32_v44⟩ := hw
            have hP : va_P (dC, dI) vwCl (XW cy x0 x v44 f45) H := hP
            have hD : va_D A (XW cy x0 x v44 f45) := hD
            have hq0_v44 : v44 0 = (v 0) := hk0_v44
            have hq1_v44 : v44 1 = (v 1) := hk1_v44
            have hq9_v44 : v44 9 = (v 9) := hk9_v44
            have hq10_v44 : v44 10 = (v 10) := hk10_v44
            have hq31_v44 : v44 31 = (v 31) := hk31_v44
            have hq32_v44 : v44 32 = (v 32) := hk32_v44
            refine lv_aload_n hx hb dX6_unit_142 rfl (lv_at hl 2 rfl) ?_
            refine lv_iconst (v := 0) hx hb dX6_unit_143 (by decide) ?_
            refine lv_iload_n hx hb dX6_unit_144 rfl (lv_at hl 3 rfl) ?_
            refine lv_iconst (v := 1) hx hb dX6_unit_145 (by decide) ?_
            refine lv_iadd hx hb dX6_unit_146 ?_
            refine tI (y := 7) (by decide) ?_
            refine csVi (n := 2) (rest := []) hx hb hml hown hts hE hP hD hS hA hF hT (sX_X6_expression_43 l dC dI cy x0 x  v44 f45 hIv44 ) k_740 k_742 k_15 k_103 k_743 (by decide +kernel) ⟨Nat.le_of_ble_eq_true rfl, Nat.le_of_ble_eq_true rfl⟩ 3 6 rfl rfl (rfl) hl.1 rfl (Nat.le_of_ble_eq_true rfl) dX6_unit_147 (fun r46 u H locs hw hP hD hS => ?_)
            obtain ⟨v47, f48⟩ := u
            obtain ⟨hIv47, hk0_v47, hk1_v47, hk9_v47, hk10_v47, hk31_v47, hk32_v47, hw⟩ := hw
            have hP : va_P (dC, dI) vwCl (XW cy x0 x v47 f48) H := hP
            have hD : va_D A (XW cy x0 x v47 f48) := hD
            have hq0_v47 : v47 0 = (v 0) := hk0_v47.trans hq0_v44
            have hq1_v47 : v47 1 = (v 1) := hk1_v47.trans hq1_v44
            have hq9_v47 : v47 9 = (v 9) := hk9_v47.trans hq9_v44
            have hq10_v47 : v47 10 = (v 10) := hk10_v47.trans hq10_v44
            have hq31_v47 : v47 31 = (v 31) := hk31_v47.trans hq31_v44
            have hq32_v47 : v47 32 = (v 32) := hk32_v47.trans hq32_v44
            rcases hw with ⟨g49⟩ | ⟨g49⟩
            · skip
              subst g49
              refine lv_if_eq (tgt := 166) hx hb dX6_unit_150 (by decide) (fun c0 => absurd c0 (by decide)) (fun _ => ?_)
              refine lv_aload_n hx hb dX6_unit_153 rfl (lv_at hl 2 rfl) ?_
              refine lv_bipush (v := 41) hx hb dX6_unit_154 (by decide) ?_
              refine csVi (n := 1) (rest := []) hx hb hml hown hts hE hP hD hS hA hF hT (sX_X6_taken_1 l dC dI cy x0 x 41 v47 f48 hIv47 ) k_724 k_726 k_12 k_103 k_727 (by decide +kernel) ⟨Nat.le_of_ble_eq_true rfl, Nat.le_of_ble_eq_true rfl⟩ 3 6 rfl rfl (rfl) hl.1 rfl (Nat.le_of_ble_eq_true rfl) dX6_unit_156 (fun r50 u H locs hw hP hD hS => ?_)
              obtain ⟨v51, f52⟩ := u
              obtain ⟨hIv51, hk0_v51, hk1_v51, hk9_v51, hk10_v51, hk31_v51, hk32_v51, hw⟩ := hw
              have hP : va_P (dC, dI) vwCl (XW cy x0 x v51 f52) H := hP
              have hD : va_D A (XW cy x0 x v51 f52) := hD
              have hq0_v51 : v51 0 = (v 0) := hk0_v51.trans hq0_v47
              have hq1_v51 : v51 1 = (v 1) := hk1_v51.trans hq1_v47
              have hq9_v51 : v51 9 = (v 9) := hk9_v51.trans hq9_v47
              have hq10_v51 : v51 10 = (v 10) := hk10_v51.trans hq10_v47
              have hq31_v51 : v51 31 = (v 31) := hk31_v51.trans hq31_v47
              have hq32_v51 : v51 32 = (v 32) := hk32_v51.trans hq32_v47
              rcases hw with ⟨g53⟩ | ⟨g53⟩
              · skip
                subst g53
                refine lv_if_eq (tgt := 166) hx hb dX6_unit_159 (by decide) (fun c0 => absurd c0 (by decide)) (fun _ => ?_)
                refine lv_iconst (v := 1) hx hb dX6_unit_162 (by decide) ?_
                refine lv_goto (tgt := 167) hx hb dX6_unit_163 (by decide) ?_
                exact ret 1 (v51, f52) _ _ _ _ _ _ rfl ⟨hIv51, (hk0_v51.trans (hk0_v47.trans hk0_v44)), (hk1_v51.trans (hk1_v47.trans hk1_v44)), (hk9_v51.trans (hk9_v47.trans hk9_v44)), (hk10_v51.trans (hk10_v47.trans hk10_v44)), (hk31_v51.trans (hk31_v47.trans hk31_v44)), (hk32_v51.trans (hk32_v47.trans hk32_v44)), (Or.inl rfl)⟩ hP hD hS dX6_unit_167 (Nat.le_refl _) (Nat.le_refl _)
              · skip
                subst g53
                refine lv_if_eq (tgt := 166) hx hb dX6_unit_159 (by decide) (fun _ => ?_) (fun c0 => absurd (by decide) c0)
                refine lv_iconst (v := 0) hx hb dX6_unit_166 (by decide) ?_
                exact ret 0 (v51, f52) _ _ _ _ _ _ rfl ⟨hIv51, (hk0_v51.trans (hk0_v47.trans hk0_v44)), (hk1_v51.trans (hk1_v47.trans hk1_v44)), (hk9_v51.trans (hk9_v47.trans hk9_v44)), (hk10_v51.trans (hk10_v47.trans hk10_v44)), (hk31_v51.trans (hk31_v47.trans hk31_v44)), (hk32_v51.trans (hk32_v47.trans hk32_v44)), (Or.inr rfl)⟩ hP hD hS dX6_unit_167 (Nat.le_refl _) (Nat.le_refl _)
            · skip
              subst g49
              refine lv_if_eq (tgt := 166) hx hb dX6_unit_150 (by decide) (fun _ => ?_) (fun c0 => absurd (by decide) c0)
              refine lv_iconst (v := 0) hx hb dX6_unit_166 (by decide) ?_
              exact ret 0 (v47, f48) _ _ _ _ _ _ rfl ⟨hIv47, (hk0_v47.trans hk0_v44), (hk1_v47.trans hk1_v44), (hk9_v47.trans hk9_v44), (hk10_v47.trans hk10_v44), (hk31_v47.trans hk31_v44), (hk32_v47.trans hk32_v44), (Or.inr rfl)⟩ hP hD hS dX6_unit_167 (Nat.le_refl _) (Nat.le_refl _)
          · skip
            have zc41 : ¬ ((v 17).toInt < 30) := by rw [fa_lt, show (30 : Int32).toInt = 30 from by decide] at c41; exact c41
            refine lv_aload_n hx hb dX6_unit_56 rfl (lv_at hl 2 rfl) ?_
            refine cbVi (n := 0) (rest := []) hx hb hml hown hts hE hP hD hS hA (sX_X6_refuse_1 l dC dI cy x0 x  v f hIv ) k_691 k_693 k_6 k_103 k_694 (by decide +kernel) ⟨Nat.le_of_ble_eq_true rfl, Nat.le_of_ble_eq_true rfl⟩ 3 6 rfl rfl (rfl) hl.1 rfl (Nat.le_of_ble_eq_true rfl) dX6_unit_57 (fun r54 u H locs hw hP hD hS => ?_)
            obtain ⟨v55, f56⟩ := u
            obtain ⟨hIv55, hk0_v55, hk1_v55, hk9_v55, hk10_v55, hk31_v55, hk32_v55, hw⟩ := hw
            have hP : va_P (dC, dI) vwCl (XW cy x0 x v55 f56) H := hP
            have hD : va_D A (XW cy x0 x v55 f56) := hD
            have hq0_v55 : v55 0 = (v 0) := hk0_v55
            have hq1_v55 : v55 1 = (v 1) := hk1_v55
            have hq9_v55 : v55 9 = (v 9) := hk9_v55
            have hq10_v55 : v55 10 = (v 10) := hk10_v55
            have hq31_v55 : v55 31 = (v 31) := hk31_v55
            have hq32_v55 : v55 32 = (v 32) := hk32_v55
            rcases hw with ⟨g57⟩ | ⟨g57⟩
            · skip
              subst g57
              exact ret 1 (v55, f56) _ _ _ _ _ _ rfl ⟨hIv55, hk0_v55, hk1_v55, hk9_v55, hk10_v55, hk31_v55, hk32_v55, (Or.inl rfl)⟩ hP hD hS dX6_unit_60 (Nat.le_refl _) (Nat.le_refl _)
            · skip
              subst g57
              exact ret 0 (v55, f56) _ _ _ _ _ _ rfl ⟨hIv55, hk0_v55, hk1_v55, hk9_v55, hk10_v55, hk31_v55, hk32_v55, (Or.inr rfl)⟩ hP hD hS dX6_unit_60 (Nat.le_refl _) (Nat.le_refl _)
      · skip
        have zc35 : ¬ (121 < (v 2).toInt) := by rw [fa_lt, show (121 : Int32).toInt = 121 from by decide] at c35; exact c35
        refine lv_iconst (v := 1) hx hb dX6_unit_25 (by decide) ?_
        refine lv_goto (tgt := 30) hx hb dX6_unit_26 (by decide) ?_
        refine lv_istore_n (lv' := [(3, .int 1), (2, .int (v 2)), (0, .ref (x 2)), (1, .int 6)]) hx hb dX6_unit_30 rfl hl (by decide) rfl (fun ls hl => ?_)
        refine lv_iload_n hx hb dX6_unit_31 rfl (lv_at hl 0 rfl) ?_
        refine lv_if_ne (tgt := 41) hx hb dX6_unit_32 (by decide) (fun _ => ?_) (fun c0 => absurd c0 (by decide))
        refine lv_aload_n hx hb dX6_unit_41 rfl (lv_at hl 2 rfl) ?_
        refine va_get (D := (dC, dI)) (ci := 6) (v := .ref (x 3)) (C := RX6) (T := TX6) (N := 7) hx hb hts inB_6 hown hE.1 hP 3 rfl rfl 1 (by decide) (hts _ k_266) (fun _ h9 => h9) rfl dX6_unit_42 ?_
        refine va_getN (D := (dC, dI)) (ci := 7) (v := .ref (x 6)) (C := RX7) (T := TX7) (N := 10) hx hb hts inB_7 hown hE.1 hP 4 rfl rfl 2 (by decide) (va_Nw.use rfl (hE.2 _ k_210)) (fun _ h9 => h9) rfl dX6_unit_45 ?_
        refine va_getN (D := (dC, dI)) (ci := 4) (v := .int (v 17)) (C := RX4) (T := TX4) (N := 6) hx hb hts inB_4 hown hE.1 hP 7 rfl rfl 5 (by decide) (va_Nw.use rfl (hE.2 _ k_184)) (fun _ h9 => h9) rfl dX6_unit_48 ?_
        refine lv_bipush (v := 30) hx hb dX6_unit_51 (by decide) ?_
        refine lv_icmp_lt (tgt := 61) hx hb dX6_unit_53 (by decide) (fun c58 => ?_) (fun c58 => ?_)
        · skip
          have zc58 : (v 17).toInt < 30 := by rw [fa_lt, show (30 : Int32).toInt = 30 from by decide] at c58; exact c58
          refine lv_iload_n hx hb dX6_unit_61 rfl (lv_at hl 0 rfl) ?_
          refine lv_if_eq (tgt := 108) hx hb dX6_unit_62 (by decide) (fun c0 => absurd c0 (by decide)) (fun _ => ?_)
          refine lv_aload_n hx hb dX6_unit_65 rfl (lv_at hl 2 rfl) ?_
          refine va_get (D := (dC, dI)) (ci := 6) (v := .ref (x 3)) (C := RX6) (T := TX6) (N := 7) hx hb hts inB_6 hown hE.1 hP 3 rfl rfl 1 (by decide) (hts _ k_266) (fun _ h9 => h9) rfl dX6_unit_66 ?_
          refine va_getN (D := (dC, dI)) (ci := 7) (v := .ref (x 6)) (C := RX7) (T := TX7) (N := 10) hx hb hts inB_7 hown hE.1 hP 4 rfl rfl 2 (by decide) (va_Nw.use rfl (hE.2 _ k_210)) (fun _ h9 => h9) rfl dX6_unit_69 ?_
          refine lv_iload_n hx hb dX6_unit_72 rfl (lv_at hl 1 rfl) ?_
          refine lv_aload_n hx hb dX6_unit_73 rfl (lv_at hl 2 rfl) ?_
          refine va_get (D := (dC, dI)) (ci := 6) (v := .ref (x 0)) (C := RX6) (T := TX6) (N := 7) hx hb hts inB_6 hown hE.1 hP 3 rfl rfl 0 (by decide) (hts _ k_265) (fun _ h9 => h9) rfl dX6_unit_74 ?_
          refine va_getN (D := (dC, dI)) (ci := 9) (v := .int (v 5)) (C := RX9) (T := TX9) (N := 6) hx hb hts inB_9 hown hE.1 hP 1 rfl rfl 5 (by decide) (va_Nw.use rfl (hE.2 _ k_145)) (fun _ h9 => h9) rfl dX6_unit_77 ?_
          refine cbVv (n := 2) (rest := []) hx hb hml hown hts hE hP hD hS hA (sX_X4_add_1 l dC dI cy x0 x (v 2) (v 5) v f hIv ) k_748 k_749 k_750 k_105 k_751 (by decide +kernel) ⟨Nat.le_of_ble_eq_true rfl, Nat.le_of_ble_eq_true rfl⟩ 7 4 rfl rfl (rfl) hl.1 rfl (Nat.le_of_ble_eq_true rfl) dX6_unit_80 (fun u H locs hw hP hD hS => ?_)
          obtain ⟨v59, f60⟩ := u
          obtain ⟨hIv59, hk0_v59, hk1_v59, hk9_v59, hk10_v59, hk31_v59, hk32_v59⟩ := hw
          have hP : va_P (dC, dI) vwCl (XW cy x0 x v59 f60) H := hP
          have hD : va_D A (XW cy x0 x v59 f60) := hD
          have hq0_v59 : v59 0 = (v 0) := hk0_v59
          have hq1_v59 : v59 1 = (v 1) := hk1_v59
          have hq9_v59 : v59 9 = (v 9) := hk9_v59
          have hq10_v59 : v59 10 = (v 10) := hk10_v59
          have hq31_v59 : v59 31 = (v 31) := hk31_v59
          have hq32_v59 : v59 32 = (v 32) := hk32_v59
          refine lv_aload_n hx hb dX6_unit_83 rfl (lv_at hl 2 rfl) ?_
          refine va_get (D := (dC, dI)) (ci := 6) (v := .ref (x 3)) (C := RX6) (T := TX6) (N := 7) hx hb hts inB_6 hown hE.1 hP 3 rfl rfl 1 (by decide) (hts _ k_266) (fun _ h9 => h9) rfl dX6_unit_84 ?_
          refine va_getN (D := (dC, dI)) (ci := 7) (v := .ref (x 6)) (C := RX7) (T := TX7) (N := 10) hx hb hts inB_7 hown hE.1 hP 4 rfl rfl 2 (by decide) (va_Nw.use rfl (hE.2 _ k_210)) (fun _ h9 => h9) rfl dX6_unit_87 ?_
          refine lv_dup hx hb dX6_unit_90 rfl ?_
          refine va_getN (D := (dC, dI)) (ci := 4) (v := .int (v59 17)) (C := RX4) (T := TX4) (N := 6) hx hb hts inB_4 hown hE.1 hP 7 rfl rfl 5 (by decide) (va_Nw.use rfl (hE.2 _ k_184)) (fun _ h9 => h9) rfl dX6_unit_91 ?_
          refine lv_iconst (v := 1) hx hb dX6_unit_94 (by decide) ?_
          refine lv_iadd hx hb dX6_unit_95 ?_
          refine lv_topi (fun t61 et61 => ?_)
          refine va_putN (D := (dC, dI)) (ci := 4) (v := .int t61) (ty := tyX4 5) (C := RX4) (T := TX4) (N := 6) hx hb hts inB_4 tyX4 tyX4_ok nmX4 hown hE.1 hP hD hS 7 rfl rfl 5 (by decide) (va_Nw.use rfl (hE.2 _ k_184)) (fun _ h9 => h9) rfl (tyX4_ok 5 (by decide)) rfl rfl (Nat.le_of_ble_eq_true rfl) dX6_unit_96 (fun H locs hP hD hS => ?_)
          have hP : va_P (dC, dI) vwCl (XW cy x0 x (upd v59 17 t61) f60) H := hP
          have hD : va_D A (XW cy x0 x (upd v59 17 t61) f60) := hD
          refine lv_aload_n hx hb dX6_unit_99 rfl (lv_at hl 2 rfl) ?_
          refine va_get (D := (dC, dI)) (ci := 6) (v := .ref (x 0)) (C := RX6) (T := TX6) (N := 7) hx hb hts inB_6 hown hE.1 hP 3 rfl rfl 0 (by decide) (hts _ k_265) (fun _ h9 => h9) rfl dX6_unit_100 ?_
          refine csVv (n := 0) (rest := []) hx hb hml hown hts hE hP hD hS hA hF hT (sX_X9_advance_1 l dC dI cy x0 x  (upd v59 17 t61) f60 (XI.upd (j := 17) (x := t61) hIv59 (rlo _) (rhi _)) ) k_699 k_559 k_560 k_102 k_561 (by decide +kernel) ⟨Nat.le_of_ble_eq_true rfl, Nat.le_of_ble_eq_true rfl⟩ 1 9 rfl rfl (rfl) hl.1 rfl (Nat.le_of_ble_eq_true rfl) dX6_unit_103 (fun u H locs hw hP hD hS => ?_)
          obtain ⟨v62, f63⟩ := u
          obtain ⟨hIv62, hk0_v62, hk1_v62, hk9_v62, hk10_v62, hk31_v62, hk32_v62⟩ := hw
          have hP : va_P (dC, dI) vwCl (XW cy x0 x v62 f63) H := hP
          have hD : va_D A (XW cy x0 x v62 f63) := hD
          have hq0_v62 : v62 0 = (v 0) := hk0_v62.trans hq0_v59
          have hq1_v62 : v62 1 = (v 1) := hk1_v62.trans hq1_v59
          have hq9_v62 : v62 9 = (v 9) := hk9_v62.trans hq9_v59
          have hq10_v62 : v62 10 = (v 10) := hk10_v62.trans hq10_v59
          have hq31_v62 : v62 31 = (v 31) := hk31_v62.trans hq31_v59
          have hq32_v62 : v62 32 = (v 32) := hk32_v62.trans hq32_v59
          refine lv_iconst (v := 1) hx hb dX6_unit_106 (by decide) ?_
          exact ret 1 (v62, f63) _ _ _ _ _ _ rfl ⟨hIv62, (hk0_v62.trans hk0_v59), (hk1_v62.trans hk1_v59), (hk9_v62.trans hk9_v59), (hk10_v62.trans hk10_v59), (hk31_v62.trans hk31_v59), (hk32_v62.trans hk32_v59), (Or.inl rfl)⟩ hP hD hS dX6_unit_107 (Nat.le_refl _) (Nat.le_refl _)
        · skip
          have zc58 : ¬ ((v 17).toInt < 30) := by rw [fa_lt, show (30 : Int32).toInt = 30 from by decide] at c58; exact c58
          refine lv_aload_n hx hb dX6_unit_56 rfl (lv_at hl 2 rfl) ?_
          refine cbVi (n := 0) (rest := []) hx hb hml hown hts hE hP hD hS hA (sX_X6_refuse_1 l dC dI cy x0 x  v f hIv ) k_691 k_693 k_6 k_103 k_694 (by decide +kernel) ⟨Nat.le_of_ble_eq_true rfl, Nat.le_of_ble_eq_true rfl⟩ 3 6 rfl rfl (rfl) hl.1 rfl (Nat.le_of_ble_eq_true rfl) dX6_unit_57 (fun r64 u H locs hw hP hD hS => ?_)
          obtain ⟨v65, f66⟩ := u
          obtain ⟨hIv65, hk0_v65, hk1_v65, hk9_v65, hk10_v65, hk31_v65, hk32_v65, hw⟩ := hw
          have hP : va_P (dC, dI) vwCl (XW cy x0 x v65 f66) H := hP
          have hD : va_D A (XW cy x0 x v65 f66) := hD
          have hq0_v65 : v65 0 = (v 0) := hk0_v65
          have hq1_v65 : v65 1 = (v 1) := hk1_v65
          have hq9_v65 : v65 9 = (v 9) := hk9_v65
          have hq10_v65 : v65 10 = (v 10) := hk10_v65
          have hq31_v65 : v65 31 = (v 31) := hk31_v65
          have hq32_v65 : v65 32 = (v 32) := hk32_v65
          rcases hw with ⟨g67⟩ | ⟨g67⟩
          · skip
            subst g67
            exact ret 1 (v65, f66) _ _ _ _ _ _ rfl ⟨hIv65, hk0_v65, hk1_v65, hk9_v65, hk10_v65, hk31_v65, hk32_v65, (Or.inl rfl)⟩ hP hD hS dX6_unit_60 (Nat.le_refl _) (Nat.le_refl _)
          · skip
            subst g67
            exact ret 0 (v65, f66) _ _ _ _ _ _ rfl ⟨hIv65, hk0_v65, hk1_v65, hk9_v65, hk10_v65, hk31_v65, hk32_v65, (Or.inr rfl)⟩ hP hD hS dX6_unit_60 (Nat.le_refl _) (Nat.le_refl _)
set_option maxHeartbeats 4000000 in
set_option maxRecDepth 100000 in
theorem sX_X6_expression_42 (l : Launch) (dC : Nat → ClassId) (dI : Nat → Nat → Nat) (cy : Nat → ClassId) (x0 : Nat) (x : Nat → Nat)  (v : Nat → Int32) (f : Nat → Nat → Int32) (hIv : XI v)  : ctIS l (dC, dI) cy yX6_expression cX6_expression 6 .boolean 15 387 0 0 ((Nat → Int32) × (Nat → Nat → Int32)) [.ref (x 2), .int 5, .int 6] (XW cy x0 x v f) (fun r u => XI u.1 ∧ u.1 0 = v 0 ∧ u.1 1 = v 1 ∧ u.1 9 = v 9 ∧ u.1 10 = v 10 ∧ u.1 31 = v 31 ∧ u.1 32 = v 32 ∧ ((r = 1) ∨ (r = 0))) (fun u => XW cy x0 x u.1 u.2) := by
  refine ctIS_of (by decide) (Nat.le_of_ble_eq_true rfl) (fun p e s m below meth c A ls Q hx hb hml hts hown hE hF hT hP hD hA hl ret => ?_)
  have hown : s.vm.findClass RX6 = some m.cls := hown
  have hS : va_S A s.heap s.heap [] := va_S.rf
  have hl : lv_has ls 6 [(0, .ref (x 2)), (1, .int 5), (2, .int 6)] := hl
  refine lv_iload_n hx hb dX6_expression_0 rfl (lv_at hl 1 rfl) ?_
  refine lv_iconst (v := 5) hx hb dX6_expression_1 (by decide) ?_
  refine lv_icmp_lt (tgt := 11) hx hb dX6_expression_2 (by decide) (fun c0 => absurd c0 (by decide)) (fun _ => ?_)
  refine lv_aload_n hx hb dX6_expression_5 rfl (lv_at hl 0 rfl) ?_
  refine lv_iload_n hx hb dX6_expression_6 rfl (lv_at hl 2 rfl) ?_
  refine csVi (n := 1) (rest := []) hx hb hml hown hts hE hP hD hS hA hF hT (sX_X6_unit_7 l dC dI cy x0 x  v f hIv ) k_744 k_746 k_16 k_103 k_747 (by decide +kernel) ⟨Nat.le_of_ble_eq_true rfl, Nat.le_of_ble_eq_true rfl⟩ 3 6 rfl rfl (rfl) hl.1 rfl (Nat.le_of_ble_eq_true rfl) dX6_expression_7 (fun r1 u H locs hw hP hD hS => ?_)
  obtain ⟨v2, f3⟩ := u
  obtain ⟨hIv2, hk0_v2, hk1_v2, hk9_v2, hk10_v2, hk31_v2, hk32_v2, hw⟩ := hw
  have hP : va_P (dC, dI) vwCl (XW cy x0 x v2 f3) H := hP
  have hD : va_D A (XW cy x0 x v2 f3) := hD
  have hq0_v2 : v2 0 = (v 0) := hk0_v2
  have hq1_v2 : v2 1 = (v 1) := hk1_v2
  have hq9_v2 : v2 9 = (v 9) := hk9_v2
  have hq10_v2 : v2 10 = (v 10) := hk10_v2
  have hq31_v2 : v2 31 = (v 31) := hk31_v2
  have hq32_v2 : v2 32 = (v 32) := hk32_v2
  rcases hw with ⟨g4⟩ | ⟨g4⟩
  · skip
    subst g4
    exact ret 1 (v2, f3) _ _ _ _ _ _ rfl ⟨hIv2, hk0_v2, hk1_v2, hk9_v2, hk10_v2, hk31_v2, hk32_v2, (Or.inl rfl)⟩ hP hD hS dX6_expression_10 (Nat.le_refl _) (Nat.le_refl _)
  · skip
    subst g4
    exact ret 0 (v2, f3) _ _ _ _ _ _ rfl ⟨hIv2, hk0_v2, hk1_v2, hk9_v2, hk10_v2, hk31_v2, hk32_v2, (Or.inr rfl)⟩ hP hD hS dX6_expression_10 (Nat.le_refl _) (Nat.le_refl _)
set_option maxHeartbeats 4000000 in
set_option maxRecDepth 100000 in
theorem sX_X6_expression_41 (l : Launch) (dC : Nat → ClassId) (dI : Nat → Nat → Nat) (cy : Nat → ClassId) (x0 : Nat) (x : Nat → Nat)  (v : Nat → Int32) (f : Nat → Nat → Int32) (hIv : XI v)  : ctIS l (dC, dI) cy yX6_expression cX6_expression 6 .boolean 16 412 0 0 ((Nat → Int32) × (Nat → Nat → Int32)) [.ref (x 2), .int 4, .int 6] (XW cy x0 x v f) (fun r u => XI u.1 ∧ u.1 0 = v 0 ∧ u.1 1 = v 1 ∧ u.1 9 = v 9 ∧ u.1 10 = v 10 ∧ u.1 31 = v 31 ∧ u.1 32 = v 32 ∧ ((r = 1) ∨ (r = 0))) (fun u => XW cy x0 x u.1 u.2) := by
  refine ctIS_of (by decide) (Nat.le_of_ble_eq_true rfl) (fun p e s m below meth c A ls Q hx hb hml hts hown hE hF hT hP hD hA hl ret => ?_)
  have hown : s.vm.findClass RX6 = some m.cls := hown
  have hS : va_S A s.heap s.heap [] := va_S.rf
  have hl : lv_has ls 6 [(0, .ref (x 2)), (1, .int 4), (2, .int 6)] := hl
  refine lv_iload_n hx hb dX6_expression_0 rfl (lv_at hl 1 rfl) ?_
  refine lv_iconst (v := 5) hx hb dX6_expression_1 (by decide) ?_
  refine lv_icmp_lt (tgt := 11) hx hb dX6_expression_2 (by decide) (fun _ => ?_) (fun c0 => absurd (by decide) c0)
  refine lv_iload_n hx hb dX6_expression_11 rfl (lv_at hl 1 rfl) ?_
  refine lv_iconst (v := 2) hx hb dX6_expression_12 (by decide) ?_
  refine lv_icmp_ne (tgt := 34) hx hb dX6_expression_13 (by decide) (fun _ => ?_) (fun c0 => absurd c0 (by decide))
  refine lv_aload_n hx hb dX6_expression_34 rfl (lv_at hl 0 rfl) ?_
  refine lv_iload_n hx hb dX6_expression_35 rfl (lv_at hl 1 rfl) ?_
  refine lv_iconst (v := 1) hx hb dX6_expression_36 (by decide) ?_
  refine lv_iadd hx hb dX6_expression_37 ?_
  refine tI (y := 5) (by decide) ?_
  refine lv_iload_n hx hb dX6_expression_38 rfl (lv_at hl 2 rfl) ?_
  refine csVi (n := 2) (rest := []) hx hb hml hown hts hE hP hD hS hA hF hT (sX_X6_expression_42 l dC dI cy x0 x  v f hIv ) k_740 k_742 k_15 k_103 k_743 (by decide +kernel) ⟨Nat.le_of_ble_eq_true rfl, Nat.le_of_ble_eq_true rfl⟩ 3 6 rfl rfl (rfl) hl.1 rfl (Nat.le_of_ble_eq_true rfl) dX6_expression_39 (fun r1 u H locs hw hP hD hS => ?_)
  obtain ⟨v2, f3⟩ := u
  obtain ⟨hIv2, hk0_v2, hk1_v2, hk9_v2, hk10_v2, hk31_v2, hk32_v2, hw⟩ := hw
  have hP : va_P (dC, dI) vwCl (XW cy x0 x v2 f3) H := hP
  have hD : va_D A (XW cy x0 x v2 f3) := hD
  have hq0_v2 : v2 0 = (v 0) := hk0_v2
  have hq1_v2 : v2 1 = (v 1) := hk1_v2
  have hq9_v2 : v2 9 = (v 9) := hk9_v2
  have hq10_v2 : v2 10 = (v 10) := hk10_v2
  have hq31_v2 : v2 31 = (v 31) := hk31_v2
  have hq32_v2 : v2 32 = (v 32) := hk32_v2
  rcases hw with ⟨g4⟩ | ⟨g4⟩
  · skip
    subst g4
    refine lv_if_ne (tgt := 47) hx hb dX6_expression_42 (by decide) (fun _ => ?_) (fun c0 => absurd c0 (by decide))
    refine lv_iload_n hx hb dX6_expression_47 rfl (lv_at hl 1 rfl) ?_
    refine lv_iconst (v := 2) hx hb dX6_expression_48 (by decide) ?_
    refine lv_icmp_ne (tgt := 56) hx hb dX6_expression_49 (by decide) (fun _ => ?_) (fun c0 => absurd c0 (by decide))
    refine lv_sipush (v := 1600) hx hb dX6_expression_56 (by decide) ?_
    refine lv_istore_n (lv' := [(3, .int 1600), (0, .ref (x 2)), (1, .int 4), (2, .int 6)]) hx hb dX6_expression_59 rfl hl (by decide) rfl (fun ls hl => ?_)
    refine lv_iconst (v := 0) hx hb dX6_expression_60 (by decide) ?_
    refine lv_istore (lv' := [(4, .int 0), (3, .int 1600), (0, .ref (x 2)), (1, .int 4), (2, .int 6)]) hx hb dX6_expression_61 hl (by decide) rfl (fun ls hl => ?_)
    have lp5 : ∀ (n5 : Nat) (l4_5 : Int32) (v5 : Nat → Int32) (f5 : Nat → Nat → Int32), XI v5 → v5 0 = (v 0) → v5 1 = (v 1) → v5 9 = (v 9) → v5 10 = (v 10) → v5 31 = (v 31) → v5 32 = (v 32) → ((0 : Int) ≤ l4_5.toInt ∧ l4_5.toInt ≤ 2147483647) → (2147483647 - l4_5.toInt).toNat < n5 → ∀ (H : Heap) (locs : List Loc) (ls : Array Slot), va_P (dC, dI) vwCl (XW cy x0 x v5 f5) H → va_D A (XW cy x0 x v5 f5) → va_S A s.heap H locs → lv_has ls 6 [(4, .int l4_5), (3, .int 1600), (0, .ref (x 2)), (1, .int 4), (2, .int 6)] → W p l e { frames := 16, cells := 0, slots := 0, locals := 412 } s m ([.ref (x 2), .int 4, .int 6] : List Value).toArray below meth c H locs 0 0 Q (F0 m 63 ls []) := by
      intro n5
      induction n5 with
      | zero => intro l4_5 v5 f5 hIv5 hq0_v5 hq1_v5 hq9_v5 hq10_v5 hq31_v5 hq32_v5 hr4_5 hm; exact absurd hm (Nat.not_lt_zero _)
      | succ n5 ih5 =>
        intro l4_5 v5 f5 hIv5 hq0_v5 hq1_v5 hq9_v5 hq10_v5 hq31_v5 hq32_v5 hr4_5 hm5 H locs ls hP hD hS hl
        refine lv_iload hx hb dX6_expression_63 (lv_at hl 0 rfl) ?_
        refine lv_iload_n hx hb dX6_expression_65 rfl (lv_at hl 1 rfl) ?_
        refine lv_icmp_ge (tgt := 131) hx hb dX6_expression_66 (by decide) (fun c6 => ?_) (fun c6 => ?_)
        · skip
          have zc6 : 1600 ≤ l4_5.toInt := by rw [fa_le, show (1600 : Int32).toInt = 1600 from by decide] at c6; exact c6
          refine lv_iconst (v := 1) hx hb dX6_expression_131 (by decide) ?_
          exact ret 1 (v5, f5) _ _ _ _ _ _ rfl ⟨hIv5, hq0_v5, hq1_v5, hq9_v5, hq10_v5, hq31_v5, hq32_v5, (Or.inl rfl)⟩ hP hD hS dX6_expression_132 (Nat.le_refl _) (Nat.le_refl _)
        · skip
          have zc6 : ¬ (1600 ≤ l4_5.toInt) := by rw [fa_le, show (1600 : Int32).toInt = 1600 from by decide] at c6; exact c6
          refine lv_iload_n hx hb dX6_expression_69 rfl (lv_at hl 3 rfl) ?_
          refine lv_aload_n hx hb dX6_expression_70 rfl (lv_at hl 2 rfl) ?_
          refine va_get (D := (dC, dI)) (ci := 6) (v := .ref (x 0)) (C := RX6) (T := TX6) (N := 7) hx hb hts inB_6 hown hE.1 hP 3 rfl rfl 0 (by decide) (hts _ k_265) (fun _ h9 => h9) rfl dX6_expression_71 ?_
          refine va_getN (D := (dC, dI)) (ci := 9) (v := .int (v5 2)) (C := RX9) (T := TX9) (N := 6) hx hb hts inB_9 hown hE.1 hP 1 rfl rfl 2 (by decide) (va_Nw.use rfl (hE.2 _ k_139)) (fun _ h9 => h9) rfl dX6_expression_74 ?_
          refine cbSi (n := 2) (rest := []) hx hb hml hown hts hE hP hD hS hA (sX_X6_joins_1 l dC dI cy x0 x 4 (v5 2) v5 f5 hIv5 ) k_756 k_757 k_103 k_758 (by decide +kernel) ⟨Nat.le_of_ble_eq_true rfl, Nat.le_of_ble_eq_true rfl⟩ (rfl) hl.1 rfl (Nat.le_of_ble_eq_true rfl) dX6_expression_77 (fun r7 u H locs hw hP hD hS => ?_)
          rcases hw with ⟨g8⟩ | ⟨g8⟩
          · skip
            subst g8
            refine lv_if_eq (tgt := 131) hx hb dX6_expression_80 (by decide) (fun c0 => absurd c0 (by decide)) (fun _ => ?_)
            refine lv_aload_n hx hb dX6_expression_83 rfl (lv_at hl 2 rfl) ?_
            refine va_get (D := (dC, dI)) (ci := 6) (v := .ref (x 0)) (C := RX6) (T := TX6) (N := 7) hx hb hts inB_6 hown hE.1 hP 3 rfl rfl 0 (by decide) (hts _ k_265) (fun _ h9 => h9) rfl dX6_expression_84 ?_
            refine va_getN (D := (dC, dI)) (ci := 9) (v := .int (v5 2)) (C := RX9) (T := TX9) (N := 6) hx hb hts inB_9 hown hE.1 hP 1 rfl rfl 2 (by decide) (va_Nw.use rfl (hE.2 _ k_139)) (fun _ h9 => h9) rfl dX6_expression_87 ?_
            refine lv_istore (lv' := [(5, .int (v5 2)), (4, .int l4_5), (3, .int 1600), (0, .ref (x 2)), (1, .int 4), (2, .int 6)]) hx hb dX6_expression_90 hl (by decide) rfl (fun ls hl => ?_)
            refine lv_aload_n hx hb dX6_expression_92 rfl (lv_at hl 3 rfl) ?_
            refine va_get (D := (dC, dI)) (ci := 6) (v := .ref (x 0)) (C := RX6) (T := TX6) (N := 7) hx hb hts inB_6 hown hE.1 hP 3 rfl rfl 0 (by decide) (hts _ k_265) (fun _ h9 => h9) rfl dX6_expression_93 ?_
            refine csVv (n := 0) (rest := []) hx hb hml hown hts hE hP hD hS hA hF hT (sX_X9_advance_1 l dC dI cy x0 x  v5 f5 hIv5 ) k_699 k_559 k_560 k_102 k_561 (by decide +kernel) ⟨Nat.le_of_ble_eq_true rfl, Nat.le_of_ble_eq_true rfl⟩ 1 9 rfl rfl (rfl) hl.1 rfl (Nat.le_of_ble_eq_true rfl) dX6_expression_96 (fun u H locs hw hP hD hS => ?_)
            obtain ⟨v9, f10⟩ := u
            obtain ⟨hIv9, hk0_v9, hk1_v9, hk9_v9, hk10_v9, hk31_v9, hk32_v9⟩ := hw
            have hP : va_P (dC, dI) vwCl (XW cy x0 x v9 f10) H := hP
            have hD : va_D A (XW cy x0 x v9 f10) := hD
            have hq0_v9 : v9 0 = (v 0) := hk0_v9.trans hq0_v5
            have hq1_v9 : v9 1 = (v 1) := hk1_v9.trans hq1_v5
            have hq9_v9 : v9 9 = (v 9) := hk9_v9.trans hq9_v5
            have hq10_v9 : v9 10 = (v 10) := hk10_v9.trans hq10_v5
            have hq31_v9 : v9 31 = (v 31) := hk31_v9.trans hq31_v5
            have hq32_v9 : v9 32 = (v 32) := hk32_v9.trans hq32_v5
            refine lv_aload_n hx hb dX6_expression_99 rfl (lv_at hl 3 rfl) ?_
            refine lv_iload_n hx hb dX6_expression_100 rfl (lv_at hl 4 rfl) ?_
            refine lv_iconst (v := 1) hx hb dX6_expression_101 (by decide) ?_
            refine lv_iadd hx hb dX6_expression_102 ?_
            refine tI (y := 5) (by decide) ?_
            refine lv_iload_n hx hb dX6_expression_103 rfl (lv_at hl 5 rfl) ?_
            refine csVi (n := 2) (rest := []) hx hb hml hown hts hE hP hD hS hA hF hT (sX_X6_expression_42 l dC dI cy x0 x  v9 f10 hIv9 ) k_740 k_742 k_15 k_103 k_743 (by decide +kernel) ⟨Nat.le_of_ble_eq_true rfl, Nat.le_of_ble_eq_true rfl⟩ 3 6 rfl rfl (rfl) hl.1 rfl (Nat.le_of_ble_eq_true rfl) dX6_expression_104 (fun r11 u H locs hw hP hD hS => ?_)
            obtain ⟨v12, f13⟩ := u
            obtain ⟨hIv12, hk0_v12, hk1_v12, hk9_v12, hk10_v12, hk31_v12, hk32_v12, hw⟩ := hw
            have hP : va_P (dC, dI) vwCl (XW cy x0 x v12 f13) H := hP
            have hD : va_D A (XW cy x0 x v12 f13) := hD
            have hq0_v12 : v12 0 = (v 0) := hk0_v12.trans hq0_v9
            have hq1_v12 : v12 1 = (v 1) := hk1_v12.trans hq1_v9
            have hq9_v12 : v12 9 = (v 9) := hk9_v12.trans hq9_v9
            have hq10_v12 : v12 10 = (v 10) := hk10_v12.trans hq10_v9
            have hq31_v12 : v12 31 = (v 31) := hk31_v12.trans hq31_v9
            have hq32_v12 : v12 32 = (v 32) := hk32_v12.trans hq32_v9
            rcases hw with ⟨g14⟩ | ⟨g14⟩
            · skip
              subst g14
              refine lv_if_ne (tgt := 112) hx hb dX6_expression_107 (by decide) (fun _ => ?_) (fun c0 => absurd c0 (by decide))
              refine lv_aload_n hx hb dX6_expression_112 rfl (lv_at hl 3 rfl) ?_
              refine va_get (D := (dC, dI)) (ci := 6) (v := .ref (x 3)) (C := RX6) (T := TX6) (N := 7) hx hb hts inB_6 hown hE.1 hP 3 rfl rfl 1 (by decide) (hts _ k_266) (fun _ h9 => h9) rfl dX6_expression_113 ?_
              refine va_getN (D := (dC, dI)) (ci := 7) (v := .ref (x 6)) (C := RX7) (T := TX7) (N := 10) hx hb hts inB_7 hown hE.1 hP 4 rfl rfl 2 (by decide) (va_Nw.use rfl (hE.2 _ k_210)) (fun _ h9 => h9) rfl dX6_expression_116 ?_
              refine lv_iload hx hb dX6_expression_119 (lv_at hl 0 rfl) ?_
              refine lv_iconst (v := 0) hx hb dX6_expression_121 (by decide) ?_
              refine cbVv (n := 2) (rest := []) hx hb hml hown hts hE hP hD hS hA (sX_X4_add_1 l dC dI cy x0 x (v5 2) 0 v12 f13 hIv12 ) k_748 k_749 k_750 k_105 k_751 (by decide +kernel) ⟨Nat.le_of_ble_eq_true rfl, Nat.le_of_ble_eq_true rfl⟩ 7 4 rfl rfl (rfl) hl.1 rfl (Nat.le_of_ble_eq_true rfl) dX6_expression_122 (fun u H locs hw hP hD hS => ?_)
              obtain ⟨v15, f16⟩ := u
              obtain ⟨hIv15, hk0_v15, hk1_v15, hk9_v15, hk10_v15, hk31_v15, hk32_v15⟩ := hw
              have hP : va_P (dC, dI) vwCl (XW cy x0 x v15 f16) H := hP
              have hD : va_D A (XW cy x0 x v15 f16) := hD
              have hq0_v15 : v15 0 = (v 0) := hk0_v15.trans hq0_v12
              have hq1_v15 : v15 1 = (v 1) := hk1_v15.trans hq1_v12
              have hq9_v15 : v15 9 = (v 9) := hk9_v15.trans hq9_v12
              have hq10_v15 : v15 10 = (v 10) := hk10_v15.trans hq10_v12
              have hq31_v15 : v15 31 = (v 31) := hk31_v15.trans hq31_v12
              have hq32_v15 : v15 32 = (v 32) := hk32_v15.trans hq32_v12
              obtain ⟨t17, et17⟩ : ∃ y : Int32, y = l4_5 + 1 := ⟨_, rfl⟩
              have rg18 := fb_rng l4_5
              have zt17 : t17.toInt = l4_5.toInt + 1 := by rw [et17]; exact add_i rfl (by decide) (by omega) (by omega)
              refine lv_iinc (v := t17) (lv' := [(4, .int t17), (5, .int (v5 2)), (3, .int 1600), (0, .ref (x 2)), (1, .int 4), (2, .int 6)]) hx hb dX6_expression_125 hl (k := 1) rfl (by rw [et17]; rfl) (by decide) rfl (fun ls hl => ?_)
              refine lv_goto (tgt := 63) hx hb dX6_expression_128 (by decide) ?_
              have rg19 := fb_rng t17
              exact ih5 t17 v15 f16 hIv15 hq0_v15 hq1_v15 hq9_v15 hq10_v15 hq31_v15 hq32_v15 ⟨show (0 : Int) ≤ t17.toInt by omega, show t17.toInt ≤ (2147483647 : Int) by omega⟩ (by show (2147483647 - t17.toInt).toNat < n5; omega) _ _ _ hP hD hS (lv_sub hl [0, 2, 3, 4, 5] rfl)
            · skip
              subst g14
              refine lv_if_ne (tgt := 112) hx hb dX6_expression_107 (by decide) (fun c0 => absurd (by decide) c0) (fun _ => ?_)
              refine lv_iconst (v := 0) hx hb dX6_expression_110 (by decide) ?_
              exact ret 0 (v12, f13) _ _ _ _ _ _ rfl ⟨hIv12, (hk0_v12.trans (hk0_v9.trans hq0_v5)), (hk1_v12.trans (hk1_v9.trans hq1_v5)), (hk9_v12.trans (hk9_v9.trans hq9_v5)), (hk10_v12.trans (hk10_v9.trans hq10_v5)), (hk31_v12.trans (hk31_v9.trans hq31_v5)), (hk32_v12.trans (hk32_v9.trans hq32_v5)), (Or.inr rfl)⟩ hP hD hS dX6_expression_111 (Nat.le_refl _) (Nat.le_refl _)
          · skip
            subst g8
            refine lv_if_eq (tgt := 131) hx hb dX6_expression_80 (by decide) (fun _ => ?_) (fun c0 => absurd (by decide) c0)
            refine lv_iconst (v := 1) hx hb dX6_expression_131 (by decide) ?_
            exact ret 1 (v5, f5) _ _ _ _ _ _ rfl ⟨hIv5, hq0_v5, hq1_v5, hq9_v5, hq10_v5, hq31_v5, hq32_v5, (Or.inl rfl)⟩ hP hD hS dX6_expression_132 (Nat.le_refl _) (Nat.le_refl _)
    exact lp5 _ 0 v2 f3 hIv2 hq0_v2 hq1_v2 hq9_v2 hq10_v2 hq31_v2 hq32_v2 ⟨by decide, by decide⟩ (Nat.lt_succ_self _) _ _ _ hP hD hS (lv_sub hl [0, 1, 2, 3, 4] rfl)
  · skip
    subst g4
    refine lv_if_ne (tgt := 47) hx hb dX6_expression_42 (by decide) (fun c0 => absurd (by decide) c0) (fun _ => ?_)
    refine lv_iconst (v := 0) hx hb dX6_expression_45 (by decide) ?_
    exact ret 0 (v2, f3) _ _ _ _ _ _ rfl ⟨hIv2, hk0_v2, hk1_v2, hk9_v2, hk10_v2, hk31_v2, hk32_v2, (Or.inr rfl)⟩ hP hD hS dX6_expression_46 (Nat.le_refl _) (Nat.le_refl _)
set_option maxHeartbeats 4000000 in
set_option maxRecDepth 100000 in
theorem sX_X6_expression_40 (l : Launch) (dC : Nat → ClassId) (dI : Nat → Nat → Nat) (cy : Nat → ClassId) (x0 : Nat) (x : Nat → Nat)  (v : Nat → Int32) (f : Nat → Nat → Int32) (hIv : XI v)  : ctIS l (dC, dI) cy yX6_expression cX6_expression 6 .boolean 17 437 0 0 ((Nat → Int32) × (Nat → Nat → Int32)) [.ref (x 2), .int 3, .int 6] (XW cy x0 x v f) (fun r u => XI u.1 ∧ u.1 0 = v 0 ∧ u.1 1 = v 1 ∧ u.1 9 = v 9 ∧ u.1 10 = v 10 ∧ u.1 31 = v 31 ∧ u.1 32 = v 32 ∧ ((r = 1) ∨ (r = 0))) (fun u => XW cy x0 x u.1 u.2) := by
  refine ctIS_of (by decide) (Nat.le_of_ble_eq_true rfl) (fun p e s m below meth c A ls Q hx hb hml hts hown hE hF hT hP hD hA hl ret => ?_)
  have hown : s.vm.findClass RX6 = some m.cls := hown
  have hS : va_S A s.heap s.heap [] := va_S.rf
  have hl : lv_has ls 6 [(0, .ref (x 2)), (1, .int 3), (2, .int 6)] := hl
  refine lv_iload_n hx hb dX6_expression_0 rfl (lv_at hl 1 rfl) ?_
  refine lv_iconst (v := 5) hx hb dX6_expression_1 (by decide) ?_
  refine lv_icmp_lt (tgt := 11) hx hb dX6_expression_2 (by decide) (fun _ => ?_) (fun c0 => absurd (by decide) c0)
  refine lv_iload_n hx hb dX6_expression_11 rfl (lv_at hl 1 rfl) ?_
  refine lv_iconst (v := 2) hx hb dX6_expression_12 (by decide) ?_
  refine lv_icmp_ne (tgt := 34) hx hb dX6_expression_13 (by decide) (fun _ => ?_) (fun c0 => absurd c0 (by decide))
  refine lv_aload_n hx hb dX6_expression_34 rfl (lv_at hl 0 rfl) ?_
  refine lv_iload_n hx hb dX6_expression_35 rfl (lv_at hl 1 rfl) ?_
  refine lv_iconst (v := 1) hx hb dX6_expression_36 (by decide) ?_
  refine lv_iadd hx hb dX6_expression_37 ?_
  refine tI (y := 4) (by decide) ?_
  refine lv_iload_n hx hb dX6_expression_38 rfl (lv_at hl 2 rfl) ?_
  refine csVi (n := 2) (rest := []) hx hb hml hown hts hE hP hD hS hA hF hT (sX_X6_expression_41 l dC dI cy x0 x  v f hIv ) k_740 k_742 k_15 k_103 k_743 (by decide +kernel) ⟨Nat.le_of_ble_eq_true rfl, Nat.le_of_ble_eq_true rfl⟩ 3 6 rfl rfl (rfl) hl.1 rfl (Nat.le_of_ble_eq_true rfl) dX6_expression_39 (fun r1 u H locs hw hP hD hS => ?_)
  obtain ⟨v2, f3⟩ := u
  obtain ⟨hIv2, hk0_v2, hk1_v2, hk9_v2, hk10_v2, hk31_v2, hk32_v2, hw⟩ := hw
  have hP : va_P (dC, dI) vwCl (XW cy x0 x v2 f3) H := hP
  have hD : va_D A (XW cy x0 x v2 f3) := hD
  have hq0_v2 : v2 0 = (v 0) := hk0_v2
  have hq1_v2 : v2 1 = (v 1) := hk1_v2
  have hq9_v2 : v2 9 = (v 9) := hk9_v2
  have hq10_v2 : v2 10 = (v 10) := hk10_v2
  have hq31_v2 : v2 31 = (v 31) := hk31_v2
  have hq32_v2 : v2 32 = (v 32) := hk32_v2
  rcases hw with ⟨g4⟩ | ⟨g4⟩
  · skip
    subst g4
    refine lv_if_ne (tgt := 47) hx hb dX6_expression_42 (by decide) (fun _ => ?_) (fun c0 => absurd c0 (by decide))
    refine lv_iload_n hx hb dX6_expression_47 rfl (lv_at hl 1 rfl) ?_
    refine lv_iconst (v := 2) hx hb dX6_expression_48 (by decide) ?_
    refine lv_icmp_ne (tgt := 56) hx hb dX6_expression_49 (by decide) (fun _ => ?_) (fun c0 => absurd c0 (by decide))
    refine lv_sipush (v := 1600) hx hb dX6_expression_56 (by decide) ?_
    refine lv_istore_n (lv' := [(3, .int 1600), (0, .ref (x 2)), (1, .int 3), (2, .int 6)]) hx hb dX6_expression_59 rfl hl (by decide) rfl (fun ls hl => ?_)
    refine lv_iconst (v := 0) hx hb dX6_expression_60 (by decide) ?_
    refine lv_istore (lv' := [(4, .int 0), (3, .int 1600), (0, .ref (x 2)), (1, .int 3), (2, .int 6)]) hx hb dX6_expression_61 hl (by decide) rfl (fun ls hl => ?_)
    have lp5 : ∀ (n5 : Nat) (l4_5 : Int32) (v5 : Nat → Int32) (f5 : Nat → Nat → Int32), XI v5 → v5 0 = (v 0) → v5 1 = (v 1) → v5 9 = (v 9) → v5 10 = (v 10) → v5 31 = (v 31) → v5 32 = (v 32) → ((0 : Int) ≤ l4_5.toInt ∧ l4_5.toInt ≤ 2147483647) → (2147483647 - l4_5.toInt).toNat < n5 → ∀ (H : Heap) (locs : List Loc) (ls : Array Slot), va_P (dC, dI) vwCl (XW cy x0 x v5 f5) H → va_D A (XW cy x0 x v5 f5) → va_S A s.heap H locs → lv_has ls 6 [(4, .int l4_5), (3, .int 1600), (0, .ref (x 2)), (1, .int 3), (2, .int 6)] → W p l e { frames := 17, cells := 0, slots := 0, locals := 437 } s m ([.ref (x 2), .int 3, .int 6] : List Value).toArray below meth c H locs 0 0 Q (F0 m 63 ls []) := by
      intro n5
      induction n5 with
      | zero => intro l4_5 v5 f5 hIv5 hq0_v5 hq1_v5 hq9_v5 hq10_v5 hq31_v5 hq32_v5 hr4_5 hm; exact absurd hm (Nat.not_lt_zero _)
      | succ n5 ih5 =>
        intro l4_5 v5 f5 hIv5 hq0_v5 hq1_v5 hq9_v5 hq10_v5 hq31_v5 hq32_v5 hr4_5 hm5 H locs ls hP hD hS hl
        refine lv_iload hx hb dX6_expression_63 (lv_at hl 0 rfl) ?_
        refine lv_iload_n hx hb dX6_expression_65 rfl (lv_at hl 1 rfl) ?_
        refine lv_icmp_ge (tgt := 131) hx hb dX6_expression_66 (by decide) (fun c6 => ?_) (fun c6 => ?_)
        · skip
          have zc6 : 1600 ≤ l4_5.toInt := by rw [fa_le, show (1600 : Int32).toInt = 1600 from by decide] at c6; exact c6
          refine lv_iconst (v := 1) hx hb dX6_expression_131 (by decide) ?_
          exact ret 1 (v5, f5) _ _ _ _ _ _ rfl ⟨hIv5, hq0_v5, hq1_v5, hq9_v5, hq10_v5, hq31_v5, hq32_v5, (Or.inl rfl)⟩ hP hD hS dX6_expression_132 (Nat.le_refl _) (Nat.le_refl _)
        · skip
          have zc6 : ¬ (1600 ≤ l4_5.toInt) := by rw [fa_le, show (1600 : Int32).toInt = 1600 from by decide] at c6; exact c6
          refine lv_iload_n hx hb dX6_expression_69 rfl (lv_at hl 3 rfl) ?_
          refine lv_aload_n hx hb dX6_expression_70 rfl (lv_at hl 2 rfl) ?_
          refine va_get (D := (dC, dI)) (ci := 6) (v := .ref (x 0)) (C := RX6) (T := TX6) (N := 7) hx hb hts inB_6 hown hE.1 hP 3 rfl rfl 0 (by decide) (hts _ k_265) (fun _ h9 => h9) rfl dX6_expression_71 ?_
          refine va_getN (D := (dC, dI)) (ci := 9) (v := .int (v5 2)) (C := RX9) (T := TX9) (N := 6) hx hb hts inB_9 hown hE.1 hP 1 rfl rfl 2 (by decide) (va_Nw.use rfl (hE.2 _ k_139)) (fun _ h9 => h9) rfl dX6_expression_74 ?_
          refine cbSi (n := 2) (rest := []) hx hb hml hown hts hE hP hD hS hA (sX_X6_joins_1 l dC dI cy x0 x 3 (v5 2) v5 f5 hIv5 ) k_756 k_757 k_103 k_758 (by decide +kernel) ⟨Nat.le_of_ble_eq_true rfl, Nat.le_of_ble_eq_true rfl⟩ (rfl) hl.1 rfl (Nat.le_of_ble_eq_true rfl) dX6_expression_77 (fun r7 u H locs hw hP hD hS => ?_)
          rcases hw with ⟨g8⟩ | ⟨g8⟩
          · skip
            subst g8
            refine lv_if_eq (tgt := 131) hx hb dX6_expression_80 (by decide) (fun c0 => absurd c0 (by decide)) (fun _ => ?_)
            refine lv_aload_n hx hb dX6_expression_83 rfl (lv_at hl 2 rfl) ?_
            refine va_get (D := (dC, dI)) (ci := 6) (v := .ref (x 0)) (C := RX6) (T := TX6) (N := 7) hx hb hts inB_6 hown hE.1 hP 3 rfl rfl 0 (by decide) (hts _ k_265) (fun _ h9 => h9) rfl dX6_expression_84 ?_
            refine va_getN (D := (dC, dI)) (ci := 9) (v := .int (v5 2)) (C := RX9) (T := TX9) (N := 6) hx hb hts inB_9 hown hE.1 hP 1 rfl rfl 2 (by decide) (va_Nw.use rfl (hE.2 _ k_139)) (fun _ h9 => h9) rfl dX6_expression_87 ?_
            refine lv_istore (lv' := [(5, .int (v5 2)), (4, .int l4_5), (3, .int 1600), (0, .ref (x 2)), (1, .int 3), (2, .int 6)]) hx hb dX6_expression_90 hl (by decide) rfl (fun ls hl => ?_)
            refine lv_aload_n hx hb dX6_expression_92 rfl (lv_at hl 3 rfl) ?_
            refine va_get (D := (dC, dI)) (ci := 6) (v := .ref (x 0)) (C := RX6) (T := TX6) (N := 7) hx hb hts inB_6 hown hE.1 hP 3 rfl rfl 0 (by decide) (hts _ k_265) (fun _ h9 => h9) rfl dX6_expression_93 ?_
            refine csVv (n := 0) (rest := []) hx hb hml hown hts hE hP hD hS hA hF hT (sX_X9_advance_1 l dC dI cy x0 x  v5 f5 hIv5 ) k_699 k_559 k_560 k_102 k_561 (by decide +kernel) ⟨Nat.le_of_ble_eq_true rfl, Nat.le_of_ble_eq_true rfl⟩ 1 9 rfl rfl (rfl) hl.1 rfl (Nat.le_of_ble_eq_true rfl) dX6_expression_96 (fun u H locs hw hP hD hS => ?_)
            obtain ⟨v9, f10⟩ := u
            obtain ⟨hIv9, hk0_v9, hk1_v9, hk9_v9, hk10_v9, hk31_v9, hk32_v9⟩ := hw
            have hP : va_P (dC, dI) vwCl (XW cy x0 x v9 f10) H := hP
            have hD : va_D A (XW cy x0 x v9 f10) := hD
            have hq0_v9 : v9 0 = (v 0) := hk0_v9.trans hq0_v5
            have hq1_v9 : v9 1 = (v 1) := hk1_v9.trans hq1_v5
            have hq9_v9 : v9 9 = (v 9) := hk9_v9.trans hq9_v5
            have hq10_v9 : v9 10 = (v 10) := hk10_v9.trans hq10_v5
            have hq31_v9 : v9 31 = (v 31) := hk31_v9.trans hq31_v5
            have hq32_v9 : v9 32 = (v 32) := hk32_v9.trans hq32_v5
            refine lv_aload_n hx hb dX6_expression_99 rfl (lv_at hl 3 rfl) ?_
            refine lv_iload_n hx hb dX6_expression_100 rfl (lv_at hl 4 rfl) ?_
            refine lv_iconst (v := 1) hx hb dX6_expression_101 (by decide) ?_
            refine lv_iadd hx hb dX6_expression_102 ?_
            refine tI (y := 4) (by decide) ?_
            refine lv_iload_n hx hb dX6_expression_103 rfl (lv_at hl 5 rfl) ?_
            refine csVi (n := 2) (rest := []) hx hb hml hown hts hE hP hD hS hA hF hT (sX_X6_expression_41 l dC dI cy x0 x  v9 f10 hIv9 ) k_740 k_742 k_15 k_103 k_743 (by decide +kernel) ⟨Nat.le_of_ble_eq_true rfl, Nat.le_of_ble_eq_true rfl⟩ 3 6 rfl rfl (rfl) hl.1 rfl (Nat.le_of_ble_eq_true rfl) dX6_expression_104 (fun r11 u H locs hw hP hD hS => ?_)
            obtain ⟨v12, f13⟩ := u
            obtain ⟨hIv12, hk0_v12, hk1_v12, hk9_v12, hk10_v12, hk31_v12, hk32_v12, hw⟩ := hw
            have hP : va_P (dC, dI) vwCl (XW cy x0 x v12 f13) H := hP
            have hD : va_D A (XW cy x0 x v12 f13) := hD
            have hq0_v12 : v12 0 = (v 0) := hk0_v12.trans hq0_v9
            have hq1_v12 : v12 1 = (v 1) := hk1_v12.trans hq1_v9
            have hq9_v12 : v12 9 = (v 9) := hk9_v12.trans hq9_v9
            have hq10_v12 : v12 10 = (v 10) := hk10_v12.trans hq10_v9
            have hq31_v12 : v12 31 = (v 31) := hk31_v12.trans hq31_v9
            have hq32_v12 : v12 32 = (v 32) := hk32_v12.trans hq32_v9
            rcases hw with ⟨g14⟩ | ⟨g14⟩
            · skip
              subst g14
              refine lv_if_ne (tgt := 112) hx hb dX6_expression_107 (by decide) (fun _ => ?_) (fun c0 => absurd c0 (by decide))
              refine lv_aload_n hx hb dX6_expression_112 rfl (lv_at hl 3 rfl) ?_
              refine va_get (D := (dC, dI)) (ci := 6) (v := .ref (x 3)) (C := RX6) (T := TX6) (N := 7) hx hb hts inB_6 hown hE.1 hP 3 rfl rfl 1 (by decide) (hts _ k_266) (fun _ h9 => h9) rfl dX6_expression_113 ?_
              refine va_getN (D := (dC, dI)) (ci := 7) (v := .ref (x 6)) (C := RX7) (T := TX7) (N := 10) hx hb hts inB_7 hown hE.1 hP 4 rfl rfl 2 (by decide) (va_Nw.use rfl (hE.2 _ k_210)) (fun _ h9 => h9) rfl dX6_expression_116 ?_
              refine lv_iload hx hb dX6_expression_119 (lv_at hl 0 rfl) ?_
              refine lv_iconst (v := 0) hx hb dX6_expression_121 (by decide) ?_
              refine cbVv (n := 2) (rest := []) hx hb hml hown hts hE hP hD hS hA (sX_X4_add_1 l dC dI cy x0 x (v5 2) 0 v12 f13 hIv12 ) k_748 k_749 k_750 k_105 k_751 (by decide +kernel) ⟨Nat.le_of_ble_eq_true rfl, Nat.le_of_ble_eq_true rfl⟩ 7 4 rfl rfl (rfl) hl.1 rfl (Nat.le_of_ble_eq_true rfl) dX6_expression_122 (fun u H locs hw hP hD hS => ?_)
              obtain ⟨v15, f16⟩ := u
              obtain ⟨hIv15, hk0_v15, hk1_v15, hk9_v15, hk10_v15, hk31_v15, hk32_v15⟩ := hw
              have hP : va_P (dC, dI) vwCl (XW cy x0 x v15 f16) H := hP
              have hD : va_D A (XW cy x0 x v15 f16) := hD
              have hq0_v15 : v15 0 = (v 0) := hk0_v15.trans hq0_v12
              have hq1_v15 : v15 1 = (v 1) := hk1_v15.trans hq1_v12
              have hq9_v15 : v15 9 = (v 9) := hk9_v15.trans hq9_v12
              have hq10_v15 : v15 10 = (v 10) := hk10_v15.trans hq10_v12
              have hq31_v15 : v15 31 = (v 31) := hk31_v15.trans hq31_v12
              have hq32_v15 : v15 32 = (v 32) := hk32_v15.trans hq32_v12
              obtain ⟨t17, et17⟩ : ∃ y : Int32, y = l4_5 + 1 := ⟨_, rfl⟩
              have rg18 := fb_rng l4_5
              have zt17 : t17.toInt = l4_5.toInt + 1 := by rw [et17]; exact add_i rfl (by decide) (by omega) (by omega)
              refine lv_iinc (v := t17) (lv' := [(4, .int t17), (5, .int (v5 2)), (3, .int 1600), (0, .ref (x 2)), (1, .int 3), (2, .int 6)]) hx hb dX6_expression_125 hl (k := 1) rfl (by rw [et17]; rfl) (by decide) rfl (fun ls hl => ?_)
              refine lv_goto (tgt := 63) hx hb dX6_expression_128 (by decide) ?_
              have rg19 := fb_rng t17
              exact ih5 t17 v15 f16 hIv15 hq0_v15 hq1_v15 hq9_v15 hq10_v15 hq31_v15 hq32_v15 ⟨show (0 : Int) ≤ t17.toInt by omega, show t17.toInt ≤ (2147483647 : Int) by omega⟩ (by show (2147483647 - t17.toInt).toNat < n5; omega) _ _ _ hP hD hS (lv_sub hl [0, 2, 3, 4, 5] rfl)
            · skip
              subst g14
              refine lv_if_ne (tgt := 112) hx hb dX6_expression_107 (by decide) (fun c0 => absurd (by decide) c0) (fun _ => ?_)
              refine lv_iconst (v := 0) hx hb dX6_expression_110 (by decide) ?_
              exact ret 0 (v12, f13) _ _ _ _ _ _ rfl ⟨hIv12, (hk0_v12.trans (hk0_v9.trans hq0_v5)), (hk1_v12.trans (hk1_v9.trans hq1_v5)), (hk9_v12.trans (hk9_v9.trans hq9_v5)), (hk10_v12.trans (hk10_v9.trans hq10_v5)), (hk31_v12.trans (hk31_v9.trans hq31_v5)), (hk32_v12.trans (hk32_v9.trans hq32_v5)), (Or.inr rfl)⟩ hP hD hS dX6_expression_111 (Nat.le_refl _) (Nat.le_refl _)
          · skip
            subst g8
            refine lv_if_eq (tgt := 131) hx hb dX6_expression_80 (by decide) (fun _ => ?_) (fun c0 => absurd (by decide) c0)
            refine lv_iconst (v := 1) hx hb dX6_expression_131 (by decide) ?_
            exact ret 1 (v5, f5) _ _ _ _ _ _ rfl ⟨hIv5, hq0_v5, hq1_v5, hq9_v5, hq10_v5, hq31_v5, hq32_v5, (Or.inl rfl)⟩ hP hD hS dX6_expression_132 (Nat.le_refl _) (Nat.le_refl _)
    exact lp5 _ 0 v2 f3 hIv2 hq0_v2 hq1_v2 hq9_v2 hq10_v2 hq31_v2 hq32_v2 ⟨by decide, by decide⟩ (Nat.lt_succ_self _) _ _ _ hP hD hS (lv_sub hl [0, 1, 2, 3, 4] rfl)
  · skip
    subst g4
    refine lv_if_ne (tgt := 47) hx hb dX6_expression_42 (by decide) (fun c0 => absurd (by decide) c0) (fun _ => ?_)
    refine lv_iconst (v := 0) hx hb dX6_expression_45 (by decide) ?_
    exact ret 0 (v2, f3) _ _ _ _ _ _ rfl ⟨hIv2, hk0_v2, hk1_v2, hk9_v2, hk10_v2, hk31_v2, hk32_v2, (Or.inr rfl)⟩ hP hD hS dX6_expression_46 (Nat.le_refl _) (Nat.le_refl _)
set_option maxHeartbeats 4000000 in
set_option maxRecDepth 100000 in
theorem sX_X6_negation_2 (l : Launch) (dC : Nat → ClassId) (dI : Nat → Nat → Nat) (cy : Nat → ClassId) (x0 : Nat) (x : Nat → Nat)  (v : Nat → Int32) (f : Nat → Nat → Int32) (hIv : XI v)  : ctIS l (dC, dI) cy yX6_negation cX6_negation 2 .boolean 12 314 0 0 ((Nat → Int32) × (Nat → Nat → Int32)) [.ref (x 2), .int 6] (XW cy x0 x v f) (fun r u => XI u.1 ∧ u.1 0 = v 0 ∧ u.1 1 = v 1 ∧ u.1 9 = v 9 ∧ u.1 10 = v 10 ∧ u.1 31 = v 31 ∧ u.1 32 = v 32 ∧ ((r = 1) ∨ (r = 0))) (fun u => XW cy x0 x u.1 u.2) := by
  refine ctIS_of (by decide) (Nat.le_of_ble_eq_true rfl) (fun p e s m below meth c A ls Q hx hb hml hts hown hE hF hT hP hD hA hl ret => ?_)
  have hown : s.vm.findClass RX6 = some m.cls := hown
  have hS : va_S A s.heap s.heap [] := va_S.rf
  have hl : lv_has ls 2 [(0, .ref (x 2)), (1, .int 6)] := hl
  refine lv_iload_n hx hb dX6_negation_0 rfl (lv_at hl 1 rfl) ?_
  refine lv_bipush (v := 7) hx hb dX6_negation_1 (by decide) ?_
  refine lv_icmp_lt (tgt := 11) hx hb dX6_negation_3 (by decide) (fun _ => ?_) (fun c0 => absurd (by decide) c0)
  refine lv_aload_n hx hb dX6_negation_11 rfl (lv_at hl 0 rfl) ?_
  refine va_get (D := (dC, dI)) (ci := 6) (v := .ref (x 0)) (C := RX6) (T := TX6) (N := 7) hx hb hts inB_6 hown hE.1 hP 3 rfl rfl 0 (by decide) (hts _ k_265) (fun _ h9 => h9) rfl dX6_negation_12 ?_
  refine csVv (n := 0) (rest := []) hx hb hml hown hts hE hP hD hS hA hF hT (sX_X9_advance_1 l dC dI cy x0 x  v f hIv ) k_699 k_559 k_560 k_102 k_561 (by decide +kernel) ⟨Nat.le_of_ble_eq_true rfl, Nat.le_of_ble_eq_true rfl⟩ 1 9 rfl rfl (rfl) hl.1 rfl (Nat.le_of_ble_eq_true rfl) dX6_negation_15 (fun u H locs hw hP hD hS => ?_)
  obtain ⟨v1, f2⟩ := u
  obtain ⟨hIv1, hk0_v1, hk1_v1, hk9_v1, hk10_v1, hk31_v1, hk32_v1⟩ := hw
  have hP : va_P (dC, dI) vwCl (XW cy x0 x v1 f2) H := hP
  have hD : va_D A (XW cy x0 x v1 f2) := hD
  have hq0_v1 : v1 0 = (v 0) := hk0_v1
  have hq1_v1 : v1 1 = (v 1) := hk1_v1
  have hq9_v1 : v1 9 = (v 9) := hk9_v1
  have hq10_v1 : v1 10 = (v 10) := hk10_v1
  have hq31_v1 : v1 31 = (v 31) := hk31_v1
  have hq32_v1 : v1 32 = (v 32) := hk32_v1
  refine lv_aload_n hx hb dX6_negation_18 rfl (lv_at hl 0 rfl) ?_
  refine lv_iconst (v := 2) hx hb dX6_negation_19 (by decide) ?_
  refine lv_iload_n hx hb dX6_negation_20 rfl (lv_at hl 1 rfl) ?_
  refine lv_iconst (v := 1) hx hb dX6_negation_21 (by decide) ?_
  refine lv_iadd hx hb dX6_negation_22 ?_
  refine tI (y := 7) (by decide) ?_
  refine csVi (n := 2) (rest := []) hx hb hml hown hts hE hP hD hS hA hF hT (sX_X6_expression_45 l dC dI cy x0 x  v1 f2 hIv1 ) k_740 k_742 k_15 k_103 k_743 (by decide +kernel) ⟨Nat.le_of_ble_eq_true rfl, Nat.le_of_ble_eq_true rfl⟩ 3 6 rfl rfl (rfl) hl.1 rfl (Nat.le_of_ble_eq_true rfl) dX6_negation_23 (fun r3 u H locs hw hP hD hS => ?_)
  obtain ⟨v4, f5⟩ := u
  obtain ⟨hIv4, hk0_v4, hk1_v4, hk9_v4, hk10_v4, hk31_v4, hk32_v4, hw⟩ := hw
  have hP : va_P (dC, dI) vwCl (XW cy x0 x v4 f5) H := hP
  have hD : va_D A (XW cy x0 x v4 f5) := hD
  have hq0_v4 : v4 0 = (v 0) := hk0_v4.trans hq0_v1
  have hq1_v4 : v4 1 = (v 1) := hk1_v4.trans hq1_v1
  have hq9_v4 : v4 9 = (v 9) := hk9_v4.trans hq9_v1
  have hq10_v4 : v4 10 = (v 10) := hk10_v4.trans hq10_v1
  have hq31_v4 : v4 31 = (v 31) := hk31_v4.trans hq31_v1
  have hq32_v4 : v4 32 = (v 32) := hk32_v4.trans hq32_v1
  rcases hw with ⟨g6⟩ | ⟨g6⟩
  · skip
    subst g6
    refine lv_if_ne (tgt := 31) hx hb dX6_negation_26 (by decide) (fun _ => ?_) (fun c0 => absurd c0 (by decide))
    refine lv_aload_n hx hb dX6_negation_31 rfl (lv_at hl 0 rfl) ?_
    refine va_get (D := (dC, dI)) (ci := 6) (v := .ref (x 3)) (C := RX6) (T := TX6) (N := 7) hx hb hts inB_6 hown hE.1 hP 3 rfl rfl 1 (by decide) (hts _ k_266) (fun _ h9 => h9) rfl dX6_negation_32 ?_
    refine va_getN (D := (dC, dI)) (ci := 7) (v := .ref (x 6)) (C := RX7) (T := TX7) (N := 10) hx hb hts inB_7 hown hE.1 hP 4 rfl rfl 2 (by decide) (va_Nw.use rfl (hE.2 _ k_210)) (fun _ h9 => h9) rfl dX6_negation_35 ?_
    refine lv_bipush (v := 115) hx hb dX6_negation_38 (by decide) ?_
    refine lv_iconst (v := 0) hx hb dX6_negation_40 (by decide) ?_
    refine cbVv (n := 2) (rest := []) hx hb hml hown hts hE hP hD hS hA (sX_X4_add_1 l dC dI cy x0 x 115 0 v4 f5 hIv4 ) k_748 k_749 k_750 k_105 k_751 (by decide +kernel) ⟨Nat.le_of_ble_eq_true rfl, Nat.le_of_ble_eq_true rfl⟩ 7 4 rfl rfl (rfl) hl.1 rfl (Nat.le_of_ble_eq_true rfl) dX6_negation_41 (fun u H locs hw hP hD hS => ?_)
    obtain ⟨v7, f8⟩ := u
    obtain ⟨hIv7, hk0_v7, hk1_v7, hk9_v7, hk10_v7, hk31_v7, hk32_v7⟩ := hw
    have hP : va_P (dC, dI) vwCl (XW cy x0 x v7 f8) H := hP
    have hD : va_D A (XW cy x0 x v7 f8) := hD
    have hq0_v7 : v7 0 = (v 0) := hk0_v7.trans hq0_v4
    have hq1_v7 : v7 1 = (v 1) := hk1_v7.trans hq1_v4
    have hq9_v7 : v7 9 = (v 9) := hk9_v7.trans hq9_v4
    have hq10_v7 : v7 10 = (v 10) := hk10_v7.trans hq10_v4
    have hq31_v7 : v7 31 = (v 31) := hk31_v7.trans hq31_v4
    have hq32_v7 : v7 32 = (v 32) := hk32_v7.trans hq32_v4
    refine lv_iconst (v := 1) hx hb dX6_negation_44 (by decide) ?_
    exact ret 1 (v7, f8) _ _ _ _ _ _ rfl ⟨hIv7, (hk0_v7.trans (hk0_v4.trans hk0_v1)), (hk1_v7.trans (hk1_v4.trans hk1_v1)), (hk9_v7.trans (hk9_v4.trans hk9_v1)), (hk10_v7.trans (hk10_v4.trans hk10_v1)), (hk31_v7.trans (hk31_v4.trans hk31_v1)), (hk32_v7.trans (hk32_v4.trans hk32_v1)), (Or.inl rfl)⟩ hP hD hS dX6_negation_45 (Nat.le_refl _) (Nat.le_refl _)
  · skip
    subst g6
    refine lv_if_ne (tgt := 31) hx hb dX6_negation_26 (by decide) (fun c0 => absurd (by decide) c0) (fun _ => ?_)
    refine lv_iconst (v := 0) hx hb dX6_negation_29 (by decide) ?_
    exact ret 0 (v4, f5) _ _ _ _ _ _ rfl ⟨hIv4, (hk0_v4.trans hk0_v1), (hk1_v4.trans hk1_v1), (hk9_v4.trans hk9_v1), (hk10_v4.trans hk10_v1), (hk31_v4.trans hk31_v1), (hk32_v4.trans hk32_v1), (Or.inr rfl)⟩ hP hD hS dX6_negation_30 (Nat.le_refl _) (Nat.le_refl _)
set_option maxHeartbeats 4000000 in
set_option maxRecDepth 100000 in
theorem sX_X6_expression_39 (l : Launch) (dC : Nat → ClassId) (dI : Nat → Nat → Nat) (cy : Nat → ClassId) (x0 : Nat) (x : Nat → Nat)  (v : Nat → Int32) (f : Nat → Nat → Int32) (hIv : XI v)  : ctIS l (dC, dI) cy yX6_expression cX6_expression 6 .boolean 18 462 0 0 ((Nat → Int32) × (Nat → Nat → Int32)) [.ref (x 2), .int 2, .int 6] (XW cy x0 x v f) (fun r u => XI u.1 ∧ u.1 0 = v 0 ∧ u.1 1 = v 1 ∧ u.1 9 = v 9 ∧ u.1 10 = v 10 ∧ u.1 31 = v 31 ∧ u.1 32 = v 32 ∧ ((r = 1) ∨ (r = 0))) (fun u => XW cy x0 x u.1 u.2) := by
  refine ctIS_of (by decide) (Nat.le_of_ble_eq_true rfl) (fun p e s m below meth c A ls Q hx hb hml hts hown hE hF hT hP hD hA hl ret => ?_)
  have hown : s.vm.findClass RX6 = some m.cls := hown
  have hS : va_S A s.heap s.heap [] := va_S.rf
  have hl : lv_has ls 6 [(0, .ref (x 2)), (1, .int 2), (2, .int 6)] := hl
  refine lv_iload_n hx hb dX6_expression_0 rfl (lv_at hl 1 rfl) ?_
  refine lv_iconst (v := 5) hx hb dX6_expression_1 (by decide) ?_
  refine lv_icmp_lt (tgt := 11) hx hb dX6_expression_2 (by decide) (fun _ => ?_) (fun c0 => absurd (by decide) c0)
  refine lv_iload_n hx hb dX6_expression_11 rfl (lv_at hl 1 rfl) ?_
  refine lv_iconst (v := 2) hx hb dX6_expression_12 (by decide) ?_
  refine lv_icmp_ne (tgt := 34) hx hb dX6_expression_13 (by decide) (fun c0 => absurd (by decide) c0) (fun _ => ?_)
  refine lv_aload_n hx hb dX6_expression_16 rfl (lv_at hl 0 rfl) ?_
  refine va_get (D := (dC, dI)) (ci := 6) (v := .ref (x 0)) (C := RX6) (T := TX6) (N := 7) hx hb hts inB_6 hown hE.1 hP 3 rfl rfl 0 (by decide) (hts _ k_265) (fun _ h9 => h9) rfl dX6_expression_17 ?_
  refine va_getN (D := (dC, dI)) (ci := 9) (v := .int (v 2)) (C := RX9) (T := TX9) (N := 6) hx hb hts inB_9 hown hE.1 hP 1 rfl rfl 2 (by decide) (va_Nw.use rfl (hE.2 _ k_139)) (fun _ h9 => h9) rfl dX6_expression_20 ?_
  refine lv_bipush (v := 115) hx hb dX6_expression_23 (by decide) ?_
  refine lv_icmp_ne (tgt := 34) hx hb dX6_expression_25 (by decide) (fun c1 => ?_) (fun c1 => ?_)
  · skip
    have zc1 : ¬ ((v 2).toInt = 115) := by rw [fa_eq, show (115 : Int32).toInt = 115 from by decide] at c1; exact c1
    refine lv_aload_n hx hb dX6_expression_34 rfl (lv_at hl 0 rfl) ?_
    refine lv_iload_n hx hb dX6_expression_35 rfl (lv_at hl 1 rfl) ?_
    refine lv_iconst (v := 1) hx hb dX6_expression_36 (by decide) ?_
    refine lv_iadd hx hb dX6_expression_37 ?_
    refine tI (y := 3) (by decide) ?_
    refine lv_iload_n hx hb dX6_expression_38 rfl (lv_at hl 2 rfl) ?_
    refine csVi (n := 2) (rest := []) hx hb hml hown hts hE hP hD hS hA hF hT (sX_X6_expression_40 l dC dI cy x0 x  v f hIv ) k_740 k_742 k_15 k_103 k_743 (by decide +kernel) ⟨Nat.le_of_ble_eq_true rfl, Nat.le_of_ble_eq_true rfl⟩ 3 6 rfl rfl (rfl) hl.1 rfl (Nat.le_of_ble_eq_true rfl) dX6_expression_39 (fun r2 u H locs hw hP hD hS => ?_)
    obtain ⟨v3, f4⟩ := u
    obtain ⟨hIv3, hk0_v3, hk1_v3, hk9_v3, hk10_v3, hk31_v3, hk32_v3, hw⟩ := hw
    have hP : va_P (dC, dI) vwCl (XW cy x0 x v3 f4) H := hP
    have hD : va_D A (XW cy x0 x v3 f4) := hD
    have hq0_v3 : v3 0 = (v 0) := hk0_v3
    have hq1_v3 : v3 1 = (v 1) := hk1_v3
    have hq9_v3 : v3 9 = (v 9) := hk9_v3
    have hq10_v3 : v3 10 = (v 10) := hk10_v3
    have hq31_v3 : v3 31 = (v 31) := hk31_v3
    have hq32_v3 : v3 32 = (v 32) := hk32_v3
    rcases hw with ⟨g5⟩ | ⟨g5⟩
    · skip
      subst g5
      refine lv_if_ne (tgt := 47) hx hb dX6_expression_42 (by decide) (fun _ => ?_) (fun c0 => absurd c0 (by decide))
      refine lv_iload_n hx hb dX6_expression_47 rfl (lv_at hl 1 rfl) ?_
      refine lv_iconst (v := 2) hx hb dX6_expression_48 (by decide) ?_
      refine lv_icmp_ne (tgt := 56) hx hb dX6_expression_49 (by decide) (fun c0 => absurd (by decide) c0) (fun _ => ?_)
      refine lv_iconst (v := 1) hx hb dX6_expression_52 (by decide) ?_
      refine lv_goto (tgt := 59) hx hb dX6_expression_53 (by decide) ?_
      refine lv_istore_n (lv' := [(3, .int 1), (0, .ref (x 2)), (1, .int 2), (2, .int 6)]) hx hb dX6_expression_59 rfl hl (by decide) rfl (fun ls hl => ?_)
      refine lv_iconst (v := 0) hx hb dX6_expression_60 (by decide) ?_
      refine lv_istore (lv' := [(4, .int 0), (3, .int 1), (0, .ref (x 2)), (1, .int 2), (2, .int 6)]) hx hb dX6_expression_61 hl (by decide) rfl (fun ls hl => ?_)
      have lp6 : ∀ (n6 : Nat) (l4_6 : Int32) (v6 : Nat → Int32) (f6 : Nat → Nat → Int32), XI v6 → v6 0 = (v 0) → v6 1 = (v 1) → v6 9 = (v 9) → v6 10 = (v 10) → v6 31 = (v 31) → v6 32 = (v 32) → ((0 : Int) ≤ l4_6.toInt ∧ l4_6.toInt ≤ 2147483647) → (2147483647 - l4_6.toInt).toNat < n6 → ∀ (H : Heap) (locs : List Loc) (ls : Array Slot), va_P (dC, dI) vwCl (XW cy x0 x v6 f6) H → va_D A (XW cy x0 x v6 f6) → va_S A s.heap H locs → lv_has ls 6 [(4, .int l4_6), (3, .int 1), (0, .ref (x 2)), (1, .int 2), (2, .int 6)] → W p l e { frames := 18, cells := 0, slots := 0, locals := 462 } s m ([.ref (x 2), .int 2, .int 6] : List Value).toArray below meth c H locs 0 0 Q (F0 m 63 ls []) := by
        intro n6
        induction n6 with
        | zero => intro l4_6 v6 f6 hIv6 hq0_v6 hq1_v6 hq9_v6 hq10_v6 hq31_v6 hq32_v6 hr4_6 hm; exact absurd hm (Nat.not_lt_zero _)
        | succ n6 ih6 =>
          intro l4_6 v6 f6 hIv6 hq0_v6 hq1_v6 hq9_v6 hq10_v6 hq31_v6 hq32_v6 hr4_6 hm6 H locs ls hP hD hS hl
          refine lv_iload hx hb dX6_expression_63 (lv_at hl 0 rfl) ?_
          refine lv_iload_n hx hb dX6_expression_65 rfl (lv_at hl 1 rfl) ?_
          refine lv_icmp_ge (tgt := 131) hx hb dX6_expression_66 (by decide) (fun c7 => ?_) (fun c7 => ?_)
          · skip
            have zc7 : 1 ≤ l4_6.toInt := by rw [fa_le, show (1 : Int32).toInt = 1 from by decide] at c7; exact c7
            refine lv_iconst (v := 1) hx hb dX6_expression_131 (by decide) ?_
            exact ret 1 (v6, f6) _ _ _ _ _ _ rfl ⟨hIv6, hq0_v6, hq1_v6, hq9_v6, hq10_v6, hq31_v6, hq32_v6, (Or.inl rfl)⟩ hP hD hS dX6_expression_132 (Nat.le_refl _) (Nat.le_refl _)
          · skip
            have zc7 : ¬ (1 ≤ l4_6.toInt) := by rw [fa_le, show (1 : Int32).toInt = 1 from by decide] at c7; exact c7
            refine lv_iload_n hx hb dX6_expression_69 rfl (lv_at hl 3 rfl) ?_
            refine lv_aload_n hx hb dX6_expression_70 rfl (lv_at hl 2 rfl) ?_
            refine va_get (D := (dC, dI)) (ci := 6) (v := .ref (x 0)) (C := RX6) (T := TX6) (N := 7) hx hb hts inB_6 hown hE.1 hP 3 rfl rfl 0 (by decide) (hts _ k_265) (fun _ h9 => h9) rfl dX6_expression_71 ?_
            refine va_getN (D := (dC, dI)) (ci := 9) (v := .int (v6 2)) (C := RX9) (T := TX9) (N := 6) hx hb hts inB_9 hown hE.1 hP 1 rfl rfl 2 (by decide) (va_Nw.use rfl (hE.2 _ k_139)) (fun _ h9 => h9) rfl dX6_expression_74 ?_
            refine cbSi (n := 2) (rest := []) hx hb hml hown hts hE hP hD hS hA (sX_X6_joins_1 l dC dI cy x0 x 2 (v6 2) v6 f6 hIv6 ) k_756 k_757 k_103 k_758 (by decide +kernel) ⟨Nat.le_of_ble_eq_true rfl, Nat.le_of_ble_eq_true rfl⟩ (rfl) hl.1 rfl (Nat.le_of_ble_eq_true rfl) dX6_expression_77 (fun r8 u H locs hw hP hD hS => ?_)
            rcases hw with ⟨g9⟩ | ⟨g9⟩
            · skip
              subst g9
              refine lv_if_eq (tgt := 131) hx hb dX6_expression_80 (by decide) (fun c0 => absurd c0 (by decide)) (fun _ => ?_)
              refine lv_aload_n hx hb dX6_expression_83 rfl (lv_at hl 2 rfl) ?_
              refine va_get (D := (dC, dI)) (ci := 6) (v := .ref (x 0)) (C := RX6) (T := TX6) (N := 7) hx hb hts inB_6 hown hE.1 hP 3 rfl rfl 0 (by decide) (hts _ k_265) (fun _ h9 => h9) rfl dX6_expression_84 ?_
              refine va_getN (D := (dC, dI)) (ci := 9) (v := .int (v6 2)) (C := RX9) (T := TX9) (N := 6) hx hb hts inB_9 hown hE.1 hP 1 rfl rfl 2 (by decide) (va_Nw.use rfl (hE.2 _ k_139)) (fun _ h9 => h9) rfl dX6_expression_87 ?_
              refine lv_istore (lv' := [(5, .int (v6 2)), (4, .int l4_6), (3, .int 1), (0, .ref (x 2)), (1, .int 2), (2, .int 6)]) hx hb dX6_expression_90 hl (by decide) rfl (fun ls hl => ?_)
              refine lv_aload_n hx hb dX6_expression_92 rfl (lv_at hl 3 rfl) ?_
              refine va_get (D := (dC, dI)) (ci := 6) (v := .ref (x 0)) (C := RX6) (T := TX6) (N := 7) hx hb hts inB_6 hown hE.1 hP 3 rfl rfl 0 (by decide) (hts _ k_265) (fun _ h9 => h9) rfl dX6_expression_93 ?_
              refine csVv (n := 0) (rest := []) hx hb hml hown hts hE hP hD hS hA hF hT (sX_X9_advance_1 l dC dI cy x0 x  v6 f6 hIv6 ) k_699 k_559 k_560 k_102 k_561 (by decide +kernel) ⟨Nat.le_of_ble_eq_true rfl, Nat.le_of_ble_eq_true rfl⟩ 1 9 rfl rfl (rfl) hl.1 rfl (Nat.le_of_ble_eq_true rfl) dX6_expression_96 (fun u H locs hw hP hD hS => ?_)
              obtain ⟨v10, f11⟩ := u
              obtain ⟨hIv10, hk0_v10, hk1_v10, hk9_v10, hk10_v10, hk31_v10, hk32_v10⟩ := hw
              have hP : va_P (dC, dI) vwCl (XW cy x0 x v10 f11) H := hP
              have hD : va_D A (XW cy x0 x v10 f11) := hD
              have hq0_v10 : v10 0 = (v 0) := hk0_v10.trans hq0_v6
              have hq1_v10 : v10 1 = (v 1) := hk1_v10.trans hq1_v6
              have hq9_v10 : v10 9 = (v 9) := hk9_v10.trans hq9_v6
              have hq10_v10 : v10 10 = (v 10) := hk10_v10.trans hq10_v6
              have hq31_v10 : v10 31 = (v 31) := hk31_v10.trans hq31_v6
              have hq32_v10 : v10 32 = (v 32) := hk32_v10.trans hq32_v6
              refine lv_aload_n hx hb dX6_expression_99 rfl (lv_at hl 3 rfl) ?_
              refine lv_iload_n hx hb dX6_expression_100 rfl (lv_at hl 4 rfl) ?_
              refine lv_iconst (v := 1) hx hb dX6_expression_101 (by decide) ?_
              refine lv_iadd hx hb dX6_expression_102 ?_
              refine tI (y := 3) (by decide) ?_
              refine lv_iload_n hx hb dX6_expression_103 rfl (lv_at hl 5 rfl) ?_
              refine csVi (n := 2) (rest := []) hx hb hml hown hts hE hP hD hS hA hF hT (sX_X6_expression_40 l dC dI cy x0 x  v10 f11 hIv10 ) k_740 k_742 k_15 k_103 k_743 (by decide +kernel) ⟨Nat.le_of_ble_eq_true rfl, Nat.le_of_ble_eq_true rfl⟩ 3 6 rfl rfl (rfl) hl.1 rfl (Nat.le_of_ble_eq_true rfl) dX6_expression_104 (fun r12 u H locs hw hP hD hS => ?_)
              obtain ⟨v13, f14⟩ := u
              obtain ⟨hIv13, hk0_v13, hk1_v13, hk9_v13, hk10_v13, hk31_v13, hk32_v13, hw⟩ := hw
              have hP : va_P (dC, dI) vwCl (XW cy x0 x v13 f14) H := hP
              have hD : va_D A (XW cy x0 x v13 f14) := hD
              have hq0_v13 : v13 0 = (v 0) := hk0_v13.trans hq0_v10
              have hq1_v13 : v13 1 = (v 1) := hk1_v13.trans hq1_v10
              have hq9_v13 : v13 9 = (v 9) := hk9_v13.trans hq9_v10
              have hq10_v13 : v13 10 = (v 10) := hk10_v13.trans hq10_v10
              have hq31_v13 : v13 31 = (v 31) := hk31_v13.trans hq31_v10
              have hq32_v13 : v13 32 = (v 32) := hk32_v13.trans hq32_v10
              rcases hw with ⟨g15⟩ | ⟨g15⟩
              · skip
                subst g15
                refine lv_if_ne (tgt := 112) hx hb dX6_expression_107 (by decide) (fun _ => ?_) (fun c0 => absurd c0 (by decide))
                refine lv_aload_n hx hb dX6_expression_112 rfl (lv_at hl 3 rfl) ?_
                refine va_get (D := (dC, dI)) (ci := 6) (v := .ref (x 3)) (C := RX6) (T := TX6) (N := 7) hx hb hts inB_6 hown hE.1 hP 3 rfl rfl 1 (by decide) (hts _ k_266) (fun _ h9 => h9) rfl dX6_expression_113 ?_
                refine va_getN (D := (dC, dI)) (ci := 7) (v := .ref (x 6)) (C := RX7) (T := TX7) (N := 10) hx hb hts inB_7 hown hE.1 hP 4 rfl rfl 2 (by decide) (va_Nw.use rfl (hE.2 _ k_210)) (fun _ h9 => h9) rfl dX6_expression_116 ?_
                refine lv_iload hx hb dX6_expression_119 (lv_at hl 0 rfl) ?_
                refine lv_iconst (v := 0) hx hb dX6_expression_121 (by decide) ?_
                refine cbVv (n := 2) (rest := []) hx hb hml hown hts hE hP hD hS hA (sX_X4_add_1 l dC dI cy x0 x (v6 2) 0 v13 f14 hIv13 ) k_748 k_749 k_750 k_105 k_751 (by decide +kernel) ⟨Nat.le_of_ble_eq_true rfl, Nat.le_of_ble_eq_true rfl⟩ 7 4 rfl rfl (rfl) hl.1 rfl (Nat.le_of_ble_eq_true rfl) dX6_expression_122 (fun u H locs hw hP hD hS => ?_)
                obtain ⟨v16, f17⟩ := u
                obtain ⟨hIv16, hk0_v16, hk1_v16, hk9_v16, hk10_v16, hk31_v16, hk32_v16⟩ := hw
                have hP : va_P (dC, dI) vwCl (XW cy x0 x v16 f17) H := hP
                have hD : va_D A (XW cy x0 x v16 f17) := hD
                have hq0_v16 : v16 0 = (v 0) := hk0_v16.trans hq0_v13
                have hq1_v16 : v16 1 = (v 1) := hk1_v16.trans hq1_v13
                have hq9_v16 : v16 9 = (v 9) := hk9_v16.trans hq9_v13
                have hq10_v16 : v16 10 = (v 10) := hk10_v16.trans hq10_v13
                have hq31_v16 : v16 31 = (v 31) := hk31_v16.trans hq31_v13
                have hq32_v16 : v16 32 = (v 32) := hk32_v16.trans hq32_v13
                obtain ⟨t18, et18⟩ : ∃ y : Int32, y = l4_6 + 1 := ⟨_, rfl⟩
                have rg19 := fb_rng l4_6
                have zt18 : t18.toInt = l4_6.toInt + 1 := by rw [et18]; exact add_i rfl (by decide) (by omega) (by omega)
                refine lv_iinc (v := t18) (lv' := [(4, .int t18), (5, .int (v6 2)), (3, .int 1), (0, .ref (x 2)), (1, .int 2), (2, .int 6)]) hx hb dX6_expression_125 hl (k := 1) rfl (by rw [et18]; rfl) (by decide) rfl (fun ls hl => ?_)
                refine lv_goto (tgt := 63) hx hb dX6_expression_128 (by decide) ?_
                have rg20 := fb_rng t18
                exact ih6 t18 v16 f17 hIv16 hq0_v16 hq1_v16 hq9_v16 hq10_v16 hq31_v16 hq32_v16 ⟨show (0 : Int) ≤ t18.toInt by omega, show t18.toInt ≤ (2147483647 : Int) by omega⟩ (by show (2147483647 - t18.toInt).toNat < n6; omega) _ _ _ hP hD hS (lv_sub hl [0, 2, 3, 4, 5] rfl)
              · skip
                subst g15
                refine lv_if_ne (tgt := 112) hx hb dX6_expression_107 (by decide) (fun c0 => absurd (by decide) c0) (fun _ => ?_)
                refine lv_iconst (v := 0) hx hb dX6_expression_110 (by decide) ?_
                exact ret 0 (v13, f14) _ _ _ _ _ _ rfl ⟨hIv13, (hk0_v13.trans (hk0_v10.trans hq0_v6)), (hk1_v13.trans (hk1_v10.trans hq1_v6)), (hk9_v13.trans (hk9_v10.trans hq9_v6)), (hk10_v13.trans (hk10_v10.trans hq10_v6)), (hk31_v13.trans (hk31_v10.trans hq31_v6)), (hk32_v13.trans (hk32_v10.trans hq32_v6)), (Or.inr rfl)⟩ hP hD hS dX6_expression_111 (Nat.le_refl _) (Nat.le_refl _)
            · skip
              subst g9
              refine lv_if_eq (tgt := 131) hx hb dX6_expression_80 (by decide) (fun _ => ?_) (fun c0 => absurd (by decide) c0)
              refine lv_iconst (v := 1) hx hb dX6_expression_131 (by decide) ?_
              exact ret 1 (v6, f6) _ _ _ _ _ _ rfl ⟨hIv6, hq0_v6, hq1_v6, hq9_v6, hq10_v6, hq31_v6, hq32_v6, (Or.inl rfl)⟩ hP hD hS dX6_expression_132 (Nat.le_refl _) (Nat.le_refl _)
      exact lp6 _ 0 v3 f4 hIv3 hq0_v3 hq1_v3 hq9_v3 hq10_v3 hq31_v3 hq32_v3 ⟨by decide, by decide⟩ (Nat.lt_succ_self _) _ _ _ hP hD hS (lv_sub hl [0, 1, 2, 3, 4] rfl)
    · skip
      subst g5
      refine lv_if_ne (tgt := 47) hx hb dX6_expression_42 (by decide) (fun c0 => absurd (by decide) c0) (fun _ => ?_)
      refine lv_iconst (v := 0) hx hb dX6_expression_45 (by decide) ?_
      exact ret 0 (v3, f4) _ _ _ _ _ _ rfl ⟨hIv3, hk0_v3, hk1_v3, hk9_v3, hk10_v3, hk31_v3, hk32_v3, (Or.inr rfl)⟩ hP hD hS dX6_expression_46 (Nat.le_refl _) (Nat.le_refl _)
  · skip
    have zc1 : (v 2).toInt = 115 := by rw [fa_eq, show (115 : Int32).toInt = 115 from by decide] at c1; exact c1
    refine lv_aload_n hx hb dX6_expression_28 rfl (lv_at hl 0 rfl) ?_
    refine lv_iload_n hx hb dX6_expression_29 rfl (lv_at hl 2 rfl) ?_
    refine csVi (n := 1) (rest := []) hx hb hml hown hts hE hP hD hS hA hF hT (sX_X6_negation_2 l dC dI cy x0 x  v f hIv ) k_752 k_754 k_17 k_103 k_755 (by decide +kernel) ⟨Nat.le_of_ble_eq_true rfl, Nat.le_of_ble_eq_true rfl⟩ 3 6 rfl rfl (rfl) hl.1 rfl (Nat.le_of_ble_eq_true rfl) dX6_expression_30 (fun r21 u H locs hw hP hD hS => ?_)
    obtain ⟨v22, f23⟩ := u
    obtain ⟨hIv22, hk0_v22, hk1_v22, hk9_v22, hk10_v22, hk31_v22, hk32_v22, hw⟩ := hw
    have hP : va_P (dC, dI) vwCl (XW cy x0 x v22 f23) H := hP
    have hD : va_D A (XW cy x0 x v22 f23) := hD
    have hq0_v22 : v22 0 = (v 0) := hk0_v22
    have hq1_v22 : v22 1 = (v 1) := hk1_v22
    have hq9_v22 : v22 9 = (v 9) := hk9_v22
    have hq10_v22 : v22 10 = (v 10) := hk10_v22
    have hq31_v22 : v22 31 = (v 31) := hk31_v22
    have hq32_v22 : v22 32 = (v 32) := hk32_v22
    rcases hw with ⟨g24⟩ | ⟨g24⟩
    · skip
      subst g24
      exact ret 1 (v22, f23) _ _ _ _ _ _ rfl ⟨hIv22, hk0_v22, hk1_v22, hk9_v22, hk10_v22, hk31_v22, hk32_v22, (Or.inl rfl)⟩ hP hD hS dX6_expression_33 (Nat.le_refl _) (Nat.le_refl _)
    · skip
      subst g24
      exact ret 0 (v22, f23) _ _ _ _ _ _ rfl ⟨hIv22, hk0_v22, hk1_v22, hk9_v22, hk10_v22, hk31_v22, hk32_v22, (Or.inr rfl)⟩ hP hD hS dX6_expression_33 (Nat.le_refl _) (Nat.le_refl _)
set_option maxHeartbeats 4000000 in
set_option maxRecDepth 100000 in
theorem sX_X6_expression_38 (l : Launch) (dC : Nat → ClassId) (dI : Nat → Nat → Nat) (cy : Nat → ClassId) (x0 : Nat) (x : Nat → Nat)  (v : Nat → Int32) (f : Nat → Nat → Int32) (hIv : XI v)  : ctIS l (dC, dI) cy yX6_expression cX6_expression 6 .boolean 19 487 0 0 ((Nat → Int32) × (Nat → Nat → Int32)) [.ref (x 2), .int 1, .int 6] (XW cy x0 x v f) (fun r u => XI u.1 ∧ u.1 0 = v 0 ∧ u.1 1 = v 1 ∧ u.1 9 = v 9 ∧ u.1 10 = v 10 ∧ u.1 31 = v 31 ∧ u.1 32 = v 32 ∧ ((r = 1) ∨ (r = 0))) (fun u => XW cy x0 x u.1 u.2) := by
  refine ctIS_of (by decide) (Nat.le_of_ble_eq_true rfl) (fun p e s m below meth c A ls Q hx hb hml hts hown hE hF hT hP hD hA hl ret => ?_)
  have hown : s.vm.findClass RX6 = some m.cls := hown
  have hS : va_S A s.heap s.heap [] := va_S.rf
  have hl : lv_has ls 6 [(0, .ref (x 2)), (1, .int 1), (2, .int 6)] := hl
  refine lv_iload_n hx hb dX6_expression_0 rfl (lv_at hl 1 rfl) ?_
  refine lv_iconst (v := 5) hx hb dX6_expression_1 (by decide) ?_
  refine lv_icmp_lt (tgt := 11) hx hb dX6_expression_2 (by decide) (fun _ => ?_) (fun c0 => absurd (by decide) c0)
  refine lv_iload_n hx hb dX6_expression_11 rfl (lv_at hl 1 rfl) ?_
  refine lv_iconst (v := 2) hx hb dX6_expression_12 (by decide) ?_
  refine lv_icmp_ne (tgt := 34) hx hb dX6_expression_13 (by decide) (fun _ => ?_) (fun c0 => absurd c0 (by decide))
  refine lv_aload_n hx hb dX6_expression_34 rfl (lv_at hl 0 rfl) ?_
  refine lv_iload_n hx hb dX6_expression_35 rfl (lv_at hl 1 rfl) ?_
  refine lv_iconst (v := 1) hx hb dX6_expression_36 (by decide) ?_
  refine lv_iadd hx hb dX6_expression_37 ?_
  refine tI (y := 2) (by decide) ?_
  refine lv_iload_n hx hb dX6_expression_38 rfl (lv_at hl 2 rfl) ?_
  refine csVi (n := 2) (rest := []) hx hb hml hown hts hE hP hD hS hA hF hT (sX_X6_expression_39 l dC dI cy x0 x  v f hIv ) k_740 k_742 k_15 k_103 k_743 (by decide +kernel) ⟨Nat.le_of_ble_eq_true rfl, Nat.le_of_ble_eq_true rfl⟩ 3 6 rfl rfl (rfl) hl.1 rfl (Nat.le_of_ble_eq_true rfl) dX6_expression_39 (fun r1 u H locs hw hP hD hS => ?_)
  obtain ⟨v2, f3⟩ := u
  obtain ⟨hIv2, hk0_v2, hk1_v2, hk9_v2, hk10_v2, hk31_v2, hk32_v2, hw⟩ := hw
  have hP : va_P (dC, dI) vwCl (XW cy x0 x v2 f3) H := hP
  have hD : va_D A (XW cy x0 x v2 f3) := hD
  have hq0_v2 : v2 0 = (v 0) := hk0_v2
  have hq1_v2 : v2 1 = (v 1) := hk1_v2
  have hq9_v2 : v2 9 = (v 9) := hk9_v2
  have hq10_v2 : v2 10 = (v 10) := hk10_v2
  have hq31_v2 : v2 31 = (v 31) := hk31_v2
  have hq32_v2 : v2 32 = (v 32) := hk32_v2
  rcases hw with ⟨g4⟩ | ⟨g4⟩
  · skip
    subst g4
    refine lv_if_ne (tgt := 47) hx hb dX6_expression_42 (by decide) (fun _ => ?_) (fun c0 => absurd c0 (by decide))
    refine lv_iload_n hx hb dX6_expression_47 rfl (lv_at hl 1 rfl) ?_
    refine lv_iconst (v := 2) hx hb dX6_expression_48 (by decide) ?_
    refine lv_icmp_ne (tgt := 56) hx hb dX6_expression_49 (by decide) (fun _ => ?_) (fun c0 => absurd c0 (by decide))
    refine lv_sipush (v := 1600) hx hb dX6_expression_56 (by decide) ?_
    refine lv_istore_n (lv' := [(3, .int 1600), (0, .ref (x 2)), (1, .int 1), (2, .int 6)]) hx hb dX6_expression_59 rfl hl (by decide) rfl (fun ls hl => ?_)
    refine lv_iconst (v := 0) hx hb dX6_expression_60 (by decide) ?_
    refine lv_istore (lv' := [(4, .int 0), (3, .int 1600), (0, .ref (x 2)), (1, .int 1), (2, .int 6)]) hx hb dX6_expression_61 hl (by decide) rfl (fun ls hl => ?_)
    have lp5 : ∀ (n5 : Nat) (l4_5 : Int32) (v5 : Nat → Int32) (f5 : Nat → Nat → Int32), XI v5 → v5 0 = (v 0) → v5 1 = (v 1) → v5 9 = (v 9) → v5 10 = (v 10) → v5 31 = (v 31) → v5 32 = (v 32) → ((0 : Int) ≤ l4_5.toInt ∧ l4_5.toInt ≤ 2147483647) → (2147483647 - l4_5.toInt).toNat < n5 → ∀ (H : Heap) (locs : List Loc) (ls : Array Slot), va_P (dC, dI) vwCl (XW cy x0 x v5 f5) H → va_D A (XW cy x0 x v5 f5) → va_S A s.heap H locs → lv_has ls 6 [(4, .int l4_5), (3, .int 1600), (0, .ref (x 2)), (1, .int 1), (2, .int 6)] → W p l e { frames := 19, cells := 0, slots := 0, locals := 487 } s m ([.ref (x 2), .int 1, .int 6] : List Value).toArray below meth c H locs 0 0 Q (F0 m 63 ls []) := by
      intro n5
      induction n5 with
      | zero => intro l4_5 v5 f5 hIv5 hq0_v5 hq1_v5 hq9_v5 hq10_v5 hq31_v5 hq32_v5 hr4_5 hm; exact absurd hm (Nat.not_lt_zero _)
      | succ n5 ih5 =>
        intro l4_5 v5 f5 hIv5 hq0_v5 hq1_v5 hq9_v5 hq10_v5 hq31_v5 hq32_v5 hr4_5 hm5 H locs ls hP hD hS hl
        refine lv_iload hx hb dX6_expression_63 (lv_at hl 0 rfl) ?_
        refine lv_iload_n hx hb dX6_expression_65 rfl (lv_at hl 1 rfl) ?_
        refine lv_icmp_ge (tgt := 131) hx hb dX6_expression_66 (by decide) (fun c6 => ?_) (fun c6 => ?_)
        · skip
          have zc6 : 1600 ≤ l4_5.toInt := by rw [fa_le, show (1600 : Int32).toInt = 1600 from by decide] at c6; exact c6
          refine lv_iconst (v := 1) hx hb dX6_expression_131 (by decide) ?_
          exact ret 1 (v5, f5) _ _ _ _ _ _ rfl ⟨hIv5, hq0_v5, hq1_v5, hq9_v5, hq10_v5, hq31_v5, hq32_v5, (Or.inl rfl)⟩ hP hD hS dX6_expression_132 (Nat.le_refl _) (Nat.le_refl _)
        · skip
          have zc6 : ¬ (1600 ≤ l4_5.toInt) := by rw [fa_le, show (1600 : Int32).toInt = 1600 from by decide] at c6; exact c6
          refine lv_iload_n hx hb dX6_expression_69 rfl (lv_at hl 3 rfl) ?_
          refine lv_aload_n hx hb dX6_expression_70 rfl (lv_at hl 2 rfl) ?_
          refine va_get (D := (dC, dI)) (ci := 6) (v := .ref (x 0)) (C := RX6) (T := TX6) (N := 7) hx hb hts inB_6 hown hE.1 hP 3 rfl rfl 0 (by decide) (hts _ k_265) (fun _ h9 => h9) rfl dX6_expression_71 ?_
          refine va_getN (D := (dC, dI)) (ci := 9) (v := .int (v5 2)) (C := RX9) (T := TX9) (N := 6) hx hb hts inB_9 hown hE.1 hP 1 rfl rfl 2 (by decide) (va_Nw.use rfl (hE.2 _ k_139)) (fun _ h9 => h9) rfl dX6_expression_74 ?_
          refine cbSi (n := 2) (rest := []) hx hb hml hown hts hE hP hD hS hA (sX_X6_joins_1 l dC dI cy x0 x 1 (v5 2) v5 f5 hIv5 ) k_756 k_757 k_103 k_758 (by decide +kernel) ⟨Nat.le_of_ble_eq_true rfl, Nat.le_of_ble_eq_true rfl⟩ (rfl) hl.1 rfl (Nat.le_of_ble_eq_true rfl) dX6_expression_77 (fun r7 u H locs hw hP hD hS => ?_)
          rcases hw with ⟨g8⟩ | ⟨g8⟩
          · skip
            subst g8
            refine lv_if_eq (tgt := 131) hx hb dX6_expression_80 (by decide) (fun c0 => absurd c0 (by decide)) (fun _ => ?_)
            refine lv_aload_n hx hb dX6_expression_83 rfl (lv_at hl 2 rfl) ?_
            refine va_get (D := (dC, dI)) (ci := 6) (v := .ref (x 0)) (C := RX6) (T := TX6) (N := 7) hx hb hts inB_6 hown hE.1 hP 3 rfl rfl 0 (by decide) (hts _ k_265) (fun _ h9 => h9) rfl dX6_expression_84 ?_
            refine va_getN (D := (dC, dI)) (ci := 9) (v := .int (v5 2)) (C := RX9) (T := TX9) (N := 6) hx hb hts inB_9 hown hE.1 hP 1 rfl rfl 2 (by decide) (va_Nw.use rfl (hE.2 _ k_139)) (fun _ h9 => h9) rfl dX6_expression_87 ?_
            refine lv_istore (lv' := [(5, .int (v5 2)), (4, .int l4_5), (3, .int 1600), (0, .ref (x 2)), (1, .int 1), (2, .int 6)]) hx hb dX6_expression_90 hl (by decide) rfl (fun ls hl => ?_)
            refine lv_aload_n hx hb dX6_expression_92 rfl (lv_at hl 3 rfl) ?_
            refine va_get (D := (dC, dI)) (ci := 6) (v := .ref (x 0)) (C := RX6) (T := TX6) (N := 7) hx hb hts inB_6 hown hE.1 hP 3 rfl rfl 0 (by decide) (hts _ k_265) (fun _ h9 => h9) rfl dX6_expression_93 ?_
            refine csVv (n := 0) (rest := []) hx hb hml hown hts hE hP hD hS hA hF hT (sX_X9_advance_1 l dC dI cy x0 x  v5 f5 hIv5 ) k_699 k_559 k_560 k_102 k_561 (by decide +kernel) ⟨Nat.le_of_ble_eq_true rfl, Nat.le_of_ble_eq_true rfl⟩ 1 9 rfl rfl (rfl) hl.1 rfl (Nat.le_of_ble_eq_true rfl) dX6_expression_96 (fun u H locs hw hP hD hS => ?_)
            obtain ⟨v9, f10⟩ := u
            obtain ⟨hIv9, hk0_v9, hk1_v9, hk9_v9, hk10_v9, hk31_v9, hk32_v9⟩ := hw
            have hP : va_P (dC, dI) vwCl (XW cy x0 x v9 f10) H := hP
            have hD : va_D A (XW cy x0 x v9 f10) := hD
            have hq0_v9 : v9 0 = (v 0) := hk0_v9.trans hq0_v5
            have hq1_v9 : v9 1 = (v 1) := hk1_v9.trans hq1_v5
            have hq9_v9 : v9 9 = (v 9) := hk9_v9.trans hq9_v5
            have hq10_v9 : v9 10 = (v 10) := hk10_v9.trans hq10_v5
            have hq31_v9 : v9 31 = (v 31) := hk31_v9.trans hq31_v5
            have hq32_v9 : v9 32 = (v 32) := hk32_v9.trans hq32_v5
            refine lv_aload_n hx hb dX6_expression_99 rfl (lv_at hl 3 rfl) ?_
            refine lv_iload_n hx hb dX6_expression_100 rfl (lv_at hl 4 rfl) ?_
            refine lv_iconst (v := 1) hx hb dX6_expression_101 (by decide) ?_
            refine lv_iadd hx hb dX6_expression_102 ?_
            refine tI (y := 2) (by decide) ?_
            refine lv_iload_n hx hb dX6_expression_103 rfl (lv_at hl 5 rfl) ?_
            refine csVi (n := 2) (rest := []) hx hb hml hown hts hE hP hD hS hA hF hT (sX_X6_expression_39 l dC dI cy x0 x  v9 f10 hIv9 ) k_740 k_742 k_15 k_103 k_743 (by decide +kernel) ⟨Nat.le_of_ble_eq_true rfl, Nat.le_of_ble_eq_true rfl⟩ 3 6 rfl rfl (rfl) hl.1 rfl (Nat.le_of_ble_eq_true rfl) dX6_expression_104 (fun r11 u H locs hw hP hD hS => ?_)
            obtain ⟨v12, f13⟩ := u
            obtain ⟨hIv12, hk0_v12, hk1_v12, hk9_v12, hk10_v12, hk31_v12, hk32_v12, hw⟩ := hw
            have hP : va_P (dC, dI) vwCl (XW cy x0 x v12 f13) H := hP
            have hD : va_D A (XW cy x0 x v12 f13) := hD
            have hq0_v12 : v12 0 = (v 0) := hk0_v12.trans hq0_v9
            have hq1_v12 : v12 1 = (v 1) := hk1_v12.trans hq1_v9
            have hq9_v12 : v12 9 = (v 9) := hk9_v12.trans hq9_v9
            have hq10_v12 : v12 10 = (v 10) := hk10_v12.trans hq10_v9
            have hq31_v12 : v12 31 = (v 31) := hk31_v12.trans hq31_v9
            have hq32_v12 : v12 32 = (v 32) := hk32_v12.trans hq32_v9
            rcases hw with ⟨g14⟩ | ⟨g14⟩
            · skip
              subst g14
              refine lv_if_ne (tgt := 112) hx hb dX6_expression_107 (by decide) (fun _ => ?_) (fun c0 => absurd c0 (by decide))
              refine lv_aload_n hx hb dX6_expression_112 rfl (lv_at hl 3 rfl) ?_
              refine va_get (D := (dC, dI)) (ci := 6) (v := .ref (x 3)) (C := RX6) (T := TX6) (N := 7) hx hb hts inB_6 hown hE.1 hP 3 rfl rfl 1 (by decide) (hts _ k_266) (fun _ h9 => h9) rfl dX6_expression_113 ?_
              refine va_getN (D := (dC, dI)) (ci := 7) (v := .ref (x 6)) (C := RX7) (T := TX7) (N := 10) hx hb hts inB_7 hown hE.1 hP 4 rfl rfl 2 (by decide) (va_Nw.use rfl (hE.2 _ k_210)) (fun _ h9 => h9) rfl dX6_expression_116 ?_
              refine lv_iload hx hb dX6_expression_119 (lv_at hl 0 rfl) ?_
              refine lv_iconst (v := 0) hx hb dX6_expression_121 (by decide) ?_
              refine cbVv (n := 2) (rest := []) hx hb hml hown hts hE hP hD hS hA (sX_X4_add_1 l dC dI cy x0 x (v5 2) 0 v12 f13 hIv12 ) k_748 k_749 k_750 k_105 k_751 (by decide +kernel) ⟨Nat.le_of_ble_eq_true rfl, Nat.le_of_ble_eq_true rfl⟩ 7 4 rfl rfl (rfl) hl.1 rfl (Nat.le_of_ble_eq_true rfl) dX6_expression_122 (fun u H locs hw hP hD hS => ?_)
              obtain ⟨v15, f16⟩ := u
              obtain ⟨hIv15, hk0_v15, hk1_v15, hk9_v15, hk10_v15, hk31_v15, hk32_v15⟩ := hw
              have hP : va_P (dC, dI) vwCl (XW cy x0 x v15 f16) H := hP
              have hD : va_D A (XW cy x0 x v15 f16) := hD
              have hq0_v15 : v15 0 = (v 0) := hk0_v15.trans hq0_v12
              have hq1_v15 : v15 1 = (v 1) := hk1_v15.trans hq1_v12
              have hq9_v15 : v15 9 = (v 9) := hk9_v15.trans hq9_v12
              have hq10_v15 : v15 10 = (v 10) := hk10_v15.trans hq10_v12
              have hq31_v15 : v15 31 = (v 31) := hk31_v15.trans hq31_v12
              have hq32_v15 : v15 32 = (v 32) := hk32_v15.trans hq32_v12
              obtain ⟨t17, et17⟩ : ∃ y : Int32, y = l4_5 + 1 := ⟨_, rfl⟩
              have rg18 := fb_rng l4_5
              have zt17 : t17.toInt = l4_5.toInt + 1 := by rw [et17]; exact add_i rfl (by decide) (by omega) (by omega)
              refine lv_iinc (v := t17) (lv' := [(4, .int t17), (5, .int (v5 2)), (3, .int 1600), (0, .ref (x 2)), (1, .int 1), (2, .int 6)]) hx hb dX6_expression_125 hl (k := 1) rfl (by rw [et17]; rfl) (by decide) rfl (fun ls hl => ?_)
              refine lv_goto (tgt := 63) hx hb dX6_expression_128 (by decide) ?_
              have rg19 := fb_rng t17
              exact ih5 t17 v15 f16 hIv15 hq0_v15 hq1_v15 hq9_v15 hq10_v15 hq31_v15 hq32_v15 ⟨show (0 : Int) ≤ t17.toInt by omega, show t17.toInt ≤ (2147483647 : Int) by omega⟩ (by show (2147483647 - t17.toInt).toNat < n5; omega) _ _ _ hP hD hS (lv_sub hl [0, 2, 3, 4, 5] rfl)
            · skip
              subst g14
              refine lv_if_ne (tgt := 112) hx hb dX6_expression_107 (by decide) (fun c0 => absurd (by decide) c0) (fun _ => ?_)
              refine lv_iconst (v := 0) hx hb dX6_expression_110 (by decide) ?_
              exact ret 0 (v12, f13) _ _ _ _ _ _ rfl ⟨hIv12, (hk0_v12.trans (hk0_v9.trans hq0_v5)), (hk1_v12.trans (hk1_v9.trans hq1_v5)), (hk9_v12.trans (hk9_v9.trans hq9_v5)), (hk10_v12.trans (hk10_v9.trans hq10_v5)), (hk31_v12.trans (hk31_v9.trans hq31_v5)), (hk32_v12.trans (hk32_v9.trans hq32_v5)), (Or.inr rfl)⟩ hP hD hS dX6_expression_111 (Nat.le_refl _) (Nat.le_refl _)
          · skip
            subst g8
            refine lv_if_eq (tgt := 131) hx hb dX6_expression_80 (by decide) (fun _ => ?_) (fun c0 => absurd (by decide) c0)
            refine lv_iconst (v := 1) hx hb dX6_expression_131 (by decide) ?_
            exact ret 1 (v5, f5) _ _ _ _ _ _ rfl ⟨hIv5, hq0_v5, hq1_v5, hq9_v5, hq10_v5, hq31_v5, hq32_v5, (Or.inl rfl)⟩ hP hD hS dX6_expression_132 (Nat.le_refl _) (Nat.le_refl _)
    exact lp5 _ 0 v2 f3 hIv2 hq0_v2 hq1_v2 hq9_v2 hq10_v2 hq31_v2 hq32_v2 ⟨by decide, by decide⟩ (Nat.lt_succ_self _) _ _ _ hP hD hS (lv_sub hl [0, 1, 2, 3, 4] rfl)
  · skip
    subst g4
    refine lv_if_ne (tgt := 47) hx hb dX6_expression_42 (by decide) (fun c0 => absurd (by decide) c0) (fun _ => ?_)
    refine lv_iconst (v := 0) hx hb dX6_expression_45 (by decide) ?_
    exact ret 0 (v2, f3) _ _ _ _ _ _ rfl ⟨hIv2, hk0_v2, hk1_v2, hk9_v2, hk10_v2, hk31_v2, hk32_v2, (Or.inr rfl)⟩ hP hD hS dX6_expression_46 (Nat.le_refl _) (Nat.le_refl _)
set_option maxHeartbeats 4000000 in
set_option maxRecDepth 100000 in
theorem sX_X6_expression_37 (l : Launch) (dC : Nat → ClassId) (dI : Nat → Nat → Nat) (cy : Nat → ClassId) (x0 : Nat) (x : Nat → Nat)  (v : Nat → Int32) (f : Nat → Nat → Int32) (hIv : XI v)  : ctIS l (dC, dI) cy yX6_expression cX6_expression 6 .boolean 20 512 0 0 ((Nat → Int32) × (Nat → Nat → Int32)) [.ref (x 2), .int 0, .int 6] (XW cy x0 x v f) (fun r u => XI u.1 ∧ u.1 0 = v 0 ∧ u.1 1 = v 1 ∧ u.1 9 = v 9 ∧ u.1 10 = v 10 ∧ u.1 31 = v 31 ∧ u.1 32 = v 32 ∧ ((r = 1) ∨ (r = 0))) (fun u => XW cy x0 x u.1 u.2) := by
  refine ctIS_of (by decide) (Nat.le_of_ble_eq_true rfl) (fun p e s m below meth c A ls Q hx hb hml hts hown hE hF hT hP hD hA hl ret => ?_)
  have hown : s.vm.findClass RX6 = some m.cls := hown
  have hS : va_S A s.heap s.heap [] := va_S.rf
  have hl : lv_has ls 6 [(0, .ref (x 2)), (1, .int 0), (2, .int 6)] := hl
  refine lv_iload_n hx hb dX6_expression_0 rfl (lv_at hl 1 rfl) ?_
  refine lv_iconst (v := 5) hx hb dX6_expression_1 (by decide) ?_
  refine lv_icmp_lt (tgt := 11) hx hb dX6_expression_2 (by decide) (fun _ => ?_) (fun c0 => absurd (by decide) c0)
  refine lv_iload_n hx hb dX6_expression_11 rfl (lv_at hl 1 rfl) ?_
  refine lv_iconst (v := 2) hx hb dX6_expression_12 (by decide) ?_
  refine lv_icmp_ne (tgt := 34) hx hb dX6_expression_13 (by decide) (fun _ => ?_) (fun c0 => absurd c0 (by decide))
  refine lv_aload_n hx hb dX6_expression_34 rfl (lv_at hl 0 rfl) ?_
  refine lv_iload_n hx hb dX6_expression_35 rfl (lv_at hl 1 rfl) ?_
  refine lv_iconst (v := 1) hx hb dX6_expression_36 (by decide) ?_
  refine lv_iadd hx hb dX6_expression_37 ?_
  refine tI (y := 1) (by decide) ?_
  refine lv_iload_n hx hb dX6_expression_38 rfl (lv_at hl 2 rfl) ?_
  refine csVi (n := 2) (rest := []) hx hb hml hown hts hE hP hD hS hA hF hT (sX_X6_expression_38 l dC dI cy x0 x  v f hIv ) k_740 k_742 k_15 k_103 k_743 (by decide +kernel) ⟨Nat.le_of_ble_eq_true rfl, Nat.le_of_ble_eq_true rfl⟩ 3 6 rfl rfl (rfl) hl.1 rfl (Nat.le_of_ble_eq_true rfl) dX6_expression_39 (fun r1 u H locs hw hP hD hS => ?_)
  obtain ⟨v2, f3⟩ := u
  obtain ⟨hIv2, hk0_v2, hk1_v2, hk9_v2, hk10_v2, hk31_v2, hk32_v2, hw⟩ := hw
  have hP : va_P (dC, dI) vwCl (XW cy x0 x v2 f3) H := hP
  have hD : va_D A (XW cy x0 x v2 f3) := hD
  have hq0_v2 : v2 0 = (v 0) := hk0_v2
  have hq1_v2 : v2 1 = (v 1) := hk1_v2
  have hq9_v2 : v2 9 = (v 9) := hk9_v2
  have hq10_v2 : v2 10 = (v 10) := hk10_v2
  have hq31_v2 : v2 31 = (v 31) := hk31_v2
  have hq32_v2 : v2 32 = (v 32) := hk32_v2
  rcases hw with ⟨g4⟩ | ⟨g4⟩
  · skip
    subst g4
    refine lv_if_ne (tgt := 47) hx hb dX6_expression_42 (by decide) (fun _ => ?_) (fun c0 => absurd c0 (by decide))
    refine lv_iload_n hx hb dX6_expression_47 rfl (lv_at hl 1 rfl) ?_
    refine lv_iconst (v := 2) hx hb dX6_expression_48 (by decide) ?_
    refine lv_icmp_ne (tgt := 56) hx hb dX6_expression_49 (by decide) (fun _ => ?_) (fun c0 => absurd c0 (by decide))
    refine lv_sipush (v := 1600) hx hb dX6_expression_56 (by decide) ?_
    refine lv_istore_n (lv' := [(3, .int 1600), (0, .ref (x 2)), (1, .int 0), (2, .int 6)]) hx hb dX6_expression_59 rfl hl (by decide) rfl (fun ls hl => ?_)
    refine lv_iconst (v := 0) hx hb dX6_expression_60 (by decide) ?_
    refine lv_istore (lv' := [(4, .int 0), (3, .int 1600), (0, .ref (x 2)), (1, .int 0), (2, .int 6)]) hx hb dX6_expression_61 hl (by decide) rfl (fun ls hl => ?_)
    have lp5 : ∀ (n5 : Nat) (l4_5 : Int32) (v5 : Nat → Int32) (f5 : Nat → Nat → Int32), XI v5 → v5 0 = (v 0) → v5 1 = (v 1) → v5 9 = (v 9) → v5 10 = (v 10) → v5 31 = (v 31) → v5 32 = (v 32) → ((0 : Int) ≤ l4_5.toInt ∧ l4_5.toInt ≤ 2147483647) → (2147483647 - l4_5.toInt).toNat < n5 → ∀ (H : Heap) (locs : List Loc) (ls : Array Slot), va_P (dC, dI) vwCl (XW cy x0 x v5 f5) H → va_D A (XW cy x0 x v5 f5) → va_S A s.heap H locs → lv_has ls 6 [(4, .int l4_5), (3, .int 1600), (0, .ref (x 2)), (1, .int 0), (2, .int 6)] → W p l e { frames := 20, cells := 0, slots := 0, locals := 512 } s m ([.ref (x 2), .int 0, .int 6] : List Value).toArray below meth c H locs 0 0 Q (F0 m 63 ls []) := by
      intro n5
      induction n5 with
      | zero => intro l4_5 v5 f5 hIv5 hq0_v5 hq1_v5 hq9_v5 hq10_v5 hq31_v5 hq32_v5 hr4_5 hm; exact absurd hm (Nat.not_lt_zero _)
      | succ n5 ih5 =>
        intro l4_5 v5 f5 hIv5 hq0_v5 hq1_v5 hq9_v5 hq10_v5 hq31_v5 hq32_v5 hr4_5 hm5 H locs ls hP hD hS hl
        refine lv_iload hx hb dX6_expression_63 (lv_at hl 0 rfl) ?_
        refine lv_iload_n hx hb dX6_expression_65 rfl (lv_at hl 1 rfl) ?_
        refine lv_icmp_ge (tgt := 131) hx hb dX6_expression_66 (by decide) (fun c6 => ?_) (fun c6 => ?_)
        · skip
          have zc6 : 1600 ≤ l4_5.toInt := by rw [fa_le, show (1600 : Int32).toInt = 1600 from by decide] at c6; exact c6
          refine lv_iconst (v := 1) hx hb dX6_expression_131 (by decide) ?_
          exact ret 1 (v5, f5) _ _ _ _ _ _ rfl ⟨hIv5, hq0_v5, hq1_v5, hq9_v5, hq10_v5, hq31_v5, hq32_v5, (Or.inl rfl)⟩ hP hD hS dX6_expression_132 (Nat.le_refl _) (Nat.le_refl _)
        · skip
          have zc6 : ¬ (1600 ≤ l4_5.toInt) := by rw [fa_le, show (1600 : Int32).toInt = 1600 from by decide] at c6; exact c6
          refine lv_iload_n hx hb dX6_expression_69 rfl (lv_at hl 3 rfl) ?_
          refine lv_aload_n hx hb dX6_expression_70 rfl (lv_at hl 2 rfl) ?_
          refine va_get (D := (dC, dI)) (ci := 6) (v := .ref (x 0)) (C := RX6) (T := TX6) (N := 7) hx hb hts inB_6 hown hE.1 hP 3 rfl rfl 0 (by decide) (hts _ k_265) (fun _ h9 => h9) rfl dX6_expression_71 ?_
          refine va_getN (D := (dC, dI)) (ci := 9) (v := .int (v5 2)) (C := RX9) (T := TX9) (N := 6) hx hb hts inB_9 hown hE.1 hP 1 rfl rfl 2 (by decide) (va_Nw.use rfl (hE.2 _ k_139)) (fun _ h9 => h9) rfl dX6_expression_74 ?_
          refine cbSi (n := 2) (rest := []) hx hb hml hown hts hE hP hD hS hA (sX_X6_joins_1 l dC dI cy x0 x 0 (v5 2) v5 f5 hIv5 ) k_756 k_757 k_103 k_758 (by decide +kernel) ⟨Nat.le_of_ble_eq_true rfl, Nat.le_of_ble_eq_true rfl⟩ (rfl) hl.1 rfl (Nat.le_of_ble_eq_true rfl) dX6_expression_77 (fun r7 u H locs hw hP hD hS => ?_)
          rcases hw with ⟨g8⟩ | ⟨g8⟩
          · skip
            subst g8
            refine lv_if_eq (tgt := 131) hx hb dX6_expression_80 (by decide) (fun c0 => absurd c0 (by decide)) (fun _ => ?_)
            refine lv_aload_n hx hb dX6_expression_83 rfl (lv_at hl 2 rfl) ?_
            refine va_get (D := (dC, dI)) (ci := 6) (v := .ref (x 0)) (C := RX6) (T := TX6) (N := 7) hx hb hts inB_6 hown hE.1 hP 3 rfl rfl 0 (by decide) (hts _ k_265) (fun _ h9 => h9) rfl dX6_expression_84 ?_
            refine va_getN (D := (dC, dI)) (ci := 9) (v := .int (v5 2)) (C := RX9) (T := TX9) (N := 6) hx hb hts inB_9 hown hE.1 hP 1 rfl rfl 2 (by decide) (va_Nw.use rfl (hE.2 _ k_139)) (fun _ h9 => h9) rfl dX6_expression_87 ?_
            refine lv_istore (lv' := [(5, .int (v5 2)), (4, .int l4_5), (3, .int 1600), (0, .ref (x 2)), (1, .int 0), (2, .int 6)]) hx hb dX6_expression_90 hl (by decide) rfl (fun ls hl => ?_)
            refine lv_aload_n hx hb dX6_expression_92 rfl (lv_at hl 3 rfl) ?_
            refine va_get (D := (dC, dI)) (ci := 6) (v := .ref (x 0)) (C := RX6) (T := TX6) (N := 7) hx hb hts inB_6 hown hE.1 hP 3 rfl rfl 0 (by decide) (hts _ k_265) (fun _ h9 => h9) rfl dX6_expression_93 ?_
            refine csVv (n := 0) (rest := []) hx hb hml hown hts hE hP hD hS hA hF hT (sX_X9_advance_1 l dC dI cy x0 x  v5 f5 hIv5 ) k_699 k_559 k_560 k_102 k_561 (by decide +kernel) ⟨Nat.le_of_ble_eq_true rfl, Nat.le_of_ble_eq_true rfl⟩ 1 9 rfl rfl (rfl) hl.1 rfl (Nat.le_of_ble_eq_true rfl) dX6_expression_96 (fun u H locs hw hP hD hS => ?_)
            obtain ⟨v9, f10⟩ := u
            obtain ⟨hIv9, hk0_v9, hk1_v9, hk9_v9, hk10_v9, hk31_v9, hk32_v9⟩ := hw
            have hP : va_P (dC, dI) vwCl (XW cy x0 x v9 f10) H := hP
            have hD : va_D A (XW cy x0 x v9 f10) := hD
            have hq0_v9 : v9 0 = (v 0) := hk0_v9.trans hq0_v5
            have hq1_v9 : v9 1 = (v 1) := hk1_v9.trans hq1_v5
            have hq9_v9 : v9 9 = (v 9) := hk9_v9.trans hq9_v5
            have hq10_v9 : v9 10 = (v 10) := hk10_v9.trans hq10_v5
            have hq31_v9 : v9 31 = (v 31) := hk31_v9.trans hq31_v5
            have hq32_v9 : v9 32 = (v 32) := hk32_v9.trans hq32_v5
            refine lv_aload_n hx hb dX6_expression_99 rfl (lv_at hl 3 rfl) ?_
            refine lv_iload_n hx hb dX6_expression_100 rfl (lv_at hl 4 rfl) ?_
            refine lv_iconst (v := 1) hx hb dX6_expression_101 (by decide) ?_
            refine lv_iadd hx hb dX6_expression_102 ?_
            refine tI (y := 1) (by decide) ?_
            refine lv_iload_n hx hb dX6_expression_103 rfl (lv_at hl 5 rfl) ?_
            refine csVi (n := 2) (rest := []) hx hb hml hown hts hE hP hD hS hA hF hT (sX_X6_expression_38 l dC dI cy x0 x  v9 f10 hIv9 ) k_740 k_742 k_15 k_103 k_743 (by decide +kernel) ⟨Nat.le_of_ble_eq_true rfl, Nat.le_of_ble_eq_true rfl⟩ 3 6 rfl rfl (rfl) hl.1 rfl (Nat.le_of_ble_eq_true rfl) dX6_expression_104 (fun r11 u H locs hw hP hD hS => ?_)
            obtain ⟨v12, f13⟩ := u
            obtain ⟨hIv12, hk0_v12, hk1_v12, hk9_v12, hk10_v12, hk31_v12, hk32_v12, hw⟩ := hw
            have hP : va_P (dC, dI) vwCl (XW cy x0 x v12 f13) H := hP
            have hD : va_D A (XW cy x0 x v12 f13) := hD
            have hq0_v12 : v12 0 = (v 0) := hk0_v12.trans hq0_v9
            have hq1_v12 : v12 1 = (v 1) := hk1_v12.trans hq1_v9
            have hq9_v12 : v12 9 = (v 9) := hk9_v12.trans hq9_v9
            have hq10_v12 : v12 10 = (v 10) := hk10_v12.trans hq10_v9
            have hq31_v12 : v12 31 = (v 31) := hk31_v12.trans hq31_v9
            have hq32_v12 : v12 32 = (v 32) := hk32_v12.trans hq32_v9
            rcases hw with ⟨g14⟩ | ⟨g14⟩
            · skip
              subst g14
              refine lv_if_ne (tgt := 112) hx hb dX6_expression_107 (by decide) (fun _ => ?_) (fun c0 => absurd c0 (by decide))
              refine lv_aload_n hx hb dX6_expression_112 rfl (lv_at hl 3 rfl) ?_
              refine va_get (D := (dC, dI)) (ci := 6) (v := .ref (x 3)) (C := RX6) (T := TX6) (N := 7) hx hb hts inB_6 hown hE.1 hP 3 rfl rfl 1 (by decide) (hts _ k_266) (fun _ h9 => h9) rfl dX6_expression_113 ?_
              refine va_getN (D := (dC, dI)) (ci := 7) (v := .ref (x 6)) (C := RX7) (T := TX7) (N := 10) hx hb hts inB_7 hown hE.1 hP 4 rfl rfl 2 (by decide) (va_Nw.use rfl (hE.2 _ k_210)) (fun _ h9 => h9) rfl dX6_expression_116 ?_
              refine lv_iload hx hb dX6_expression_119 (lv_at hl 0 rfl) ?_
              refine lv_iconst (v := 0) hx hb dX6_expression_121 (by decide) ?_
              refine cbVv (n := 2) (rest := []) hx hb hml hown hts hE hP hD hS hA (sX_X4_add_1 l dC dI cy x0 x (v5 2) 0 v12 f13 hIv12 ) k_748 k_749 k_750 k_105 k_751 (by decide +kernel) ⟨Nat.le_of_ble_eq_true rfl, Nat.le_of_ble_eq_true rfl⟩ 7 4 rfl rfl (rfl) hl.1 rfl (Nat.le_of_ble_eq_true rfl) dX6_expression_122 (fun u H locs hw hP hD hS => ?_)
              obtain ⟨v15, f16⟩ := u
              obtain ⟨hIv15, hk0_v15, hk1_v15, hk9_v15, hk10_v15, hk31_v15, hk32_v15⟩ := hw
              have hP : va_P (dC, dI) vwCl (XW cy x0 x v15 f16) H := hP
              have hD : va_D A (XW cy x0 x v15 f16) := hD
              have hq0_v15 : v15 0 = (v 0) := hk0_v15.trans hq0_v12
              have hq1_v15 : v15 1 = (v 1) := hk1_v15.trans hq1_v12
              have hq9_v15 : v15 9 = (v 9) := hk9_v15.trans hq9_v12
              have hq10_v15 : v15 10 = (v 10) := hk10_v15.trans hq10_v12
              have hq31_v15 : v15 31 = (v 31) := hk31_v15.trans hq31_v12
              have hq32_v15 : v15 32 = (v 32) := hk32_v15.trans hq32_v12
              obtain ⟨t17, et17⟩ : ∃ y : Int32, y = l4_5 + 1 := ⟨_, rfl⟩
              have rg18 := fb_rng l4_5
              have zt17 : t17.toInt = l4_5.toInt + 1 := by rw [et17]; exact add_i rfl (by decide) (by omega) (by omega)
              refine lv_iinc (v := t17) (lv' := [(4, .int t17), (5, .int (v5 2)), (3, .int 1600), (0, .ref (x 2)), (1, .int 0), (2, .int 6)]) hx hb dX6_expression_125 hl (k := 1) rfl (by rw [et17]; rfl) (by decide) rfl (fun ls hl => ?_)
              refine lv_goto (tgt := 63) hx hb dX6_expression_128 (by decide) ?_
              have rg19 := fb_rng t17
              exact ih5 t17 v15 f16 hIv15 hq0_v15 hq1_v15 hq9_v15 hq10_v15 hq31_v15 hq32_v15 ⟨show (0 : Int) ≤ t17.toInt by omega, show t17.toInt ≤ (2147483647 : Int) by omega⟩ (by show (2147483647 - t17.toInt).toNat < n5; omega) _ _ _ hP hD hS (lv_sub hl [0, 2, 3, 4, 5] rfl)
            · skip
              subst g14
              refine lv_if_ne (tgt := 112) hx hb dX6_expression_107 (by decide) (fun c0 => absurd (by decide) c0) (fun _ => ?_)
              refine lv_iconst (v := 0) hx hb dX6_expression_110 (by decide) ?_
              exact ret 0 (v12, f13) _ _ _ _ _ _ rfl ⟨hIv12, (hk0_v12.trans (hk0_v9.trans hq0_v5)), (hk1_v12.trans (hk1_v9.trans hq1_v5)), (hk9_v12.trans (hk9_v9.trans hq9_v5)), (hk10_v12.trans (hk10_v9.trans hq10_v5)), (hk31_v12.trans (hk31_v9.trans hq31_v5)), (hk32_v12.trans (hk32_v9.trans hq32_v5)), (Or.inr rfl)⟩ hP hD hS dX6_expression_111 (Nat.le_refl _) (Nat.le_refl _)
          · skip
            subst g8
            refine lv_if_eq (tgt := 131) hx hb dX6_expression_80 (by decide) (fun _ => ?_) (fun c0 => absurd (by decide) c0)
            refine lv_iconst (v := 1) hx hb dX6_expression_131 (by decide) ?_
            exact ret 1 (v5, f5) _ _ _ _ _ _ rfl ⟨hIv5, hq0_v5, hq1_v5, hq9_v5, hq10_v5, hq31_v5, hq32_v5, (Or.inl rfl)⟩ hP hD hS dX6_expression_132 (Nat.le_refl _) (Nat.le_refl _)
    exact lp5 _ 0 v2 f3 hIv2 hq0_v2 hq1_v2 hq9_v2 hq10_v2 hq31_v2 hq32_v2 ⟨by decide, by decide⟩ (Nat.lt_succ_self _) _ _ _ hP hD hS (lv_sub hl [0, 1, 2, 3, 4] rfl)
  · skip
    subst g4
    refine lv_if_ne (tgt := 47) hx hb dX6_expression_42 (by decide) (fun c0 => absurd (by decide) c0) (fun _ => ?_)
    refine lv_iconst (v := 0) hx hb dX6_expression_45 (by decide) ?_
    exact ret 0 (v2, f3) _ _ _ _ _ _ rfl ⟨hIv2, hk0_v2, hk1_v2, hk9_v2, hk10_v2, hk31_v2, hk32_v2, (Or.inr rfl)⟩ hP hD hS dX6_expression_46 (Nat.le_refl _) (Nat.le_refl _)
