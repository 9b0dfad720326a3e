set_option maxHeartbeats 4000000 in
set_option maxRecDepth 100000 in
theorem sX_X10_doff_1 (l : Launch) (dC : Nat → ClassId) (dI : Nat → Nat → Nat) (cy : Nat → ClassId) (x0 : Nat) (x : Nat → Nat) (p1 : Int32) (v : Nat → Int32) (f : Nat → Nat → Int32) (hIv : XI v)  : ctI l (dC, dI) cy yX10_doff cX10_doff 3 .int 3 142 0 0 ((Nat → Int32) × (Nat → Nat → Int32)) [.ref x0, .int p1] (XW cy x0 x v f) (fun r u => XI u.1 ∧ u.1 0 = v 0 ∧ u.1 1 = v 1 ∧ u.1 9 = v 9 ∧ u.1 10 = v 10 ∧ u.1 31 = v 31 ∧ u.1 32 = v 32) (fun u => XW cy x0 x u.1 u.2) := by
  refine ctI_of (by decide) (Nat.le_of_ble_eq_true rfl) (fun p e s m below meth c A ls Q hx hb hml hts hown hE hP hD hA hl ret => ?_)
  have hown : s.vm.findClass RX10 = some m.cls := hown
  have hS : va_S A s.heap s.heap [] := va_S.rf
  have hl : lv_has ls 3 [(0, .ref x0), (1, .int p1)] := hl
  refine lv_aload_n hx hb dX10_doff_0 rfl (lv_at hl 0 rfl) ?_
  refine va_get (D := (dC, dI)) (ci := 10) (v := .ref (x 21)) (C := RX10) (T := TX10) (N := 10) hx hb hts inB_10 hown hE.1 hP 0 rfl rfl 3 (by decide) (hts _ k_494) (fun _ h9 => h9) rfl dX10_doff_1 ?_
  refine lv_iload_n hx hb dX10_doff_4 rfl (lv_at hl 1 rfl) ?_
  refine cbVi (n := 1) (rest := []) hx hb hml hown hts hE hP hD hS hA (sX_X1_wears_1 l dC dI cy x0 x p1 v f hIv ) k_809 k_810 k_811 k_106 k_812 (by decide +kernel) ⟨Nat.le_of_ble_eq_true rfl, Nat.le_of_ble_eq_true rfl⟩ 22 1 rfl rfl (rfl) hl.1 rfl (Nat.le_of_ble_eq_true rfl) dX10_doff_5 (fun r1 u H locs hw hP hD hS => ?_)
  refine lv_istore_n (lv' := [(2, .int r1), (0, .ref x0), (1, .int p1)]) hx hb dX10_doff_8 rfl hl (by decide) rfl (fun ls hl => ?_)
  refine lv_iload_n hx hb dX10_doff_9 rfl (lv_at hl 0 rfl) ?_
  refine lv_iconst (v := (-1)) hx hb dX10_doff_10 (by decide) ?_
  refine lv_icmp_ne (tgt := 16) hx hb dX10_doff_11 (by decide) (fun c2 => ?_) (fun c2 => ?_)
  · skip
    have zc2 : ¬ (r1.toInt = (-1)) := by rw [fa_eq, show ((-1) : Int32).toInt = -1 from by decide] at c2; exact c2
    refine lv_aload_n hx hb dX10_doff_16 rfl (lv_at hl 1 rfl) ?_
    refine va_get (D := (dC, dI)) (ci := 10) (v := .ref (x 21)) (C := RX10) (T := TX10) (N := 10) hx hb hts inB_10 hown hE.1 hP 0 rfl rfl 3 (by decide) (hts _ k_494) (fun _ h9 => h9) rfl dX10_doff_17 ?_
    refine lv_iload_n hx hb dX10_doff_20 rfl (lv_at hl 2 rfl) ?_
    refine lv_iconst (v := (-1)) hx hb dX10_doff_21 (by decide) ?_
    refine cbVv (n := 2) (rest := []) hx hb hml hown hts hE hP hD hS hA (sX_X1_setWears_1 l dC dI cy x0 x p1 (-1) v f hIv ) k_891 k_880 k_881 k_106 k_882 (by decide +kernel) ⟨Nat.le_of_ble_eq_true rfl, Nat.le_of_ble_eq_true rfl⟩ 22 1 rfl rfl (rfl) hl.1 rfl (Nat.le_of_ble_eq_true rfl) dX10_doff_22 (fun u H locs hw hP hD hS => ?_)
    obtain ⟨v3, f4⟩ := u
    obtain ⟨hIv3, hk0_v3, hk1_v3, hk9_v3, hk10_v3, hk31_v3, hk32_v3⟩ := hw
    have hP : va_P (dC, dI) vwCl (XW cy x0 x v3 f4) H := hP
    have hD : va_D A (XW cy x0 x v3 f4) := hD
    have hq0_v3 : v3 0 = (v 0) := hk0_v3
    have hq1_v3 : v3 1 = (v 1) := hk1_v3
    have hq9_v3 : v3 9 = (v 9) := hk9_v3
    have hq10_v3 : v3 10 = (v 10) := hk10_v3
    have hq31_v3 : v3 31 = (v 31) := hk31_v3
    have hq32_v3 : v3 32 = (v 32) := hk32_v3
    refine lv_aload_n hx hb dX10_doff_25 rfl (lv_at hl 1 rfl) ?_
    refine va_get (D := (dC, dI)) (ci := 10) (v := .ref (x 20)) (C := RX10) (T := TX10) (N := 10) hx hb hts inB_10 hown hE.1 hP 0 rfl rfl 4 (by decide) (hts _ k_495) (fun _ h9 => h9) rfl dX10_doff_26 ?_
    refine cbVv (n := 0) (rest := []) hx hb hml hown hts hE hP hD hS hA (sX_X5_keepAct_1 l dC dI cy x0 x  v3 f4 hIv3 ) k_883 k_884 k_885 k_107 k_886 (by decide +kernel) ⟨Nat.le_of_ble_eq_true rfl, Nat.le_of_ble_eq_true rfl⟩ 21 5 rfl rfl (rfl) hl.1 rfl (Nat.le_of_ble_eq_true rfl) dX10_doff_29 (fun u H locs hw hP hD hS => ?_)
    obtain ⟨v5, f6⟩ := u
    obtain ⟨hIv5, hk0_v5, hk1_v5, hk9_v5, hk10_v5, hk31_v5, hk32_v5⟩ := hw
    have hP : va_P (dC, dI) vwCl (XW cy x0 x v5 f6) H := hP
    have hD : va_D A (XW cy x0 x v5 f6) := hD
    have hq0_v5 : v5 0 = (v 0) := hk0_v5.trans hq0_v3
    have hq1_v5 : v5 1 = (v 1) := hk1_v5.trans hq1_v3
    have hq9_v5 : v5 9 = (v 9) := hk9_v5.trans hq9_v3
    have hq10_v5 : v5 10 = (v 10) := hk10_v5.trans hq10_v3
    have hq31_v5 : v5 31 = (v 31) := hk31_v5.trans hq31_v3
    have hq32_v5 : v5 32 = (v 32) := hk32_v5.trans hq32_v3
    refine lv_iload_n hx hb dX10_doff_32 rfl (lv_at hl 0 rfl) ?_
    exact ret r1 (v5, f6) _ _ _ _ _ _ rfl ⟨hIv5, (hk0_v5.trans hk0_v3), (hk1_v5.trans hk1_v3), (hk9_v5.trans hk9_v3), (hk10_v5.trans hk10_v3), (hk31_v5.trans hk31_v3), (hk32_v5.trans hk32_v3)⟩ hP hD hS dX10_doff_33 (Nat.le_refl _) (Nat.le_refl _)
  · skip
    have zc2 : r1.toInt = (-1) := by rw [fa_eq, show ((-1) : Int32).toInt = -1 from by decide] at c2; exact c2
    refine lv_iconst (v := (-1)) hx hb dX10_doff_14 (by decide) ?_
    exact ret (-1) (v, f) _ _ _ _ _ _ rfl ⟨hIv, rfl, rfl, rfl, rfl, rfl, rfl⟩ hP hD hS dX10_doff_15 (Nat.le_refl _) (Nat.le_refl _)
set_option maxHeartbeats 4000000 in
set_option maxRecDepth 100000 in
theorem sX_X10_widen_1 (l : Launch) (dC : Nat → ClassId) (dI : Nat → Nat → Nat) (cy : Nat → ClassId) (x0 : Nat) (x : Nat → Nat) (p1 : Int32) (p2 : Int32) (v : Nat → Int32) (f : Nat → Nat → Int32) (hIv : XI v)  : ctI l (dC, dI) cy yX10_widen cX10_widen 5 .int 3 142 0 0 ((Nat → Int32) × (Nat → Nat → Int32)) [.ref x0, .int p1, .int p2] (XW cy x0 x v f) (fun r u => XI u.1 ∧ u.1 0 = v 0 ∧ u.1 1 = v 1 ∧ u.1 9 = v 9 ∧ u.1 10 = v 10 ∧ u.1 31 = v 31 ∧ u.1 32 = v 32) (fun u => XW cy x0 x u.1 u.2) := by
  refine ctI_of (by decide) (Nat.le_of_ble_eq_true rfl) (fun p e s m below meth c A ls Q hx hb hml hts hown hE hP hD hA hl ret => ?_)
  have hown : s.vm.findClass RX10 = some m.cls := hown
  have hS : va_S A s.heap s.heap [] := va_S.rf
  have hl : lv_has ls 5 [(0, .ref x0), (1, .int p1), (2, .int p2)] := hl
  refine lv_aload_n hx hb dX10_widen_0 rfl (lv_at hl 0 rfl) ?_
  refine va_get (D := (dC, dI)) (ci := 10) (v := .ref (x 21)) (C := RX10) (T := TX10) (N := 10) hx hb hts inB_10 hown hE.1 hP 0 rfl rfl 3 (by decide) (hts _ k_494) (fun _ h9 => h9) rfl dX10_widen_1 ?_
  refine lv_iconst (v := 1) hx hb dX10_widen_4 (by decide) ?_
  refine lv_iload_n hx hb dX10_widen_5 rfl (lv_at hl 1 rfl) ?_
  refine cbVi (n := 2) (rest := []) hx hb hml hown hts hE hP hD hS hA (sX_X1_part_1 l dC dI cy x0 x 1 p1 v f hIv ) k_854 k_828 k_829 k_106 k_830 (by decide +kernel) ⟨Nat.le_of_ble_eq_true rfl, Nat.le_of_ble_eq_true rfl⟩ 22 1 rfl rfl (rfl) hl.1 rfl (Nat.le_of_ble_eq_true rfl) dX10_widen_6 (fun r1 u H locs hw hP hD hS => ?_)
  refine lv_iload_n hx hb dX10_widen_9 rfl (lv_at hl 2 rfl) ?_
  refine lv_iadd hx hb dX10_widen_10 ?_
  refine lv_topi (fun t2 et2 => ?_)
  refine lv_istore_n (lv' := [(3, .int t2), (0, .ref x0), (1, .int p1), (2, .int p2)]) hx hb dX10_widen_11 rfl hl (by decide) rfl (fun ls hl => ?_)
  refine lv_aload_n hx hb dX10_widen_12 rfl (lv_at hl 1 rfl) ?_
  refine va_get (D := (dC, dI)) (ci := 10) (v := .ref (x 21)) (C := RX10) (T := TX10) (N := 10) hx hb hts inB_10 hown hE.1 hP 0 rfl rfl 3 (by decide) (hts _ k_494) (fun _ h9 => h9) rfl dX10_widen_13 ?_
  refine lv_iconst (v := 2) hx hb dX10_widen_16 (by decide) ?_
  refine lv_iload_n hx hb dX10_widen_17 rfl (lv_at hl 2 rfl) ?_
  refine cbVi (n := 2) (rest := []) hx hb hml hown hts hE hP hD hS hA (sX_X1_part_1 l dC dI cy x0 x 2 p1 v f hIv ) k_854 k_828 k_829 k_106 k_830 (by decide +kernel) ⟨Nat.le_of_ble_eq_true rfl, Nat.le_of_ble_eq_true rfl⟩ 22 1 rfl rfl (rfl) hl.1 rfl (Nat.le_of_ble_eq_true rfl) dX10_widen_18 (fun r3 u H locs hw hP hD hS => ?_)
  refine lv_iload_n hx hb dX10_widen_21 rfl (lv_at hl 3 rfl) ?_
  refine lv_isub hx hb dX10_widen_22 ?_
  refine lv_topi (fun t4 et4 => ?_)
  refine lv_istore (lv' := [(4, .int t4), (3, .int t2), (0, .ref x0), (1, .int p1), (2, .int p2)]) hx hb dX10_widen_23 hl (by decide) rfl (fun ls hl => ?_)
  refine lv_iload_n hx hb dX10_widen_25 rfl (lv_at hl 1 rfl) ?_
  refine lv_bipush (v := 99) hx hb dX10_widen_26 (by decide) ?_
  refine lv_icmp_gt (tgt := 38) hx hb dX10_widen_28 (by decide) (fun c5 => ?_) (fun c5 => ?_)
  · skip
    have zc5 : 99 < t2.toInt := by rw [fa_lt, show (99 : Int32).toInt = 99 from by decide] at c5; exact c5
    refine lv_iconst (v := (-1)) hx hb dX10_widen_38 (by decide) ?_
    exact ret (-1) (v, f) _ _ _ _ _ _ rfl ⟨hIv, rfl, rfl, rfl, rfl, rfl, rfl⟩ hP hD hS dX10_widen_39 (Nat.le_refl _) (Nat.le_refl _)
  · skip
    have zc5 : ¬ (99 < t2.toInt) := by rw [fa_lt, show (99 : Int32).toInt = 99 from by decide] at c5; exact c5
    refine lv_iload hx hb dX10_widen_31 (lv_at hl 0 rfl) ?_
    refine lv_bipush (v := 99) hx hb dX10_widen_33 (by decide) ?_
    refine lv_icmp_le (tgt := 40) hx hb dX10_widen_35 (by decide) (fun c6 => ?_) (fun c6 => ?_)
    · skip
      have zc6 : t4.toInt ≤ 99 := by rw [fa_le, show (99 : Int32).toInt = 99 from by decide] at c6; exact c6
      refine lv_aload_n hx hb dX10_widen_40 rfl (lv_at hl 2 rfl) ?_
      refine va_get (D := (dC, dI)) (ci := 10) (v := .ref (x 21)) (C := RX10) (T := TX10) (N := 10) hx hb hts inB_10 hown hE.1 hP 0 rfl rfl 3 (by decide) (hts _ k_494) (fun _ h9 => h9) rfl dX10_widen_41 ?_
      refine lv_iconst (v := 1) hx hb dX10_widen_44 (by decide) ?_
      refine lv_iload_n hx hb dX10_widen_45 rfl (lv_at hl 3 rfl) ?_
      refine lv_iload_n hx hb dX10_widen_46 rfl (lv_at hl 1 rfl) ?_
      refine cbVv (n := 3) (rest := []) hx hb hml hown hts hE hP hD hS hA (sX_X1_setPart_1 l dC dI cy x0 x 1 p1 t2 v f hIv ) k_904 k_875 k_876 k_106 k_877 (by decide +kernel) ⟨Nat.le_of_ble_eq_true rfl, Nat.le_of_ble_eq_true rfl⟩ 22 1 rfl rfl (rfl) hl.1 rfl (Nat.le_of_ble_eq_true rfl) dX10_widen_47 (fun u H locs hw hP hD hS => ?_)
      obtain ⟨v7, f8⟩ := u
      obtain ⟨hIv7, hk0_v7, hk1_v7, hk9_v7, hk10_v7, hk31_v7, hk32_v7⟩ := hw
      have hP : va_P (dC, dI) vwCl (XW cy x0 x v7 f8) H := hP
      have hD : va_D A (XW cy x0 x v7 f8) := hD
      have hq0_v7 : v7 0 = (v 0) := hk0_v7
      have hq1_v7 : v7 1 = (v 1) := hk1_v7
      have hq9_v7 : v7 9 = (v 9) := hk9_v7
      have hq10_v7 : v7 10 = (v 10) := hk10_v7
      have hq31_v7 : v7 31 = (v 31) := hk31_v7
      have hq32_v7 : v7 32 = (v 32) := hk32_v7
      refine lv_aload_n hx hb dX10_widen_50 rfl (lv_at hl 2 rfl) ?_
      refine va_get (D := (dC, dI)) (ci := 10) (v := .ref (x 21)) (C := RX10) (T := TX10) (N := 10) hx hb hts inB_10 hown hE.1 hP 0 rfl rfl 3 (by decide) (hts _ k_494) (fun _ h9 => h9) rfl dX10_widen_51 ?_
      refine lv_iconst (v := 2) hx hb dX10_widen_54 (by decide) ?_
      refine lv_iload_n hx hb dX10_widen_55 rfl (lv_at hl 3 rfl) ?_
      refine lv_iload hx hb dX10_widen_56 (lv_at hl 0 rfl) ?_
      refine cbVv (n := 3) (rest := []) hx hb hml hown hts hE hP hD hS hA (sX_X1_setPart_1 l dC dI cy x0 x 2 p1 t4 v7 f8 hIv7 ) k_904 k_875 k_876 k_106 k_877 (by decide +kernel) ⟨Nat.le_of_ble_eq_true rfl, Nat.le_of_ble_eq_true rfl⟩ 22 1 rfl rfl (rfl) hl.1 rfl (Nat.le_of_ble_eq_true rfl) dX10_widen_58 (fun u H locs hw hP hD hS => ?_)
      obtain ⟨v9, f10⟩ := u
      obtain ⟨hIv9, hk0_v9, hk1_v9, hk9_v9, hk10_v9, hk31_v9, hk32_v9⟩ := hw
      have hP : va_P (dC, dI) vwCl (XW cy x0 x v9 f10) H := hP
      have hD : va_D A (XW cy x0 x v9 f10) := hD
      have hq0_v9 : v9 0 = (v 0) := hk0_v9.trans hq0_v7
      have hq1_v9 : v9 1 = (v 1) := hk1_v9.trans hq1_v7
      have hq9_v9 : v9 9 = (v 9) := hk9_v9.trans hq9_v7
      have hq10_v9 : v9 10 = (v 10) := hk10_v9.trans hq10_v7
      have hq31_v9 : v9 31 = (v 31) := hk31_v9.trans hq31_v7
      have hq32_v9 : v9 32 = (v 32) := hk32_v9.trans hq32_v7
      refine lv_aload_n hx hb dX10_widen_61 rfl (lv_at hl 2 rfl) ?_
      refine va_get (D := (dC, dI)) (ci := 10) (v := .ref (x 20)) (C := RX10) (T := TX10) (N := 10) hx hb hts inB_10 hown hE.1 hP 0 rfl rfl 4 (by decide) (hts _ k_495) (fun _ h9 => h9) rfl dX10_widen_62 ?_
      refine cbVv (n := 0) (rest := []) hx hb hml hown hts hE hP hD hS hA (sX_X5_keepAct_1 l dC dI cy x0 x  v9 f10 hIv9 ) k_883 k_884 k_885 k_107 k_886 (by decide +kernel) ⟨Nat.le_of_ble_eq_true rfl, Nat.le_of_ble_eq_true rfl⟩ 21 5 rfl rfl (rfl) hl.1 rfl (Nat.le_of_ble_eq_true rfl) dX10_widen_65 (fun u H locs hw hP hD hS => ?_)
      obtain ⟨v11, f12⟩ := u
      obtain ⟨hIv11, hk0_v11, hk1_v11, hk9_v11, hk10_v11, hk31_v11, hk32_v11⟩ := hw
      have hP : va_P (dC, dI) vwCl (XW cy x0 x v11 f12) H := hP
      have hD : va_D A (XW cy x0 x v11 f12) := hD
      have hq0_v11 : v11 0 = (v 0) := hk0_v11.trans hq0_v9
      have hq1_v11 : v11 1 = (v 1) := hk1_v11.trans hq1_v9
      have hq9_v11 : v11 9 = (v 9) := hk9_v11.trans hq9_v9
      have hq10_v11 : v11 10 = (v 10) := hk10_v11.trans hq10_v9
      have hq31_v11 : v11 31 = (v 31) := hk31_v11.trans hq31_v9
      have hq32_v11 : v11 32 = (v 32) := hk32_v11.trans hq32_v9
      refine lv_iload_n hx hb dX10_widen_68 rfl (lv_at hl 1 rfl) ?_
      exact ret t2 (v11, f12) _ _ _ _ _ _ rfl ⟨hIv11, (hk0_v11.trans (hk0_v9.trans hk0_v7)), (hk1_v11.trans (hk1_v9.trans hk1_v7)), (hk9_v11.trans (hk9_v9.trans hk9_v7)), (hk10_v11.trans (hk10_v9.trans hk10_v7)), (hk31_v11.trans (hk31_v9.trans hk31_v7)), (hk32_v11.trans (hk32_v9.trans hk32_v7))⟩ hP hD hS dX10_widen_69 (Nat.le_refl _) (Nat.le_refl _)
    · skip
      have zc6 : ¬ (t4.toInt ≤ 99) := by rw [fa_le, show (99 : Int32).toInt = 99 from by decide] at c6; exact c6
      refine lv_iconst (v := (-1)) hx hb dX10_widen_38 (by decide) ?_
      exact ret (-1) (v, f) _ _ _ _ _ _ rfl ⟨hIv, rfl, rfl, rfl, rfl, rfl, rfl⟩ hP hD hS dX10_widen_39 (Nat.le_refl _) (Nat.le_refl _)
set_option maxHeartbeats 4000000 in
set_option maxRecDepth 100000 in
theorem sX_X10_letout_1 (l : Launch) (dC : Nat → ClassId) (dI : Nat → Nat → Nat) (cy : Nat → ClassId) (x0 : Nat) (x : Nat → Nat) (p1 : Int32) (p2 : Int32) (v : Nat → Int32) (f : Nat → Nat → Int32) (hIv : XI v)  : ctI l (dC, dI) cy yX10_letout cX10_letout 3 .int 4 166 0 0 ((Nat → Int32) × (Nat → Nat → Int32)) [.ref x0, .int p1, .int p2] (XW cy x0 x v f) (fun r u => XI u.1 ∧ u.1 0 = v 0 ∧ u.1 1 = v 1 ∧ u.1 9 = v 9 ∧ u.1 10 = v 10 ∧ u.1 31 = v 31 ∧ u.1 32 = v 32) (fun u => XW cy x0 x u.1 u.2) := by
  refine ctI_of (by decide) (Nat.le_of_ble_eq_true rfl) (fun p e s m below meth c A ls Q hx hb hml hts hown hE hP hD hA hl ret => ?_)
  have hown : s.vm.findClass RX10 = some m.cls := hown
  have hS : va_S A s.heap s.heap [] := va_S.rf
  have hl : lv_has ls 3 [(0, .ref x0), (1, .int p1), (2, .int p2)] := hl
  refine lv_iload_n hx hb dX10_letout_0 rfl (lv_at hl 2 rfl) ?_
  refine lv_iconst (v := 1) hx hb dX10_letout_1 (by decide) ?_
  refine lv_icmp_lt (tgt := 18) hx hb dX10_letout_2 (by decide) (fun c1 => ?_) (fun c1 => ?_)
  · skip
    have zc1 : p2.toInt < 1 := by rw [fa_lt, show (1 : Int32).toInt = 1 from by decide] at c1; exact c1
    refine lv_iconst (v := (-1)) hx hb dX10_letout_18 (by decide) ?_
    exact ret (-1) (v, f) _ _ _ _ _ _ rfl ⟨hIv, rfl, rfl, rfl, rfl, rfl, rfl⟩ hP hD hS dX10_letout_19 (Nat.le_refl _) (Nat.le_refl _)
  · skip
    have zc1 : ¬ (p2.toInt < 1) := by rw [fa_lt, show (1 : Int32).toInt = 1 from by decide] at c1; exact c1
    refine lv_iload_n hx hb dX10_letout_5 rfl (lv_at hl 2 rfl) ?_
    refine lv_aload_n hx hb dX10_letout_6 rfl (lv_at hl 0 rfl) ?_
    refine va_get (D := (dC, dI)) (ci := 10) (v := .ref (x 21)) (C := RX10) (T := TX10) (N := 10) hx hb hts inB_10 hown hE.1 hP 0 rfl rfl 3 (by decide) (hts _ k_494) (fun _ h9 => h9) rfl dX10_letout_7 ?_
    refine lv_iconst (v := 2) hx hb dX10_letout_10 (by decide) ?_
    refine lv_iload_n hx hb dX10_letout_11 rfl (lv_at hl 1 rfl) ?_
    refine cbVi (n := 2) (rest := [.int p2]) hx hb hml hown hts hE hP hD hS hA (sX_X1_part_1 l dC dI cy x0 x 2 p1 v f hIv ) k_854 k_828 k_829 k_106 k_830 (by decide +kernel) ⟨Nat.le_of_ble_eq_true rfl, Nat.le_of_ble_eq_true rfl⟩ 22 1 rfl rfl (rfl) hl.1 rfl (Nat.le_of_ble_eq_true rfl) dX10_letout_12 (fun r2 u H locs hw hP hD hS => ?_)
    refine lv_icmp_le (tgt := 20) hx hb dX10_letout_15 (by decide) (fun c3 => ?_) (fun c3 => ?_)
    · skip
      have zc3 : p2.toInt ≤ r2.toInt := by rw [fa_le] at c3; exact c3
      refine lv_aload_n hx hb dX10_letout_20 rfl (lv_at hl 0 rfl) ?_
      refine lv_iload_n hx hb dX10_letout_21 rfl (lv_at hl 1 rfl) ?_
      refine lv_iload_n hx hb dX10_letout_22 rfl (lv_at hl 2 rfl) ?_
      refine cbVi (n := 2) (rest := []) hx hb hml hown hts hE hP hD hS hA (sX_X10_widen_1 l dC dI cy x0 x p1 p2 v f hIv ) k_900 k_902 k_21 k_101 k_903 (by decide +kernel) ⟨Nat.le_of_ble_eq_true rfl, Nat.le_of_ble_eq_true rfl⟩ 0 10 rfl rfl (rfl) hl.1 rfl (Nat.le_of_ble_eq_true rfl) dX10_letout_23 (fun r4 u H locs hw hP hD hS => ?_)
      obtain ⟨v5, f6⟩ := u
      obtain ⟨hIv5, hk0_v5, hk1_v5, hk9_v5, hk10_v5, hk31_v5, hk32_v5⟩ := hw
      have hP : va_P (dC, dI) vwCl (XW cy x0 x v5 f6) H := hP
      have hD : va_D A (XW cy x0 x v5 f6) := hD
      have hq0_v5 : v5 0 = (v 0) := hk0_v5
      have hq1_v5 : v5 1 = (v 1) := hk1_v5
      have hq9_v5 : v5 9 = (v 9) := hk9_v5
      have hq10_v5 : v5 10 = (v 10) := hk10_v5
      have hq31_v5 : v5 31 = (v 31) := hk31_v5
      have hq32_v5 : v5 32 = (v 32) := hk32_v5
      exact ret r4 (v5, f6) _ _ _ _ _ _ rfl ⟨hIv5, hk0_v5, hk1_v5, hk9_v5, hk10_v5, hk31_v5, hk32_v5⟩ hP hD hS dX10_letout_26 (Nat.le_refl _) (Nat.le_refl _)
    · skip
      have zc3 : ¬ (p2.toInt ≤ r2.toInt) := by rw [fa_le] at c3; exact c3
      refine lv_iconst (v := (-1)) hx hb dX10_letout_18 (by decide) ?_
      exact ret (-1) (v, f) _ _ _ _ _ _ rfl ⟨hIv, rfl, rfl, rfl, rfl, rfl, rfl⟩ hP hD hS dX10_letout_19 (Nat.le_refl _) (Nat.le_refl _)
set_option maxHeartbeats 4000000 in
set_option maxRecDepth 100000 in
theorem sX_X10_takein_1 (l : Launch) (dC : Nat → ClassId) (dI : Nat → Nat → Nat) (cy : Nat → ClassId) (x0 : Nat) (x : Nat → Nat) (p1 : Int32) (p2 : Int32) (v : Nat → Int32) (f : Nat → Nat → Int32) (hIv : XI v)  : ctI l (dC, dI) cy yX10_takein cX10_takein 3 .int 4 166 0 0 ((Nat → Int32) × (Nat → Nat → Int32)) [.ref x0, .int p1, .int p2] (XW cy x0 x v f) (fun r u => XI u.1 ∧ u.1 0 = v 0 ∧ u.1 1 = v 1 ∧ u.1 9 = v 9 ∧ u.1 10 = v 10 ∧ u.1 31 = v 31 ∧ u.1 32 = v 32) (fun u => XW cy x0 x u.1 u.2) := by
  refine ctI_of (by decide) (Nat.le_of_ble_eq_true rfl) (fun p e s m below meth c A ls Q hx hb hml hts hown hE hP hD hA hl ret => ?_)
  have hown : s.vm.findClass RX10 = some m.cls := hown
  have hS : va_S A s.heap s.heap [] := va_S.rf
  have hl : lv_has ls 3 [(0, .ref x0), (1, .int p1), (2, .int p2)] := hl
  refine lv_iload_n hx hb dX10_takein_0 rfl (lv_at hl 2 rfl) ?_
  refine lv_iconst (v := 1) hx hb dX10_takein_1 (by decide) ?_
  refine lv_icmp_lt (tgt := 18) hx hb dX10_takein_2 (by decide) (fun c1 => ?_) (fun c1 => ?_)
  · skip
    have zc1 : p2.toInt < 1 := by rw [fa_lt, show (1 : Int32).toInt = 1 from by decide] at c1; exact c1
    refine lv_iconst (v := (-1)) hx hb dX10_takein_18 (by decide) ?_
    exact ret (-1) (v, f) _ _ _ _ _ _ rfl ⟨hIv, rfl, rfl, rfl, rfl, rfl, rfl⟩ hP hD hS dX10_takein_19 (Nat.le_refl _) (Nat.le_refl _)
  · skip
    have zc1 : ¬ (p2.toInt < 1) := by rw [fa_lt, show (1 : Int32).toInt = 1 from by decide] at c1; exact c1
    refine lv_iload_n hx hb dX10_takein_5 rfl (lv_at hl 2 rfl) ?_
    refine lv_aload_n hx hb dX10_takein_6 rfl (lv_at hl 0 rfl) ?_
    refine va_get (D := (dC, dI)) (ci := 10) (v := .ref (x 21)) (C := RX10) (T := TX10) (N := 10) hx hb hts inB_10 hown hE.1 hP 0 rfl rfl 3 (by decide) (hts _ k_494) (fun _ h9 => h9) rfl dX10_takein_7 ?_
    refine lv_iconst (v := 1) hx hb dX10_takein_10 (by decide) ?_
    refine lv_iload_n hx hb dX10_takein_11 rfl (lv_at hl 1 rfl) ?_
    refine cbVi (n := 2) (rest := [.int p2]) hx hb hml hown hts hE hP hD hS hA (sX_X1_part_1 l dC dI cy x0 x 1 p1 v f hIv ) k_854 k_828 k_829 k_106 k_830 (by decide +kernel) ⟨Nat.le_of_ble_eq_true rfl, Nat.le_of_ble_eq_true rfl⟩ 22 1 rfl rfl (rfl) hl.1 rfl (Nat.le_of_ble_eq_true rfl) dX10_takein_12 (fun r2 u H locs hw hP hD hS => ?_)
    refine lv_icmp_le (tgt := 20) hx hb dX10_takein_15 (by decide) (fun c3 => ?_) (fun c3 => ?_)
    · skip
      have zc3 : p2.toInt ≤ r2.toInt := by rw [fa_le] at c3; exact c3
      refine lv_aload_n hx hb dX10_takein_20 rfl (lv_at hl 0 rfl) ?_
      refine lv_iload_n hx hb dX10_takein_21 rfl (lv_at hl 1 rfl) ?_
      refine lv_iload_n hx hb dX10_takein_22 rfl (lv_at hl 2 rfl) ?_
      refine lv_ineg hx hb dX10_takein_23 ?_
      refine lv_topi (fun t4 et4 => ?_)
      refine cbVi (n := 2) (rest := []) hx hb hml hown hts hE hP hD hS hA (sX_X10_widen_1 l dC dI cy x0 x p1 t4 v f hIv ) k_900 k_902 k_21 k_101 k_903 (by decide +kernel) ⟨Nat.le_of_ble_eq_true rfl, Nat.le_of_ble_eq_true rfl⟩ 0 10 rfl rfl (rfl) hl.1 rfl (Nat.le_of_ble_eq_true rfl) dX10_takein_24 (fun r5 u H locs hw hP hD hS => ?_)
      obtain ⟨v6, f7⟩ := u
      obtain ⟨hIv6, hk0_v6, hk1_v6, hk9_v6, hk10_v6, hk31_v6, hk32_v6⟩ := hw
      have hP : va_P (dC, dI) vwCl (XW cy x0 x v6 f7) H := hP
      have hD : va_D A (XW cy x0 x v6 f7) := hD
      have hq0_v6 : v6 0 = (v 0) := hk0_v6
      have hq1_v6 : v6 1 = (v 1) := hk1_v6
      have hq9_v6 : v6 9 = (v 9) := hk9_v6
      have hq10_v6 : v6 10 = (v 10) := hk10_v6
      have hq31_v6 : v6 31 = (v 31) := hk31_v6
      have hq32_v6 : v6 32 = (v 32) := hk32_v6
      exact ret r5 (v6, f7) _ _ _ _ _ _ rfl ⟨hIv6, hk0_v6, hk1_v6, hk9_v6, hk10_v6, hk31_v6, hk32_v6⟩ hP hD hS dX10_takein_27 (Nat.le_refl _) (Nat.le_refl _)
    · skip
      have zc3 : ¬ (p2.toInt ≤ r2.toInt) := by rw [fa_le] at c3; exact c3
      refine lv_iconst (v := (-1)) hx hb dX10_takein_18 (by decide) ?_
      exact ret (-1) (v, f) _ _ _ _ _ _ rfl ⟨hIv, rfl, rfl, rfl, rfl, rfl, rfl⟩ hP hD hS dX10_takein_19 (Nat.le_refl _) (Nat.le_refl _)
set_option maxHeartbeats 4000000 in
set_option maxRecDepth 100000 in
theorem sX_X10_hem_1 (l : Launch) (dC : Nat → ClassId) (dI : Nat → Nat → Nat) (cy : Nat → ClassId) (x0 : Nat) (x : Nat → Nat) (p1 : Int32) (p2 : Int32) (v : Nat → Int32) (f : Nat → Nat → Int32) (hIv : XI v)  : ctI l (dC, dI) cy yX10_hem cX10_hem 4 .int 3 142 0 0 ((Nat → Int32) × (Nat → Nat → Int32)) [.ref x0, .int p1, .int p2] (XW cy x0 x v f) (fun r u => XI u.1 ∧ u.1 0 = v 0 ∧ u.1 1 = v 1 ∧ u.1 9 = v 9 ∧ u.1 10 = v 10 ∧ u.1 31 = v 31 ∧ u.1 32 = v 32) (fun u => XW cy x0 x u.1 u.2) := by
  refine ctI_of (by decide) (Nat.le_of_ble_eq_true rfl) (fun p e s m below meth c A ls Q hx hb hml hts hown hE hP hD hA hl ret => ?_)
  have hown : s.vm.findClass RX10 = some m.cls := hown
  have hS : va_S A s.heap s.heap [] := va_S.rf
  have hl : lv_has ls 4 [(0, .ref x0), (1, .int p1), (2, .int p2)] := hl
  refine lv_aload_n hx hb dX10_hem_0 rfl (lv_at hl 0 rfl) ?_
  refine va_get (D := (dC, dI)) (ci := 10) (v := .ref (x 21)) (C := RX10) (T := TX10) (N := 10) hx hb hts inB_10 hown hE.1 hP 0 rfl rfl 3 (by decide) (hts _ k_494) (fun _ h9 => h9) rfl dX10_hem_1 ?_
  refine lv_iconst (v := 0) hx hb dX10_hem_4 (by decide) ?_
  refine lv_iload_n hx hb dX10_hem_5 rfl (lv_at hl 1 rfl) ?_
  refine cbVi (n := 2) (rest := []) hx hb hml hown hts hE hP hD hS hA (sX_X1_part_1 l dC dI cy x0 x 0 p1 v f hIv ) k_854 k_828 k_829 k_106 k_830 (by decide +kernel) ⟨Nat.le_of_ble_eq_true rfl, Nat.le_of_ble_eq_true rfl⟩ 22 1 rfl rfl (rfl) hl.1 rfl (Nat.le_of_ble_eq_true rfl) dX10_hem_6 (fun r1 u H locs hw hP hD hS => ?_)
  refine lv_istore_n (lv' := [(3, .int r1), (0, .ref x0), (1, .int p1), (2, .int p2)]) hx hb dX10_hem_9 rfl hl (by decide) rfl (fun ls hl => ?_)
  refine lv_iload_n hx hb dX10_hem_10 rfl (lv_at hl 3 rfl) ?_
  refine lv_iconst (v := 1) hx hb dX10_hem_11 (by decide) ?_
  refine lv_icmp_lt (tgt := 20) hx hb dX10_hem_12 (by decide) (fun c2 => ?_) (fun c2 => ?_)
  · skip
    have zc2 : p2.toInt < 1 := by rw [fa_lt, show (1 : Int32).toInt = 1 from by decide] at c2; exact c2
    refine lv_iconst (v := (-1)) hx hb dX10_hem_20 (by decide) ?_
    exact ret (-1) (v, f) _ _ _ _ _ _ rfl ⟨hIv, rfl, rfl, rfl, rfl, rfl, rfl⟩ hP hD hS dX10_hem_21 (Nat.le_refl _) (Nat.le_refl _)
  · skip
    have zc2 : ¬ (p2.toInt < 1) := by rw [fa_lt, show (1 : Int32).toInt = 1 from by decide] at c2; exact c2
    refine lv_iload_n hx hb dX10_hem_15 rfl (lv_at hl 3 rfl) ?_
    refine lv_iload_n hx hb dX10_hem_16 rfl (lv_at hl 0 rfl) ?_
    refine lv_icmp_le (tgt := 22) hx hb dX10_hem_17 (by decide) (fun c3 => ?_) (fun c3 => ?_)
    · skip
      have zc3 : p2.toInt ≤ r1.toInt := by rw [fa_le] at c3; exact c3
      refine lv_aload_n hx hb dX10_hem_22 rfl (lv_at hl 1 rfl) ?_
      refine va_get (D := (dC, dI)) (ci := 10) (v := .ref (x 21)) (C := RX10) (T := TX10) (N := 10) hx hb hts inB_10 hown hE.1 hP 0 rfl rfl 3 (by decide) (hts _ k_494) (fun _ h9 => h9) rfl dX10_hem_23 ?_
      refine lv_iconst (v := 0) hx hb dX10_hem_26 (by decide) ?_
      refine lv_iload_n hx hb dX10_hem_27 rfl (lv_at hl 2 rfl) ?_
      refine lv_iload_n hx hb dX10_hem_28 rfl (lv_at hl 0 rfl) ?_
      refine lv_iload_n hx hb dX10_hem_29 rfl (lv_at hl 3 rfl) ?_
      refine lv_isub hx hb dX10_hem_30 ?_
      refine lv_topi (fun t4 et4 => ?_)
      have zt4 : t4.toInt = r1.toInt - p2.toInt := by rw [et4]; exact sub_i rfl rfl (by omega) (by omega)
      refine cbVv (n := 3) (rest := []) hx hb hml hown hts hE hP hD hS hA (sX_X1_setPart_1 l dC dI cy x0 x 0 p1 t4 v f hIv ) k_904 k_875 k_876 k_106 k_877 (by decide +kernel) ⟨Nat.le_of_ble_eq_true rfl, Nat.le_of_ble_eq_true rfl⟩ 22 1 rfl rfl (rfl) hl.1 rfl (Nat.le_of_ble_eq_true rfl) dX10_hem_31 (fun u H locs hw hP hD hS => ?_)
      obtain ⟨v5, f6⟩ := u
      obtain ⟨hIv5, hk0_v5, hk1_v5, hk9_v5, hk10_v5, hk31_v5, hk32_v5⟩ := hw
      have hP : va_P (dC, dI) vwCl (XW cy x0 x v5 f6) H := hP
      have hD : va_D A (XW cy x0 x v5 f6) := hD
      have hq0_v5 : v5 0 = (v 0) := hk0_v5
      have hq1_v5 : v5 1 = (v 1) := hk1_v5
      have hq9_v5 : v5 9 = (v 9) := hk9_v5
      have hq10_v5 : v5 10 = (v 10) := hk10_v5
      have hq31_v5 : v5 31 = (v 31) := hk31_v5
      have hq32_v5 : v5 32 = (v 32) := hk32_v5
      refine lv_aload_n hx hb dX10_hem_34 rfl (lv_at hl 1 rfl) ?_
      refine va_get (D := (dC, dI)) (ci := 10) (v := .ref (x 20)) (C := RX10) (T := TX10) (N := 10) hx hb hts inB_10 hown hE.1 hP 0 rfl rfl 4 (by decide) (hts _ k_495) (fun _ h9 => h9) rfl dX10_hem_35 ?_
      refine cbVv (n := 0) (rest := []) hx hb hml hown hts hE hP hD hS hA (sX_X5_keepAct_1 l dC dI cy x0 x  v5 f6 hIv5 ) k_883 k_884 k_885 k_107 k_886 (by decide +kernel) ⟨Nat.le_of_ble_eq_true rfl, Nat.le_of_ble_eq_true rfl⟩ 21 5 rfl rfl (rfl) hl.1 rfl (Nat.le_of_ble_eq_true rfl) dX10_hem_38 (fun u H locs hw hP hD hS => ?_)
      obtain ⟨v7, f8⟩ := u
      obtain ⟨hIv7, hk0_v7, hk1_v7, hk9_v7, hk10_v7, hk31_v7, hk32_v7⟩ := hw
      have hP : va_P (dC, dI) vwCl (XW cy x0 x v7 f8) H := hP
      have hD : va_D A (XW cy x0 x v7 f8) := hD
      have hq0_v7 : v7 0 = (v 0) := hk0_v7.trans hq0_v5
      have hq1_v7 : v7 1 = (v 1) := hk1_v7.trans hq1_v5
      have hq9_v7 : v7 9 = (v 9) := hk9_v7.trans hq9_v5
      have hq10_v7 : v7 10 = (v 10) := hk10_v7.trans hq10_v5
      have hq31_v7 : v7 31 = (v 31) := hk31_v7.trans hq31_v5
      have hq32_v7 : v7 32 = (v 32) := hk32_v7.trans hq32_v5
      refine lv_iload_n hx hb dX10_hem_41 rfl (lv_at hl 0 rfl) ?_
      refine lv_iload_n hx hb dX10_hem_42 rfl (lv_at hl 3 rfl) ?_
      refine lv_isub hx hb dX10_hem_43 ?_
      refine tI (y := t4) et4.symm ?_
      exact ret t4 (v7, f8) _ _ _ _ _ _ rfl ⟨hIv7, (hk0_v7.trans hk0_v5), (hk1_v7.trans hk1_v5), (hk9_v7.trans hk9_v5), (hk10_v7.trans hk10_v5), (hk31_v7.trans hk31_v5), (hk32_v7.trans hk32_v5)⟩ hP hD hS dX10_hem_44 (Nat.le_refl _) (Nat.le_refl _)
    · skip
      have zc3 : ¬ (p2.toInt ≤ r1.toInt) := by rw [fa_le] at c3; exact c3
      refine lv_iconst (v := (-1)) hx hb dX10_hem_20 (by decide) ?_
      exact ret (-1) (v, f) _ _ _ _ _ _ rfl ⟨hIv, rfl, rfl, rfl, rfl, rfl, rfl⟩ hP hD hS dX10_hem_21 (Nat.le_refl _) (Nat.le_refl _)
set_option maxHeartbeats 4000000 in
set_option maxRecDepth 100000 in
theorem sX_X10_turn_1 (l : Launch) (dC : Nat → ClassId) (dI : Nat → Nat → Nat) (cy : Nat → ClassId) (x0 : Nat) (x : Nat → Nat) (p1 : Int32) (v : Nat → Int32) (f : Nat → Nat → Int32) (hIv : XI v)  : ctI l (dC, dI) cy yX10_turn cX10_turn 3 .int 3 142 0 0 ((Nat → Int32) × (Nat → Nat → Int32)) [.ref x0, .int p1] (XW cy x0 x v f) (fun r u => XI u.1 ∧ u.1 0 = v 0 ∧ u.1 1 = v 1 ∧ u.1 9 = v 9 ∧ u.1 10 = v 10 ∧ u.1 31 = v 31 ∧ u.1 32 = v 32) (fun u => XW cy x0 x u.1 u.2) := by
  refine ctI_of (by decide) (Nat.le_of_ble_eq_true rfl) (fun p e s m below meth c A ls Q hx hb hml hts hown hE hP hD hA hl ret => ?_)
  have hown : s.vm.findClass RX10 = some m.cls := hown
  have hS : va_S A s.heap s.heap [] := va_S.rf
  have hl : lv_has ls 3 [(0, .ref x0), (1, .int p1)] := hl
  refine lv_aload_n hx hb dX10_turn_0 rfl (lv_at hl 0 rfl) ?_
  refine va_get (D := (dC, dI)) (ci := 10) (v := .ref (x 26)) (C := RX10) (T := TX10) (N := 10) hx hb hts inB_10 hown hE.1 hP 0 rfl rfl 2 (by decide) (hts _ k_493) (fun _ h9 => h9) rfl dX10_turn_1 ?_
  refine lv_iload_n hx hb dX10_turn_4 rfl (lv_at hl 1 rfl) ?_
  refine cbVi (n := 1) (rest := []) hx hb hml hown hts hE hP hD hS hA (sX_X7_hasCoat_1 l dC dI cy x0 x p1 v f hIv ) k_848 k_315 k_316 k_104 k_317 (by decide +kernel) ⟨Nat.le_of_ble_eq_true rfl, Nat.le_of_ble_eq_true rfl⟩ 27 7 rfl rfl (rfl) hl.1 rfl (Nat.le_of_ble_eq_true rfl) dX10_turn_5 (fun r1 u H locs hw hP hD hS => ?_)
  rcases hw with ⟨g2, g2_0, g2_1⟩ | ⟨g2⟩
  · skip
    subst g2
    refine lv_if_eq (tgt := 23) hx hb dX10_turn_8 (by decide) (fun c0 => absurd c0 (by decide)) (fun _ => ?_)
    refine lv_aload_n hx hb dX10_turn_11 rfl (lv_at hl 0 rfl) ?_
    refine va_get (D := (dC, dI)) (ci := 10) (v := .ref (x 21)) (C := RX10) (T := TX10) (N := 10) hx hb hts inB_10 hown hE.1 hP 0 rfl rfl 3 (by decide) (hts _ k_494) (fun _ h9 => h9) rfl dX10_turn_12 ?_
    refine lv_iconst (v := 4) hx hb dX10_turn_15 (by decide) ?_
    refine lv_iload_n hx hb dX10_turn_16 rfl (lv_at hl 1 rfl) ?_
    refine cbVi (n := 2) (rest := []) hx hb hml hown hts hE hP hD hS hA (sX_X1_part_1 l dC dI cy x0 x 4 p1 v f hIv ) k_854 k_828 k_829 k_106 k_830 (by decide +kernel) ⟨Nat.le_of_ble_eq_true rfl, Nat.le_of_ble_eq_true rfl⟩ 22 1 rfl rfl (rfl) hl.1 rfl (Nat.le_of_ble_eq_true rfl) dX10_turn_17 (fun r3 u H locs hw hP hD hS => ?_)
    refine lv_if_eq (tgt := 25) hx hb dX10_turn_20 (by decide) (fun c4 => ?_) (fun c4 => ?_)
    · skip
      have zc4 : r3.toInt = 0 := by rw [fa_eq, show (0 : Int32).toInt = 0 from by decide] at c4; exact c4
      refine lv_aload_n hx hb dX10_turn_25 rfl (lv_at hl 0 rfl) ?_
      refine va_get (D := (dC, dI)) (ci := 10) (v := .ref (x 21)) (C := RX10) (T := TX10) (N := 10) hx hb hts inB_10 hown hE.1 hP 0 rfl rfl 3 (by decide) (hts _ k_494) (fun _ h9 => h9) rfl dX10_turn_26 ?_
      refine lv_iconst (v := 3) hx hb dX10_turn_29 (by decide) ?_
      refine lv_iload_n hx hb dX10_turn_30 rfl (lv_at hl 1 rfl) ?_
      refine cbVi (n := 2) (rest := []) hx hb hml hown hts hE hP hD hS hA (sX_X1_part_1 l dC dI cy x0 x 3 p1 v f hIv ) k_854 k_828 k_829 k_106 k_830 (by decide +kernel) ⟨Nat.le_of_ble_eq_true rfl, Nat.le_of_ble_eq_true rfl⟩ 22 1 rfl rfl (rfl) hl.1 rfl (Nat.le_of_ble_eq_true rfl) dX10_turn_31 (fun r5 u H locs hw hP hD hS => ?_)
      refine lv_istore_n (lv' := [(2, .int r5), (0, .ref x0), (1, .int p1)]) hx hb dX10_turn_34 rfl hl (by decide) rfl (fun ls hl => ?_)
      refine lv_aload_n hx hb dX10_turn_35 rfl (lv_at hl 1 rfl) ?_
      refine va_get (D := (dC, dI)) (ci := 10) (v := .ref (x 21)) (C := RX10) (T := TX10) (N := 10) hx hb hts inB_10 hown hE.1 hP 0 rfl rfl 3 (by decide) (hts _ k_494) (fun _ h9 => h9) rfl dX10_turn_36 ?_
      refine lv_iconst (v := 3) hx hb dX10_turn_39 (by decide) ?_
      refine lv_iload_n hx hb dX10_turn_40 rfl (lv_at hl 2 rfl) ?_
      refine lv_iconst (v := 0) hx hb dX10_turn_41 (by decide) ?_
      refine cbVv (n := 3) (rest := []) hx hb hml hown hts hE hP hD hS hA (sX_X1_setPart_1 l dC dI cy x0 x 3 p1 0 v f hIv ) k_904 k_875 k_876 k_106 k_877 (by decide +kernel) ⟨Nat.le_of_ble_eq_true rfl, Nat.le_of_ble_eq_true rfl⟩ 22 1 rfl rfl (rfl) hl.1 rfl (Nat.le_of_ble_eq_true rfl) dX10_turn_42 (fun u H locs hw hP hD hS => ?_)
      obtain ⟨v6, f7⟩ := u
      obtain ⟨hIv6, hk0_v6, hk1_v6, hk9_v6, hk10_v6, hk31_v6, hk32_v6⟩ := hw
      have hP : va_P (dC, dI) vwCl (XW cy x0 x v6 f7) H := hP
      have hD : va_D A (XW cy x0 x v6 f7) := hD
      have hq0_v6 : v6 0 = (v 0) := hk0_v6
      have hq1_v6 : v6 1 = (v 1) := hk1_v6
      have hq9_v6 : v6 9 = (v 9) := hk9_v6
      have hq10_v6 : v6 10 = (v 10) := hk10_v6
      have hq31_v6 : v6 31 = (v 31) := hk31_v6
      have hq32_v6 : v6 32 = (v 32) := hk32_v6
      refine lv_aload_n hx hb dX10_turn_45 rfl (lv_at hl 1 rfl) ?_
      refine va_get (D := (dC, dI)) (ci := 10) (v := .ref (x 21)) (C := RX10) (T := TX10) (N := 10) hx hb hts inB_10 hown hE.1 hP 0 rfl rfl 3 (by decide) (hts _ k_494) (fun _ h9 => h9) rfl dX10_turn_46 ?_
      refine lv_iconst (v := 4) hx hb dX10_turn_49 (by decide) ?_
      refine lv_iload_n hx hb dX10_turn_50 rfl (lv_at hl 2 rfl) ?_
      refine lv_iconst (v := 1) hx hb dX10_turn_51 (by decide) ?_
      refine cbVv (n := 3) (rest := []) hx hb hml hown hts hE hP hD hS hA (sX_X1_setPart_1 l dC dI cy x0 x 4 p1 1 v6 f7 hIv6 ) k_904 k_875 k_876 k_106 k_877 (by decide +kernel) ⟨Nat.le_of_ble_eq_true rfl, Nat.le_of_ble_eq_true rfl⟩ 22 1 rfl rfl (rfl) hl.1 rfl (Nat.le_of_ble_eq_true rfl) dX10_turn_52 (fun u H locs hw hP hD hS => ?_)
      obtain ⟨v8, f9⟩ := u
      obtain ⟨hIv8, hk0_v8, hk1_v8, hk9_v8, hk10_v8, hk31_v8, hk32_v8⟩ := hw
      have hP : va_P (dC, dI) vwCl (XW cy x0 x v8 f9) H := hP
      have hD : va_D A (XW cy x0 x v8 f9) := hD
      have hq0_v8 : v8 0 = (v 0) := hk0_v8.trans hq0_v6
      have hq1_v8 : v8 1 = (v 1) := hk1_v8.trans hq1_v6
      have hq9_v8 : v8 9 = (v 9) := hk9_v8.trans hq9_v6
      have hq10_v8 : v8 10 = (v 10) := hk10_v8.trans hq10_v6
      have hq31_v8 : v8 31 = (v 31) := hk31_v8.trans hq31_v6
      have hq32_v8 : v8 32 = (v 32) := hk32_v8.trans hq32_v6
      refine lv_aload_n hx hb dX10_turn_55 rfl (lv_at hl 1 rfl) ?_
      refine va_get (D := (dC, dI)) (ci := 10) (v := .ref (x 20)) (C := RX10) (T := TX10) (N := 10) hx hb hts inB_10 hown hE.1 hP 0 rfl rfl 4 (by decide) (hts _ k_495) (fun _ h9 => h9) rfl dX10_turn_56 ?_
      refine cbVv (n := 0) (rest := []) hx hb hml hown hts hE hP hD hS hA (sX_X5_keepAct_1 l dC dI cy x0 x  v8 f9 hIv8 ) k_883 k_884 k_885 k_107 k_886 (by decide +kernel) ⟨Nat.le_of_ble_eq_true rfl, Nat.le_of_ble_eq_true rfl⟩ 21 5 rfl rfl (rfl) hl.1 rfl (Nat.le_of_ble_eq_true rfl) dX10_turn_59 (fun u H locs hw hP hD hS => ?_)
      obtain ⟨v10, f11⟩ := u
      obtain ⟨hIv10, hk0_v10, hk1_v10, hk9_v10, hk10_v10, hk31_v10, hk32_v10⟩ := hw
      have hP : va_P (dC, dI) vwCl (XW cy x0 x v10 f11) H := hP
      have hD : va_D A (XW cy x0 x v10 f11) := hD
      have hq0_v10 : v10 0 = (v 0) := hk0_v10.trans hq0_v8
      have hq1_v10 : v10 1 = (v 1) := hk1_v10.trans hq1_v8
      have hq9_v10 : v10 9 = (v 9) := hk9_v10.trans hq9_v8
      have hq10_v10 : v10 10 = (v 10) := hk10_v10.trans hq10_v8
      have hq31_v10 : v10 31 = (v 31) := hk31_v10.trans hq31_v8
      have hq32_v10 : v10 32 = (v 32) := hk32_v10.trans hq32_v8
      refine lv_iload_n hx hb dX10_turn_62 rfl (lv_at hl 0 rfl) ?_
      exact ret r5 (v10, f11) _ _ _ _ _ _ rfl ⟨hIv10, (hk0_v10.trans (hk0_v8.trans hk0_v6)), (hk1_v10.trans (hk1_v8.trans hk1_v6)), (hk9_v10.trans (hk9_v8.trans hk9_v6)), (hk10_v10.trans (hk10_v8.trans hk10_v6)), (hk31_v10.trans (hk31_v8.trans hk31_v6)), (hk32_v10.trans (hk32_v8.trans hk32_v6))⟩ hP hD hS dX10_turn_63 (Nat.le_refl _) (Nat.le_refl _)
    · skip
      have zc4 : ¬ (r3.toInt = 0) := by rw [fa_eq, show (0 : Int32).toInt = 0 from by decide] at c4; exact c4
      refine lv_iconst (v := (-1)) hx hb dX10_turn_23 (by decide) ?_
      exact ret (-1) (v, f) _ _ _ _ _ _ rfl ⟨hIv, rfl, rfl, rfl, rfl, rfl, rfl⟩ hP hD hS dX10_turn_24 (Nat.le_refl _) (Nat.le_refl _)
  · skip
    subst g2
    refine lv_if_eq (tgt := 23) hx hb dX10_turn_8 (by decide) (fun _ => ?_) (fun c0 => absurd (by decide) c0)
    refine lv_iconst (v := (-1)) hx hb dX10_turn_23 (by decide) ?_
    exact ret (-1) (v, f) _ _ _ _ _ _ rfl ⟨hIv, rfl, rfl, rfl, rfl, rfl, rfl⟩ hP hD hS dX10_turn_24 (Nat.le_refl _) (Nat.le_refl _)
set_option maxHeartbeats 4000000 in
set_option maxRecDepth 100000 in
theorem sX_X1_loadFrom_1 (l : Launch) (dC : Nat → ClassId) (dI : Nat → Nat → Nat) (cy : Nat → ClassId) (x0 : Nat) (x : Nat → Nat) (p2 : Int32) (v : Nat → Int32) (f : Nat → Nat → Int32) (hIv : XI v)  : ctV l (dC, dI) cy yX1_loadFrom cX1_loadFrom 3 1 100 0 0 ((Nat → Int32) × (Nat → Nat → Int32)) [.ref (x 21), .ref (x 24), .int p2] (XW cy x0 x v f) (fun u => XI u.1 ∧ u.1 0 = v 0 ∧ u.1 1 = v 1 ∧ u.1 9 = v 9 ∧ u.1 10 = v 10 ∧ u.1 31 = v 31 ∧ u.1 32 = v 32) (fun u => XW cy x0 x u.1 u.2) := by
  refine ctV_of (by decide) (Nat.le_of_ble_eq_true rfl) (fun p e s m below meth c A ls Q hx hb hml hts hown hnm hE hP hD hA hl ret => ?_)
  have hown : s.vm.findClass RX1 = some m.cls := hown
  have hS : va_S A s.heap s.heap [] := va_S.rf
  have hl : lv_has ls 3 [(0, .ref (x 21)), (1, .ref (x 24)), (2, .int p2)] := hl
  refine lv_iload_n hx hb dX1_loadFrom_0 rfl (lv_at hl 2 rfl) ?_
  refine lv_if_lt (tgt := 28) hx hb dX1_loadFrom_1 (by decide) (fun c1 => ?_) (fun c1 => ?_)
  · skip
    have zc1 : p2.toInt < 0 := by rw [fa_lt, show (0 : Int32).toInt = 0 from by decide] at c1; exact c1
    exact ret (v, f) _ _ _ _ _ _ ⟨hIv, rfl, rfl, rfl, rfl, rfl, rfl⟩ hP hD hS dX1_loadFrom_28 (Nat.le_refl _) (Nat.le_refl _)
  · skip
    have zc1 : ¬ (p2.toInt < 0) := by rw [fa_lt, show (0 : Int32).toInt = 0 from by decide] at c1; exact c1
    refine lv_iload_n hx hb dX1_loadFrom_4 rfl (lv_at hl 2 rfl) ?_
    refine lv_aload_n hx hb dX1_loadFrom_5 rfl (lv_at hl 1 rfl) ?_
    refine va_alen (v := 1804) hx hb hE.1 hP 25 1 rfl rfl rfl dX1_loadFrom_6 ?_
    refine lv_bipush (v := 44) hx hb dX1_loadFrom_7 (by decide) ?_
    refine lv_idiv hx hb dX1_loadFrom_9 (by decide) ?_
    refine tI (y := 41) (by decide) ?_
    refine lv_icmp_ge (tgt := 28) hx hb dX1_loadFrom_10 (by decide) (fun c2 => ?_) (fun c2 => ?_)
    · skip
      have zc2 : 41 ≤ p2.toInt := by rw [fa_le, show (41 : Int32).toInt = 41 from by decide] at c2; exact c2
      exact ret (v, f) _ _ _ _ _ _ ⟨hIv, rfl, rfl, rfl, rfl, rfl, rfl⟩ hP hD hS dX1_loadFrom_28 (Nat.le_refl _) (Nat.le_refl _)
    · skip
      have zc2 : ¬ (41 ≤ p2.toInt) := by rw [fa_le, show (41 : Int32).toInt = 41 from by decide] at c2; exact c2
      refine lv_aload_n hx hb dX1_loadFrom_13 rfl (lv_at hl 1 rfl) ?_
      refine lv_iload_n hx hb dX1_loadFrom_14 rfl (lv_at hl 2 rfl) ?_
      refine lv_bipush (v := 44) hx hb dX1_loadFrom_15 (by decide) ?_
      refine lv_imul hx hb dX1_loadFrom_17 ?_
      refine lv_topi (fun t3 et3 => ?_)
      have zt3 : t3.toInt = p2.toInt * 44 := by rw [et3]; exact mul_i rfl (by decide) (by omega) (by omega)
      refine lv_aload_n hx hb dX1_loadFrom_18 rfl (lv_at hl 0 rfl) ?_
      refine va_get (D := (dC, dI)) (ci := 1) (v := .ref (x 22)) (C := RX1) (T := TX1) (N := 2) hx hb hts inB_1 hown hE.1 hP 22 rfl rfl 1 (by decide) (hts _ k_319) (fun _ h9 => h9) rfl dX1_loadFrom_19 ?_
      refine lv_iconst (v := 0) hx hb dX1_loadFrom_22 (by decide) ?_
      refine lv_bipush (v := 44) hx hb dX1_loadFrom_23 (by decide) ?_
      refine cpG (zs := t3.toInt) (zd := 0) (zn := 44) hx hb (by rw [hml]; exact hl.1.symm) hown (hts _ k_335) (hts _ k_337) (hts _ k_336) (hts _ k_108) hE hP hD hS 25 23 rfl rfl rfl (by decide) (by decide) (by omega) (by omega) (by omega) (by omega) (by omega) (Nat.le_of_ble_eq_true rfl) (Nat.le_of_ble_eq_true rfl) dX1_loadFrom_25 (fun g9 H locs hP hD hS => ?_)
      obtain ⟨f4, hP, hD⟩ : ∃ f9, va_P (dC, dI) vwCl (XW cy x0 x v f9) H ∧ va_D A (XW cy x0 x v f9) := ⟨upd2 f 15 g9, hP, hD⟩
      exact ret (v, f4) _ _ _ _ _ _ ⟨hIv, rfl, rfl, rfl, rfl, rfl, rfl⟩ hP hD hS dX1_loadFrom_28 (Nat.le_refl _) (Nat.le_refl _)
set_option maxHeartbeats 4000000 in
set_option maxRecDepth 100000 in
theorem sX_X5_stepBack_1 (l : Launch) (dC : Nat → ClassId) (dI : Nat → Nat → Nat) (cy : Nat → ClassId) (x0 : Nat) (x : Nat → Nat)  (v : Nat → Int32) (f : Nat → Nat → Int32) (hIv : XI v)  : ctI l (dC, dI) cy yX5_stepBack cX5_stepBack 1 .boolean 2 122 0 0 ((Nat → Int32) × (Nat → Nat → Int32)) [.ref (x 20)] (XW cy x0 x v f) (fun r u => XI u.1 ∧ u.1 0 = v 0 ∧ u.1 1 = v 1 ∧ u.1 9 = v 9 ∧ u.1 10 = v 10 ∧ u.1 31 = v 31 ∧ u.1 32 = v 32 ∧ ((r = 1) ∨ (r = 0))) (fun u => XW cy x0 x u.1 u.2) := by
  refine ctI_of (by decide) (Nat.le_of_ble_eq_true rfl) (fun p e s m below meth c A ls Q hx hb hml hts hown hE hP hD hA hl ret => ?_)
  have hown : s.vm.findClass RX5 = some m.cls := hown
  have hS : va_S A s.heap s.heap [] := va_S.rf
  have hl : lv_has ls 1 [(0, .ref (x 20))] := hl
  refine lv_aload_n hx hb dX5_stepBack_0 rfl (lv_at hl 0 rfl) ?_
  refine va_get (D := (dC, dI)) (ci := 5) (v := .int (v 22)) (C := RX5) (T := TX5) (N := 7) hx hb hts inB_5 hown hE.1 hP 21 rfl rfl 5 (by decide) (hts _ k_343) (fun _ h9 => h9) rfl dX5_stepBack_1 ?_
  have b22_v : 0 ≤ (v 22).toInt ∧ (v 22).toInt ≤ 40 := XI.b hIv 22 (by decide)
  refine lv_if_ne (tgt := 9) hx hb dX5_stepBack_4 (by decide) (fun c1 => ?_) (fun c1 => ?_)
  · skip
    have zc1 : ¬ ((v 22).toInt = 0) := by rw [fa_eq, show (0 : Int32).toInt = 0 from by decide] at c1; exact c1
    refine lv_aload_n hx hb dX5_stepBack_9 rfl (lv_at hl 0 rfl) ?_
    refine lv_dup hx hb dX5_stepBack_10 rfl ?_
    refine va_get (D := (dC, dI)) (ci := 5) (v := .int (v 22)) (C := RX5) (T := TX5) (N := 7) hx hb hts inB_5 hown hE.1 hP 21 rfl rfl 5 (by decide) (hts _ k_343) (fun _ h9 => h9) rfl dX5_stepBack_11 ?_
    refine lv_iconst (v := 1) hx hb dX5_stepBack_14 (by decide) ?_
    refine lv_isub hx hb dX5_stepBack_15 ?_
    refine lv_topi (fun t2 et2 => ?_)
    have zt2 : t2.toInt = (v 22).toInt - 1 := by rw [et2]; exact sub_i rfl (by decide) (by omega) (by omega)
    refine va_put (D := (dC, dI)) (ci := 5) (v := .int t2) (ty := tyX5 5) (C := RX5) (T := TX5) (N := 7) hx hb hts inB_5 tyX5 tyX5_ok nmX5 hown hE.1 hP hD hS 21 rfl rfl 5 (by decide) (hts _ k_343) (fun _ h9 => h9) rfl (tyX5_ok 5 (by decide)) rfl rfl (Nat.le_of_ble_eq_true rfl) dX5_stepBack_16 (fun H locs hP hD hS => ?_)
    have hP : va_P (dC, dI) vwCl (XW cy x0 x (upd v 22 t2) f) H := hP
    have hD : va_D A (XW cy x0 x (upd v 22 t2) f) := hD
    refine lv_aload_n hx hb dX5_stepBack_19 rfl (lv_at hl 0 rfl) ?_
    refine lv_dup hx hb dX5_stepBack_20 rfl ?_
    refine va_get (D := (dC, dI)) (ci := 5) (v := .int (v 23)) (C := RX5) (T := TX5) (N := 7) hx hb hts inB_5 hown hE.1 hP 21 rfl rfl 6 (by decide) (hts _ k_345) (fun _ h9 => h9) rfl dX5_stepBack_21 ?_
    refine lv_iconst (v := 1) hx hb dX5_stepBack_24 (by decide) ?_
    refine lv_iadd hx hb dX5_stepBack_25 ?_
    refine lv_topi (fun t3 et3 => ?_)
    refine va_put (D := (dC, dI)) (ci := 5) (v := .int t3) (ty := tyX5 6) (C := RX5) (T := TX5) (N := 7) hx hb hts inB_5 tyX5 tyX5_ok nmX5 hown hE.1 hP hD hS 21 rfl rfl 6 (by decide) (hts _ k_345) (fun _ h9 => h9) rfl (tyX5_ok 6 (by decide)) rfl rfl (Nat.le_of_ble_eq_true rfl) dX5_stepBack_26 (fun H locs hP hD hS => ?_)
    have hP : va_P (dC, dI) vwCl (XW cy x0 x (upd (upd v 22 t2) 23 t3) f) H := hP
    have hD : va_D A (XW cy x0 x (upd (upd v 22 t2) 23 t3) f) := hD
    refine lv_aload_n hx hb dX5_stepBack_29 rfl (lv_at hl 0 rfl) ?_
    refine va_get (D := (dC, dI)) (ci := 5) (v := .ref (x 21)) (C := RX5) (T := TX5) (N := 7) hx hb hts inB_5 hown hE.1 hP 21 rfl rfl 0 (by decide) (hts _ k_338) (fun _ h9 => h9) rfl dX5_stepBack_30 ?_
    refine lv_aload_n hx hb dX5_stepBack_33 rfl (lv_at hl 0 rfl) ?_
    refine va_get (D := (dC, dI)) (ci := 5) (v := .ref (x 24)) (C := RX5) (T := TX5) (N := 7) hx hb hts inB_5 hown hE.1 hP 21 rfl rfl 1 (by decide) (hts _ k_339) (fun _ h9 => h9) rfl dX5_stepBack_34 ?_
    refine lv_aload_n hx hb dX5_stepBack_37 rfl (lv_at hl 0 rfl) ?_
    refine va_get (D := (dC, dI)) (ci := 5) (v := .int (v 21)) (C := RX5) (T := TX5) (N := 7) hx hb hts inB_5 hown hE.1 hP 21 rfl rfl 4 (by decide) (hts _ k_342) (fun _ h9 => h9) rfl dX5_stepBack_38 ?_
    have b21_v : 0 ≤ (v 21).toInt ∧ (v 21).toInt ≤ 40 := XI.b hIv 21 (by decide)
    refine lv_aload_n hx hb dX5_stepBack_41 rfl (lv_at hl 0 rfl) ?_
    refine va_get (D := (dC, dI)) (ci := 5) (v := .int t2) (C := RX5) (T := TX5) (N := 7) hx hb hts inB_5 hown hE.1 hP 21 rfl rfl 5 (by decide) (hts _ k_343) (fun _ h9 => h9) rfl dX5_stepBack_42 ?_
    refine lv_iadd hx hb dX5_stepBack_45 ?_
    refine lv_topi (fun t4 et4 => ?_)
    have zt4 : t4.toInt = (v 21).toInt + t2.toInt := by rw [et4]; exact add_i rfl rfl (by omega) (by omega)
    refine lv_bipush (v := 41) hx hb dX5_stepBack_46 (by decide) ?_
    refine lv_irem hx hb dX5_stepBack_48 (by decide) ?_
    refine lv_topi (fun t5 et5 => ?_)
    refine cbVv (n := 2) (rest := []) hx hb hml hown hts hE hP hD hS hA (sX_X1_loadFrom_1 l dC dI cy x0 x t5 (upd (upd v 22 t2) 23 t3) f (XI.upd (j := 23) (x := t3) (XI.upd (j := 22) (x := t2) hIv (show (0 : Int) ≤ t2.toInt by omega) (show t2.toInt ≤ (40 : Int) by omega)) (rlo _) (rhi _)) ) k_925 k_926 k_927 k_106 k_928 (by decide +kernel) ⟨Nat.le_of_ble_eq_true rfl, Nat.le_of_ble_eq_true rfl⟩ 22 1 rfl rfl (rfl) hl.1 rfl (Nat.le_of_ble_eq_true rfl) dX5_stepBack_49 (fun u H locs hw hP hD hS => ?_)
    obtain ⟨v6, f7⟩ := u
    obtain ⟨hIv6, hk0_v6, hk1_v6, hk9_v6, hk10_v6, hk31_v6, hk32_v6⟩ := hw
    have hP : va_P (dC, dI) vwCl (XW cy x0 x v6 f7) H := hP
    have hD : va_D A (XW cy x0 x v6 f7) := hD
    have hq0_v6 : v6 0 = (v 0) := hk0_v6
    have hq1_v6 : v6 1 = (v 1) := hk1_v6
    have hq9_v6 : v6 9 = (v 9) := hk9_v6
    have hq10_v6 : v6 10 = (v 10) := hk10_v6
    have hq31_v6 : v6 31 = (v 31) := hk31_v6
    have hq32_v6 : v6 32 = (v 32) := hk32_v6
    refine lv_iconst (v := 1) hx hb dX5_stepBack_52 (by decide) ?_
    exact ret 1 (v6, f7) _ _ _ _ _ _ rfl ⟨hIv6, hk0_v6, hk1_v6, hk9_v6, hk10_v6, hk31_v6, hk32_v6, (Or.inl ⟨rfl⟩)⟩ hP hD hS dX5_stepBack_53 (Nat.le_refl _) (Nat.le_refl _)
  · skip
    have zc1 : (v 22).toInt = 0 := by rw [fa_eq, show (0 : Int32).toInt = 0 from by decide] at c1; exact c1
    refine lv_iconst (v := 0) hx hb dX5_stepBack_7 (by decide) ?_
    exact ret 0 (v, f) _ _ _ _ _ _ rfl ⟨hIv, rfl, rfl, rfl, rfl, rfl, rfl, (Or.inr ⟨rfl⟩)⟩ hP hD hS dX5_stepBack_8 (Nat.le_refl _) (Nat.le_refl _)
set_option maxHeartbeats 4000000 in
set_option maxRecDepth 100000 in
theorem sX_X10_undo_1 (l : Launch) (dC : Nat → ClassId) (dI : Nat → Nat → Nat) (cy : Nat → ClassId) (x0 : Nat) (x : Nat → Nat)  (v : Nat → Int32) (f : Nat → Nat → Int32) (hIv : XI v)  : ctI l (dC, dI) cy yX10_undo cX10_undo 1 .boolean 3 142 0 0 ((Nat → Int32) × (Nat → Nat → Int32)) [.ref x0] (XW cy x0 x v f) (fun r u => XI u.1 ∧ u.1 0 = v 0 ∧ u.1 1 = v 1 ∧ u.1 9 = v 9 ∧ u.1 10 = v 10 ∧ u.1 31 = v 31 ∧ u.1 32 = v 32 ∧ ((r = 1) ∨ (r = 0))) (fun u => XW cy x0 x u.1 u.2) := by
  refine ctI_of (by decide) (Nat.le_of_ble_eq_true rfl) (fun p e s m below meth c A ls Q hx hb hml hts hown hE hP hD hA hl ret => ?_)
  have hown : s.vm.findClass RX10 = some m.cls := hown
  have hS : va_S A s.heap s.heap [] := va_S.rf
  have hl : lv_has ls 1 [(0, .ref x0)] := hl
  refine lv_aload_n hx hb dX10_undo_0 rfl (lv_at hl 0 rfl) ?_
  refine va_get (D := (dC, dI)) (ci := 10) (v := .ref (x 20)) (C := RX10) (T := TX10) (N := 10) hx hb hts inB_10 hown hE.1 hP 0 rfl rfl 4 (by decide) (hts _ k_495) (fun _ h9 => h9) rfl dX10_undo_1 ?_
  refine cbVi (n := 0) (rest := []) hx hb hml hown hts hE hP hD hS hA (sX_X5_stepBack_1 l dC dI cy x0 x  v f hIv ) k_921 k_922 k_923 k_107 k_924 (by decide +kernel) ⟨Nat.le_of_ble_eq_true rfl, Nat.le_of_ble_eq_true rfl⟩ 21 5 rfl rfl (rfl) hl.1 rfl (Nat.le_of_ble_eq_true rfl) dX10_undo_4 (fun r1 u H locs hw hP hD hS => ?_)
  obtain ⟨v2, f3⟩ := u
  obtain ⟨hIv2, hk0_v2, hk1_v2, hk9_v2, hk10_v2, hk31_v2, hk32_v2, hw⟩ := hw
  have hP : va_P (dC, dI) vwCl (XW cy x0 x v2 f3) H := hP
  have hD : va_D A (XW cy x0 x v2 f3) := hD
  have hq0_v2 : v2 0 = (v 0) := hk0_v2
  have hq1_v2 : v2 1 = (v 1) := hk1_v2
  have hq9_v2 : v2 9 = (v 9) := hk9_v2
  have hq10_v2 : v2 10 = (v 10) := hk10_v2
  have hq31_v2 : v2 31 = (v 31) := hk31_v2
  have hq32_v2 : v2 32 = (v 32) := hk32_v2
  rcases hw with ⟨g4⟩ | ⟨g4⟩
  · skip
    subst g4
    exact ret 1 (v2, f3) _ _ _ _ _ _ rfl ⟨hIv2, hk0_v2, hk1_v2, hk9_v2, hk10_v2, hk31_v2, hk32_v2, (Or.inl ⟨rfl⟩)⟩ hP hD hS dX10_undo_7 (Nat.le_refl _) (Nat.le_refl _)
  · skip
    subst g4
    exact ret 0 (v2, f3) _ _ _ _ _ _ rfl ⟨hIv2, hk0_v2, hk1_v2, hk9_v2, hk10_v2, hk31_v2, hk32_v2, (Or.inr ⟨rfl⟩)⟩ hP hD hS dX10_undo_7 (Nat.le_refl _) (Nat.le_refl _)
set_option maxHeartbeats 4000000 in
set_option maxRecDepth 100000 in
theorem sX_X5_stepOn_1 (l : Launch) (dC : Nat → ClassId) (dI : Nat → Nat → Nat) (cy : Nat → ClassId) (x0 : Nat) (x : Nat → Nat)  (v : Nat → Int32) (f : Nat → Nat → Int32) (hIv : XI v)  : ctI l (dC, dI) cy yX5_stepOn cX5_stepOn 1 .boolean 2 122 0 0 ((Nat → Int32) × (Nat → Nat → Int32)) [.ref (x 20)] (XW cy x0 x v f) (fun r u => XI u.1 ∧ u.1 0 = v 0 ∧ u.1 1 = v 1 ∧ u.1 9 = v 9 ∧ u.1 10 = v 10 ∧ u.1 31 = v 31 ∧ u.1 32 = v 32 ∧ ((r = 1) ∨ (r = 0))) (fun u => XW cy x0 x u.1 u.2) := by
  refine ctI_of (by decide) (Nat.le_of_ble_eq_true rfl) (fun p e s m below meth c A ls Q hx hb hml hts hown hE hP hD hA hl ret => ?_)
  have hown : s.vm.findClass RX5 = some m.cls := hown
  have hS : va_S A s.heap s.heap [] := va_S.rf
  have hl : lv_has ls 1 [(0, .ref (x 20))] := hl
  refine lv_aload_n hx hb dX5_stepOn_0 rfl (lv_at hl 0 rfl) ?_
  refine va_get (D := (dC, dI)) (ci := 5) (v := .int (v 23)) (C := RX5) (T := TX5) (N := 7) hx hb hts inB_5 hown hE.1 hP 21 rfl rfl 6 (by decide) (hts _ k_345) (fun _ h9 => h9) rfl dX5_stepOn_1 ?_
  refine lv_if_ne (tgt := 9) hx hb dX5_stepOn_4 (by decide) (fun c1 => ?_) (fun c1 => ?_)
  · skip
    have zc1 : ¬ ((v 23).toInt = 0) := by rw [fa_eq, show (0 : Int32).toInt = 0 from by decide] at c1; exact c1
    refine lv_aload_n hx hb dX5_stepOn_9 rfl (lv_at hl 0 rfl) ?_
    refine lv_dup hx hb dX5_stepOn_10 rfl ?_
    refine va_get (D := (dC, dI)) (ci := 5) (v := .int (v 22)) (C := RX5) (T := TX5) (N := 7) hx hb hts inB_5 hown hE.1 hP 21 rfl rfl 5 (by decide) (hts _ k_343) (fun _ h9 => h9) rfl dX5_stepOn_11 ?_
    have b22_v : 0 ≤ (v 22).toInt ∧ (v 22).toInt ≤ 40 := XI.b hIv 22 (by decide)
    refine lv_iconst (v := 1) hx hb dX5_stepOn_14 (by decide) ?_
    refine lv_iadd hx hb dX5_stepOn_15 ?_
    refine lv_topi (fun t2 et2 => ?_)
    have zt2 : t2.toInt = (v 22).toInt + 1 := by rw [et2]; exact add_i rfl (by decide) (by omega) (by omega)
    refine va_put (D := (dC, dI)) (ci := 5) (v := .int t2) (ty := tyX5 5) (C := RX5) (T := TX5) (N := 7) hx hb hts inB_5 tyX5 tyX5_ok nmX5 hown hE.1 hP hD hS 21 rfl rfl 5 (by decide) (hts _ k_343) (fun _ h9 => h9) rfl (tyX5_ok 5 (by decide)) rfl rfl (Nat.le_of_ble_eq_true rfl) dX5_stepOn_16 (fun H locs hP hD hS => ?_)
    have hP : va_P (dC, dI) vwCl (XW cy x0 x (upd v 22 t2) f) H := hP
    have hD : va_D A (XW cy x0 x (upd v 22 t2) f) := hD
    refine lv_aload_n hx hb dX5_stepOn_19 rfl (lv_at hl 0 rfl) ?_
    refine lv_dup hx hb dX5_stepOn_20 rfl ?_
    refine va_get (D := (dC, dI)) (ci := 5) (v := .int (v 23)) (C := RX5) (T := TX5) (N := 7) hx hb hts inB_5 hown hE.1 hP 21 rfl rfl 6 (by decide) (hts _ k_345) (fun _ h9 => h9) rfl dX5_stepOn_21 ?_
    refine lv_iconst (v := 1) hx hb dX5_stepOn_24 (by decide) ?_
    refine lv_isub hx hb dX5_stepOn_25 ?_
    refine lv_topi (fun t3 et3 => ?_)
    refine va_put (D := (dC, dI)) (ci := 5) (v := .int t3) (ty := tyX5 6) (C := RX5) (T := TX5) (N := 7) hx hb hts inB_5 tyX5 tyX5_ok nmX5 hown hE.1 hP hD hS 21 rfl rfl 6 (by decide) (hts _ k_345) (fun _ h9 => h9) rfl (tyX5_ok 6 (by decide)) rfl rfl (Nat.le_of_ble_eq_true rfl) dX5_stepOn_26 (fun H locs hP hD hS => ?_)
    have hP : va_P (dC, dI) vwCl (XW cy x0 x (upd (upd v 22 t2) 23 t3) f) H := hP
    have hD : va_D A (XW cy x0 x (upd (upd v 22 t2) 23 t3) f) := hD
    refine lv_aload_n hx hb dX5_stepOn_29 rfl (lv_at hl 0 rfl) ?_
    refine va_get (D := (dC, dI)) (ci := 5) (v := .ref (x 21)) (C := RX5) (T := TX5) (N := 7) hx hb hts inB_5 hown hE.1 hP 21 rfl rfl 0 (by decide) (hts _ k_338) (fun _ h9 => h9) rfl dX5_stepOn_30 ?_
    refine lv_aload_n hx hb dX5_stepOn_33 rfl (lv_at hl 0 rfl) ?_
    refine va_get (D := (dC, dI)) (ci := 5) (v := .ref (x 24)) (C := RX5) (T := TX5) (N := 7) hx hb hts inB_5 hown hE.1 hP 21 rfl rfl 1 (by decide) (hts _ k_339) (fun _ h9 => h9) rfl dX5_stepOn_34 ?_
    refine lv_aload_n hx hb dX5_stepOn_37 rfl (lv_at hl 0 rfl) ?_
    refine va_get (D := (dC, dI)) (ci := 5) (v := .int (v 21)) (C := RX5) (T := TX5) (N := 7) hx hb hts inB_5 hown hE.1 hP 21 rfl rfl 4 (by decide) (hts _ k_342) (fun _ h9 => h9) rfl dX5_stepOn_38 ?_
    have b21_v : 0 ≤ (v 21).toInt ∧ (v 21).toInt ≤ 40 := XI.b hIv 21 (by decide)
    refine lv_aload_n hx hb dX5_stepOn_41 rfl (lv_at hl 0 rfl) ?_
    refine va_get (D := (dC, dI)) (ci := 5) (v := .int t2) (C := RX5) (T := TX5) (N := 7) hx hb hts inB_5 hown hE.1 hP 21 rfl rfl 5 (by decide) (hts _ k_343) (fun _ h9 => h9) rfl dX5_stepOn_42 ?_
    refine lv_iadd hx hb dX5_stepOn_45 ?_
    refine lv_topi (fun t4 et4 => ?_)
    have zt4 : t4.toInt = (v 21).toInt + t2.toInt := by rw [et4]; exact add_i rfl rfl (by omega) (by omega)
    refine lv_bipush (v := 41) hx hb dX5_stepOn_46 (by decide) ?_
    refine lv_irem hx hb dX5_stepOn_48 (by decide) ?_
    refine lv_topi (fun t5 et5 => ?_)
    refine cbVv (n := 2) (rest := []) hx hb hml hown hts hE hP hD hS hA (sX_X1_loadFrom_1 l dC dI cy x0 x t5 (upd (upd v 22 t2) 23 t3) f (XI.upd (j := 23) (x := t3) (XI.upd (j := 22) (x := t2) hIv (show (0 : Int) ≤ t2.toInt by omega) (show t2.toInt ≤ (40 : Int) by omega)) (rlo _) (rhi _)) ) k_925 k_926 k_927 k_106 k_928 (by decide +kernel) ⟨Nat.le_of_ble_eq_true rfl, Nat.le_of_ble_eq_true rfl⟩ 22 1 rfl rfl (rfl) hl.1 rfl (Nat.le_of_ble_eq_true rfl) dX5_stepOn_49 (fun u H locs hw hP hD hS => ?_)
    obtain ⟨v6, f7⟩ := u
    obtain ⟨hIv6, hk0_v6, hk1_v6, hk9_v6, hk10_v6, hk31_v6, hk32_v6⟩ := hw
    have hP : va_P (dC, dI) vwCl (XW cy x0 x v6 f7) H := hP
    have hD : va_D A (XW cy x0 x v6 f7) := hD
    have hq0_v6 : v6 0 = (v 0) := hk0_v6
    have hq1_v6 : v6 1 = (v 1) := hk1_v6
    have hq9_v6 : v6 9 = (v 9) := hk9_v6
    have hq10_v6 : v6 10 = (v 10) := hk10_v6
    have hq31_v6 : v6 31 = (v 31) := hk31_v6
    have hq32_v6 : v6 32 = (v 32) := hk32_v6
    refine lv_iconst (v := 1) hx hb dX5_stepOn_52 (by decide) ?_
    exact ret 1 (v6, f7) _ _ _ _ _ _ rfl ⟨hIv6, hk0_v6, hk1_v6, hk9_v6, hk10_v6, hk31_v6, hk32_v6, (Or.inl ⟨rfl⟩)⟩ hP hD hS dX5_stepOn_53 (Nat.le_refl _) (Nat.le_refl _)
  · skip
    have zc1 : (v 23).toInt = 0 := by rw [fa_eq, show (0 : Int32).toInt = 0 from by decide] at c1; exact c1
    refine lv_iconst (v := 0) hx hb dX5_stepOn_7 (by decide) ?_
    exact ret 0 (v, f) _ _ _ _ _ _ rfl ⟨hIv, rfl, rfl, rfl, rfl, rfl, rfl, (Or.inr ⟨rfl⟩)⟩ hP hD hS dX5_stepOn_8 (Nat.le_refl _) (Nat.le_refl _)
set_option maxHeartbeats 4000000 in
set_option maxRecDepth 100000 in
theorem sX_X10_redo_1 (l : Launch) (dC : Nat → ClassId) (dI : Nat → Nat → Nat) (cy : Nat → ClassId) (x0 : Nat) (x : Nat → Nat)  (v : Nat → Int32) (f : Nat → Nat → Int32) (hIv : XI v)  : ctI l (dC, dI) cy yX10_redo cX10_redo 1 .boolean 3 142 0 0 ((Nat → Int32) × (Nat → Nat → Int32)) [.ref x0] (XW cy x0 x v f) (fun r u => XI u.1 ∧ u.1 0 = v 0 ∧ u.1 1 = v 1 ∧ u.1 9 = v 9 ∧ u.1 10 = v 10 ∧ u.1 31 = v 31 ∧ u.1 32 = v 32 ∧ ((r = 1) ∨ (r = 0))) (fun u => XW cy x0 x u.1 u.2) := by
  refine ctI_of (by decide) (Nat.le_of_ble_eq_true rfl) (fun p e s m below meth c A ls Q hx hb hml hts hown hE hP hD hA hl ret => ?_)
  have hown : s.vm.findClass RX10 = some m.cls := hown
  have hS : va_S A s.heap s.heap [] := va_S.rf
  have hl : lv_has ls 1 [(0, .ref x0)] := hl
  refine lv_aload_n hx hb dX10_redo_0 rfl (lv_at hl 0 rfl) ?_
  refine va_get (D := (dC, dI)) (ci := 10) (v := .ref (x 20)) (C := RX10) (T := TX10) (N := 10) hx hb hts inB_10 hown hE.1 hP 0 rfl rfl 4 (by decide) (hts _ k_495) (fun _ h9 => h9) rfl dX10_redo_1 ?_
  refine cbVi (n := 0) (rest := []) hx hb hml hown hts hE hP hD hS hA (sX_X5_stepOn_1 l dC dI cy x0 x  v f hIv ) k_933 k_934 k_935 k_107 k_936 (by decide +kernel) ⟨Nat.le_of_ble_eq_true rfl, Nat.le_of_ble_eq_true rfl⟩ 21 5 rfl rfl (rfl) hl.1 rfl (Nat.le_of_ble_eq_true rfl) dX10_redo_4 (fun r1 u H locs hw hP hD hS => ?_)
  obtain ⟨v2, f3⟩ := u
  obtain ⟨hIv2, hk0_v2, hk1_v2, hk9_v2, hk10_v2, hk31_v2, hk32_v2, hw⟩ := hw
  have hP : va_P (dC, dI) vwCl (XW cy x0 x v2 f3) H := hP
  have hD : va_D A (XW cy x0 x v2 f3) := hD
  have hq0_v2 : v2 0 = (v 0) := hk0_v2
  have hq1_v2 : v2 1 = (v 1) := hk1_v2
  have hq9_v2 : v2 9 = (v 9) := hk9_v2
  have hq10_v2 : v2 10 = (v 10) := hk10_v2
  have hq31_v2 : v2 31 = (v 31) := hk31_v2
  have hq32_v2 : v2 32 = (v 32) := hk32_v2
  rcases hw with ⟨g4⟩ | ⟨g4⟩
  · skip
    subst g4
    exact ret 1 (v2, f3) _ _ _ _ _ _ rfl ⟨hIv2, hk0_v2, hk1_v2, hk9_v2, hk10_v2, hk31_v2, hk32_v2, (Or.inl ⟨rfl⟩)⟩ hP hD hS dX10_redo_7 (Nat.le_refl _) (Nat.le_refl _)
  · skip
    subst g4
    exact ret 0 (v2, f3) _ _ _ _ _ _ rfl ⟨hIv2, hk0_v2, hk1_v2, hk9_v2, hk10_v2, hk31_v2, hk32_v2, (Or.inr ⟨rfl⟩)⟩ hP hD hS dX10_redo_7 (Nat.le_refl _) (Nat.le_refl _)
set_option maxHeartbeats 4000000 in
set_option maxRecDepth 100000 in
theorem sX_X1_copy_1 (l : Launch) (dC : Nat → ClassId) (dI : Nat → Nat → Nat) (cy : Nat → ClassId) (x0 : Nat) (x : Nat → Nat)  (v : Nat → Int32) (f : Nat → Nat → Int32) (hIv : XI v)  : ctV l (dC, dI) cy yX1_copy cX1_copy 2 1 100 0 0 ((Nat → Int32) × (Nat → Nat → Int32)) [.ref (x 27), .ref (x 21)] (XW cy x0 x v f) (fun u => XI u.1 ∧ u.1 0 = v 0 ∧ u.1 1 = v 1 ∧ u.1 9 = v 9 ∧ u.1 10 = v 10 ∧ u.1 31 = v 31 ∧ u.1 32 = v 32) (fun u => XW cy x0 x u.1 u.2) := by
  refine ctV_of (by decide) (Nat.le_of_ble_eq_true rfl) (fun p e s m below meth c A ls Q hx hb hml hts hown hnm hE hP hD hA hl ret => ?_)
  have hown : s.vm.findClass RX1 = some m.cls := hown
  have hS : va_S A s.heap s.heap [] := va_S.rf
  have hl : lv_has ls 2 [(0, .ref (x 27)), (1, .ref (x 21))] := hl
  refine lv_aload_n hx hb dX1_copy_0 rfl (lv_at hl 1 rfl) ?_
  refine va_get (D := (dC, dI)) (ci := 1) (v := .ref (x 22)) (C := RX1) (T := TX1) (N := 2) hx hb hts inB_1 hown hE.1 hP 22 rfl rfl 1 (by decide) (hts _ k_319) (fun _ h9 => h9) rfl dX1_copy_1 ?_
  refine lv_iconst (v := 0) hx hb dX1_copy_4 (by decide) ?_
  refine lv_aload_n hx hb dX1_copy_5 rfl (lv_at hl 0 rfl) ?_
  refine va_get (D := (dC, dI)) (ci := 1) (v := .ref (x 28)) (C := RX1) (T := TX1) (N := 2) hx hb hts inB_1 hown hE.1 hP 28 rfl rfl 1 (by decide) (hts _ k_319) (fun _ h9 => h9) rfl dX1_copy_6 ?_
  refine lv_iconst (v := 0) hx hb dX1_copy_9 (by decide) ?_
  refine lv_bipush (v := 44) hx hb dX1_copy_10 (by decide) ?_
  refine cpG (zs := 0) (zd := 0) (zn := 44) hx hb (by rw [hml]; exact hl.1.symm) hown (hts _ k_335) (hts _ k_337) (hts _ k_336) (hts _ k_108) hE hP hD hS 23 29 rfl rfl (by decide) (by decide) (by decide) (by omega) (by omega) (by omega) (by omega) (by omega) (Nat.le_of_ble_eq_true rfl) (Nat.le_of_ble_eq_true rfl) dX1_copy_12 (fun g9 H locs hP hD hS => ?_)
  obtain ⟨f1, hP, hD⟩ : ∃ f9, va_P (dC, dI) vwCl (XW cy x0 x v f9) H ∧ va_D A (XW cy x0 x v f9) := ⟨upd2 f 18 g9, hP, hD⟩
  exact ret (v, f1) _ _ _ _ _ _ ⟨hIv, rfl, rfl, rfl, rfl, rfl, rfl⟩ hP hD hS dX1_copy_15 (Nat.le_refl _) (Nat.le_refl _)
set_option maxHeartbeats 4000000 in
set_option maxRecDepth 100000 in
theorem sX_X1_wears_2 (l : Launch) (dC : Nat → ClassId) (dI : Nat → Nat → Nat) (cy : Nat → ClassId) (x0 : Nat) (x : Nat → Nat) (p1 : Int32) (v : Nat → Int32) (f : Nat → Nat → Int32) (hIv : XI v)  : ctI l (dC, dI) cy yX1_wears cX1_wears 2 .int 2 81 0 0 Unit [.ref (x 27), .int p1] (XW cy x0 x v f) (fun r u => True) (fun u => XW cy x0 x v f) := by
  refine ctI_of (by decide) (Nat.le_of_ble_eq_true rfl) (fun p e s m below meth c A ls Q hx hb hml hts hown hE hP hD hA hl ret => ?_)
  have hown : s.vm.findClass RX1 = some m.cls := hown
  have hS : va_S A s.heap s.heap [] := va_S.rf
  have hl : lv_has ls 2 [(0, .ref (x 27)), (1, .int p1)] := hl
  refine lv_aload_n hx hb dX1_wears_0 rfl (lv_at hl 0 rfl) ?_
  refine va_get (D := (dC, dI)) (ci := 1) (v := .ref (x 26)) (C := RX1) (T := TX1) (N := 2) hx hb hts inB_1 hown hE.1 hP 28 rfl rfl 0 (by decide) (hts _ k_318) (fun _ h9 => h9) rfl dX1_wears_1 ?_
  refine lv_iload_n hx hb dX1_wears_4 rfl (lv_at hl 1 rfl) ?_
  refine cbVi (n := 1) (rest := []) hx hb hml hown hts hE hP hD hS hA (sX_X7_hasMan_1 l dC dI cy x0 x p1 v f hIv ) k_808 k_307 k_308 k_104 k_309 (by decide +kernel) ⟨Nat.le_of_ble_eq_true rfl, Nat.le_of_ble_eq_true rfl⟩ 27 7 rfl rfl (rfl) hl.1 rfl (Nat.le_of_ble_eq_true rfl) dX1_wears_5 (fun r1 u H locs hw hP hD hS => ?_)
  rcases hw with ⟨g2, g2_0, g2_1⟩ | ⟨g2⟩
  · skip
    subst g2
    refine lv_if_eq (tgt := 23) hx hb dX1_wears_8 (by decide) (fun c0 => absurd c0 (by decide)) (fun _ => ?_)
    refine lv_aload_n hx hb dX1_wears_11 rfl (lv_at hl 0 rfl) ?_
    refine va_get (D := (dC, dI)) (ci := 1) (v := .ref (x 28)) (C := RX1) (T := TX1) (N := 2) hx hb hts inB_1 hown hE.1 hP 28 rfl rfl 1 (by decide) (hts _ k_319) (fun _ h9 => h9) rfl dX1_wears_12 ?_
    refine lv_bipush (v := 6) hx hb dX1_wears_15 (by decide) ?_
    refine lv_iload_n hx hb dX1_wears_17 rfl (lv_at hl 1 rfl) ?_
    refine lv_iadd hx hb dX1_wears_18 ?_
    refine lv_topi (fun t3 et3 => ?_)
    have zt3 : t3.toInt = 6 + p1.toInt := by rw [et3]; exact add_i (by decide) rfl (by omega) (by omega)
    refine ldI hx hb hE hP 29 rfl (vp_in_iff.mpr ⟨by omega, by omega⟩) rfl rfl dX1_wears_19 ?_
    refine lv_topi (fun t4 et4 => ?_)
    refine lv_goto (tgt := 24) hx hb dX1_wears_20 (by decide) ?_
    exact ret t4 () _ _ _ _ _ _ rfl trivial hP hD hS dX1_wears_24 (Nat.le_refl _) (Nat.le_refl _)
  · skip
    subst g2
    refine lv_if_eq (tgt := 23) hx hb dX1_wears_8 (by decide) (fun _ => ?_) (fun c0 => absurd (by decide) c0)
    refine lv_iconst (v := (-1)) hx hb dX1_wears_23 (by decide) ?_
    exact ret (-1) () _ _ _ _ _ _ rfl trivial hP hD hS dX1_wears_24 (Nat.le_refl _) (Nat.le_refl _)
set_option maxHeartbeats 4000000 in
set_option maxRecDepth 100000 in
theorem sX_X1_manWide_2 (l : Launch) (dC : Nat → ClassId) (dI : Nat → Nat → Nat) (cy : Nat → ClassId) (x0 : Nat) (x : Nat → Nat) (p1 : Int32) (v : Nat → Int32) (f : Nat → Nat → Int32) (hIv : XI v)  : ctI l (dC, dI) cy yX1_manWide cX1_manWide 2 .int 2 81 0 0 Unit [.ref (x 27), .int p1] (XW cy x0 x v f) (fun r u => True) (fun u => XW cy x0 x v f) := by
  refine ctI_of (by decide) (Nat.le_of_ble_eq_true rfl) (fun p e s m below meth c A ls Q hx hb hml hts hown hE hP hD hA hl ret => ?_)
  have hown : s.vm.findClass RX1 = some m.cls := hown
  have hS : va_S A s.heap s.heap [] := va_S.rf
  have hl : lv_has ls 2 [(0, .ref (x 27)), (1, .int p1)] := hl
  refine lv_aload_n hx hb dX1_manWide_0 rfl (lv_at hl 0 rfl) ?_
  refine va_get (D := (dC, dI)) (ci := 1) (v := .ref (x 26)) (C := RX1) (T := TX1) (N := 2) hx hb hts inB_1 hown hE.1 hP 28 rfl rfl 0 (by decide) (hts _ k_318) (fun _ h9 => h9) rfl dX1_manWide_1 ?_
  refine lv_iload_n hx hb dX1_manWide_4 rfl (lv_at hl 1 rfl) ?_
  refine cbVi (n := 1) (rest := []) hx hb hml hown hts hE hP hD hS hA (sX_X7_hasMan_1 l dC dI cy x0 x p1 v f hIv ) k_808 k_307 k_308 k_104 k_309 (by decide +kernel) ⟨Nat.le_of_ble_eq_true rfl, Nat.le_of_ble_eq_true rfl⟩ 27 7 rfl rfl (rfl) hl.1 rfl (Nat.le_of_ble_eq_true rfl) dX1_manWide_5 (fun r1 u H locs hw hP hD hS => ?_)
  rcases hw with ⟨g2, g2_0, g2_1⟩ | ⟨g2⟩
  · skip
    subst g2
    refine lv_if_eq (tgt := 20) hx hb dX1_manWide_8 (by decide) (fun c0 => absurd c0 (by decide)) (fun _ => ?_)
    refine lv_aload_n hx hb dX1_manWide_11 rfl (lv_at hl 0 rfl) ?_
    refine va_get (D := (dC, dI)) (ci := 1) (v := .ref (x 28)) (C := RX1) (T := TX1) (N := 2) hx hb hts inB_1 hown hE.1 hP 28 rfl rfl 1 (by decide) (hts _ k_319) (fun _ h9 => h9) rfl dX1_manWide_12 ?_
    refine lv_iload_n hx hb dX1_manWide_15 rfl (lv_at hl 1 rfl) ?_
    refine ldI hx hb hE hP 29 rfl (vp_in_iff.mpr ⟨by omega, by omega⟩) rfl rfl dX1_manWide_16 ?_
    refine lv_topi (fun t3 et3 => ?_)
    refine lv_goto (tgt := 21) hx hb dX1_manWide_17 (by decide) ?_
    exact ret t3 () _ _ _ _ _ _ rfl trivial hP hD hS dX1_manWide_21 (Nat.le_refl _) (Nat.le_refl _)
  · skip
    subst g2
    refine lv_if_eq (tgt := 20) hx hb dX1_manWide_8 (by decide) (fun _ => ?_) (fun c0 => absurd (by decide) c0)
    refine lv_iconst (v := 0) hx hb dX1_manWide_20 (by decide) ?_
    exact ret 0 () _ _ _ _ _ _ rfl trivial hP hD hS dX1_manWide_21 (Nat.le_refl _) (Nat.le_refl _)
set_option maxHeartbeats 4000000 in
set_option maxRecDepth 100000 in
theorem sX_X1_part_2 (l : Launch) (dC : Nat → ClassId) (dI : Nat → Nat → Nat) (cy : Nat → ClassId) (x0 : Nat) (x : Nat → Nat) (p1 : Int32) (p2 : Int32) (v : Nat → Int32) (f : Nat → Nat → Int32) (hIv : XI v)  : ctI l (dC, dI) cy yX1_part cX1_part 4 .int 2 81 0 0 Unit [.ref (x 27), .int p1, .int p2] (XW cy x0 x v f) (fun r u => True) (fun u => XW cy x0 x v f) := by
  refine ctI_of (by decide) (Nat.le_of_ble_eq_true rfl) (fun p e s m below meth c A ls Q hx hb hml hts hown hE hP hD hA hl ret => ?_)
  have hown : s.vm.findClass RX1 = some m.cls := hown
  have hS : va_S A s.heap s.heap [] := va_S.rf
  have hl : lv_has ls 4 [(0, .ref (x 27)), (1, .int p1), (2, .int p2)] := hl
  refine lv_aload_n hx hb dX1_part_0 rfl (lv_at hl 0 rfl) ?_
  refine va_get (D := (dC, dI)) (ci := 1) (v := .ref (x 26)) (C := RX1) (T := TX1) (N := 2) hx hb hts inB_1 hown hE.1 hP 28 rfl rfl 0 (by decide) (hts _ k_318) (fun _ h9 => h9) rfl dX1_part_1 ?_
  refine lv_iload_n hx hb dX1_part_4 rfl (lv_at hl 2 rfl) ?_
  refine cbVi (n := 1) (rest := []) hx hb hml hown hts hE hP hD hS hA (sX_X7_hasCoat_1 l dC dI cy x0 x p2 v f hIv ) k_821 k_315 k_316 k_104 k_317 (by decide +kernel) ⟨Nat.le_of_ble_eq_true rfl, Nat.le_of_ble_eq_true rfl⟩ 27 7 rfl rfl (rfl) hl.1 rfl (Nat.le_of_ble_eq_true rfl) dX1_part_5 (fun r1 u H locs hw hP hD hS => ?_)
  rcases hw with ⟨g2, g2_0, g2_1⟩ | ⟨g2⟩
  · skip
    subst g2
    refine lv_if_eq (tgt := 24) hx hb dX1_part_8 (by decide) (fun c0 => absurd c0 (by decide)) (fun _ => ?_)
    refine lv_iload_n hx hb dX1_part_11 rfl (lv_at hl 1 rfl) ?_
    refine lv_if_lt (tgt := 24) hx hb dX1_part_12 (by decide) (fun c3 => ?_) (fun c3 => ?_)
    · skip
      have zc3 : p1.toInt < 0 := by rw [fa_lt, show (0 : Int32).toInt = 0 from by decide] at c3; exact c3
      refine lv_iconst (v := 0) hx hb dX1_part_24 (by decide) ?_
      refine lv_istore_n (lv' := [(3, .int 0), (0, .ref (x 27)), (1, .int p1), (2, .int p2)]) hx hb dX1_part_25 rfl hl (by decide) rfl (fun ls hl => ?_)
      refine lv_iload_n hx hb dX1_part_26 rfl (lv_at hl 0 rfl) ?_
      refine lv_if_eq (tgt := 47) hx hb dX1_part_27 (by decide) (fun _ => ?_) (fun c0 => absurd (by decide) c0)
      refine lv_iconst (v := 0) hx hb dX1_part_47 (by decide) ?_
      exact ret 0 () _ _ _ _ _ _ rfl trivial hP hD hS dX1_part_48 (Nat.le_refl _) (Nat.le_refl _)
    · skip
      have zc3 : ¬ (p1.toInt < 0) := by rw [fa_lt, show (0 : Int32).toInt = 0 from by decide] at c3; exact c3
      refine lv_iload_n hx hb dX1_part_15 rfl (lv_at hl 1 rfl) ?_
      refine lv_iconst (v := 5) hx hb dX1_part_16 (by decide) ?_
      refine lv_icmp_ge (tgt := 24) hx hb dX1_part_17 (by decide) (fun c4 => ?_) (fun c4 => ?_)
      · skip
        have zc4 : 5 ≤ p1.toInt := by rw [fa_le, show (5 : Int32).toInt = 5 from by decide] at c4; exact c4
        refine lv_iconst (v := 0) hx hb dX1_part_24 (by decide) ?_
        refine lv_istore_n (lv' := [(3, .int 0), (0, .ref (x 27)), (1, .int p1), (2, .int p2)]) hx hb dX1_part_25 rfl hl (by decide) rfl (fun ls hl => ?_)
        refine lv_iload_n hx hb dX1_part_26 rfl (lv_at hl 0 rfl) ?_
        refine lv_if_eq (tgt := 47) hx hb dX1_part_27 (by decide) (fun _ => ?_) (fun c0 => absurd (by decide) c0)
        refine lv_iconst (v := 0) hx hb dX1_part_47 (by decide) ?_
        exact ret 0 () _ _ _ _ _ _ rfl trivial hP hD hS dX1_part_48 (Nat.le_refl _) (Nat.le_refl _)
      · skip
        have zc4 : ¬ (5 ≤ p1.toInt) := by rw [fa_le, show (5 : Int32).toInt = 5 from by decide] at c4; exact c4
        refine lv_iconst (v := 1) hx hb dX1_part_20 (by decide) ?_
        refine lv_goto (tgt := 25) hx hb dX1_part_21 (by decide) ?_
        refine lv_istore_n (lv' := [(3, .int 1), (0, .ref (x 27)), (1, .int p1), (2, .int p2)]) hx hb dX1_part_25 rfl hl (by decide) rfl (fun ls hl => ?_)
        refine lv_iload_n hx hb dX1_part_26 rfl (lv_at hl 0 rfl) ?_
        refine lv_if_eq (tgt := 47) hx hb dX1_part_27 (by decide) (fun c0 => absurd c0 (by decide)) (fun _ => ?_)
        refine lv_aload_n hx hb dX1_part_30 rfl (lv_at hl 1 rfl) ?_
        refine va_get (D := (dC, dI)) (ci := 1) (v := .ref (x 28)) (C := RX1) (T := TX1) (N := 2) hx hb hts inB_1 hown hE.1 hP 28 rfl rfl 1 (by decide) (hts _ k_319) (fun _ h9 => h9) rfl dX1_part_31 ?_
        refine lv_bipush (v := 12) hx hb dX1_part_34 (by decide) ?_
        refine lv_iload_n hx hb dX1_part_36 rfl (lv_at hl 2 rfl) ?_
        refine lv_bipush (v := 6) hx hb dX1_part_37 (by decide) ?_
        refine lv_imul hx hb dX1_part_39 ?_
        refine lv_topi (fun t5 et5 => ?_)
        have zt5 : t5.toInt = p1.toInt * 6 := by rw [et5]; exact mul_i rfl (by decide) (by omega) (by omega)
        refine lv_iadd hx hb dX1_part_40 ?_
        refine lv_topi (fun t6 et6 => ?_)
        have zt6 : t6.toInt = 12 + t5.toInt := by rw [et6]; exact add_i (by decide) rfl (by omega) (by omega)
        refine lv_iload_n hx hb dX1_part_41 rfl (lv_at hl 3 rfl) ?_
        refine lv_iadd hx hb dX1_part_42 ?_
        refine lv_topi (fun t7 et7 => ?_)
        have zt7 : t7.toInt = t6.toInt + p2.toInt := by rw [et7]; exact add_i rfl rfl (by omega) (by omega)
        refine ldI hx hb hE hP 29 rfl (vp_in_iff.mpr ⟨by omega, by omega⟩) rfl rfl dX1_part_43 ?_
        refine lv_topi (fun t8 et8 => ?_)
        refine lv_goto (tgt := 48) hx hb dX1_part_44 (by decide) ?_
        exact ret t8 () _ _ _ _ _ _ rfl trivial hP hD hS dX1_part_48 (Nat.le_refl _) (Nat.le_refl _)
  · skip
    subst g2
    refine lv_if_eq (tgt := 24) hx hb dX1_part_8 (by decide) (fun _ => ?_) (fun c0 => absurd (by decide) c0)
    refine lv_iconst (v := 0) hx hb dX1_part_24 (by decide) ?_
    refine lv_istore_n (lv' := [(3, .int 0), (0, .ref (x 27)), (1, .int p1), (2, .int p2)]) hx hb dX1_part_25 rfl hl (by decide) rfl (fun ls hl => ?_)
    refine lv_iload_n hx hb dX1_part_26 rfl (lv_at hl 0 rfl) ?_
    refine lv_if_eq (tgt := 47) hx hb dX1_part_27 (by decide) (fun _ => ?_) (fun c0 => absurd (by decide) c0)
    refine lv_iconst (v := 0) hx hb dX1_part_47 (by decide) ?_
    exact ret 0 () _ _ _ _ _ _ rfl trivial hP hD hS dX1_part_48 (Nat.le_refl _) (Nat.le_refl _)
set_option maxHeartbeats 4000000 in
set_option maxRecDepth 100000 in
theorem sX_X1_today_2 (l : Launch) (dC : Nat → ClassId) (dI : Nat → Nat → Nat) (cy : Nat → ClassId) (x0 : Nat) (x : Nat → Nat)  (v : Nat → Int32) (f : Nat → Nat → Int32) (hIv : XI v)  : ctI l (dC, dI) cy yX1_today cX1_today 1 .int 1 60 0 0 Unit [.ref (x 27)] (XW cy x0 x v f) (fun r u => True) (fun u => XW cy x0 x v f) := by
  refine ctI_of (by decide) (Nat.le_of_ble_eq_true rfl) (fun p e s m below meth c A ls Q hx hb hml hts hown hE hP hD hA hl ret => ?_)
  have hown : s.vm.findClass RX1 = some m.cls := hown
  have hS : va_S A s.heap s.heap [] := va_S.rf
  have hl : lv_has ls 1 [(0, .ref (x 27))] := hl
  refine lv_aload_n hx hb dX1_today_0 rfl (lv_at hl 0 rfl) ?_
  refine va_get (D := (dC, dI)) (ci := 1) (v := .ref (x 28)) (C := RX1) (T := TX1) (N := 2) hx hb hts inB_1 hown hE.1 hP 28 rfl rfl 1 (by decide) (hts _ k_319) (fun _ h9 => h9) rfl dX1_today_1 ?_
  refine lv_bipush (v := 42) hx hb dX1_today_4 (by decide) ?_
  refine ldI hx hb hE hP 29 rfl (vp_in_nI (n := 42) (by decide) (by decide)) rfl rfl dX1_today_6 ?_
  refine lv_topi (fun t1 et1 => ?_)
  exact ret t1 () _ _ _ _ _ _ rfl trivial hP hD hS dX1_today_7 (Nat.le_refl _) (Nat.le_refl _)
set_option maxHeartbeats 4000000 in
set_option maxRecDepth 100000 in
theorem sX_X1_illness_2 (l : Launch) (dC : Nat → ClassId) (dI : Nat → Nat → Nat) (cy : Nat → ClassId) (x0 : Nat) (x : Nat → Nat) (p1 : Int32) (p2 : Int32) (v : Nat → Int32) (f : Nat → Nat → Int32) (hIv : XI v)  : ctI l (dC, dI) cy yX1_illness cX1_illness 3 .int 3 111 0 0 ((Nat → Int32) × (Nat → Nat → Int32)) [.ref (x 27), .int p1, .int p2] (XW cy x0 x v f) (fun r u => XI u.1 ∧ u.1 0 = v 0 ∧ u.1 1 = v 1 ∧ u.1 9 = v 9 ∧ u.1 10 = v 10 ∧ u.1 31 = v 31 ∧ u.1 32 = v 32) (fun u => XW cy x0 x u.1 u.2) := by
  refine ctI_of (by decide) (Nat.le_of_ble_eq_true rfl) (fun p e s m below meth c A ls Q hx hb hml hts hown hE hP hD hA hl ret => ?_)
  have hown : s.vm.findClass RX1 = some m.cls := hown
  have hS : va_S A s.heap s.heap [] := va_S.rf
  have hl : lv_has ls 3 [(0, .ref (x 27)), (1, .int p1), (2, .int p2)] := hl
  refine lv_aload_n hx hb dX1_illness_0 rfl (lv_at hl 0 rfl) ?_
  refine va_get (D := (dC, dI)) (ci := 1) (v := .ref (x 26)) (C := RX1) (T := TX1) (N := 2) hx hb hts inB_1 hown hE.1 hP 28 rfl rfl 0 (by decide) (hts _ k_318) (fun _ h9 => h9) rfl dX1_illness_1 ?_
  refine va_getN (D := (dC, dI)) (ci := 7) (v := .ref (x 15)) (C := RX7) (T := TX7) (N := 10) hx hb hts inB_7 hown hE.1 hP 27 rfl rfl 2 (by decide) (va_Nw.use rfl (hE.2 _ k_209)) (fun _ h9 => h9) rfl dX1_illness_4 ?_
  refine lv_aload_n hx hb dX1_illness_7 rfl (lv_at hl 0 rfl) ?_
  refine va_get (D := (dC, dI)) (ci := 1) (v := .ref (x 26)) (C := RX1) (T := TX1) (N := 2) hx hb hts inB_1 hown hE.1 hP 28 rfl rfl 0 (by decide) (hts _ k_318) (fun _ h9 => h9) rfl dX1_illness_8 ?_
  refine lv_iconst (v := 0) hx hb dX1_illness_11 (by decide) ?_
  refine lv_iload_n hx hb dX1_illness_12 rfl (lv_at hl 1 rfl) ?_
  refine cbVi (n := 2) (rest := [.ref (x 15)]) hx hb hml hown hts hE hP hD hS hA (sX_X7_manPart_1 l dC dI cy x0 x 0 p1 v f hIv ) k_302 k_303 k_304 k_104 k_305 (by decide +kernel) ⟨Nat.le_of_ble_eq_true rfl, Nat.le_of_ble_eq_true rfl⟩ 27 7 rfl rfl (rfl) hl.1 rfl (Nat.le_of_ble_eq_true rfl) dX1_illness_13 (fun r1 u H locs hw hP hD hS => ?_)
  refine lv_aload_n hx hb dX1_illness_16 rfl (lv_at hl 0 rfl) ?_
  refine lv_iload_n hx hb dX1_illness_17 rfl (lv_at hl 1 rfl) ?_
  refine cbVi (n := 1) (rest := [.int r1, .ref (x 15)]) hx hb hml hown hts hE hP hD hS hA (sX_X1_manWide_2 l dC dI cy x0 x p1 v f hIv ) k_826 k_805 k_806 k_106 k_807 (by decide +kernel) ⟨Nat.le_of_ble_eq_true rfl, Nat.le_of_ble_eq_true rfl⟩ 28 1 rfl rfl (rfl) hl.1 rfl (Nat.le_of_ble_eq_true rfl) dX1_illness_18 (fun r2 u H locs hw hP hD hS => ?_)
  refine lv_aload_n hx hb dX1_illness_21 rfl (lv_at hl 0 rfl) ?_
  refine lv_iconst (v := 0) hx hb dX1_illness_22 (by decide) ?_
  refine lv_iload_n hx hb dX1_illness_23 rfl (lv_at hl 2 rfl) ?_
  refine cbVi (n := 2) (rest := [.int r2, .int r1, .ref (x 15)]) hx hb hml hown hts hE hP hD hS hA (sX_X1_part_2 l dC dI cy x0 x 0 p2 v f hIv ) k_827 k_828 k_829 k_106 k_830 (by decide +kernel) ⟨Nat.le_of_ble_eq_true rfl, Nat.le_of_ble_eq_true rfl⟩ 28 1 rfl rfl (rfl) hl.1 rfl (Nat.le_of_ble_eq_true rfl) dX1_illness_24 (fun r3 u H locs hw hP hD hS => ?_)
  refine lv_aload_n hx hb dX1_illness_27 rfl (lv_at hl 0 rfl) ?_
  refine lv_iconst (v := 1) hx hb dX1_illness_28 (by decide) ?_
  refine lv_iload_n hx hb dX1_illness_29 rfl (lv_at hl 2 rfl) ?_
  refine cbVi (n := 2) (rest := [.int r3, .int r2, .int r1, .ref (x 15)]) hx hb hml hown hts hE hP hD hS hA (sX_X1_part_2 l dC dI cy x0 x 1 p2 v f hIv ) k_827 k_828 k_829 k_106 k_830 (by decide +kernel) ⟨Nat.le_of_ble_eq_true rfl, Nat.le_of_ble_eq_true rfl⟩ 28 1 rfl rfl (rfl) hl.1 rfl (Nat.le_of_ble_eq_true rfl) dX1_illness_30 (fun r4 u H locs hw hP hD hS => ?_)
  refine lv_aload_n hx hb dX1_illness_33 rfl (lv_at hl 0 rfl) ?_
  refine lv_iconst (v := 3) hx hb dX1_illness_34 (by decide) ?_
  refine lv_iload_n hx hb dX1_illness_35 rfl (lv_at hl 2 rfl) ?_
  refine cbVi (n := 2) (rest := [.int r4, .int r3, .int r2, .int r1, .ref (x 15)]) hx hb hml hown hts hE hP hD hS hA (sX_X1_part_2 l dC dI cy x0 x 3 p2 v f hIv ) k_827 k_828 k_829 k_106 k_830 (by decide +kernel) ⟨Nat.le_of_ble_eq_true rfl, Nat.le_of_ble_eq_true rfl⟩ 28 1 rfl rfl (rfl) hl.1 rfl (Nat.le_of_ble_eq_true rfl) dX1_illness_36 (fun r5 u H locs hw hP hD hS => ?_)
  refine lv_aload_n hx hb dX1_illness_39 rfl (lv_at hl 0 rfl) ?_
  refine cbVi (n := 0) (rest := [.int r5, .int r4, .int r3, .int r2, .int r1, .ref (x 15)]) hx hb hml hown hts hE hP hD hS hA (sX_X1_today_2 l dC dI cy x0 x  v f hIv ) k_831 k_832 k_833 k_106 k_834 (by decide +kernel) ⟨Nat.le_of_ble_eq_true rfl, Nat.le_of_ble_eq_true rfl⟩ 28 1 rfl rfl (rfl) hl.1 rfl (Nat.le_of_ble_eq_true rfl) dX1_illness_40 (fun r6 u H locs hw hP hD hS => ?_)
  refine cbVi (n := 6) (rest := []) hx hb hml hown hts hE hP hD hS hA (sX_X4_worth_1 l dC dI cy x0 x r1 r2 r3 r4 r5 r6 v f hIv ) k_835 k_836 k_837 k_105 k_838 (by decide +kernel) ⟨Nat.le_of_ble_eq_true rfl, Nat.le_of_ble_eq_true rfl⟩ 16 4 rfl rfl (rfl) hl.1 rfl (Nat.le_of_ble_eq_true rfl) dX1_illness_43 (fun r7 u H locs hw hP hD hS => ?_)
  obtain ⟨v8, f9⟩ := u
  obtain ⟨hIv8, hk0_v8, hk1_v8, hk9_v8, hk10_v8, hk31_v8, hk32_v8⟩ := hw
  have hP : va_P (dC, dI) vwCl (XW cy x0 x v8 f9) H := hP
  have hD : va_D A (XW cy x0 x v8 f9) := hD
  have hq0_v8 : v8 0 = (v 0) := hk0_v8
  have hq1_v8 : v8 1 = (v 1) := hk1_v8
  have hq9_v8 : v8 9 = (v 9) := hk9_v8
  have hq10_v8 : v8 10 = (v 10) := hk10_v8
  have hq31_v8 : v8 31 = (v 31) := hk31_v8
  have hq32_v8 : v8 32 = (v 32) := hk32_v8
  exact ret r7 (v8, f9) _ _ _ _ _ _ rfl ⟨hIv8, hk0_v8, hk1_v8, hk9_v8, hk10_v8, hk31_v8, hk32_v8⟩ hP hD hS dX1_illness_46 (Nat.le_refl _) (Nat.le_refl _)
set_option maxHeartbeats 4000000 in
set_option maxRecDepth 100000 in
theorem sX_X1_fits_2 (l : Launch) (dC : Nat → ClassId) (dI : Nat → Nat → Nat) (cy : Nat → ClassId) (x0 : Nat) (x : Nat → Nat) (p1 : Int32) (p2 : Int32) (v : Nat → Int32) (f : Nat → Nat → Int32) (hIv : XI v)  : ctI l (dC, dI) cy yX1_fits cX1_fits 3 .boolean 4 133 0 0 ((Nat → Int32) × (Nat → Nat → Int32)) [.ref (x 27), .int p1, .int p2] (XW cy x0 x v f) (fun r u => XI u.1 ∧ u.1 0 = v 0 ∧ u.1 1 = v 1 ∧ u.1 9 = v 9 ∧ u.1 10 = v 10 ∧ u.1 31 = v 31 ∧ u.1 32 = v 32 ∧ ((r = 1) ∨ (r = 0))) (fun u => XW cy x0 x u.1 u.2) := by
  refine ctI_of (by decide) (Nat.le_of_ble_eq_true rfl) (fun p e s m below meth c A ls Q hx hb hml hts hown hE hP hD hA hl ret => ?_)
  have hown : s.vm.findClass RX1 = some m.cls := hown
  have hS : va_S A s.heap s.heap [] := va_S.rf
  have hl : lv_has ls 3 [(0, .ref (x 27)), (1, .int p1), (2, .int p2)] := hl
  refine lv_aload_n hx hb dX1_fits_0 rfl (lv_at hl 0 rfl) ?_
  refine va_get (D := (dC, dI)) (ci := 1) (v := .ref (x 26)) (C := RX1) (T := TX1) (N := 2) hx hb hts inB_1 hown hE.1 hP 28 rfl rfl 0 (by decide) (hts _ k_318) (fun _ h9 => h9) rfl dX1_fits_1 ?_
  refine lv_iload_n hx hb dX1_fits_4 rfl (lv_at hl 1 rfl) ?_
  refine cbVi (n := 1) (rest := []) hx hb hml hown hts hE hP hD hS hA (sX_X7_hasMan_1 l dC dI cy x0 x p1 v f hIv ) k_808 k_307 k_308 k_104 k_309 (by decide +kernel) ⟨Nat.le_of_ble_eq_true rfl, Nat.le_of_ble_eq_true rfl⟩ 27 7 rfl rfl (rfl) hl.1 rfl (Nat.le_of_ble_eq_true rfl) dX1_fits_5 (fun r1 u H locs hw hP hD hS => ?_)
  rcases hw with ⟨g2, g2_0, g2_1⟩ | ⟨g2⟩
  · skip
    subst g2
    refine lv_if_eq (tgt := 42) hx hb dX1_fits_8 (by decide) (fun c0 => absurd c0 (by decide)) (fun _ => ?_)
    refine lv_aload_n hx hb dX1_fits_11 rfl (lv_at hl 0 rfl) ?_
    refine va_get (D := (dC, dI)) (ci := 1) (v := .ref (x 26)) (C := RX1) (T := TX1) (N := 2) hx hb hts inB_1 hown hE.1 hP 28 rfl rfl 0 (by decide) (hts _ k_318) (fun _ h9 => h9) rfl dX1_fits_12 ?_
    refine lv_iload_n hx hb dX1_fits_15 rfl (lv_at hl 2 rfl) ?_
    refine cbVi (n := 1) (rest := []) hx hb hml hown hts hE hP hD hS hA (sX_X7_hasCoat_1 l dC dI cy x0 x p2 v f hIv ) k_821 k_315 k_316 k_104 k_317 (by decide +kernel) ⟨Nat.le_of_ble_eq_true rfl, Nat.le_of_ble_eq_true rfl⟩ 27 7 rfl rfl (rfl) hl.1 rfl (Nat.le_of_ble_eq_true rfl) dX1_fits_16 (fun r3 u H locs hw hP hD hS => ?_)
    rcases hw with ⟨g4, g4_0, g4_1⟩ | ⟨g4⟩
    · skip
      subst g4
      refine lv_if_eq (tgt := 42) hx hb dX1_fits_19 (by decide) (fun c0 => absurd c0 (by decide)) (fun _ => ?_)
      refine lv_aload_n hx hb dX1_fits_22 rfl (lv_at hl 0 rfl) ?_
      refine lv_iload_n hx hb dX1_fits_23 rfl (lv_at hl 1 rfl) ?_
      refine lv_iload_n hx hb dX1_fits_24 rfl (lv_at hl 2 rfl) ?_
      refine cbVi (n := 2) (rest := []) hx hb hml hown hts hE hP hD hS hA (sX_X1_illness_2 l dC dI cy x0 x p1 p2 v f hIv ) k_822 k_823 k_824 k_106 k_825 (by decide +kernel) ⟨Nat.le_of_ble_eq_true rfl, Nat.le_of_ble_eq_true rfl⟩ 28 1 rfl rfl (rfl) hl.1 rfl (Nat.le_of_ble_eq_true rfl) dX1_fits_25 (fun r5 u H locs hw hP hD hS => ?_)
      obtain ⟨v6, f7⟩ := u
      obtain ⟨hIv6, hk0_v6, hk1_v6, hk9_v6, hk10_v6, hk31_v6, hk32_v6⟩ := hw
      have hP : va_P (dC, dI) vwCl (XW cy x0 x v6 f7) H := hP
      have hD : va_D A (XW cy x0 x v6 f7) := hD
      have hq0_v6 : v6 0 = (v 0) := hk0_v6
      have hq1_v6 : v6 1 = (v 1) := hk1_v6
      have hq9_v6 : v6 9 = (v 9) := hk9_v6
      have hq10_v6 : v6 10 = (v 10) := hk10_v6
      have hq31_v6 : v6 31 = (v 31) := hk31_v6
      have hq32_v6 : v6 32 = (v 32) := hk32_v6
      refine lv_aload_n hx hb dX1_fits_28 rfl (lv_at hl 0 rfl) ?_
      refine va_get (D := (dC, dI)) (ci := 1) (v := .ref (x 26)) (C := RX1) (T := TX1) (N := 2) hx hb hts inB_1 hown hE.1 hP 28 rfl rfl 0 (by decide) (hts _ k_318) (fun _ h9 => h9) rfl dX1_fits_29 ?_
      refine va_getN (D := (dC, dI)) (ci := 7) (v := .int (v6 33)) (C := RX7) (T := TX7) (N := 10) hx hb hts inB_7 hown hE.1 hP 27 rfl rfl 5 (by decide) (va_Nw.use rfl (hE.2 _ k_232)) (fun _ h9 => h9) rfl dX1_fits_32 ?_
      refine lv_icmp_gt (tgt := 42) hx hb dX1_fits_35 (by decide) (fun c8 => ?_) (fun c8 => ?_)
      · skip
        have zc8 : (v6 33).toInt < r5.toInt := by rw [fa_lt] at c8; exact c8
        refine lv_iconst (v := 0) hx hb dX1_fits_42 (by decide) ?_
        exact ret 0 (v6, f7) _ _ _ _ _ _ rfl ⟨hIv6, hk0_v6, hk1_v6, hk9_v6, hk10_v6, hk31_v6, hk32_v6, (Or.inr ⟨rfl⟩)⟩ hP hD hS dX1_fits_43 (Nat.le_refl _) (Nat.le_refl _)
      · skip
        have zc8 : ¬ ((v6 33).toInt < r5.toInt) := by rw [fa_lt] at c8; exact c8
        refine lv_iconst (v := 1) hx hb dX1_fits_38 (by decide) ?_
        refine lv_goto (tgt := 43) hx hb dX1_fits_39 (by decide) ?_
        exact ret 1 (v6, f7) _ _ _ _ _ _ rfl ⟨hIv6, hk0_v6, hk1_v6, hk9_v6, hk10_v6, hk31_v6, hk32_v6, (Or.inl ⟨rfl⟩)⟩ hP hD hS dX1_fits_43 (Nat.le_refl _) (Nat.le_refl _)
    · skip
      subst g4
      refine lv_if_eq (tgt := 42) hx hb dX1_fits_19 (by decide) (fun _ => ?_) (fun c0 => absurd (by decide) c0)
      refine lv_iconst (v := 0) hx hb dX1_fits_42 (by decide) ?_
      exact ret 0 (v, f) _ _ _ _ _ _ rfl ⟨hIv, rfl, rfl, rfl, rfl, rfl, rfl, (Or.inr ⟨rfl⟩)⟩ hP hD hS dX1_fits_43 (Nat.le_refl _) (Nat.le_refl _)
  · skip
    subst g2
    refine lv_if_eq (tgt := 42) hx hb dX1_fits_8 (by decide) (fun _ => ?_) (fun c0 => absurd (by decide) c0)
    refine lv_iconst (v := 0) hx hb dX1_fits_42 (by decide) ?_
    exact ret 0 (v, f) _ _ _ _ _ _ rfl ⟨hIv, rfl, rfl, rfl, rfl, rfl, rfl, (Or.inr ⟨rfl⟩)⟩ hP hD hS dX1_fits_43 (Nat.le_refl _) (Nat.le_refl _)
set_option maxHeartbeats 4000000 in
set_option maxRecDepth 100000 in
theorem sX_X1_setWears_2 (l : Launch) (dC : Nat → ClassId) (dI : Nat → Nat → Nat) (cy : Nat → ClassId) (x0 : Nat) (x : Nat → Nat) (p1 : Int32) (p2 : Int32) (v : Nat → Int32) (f : Nat → Nat → Int32) (hIv : XI v)  : ctV l (dC, dI) cy yX1_setWears cX1_setWears 3 2 81 0 0 ((Nat → Int32) × (Nat → Nat → Int32)) [.ref (x 27), .int p1, .int p2] (XW cy x0 x v f) (fun u => XI u.1 ∧ u.1 0 = v 0 ∧ u.1 1 = v 1 ∧ u.1 9 = v 9 ∧ u.1 10 = v 10 ∧ u.1 31 = v 31 ∧ u.1 32 = v 32) (fun u => XW cy x0 x u.1 u.2) := by
  refine ctV_of (by decide) (Nat.le_of_ble_eq_true rfl) (fun p e s m below meth c A ls Q hx hb hml hts hown hnm hE hP hD hA hl ret => ?_)
  have hown : s.vm.findClass RX1 = some m.cls := hown
  have hS : va_S A s.heap s.heap [] := va_S.rf
  have hl : lv_has ls 3 [(0, .ref (x 27)), (1, .int p1), (2, .int p2)] := hl
  refine lv_aload_n hx hb dX1_setWears_0 rfl (lv_at hl 0 rfl) ?_
  refine va_get (D := (dC, dI)) (ci := 1) (v := .ref (x 26)) (C := RX1) (T := TX1) (N := 2) hx hb hts inB_1 hown hE.1 hP 28 rfl rfl 0 (by decide) (hts _ k_318) (fun _ h9 => h9) rfl dX1_setWears_1 ?_
  refine lv_iload_n hx hb dX1_setWears_4 rfl (lv_at hl 1 rfl) ?_
  refine cbVi (n := 1) (rest := []) hx hb hml hown hts hE hP hD hS hA (sX_X7_hasMan_1 l dC dI cy x0 x p1 v f hIv ) k_808 k_307 k_308 k_104 k_309 (by decide +kernel) ⟨Nat.le_of_ble_eq_true rfl, Nat.le_of_ble_eq_true rfl⟩ 27 7 rfl rfl (rfl) hl.1 rfl (Nat.le_of_ble_eq_true rfl) dX1_setWears_5 (fun r1 u H locs hw hP hD hS => ?_)
  rcases hw with ⟨g2, g2_0, g2_1⟩ | ⟨g2⟩
  · skip
    subst g2
    refine lv_if_eq (tgt := 21) hx hb dX1_setWears_8 (by decide) (fun c0 => absurd c0 (by decide)) (fun _ => ?_)
    refine lv_aload_n hx hb dX1_setWears_11 rfl (lv_at hl 0 rfl) ?_
    refine va_get (D := (dC, dI)) (ci := 1) (v := .ref (x 28)) (C := RX1) (T := TX1) (N := 2) hx hb hts inB_1 hown hE.1 hP 28 rfl rfl 1 (by decide) (hts _ k_319) (fun _ h9 => h9) rfl dX1_setWears_12 ?_
    refine lv_bipush (v := 6) hx hb dX1_setWears_15 (by decide) ?_
    refine lv_iload_n hx hb dX1_setWears_17 rfl (lv_at hl 1 rfl) ?_
    refine lv_iadd hx hb dX1_setWears_18 ?_
    refine lv_topi (fun t3 et3 => ?_)
    have zt3 : t3.toInt = 6 + p1.toInt := by rw [et3]; exact add_i (by decide) rfl (by omega) (by omega)
    refine lv_iload_n hx hb dX1_setWears_19 rfl (lv_at hl 2 rfl) ?_
    refine stI hx hb hE hP hD hS 29 rfl (vp_in_iff.mpr ⟨by omega, by omega⟩) rfl dX1_setWears_20 (fun H locs hP hD hS => ?_)
    obtain ⟨f4, hP, hD⟩ : ∃ f9, va_P (dC, dI) vwCl (XW cy x0 x v f9) H ∧ va_D A (XW cy x0 x v f9) := ⟨upd2 f 18 _, hP, hD⟩
    exact ret (v, f4) _ _ _ _ _ _ ⟨hIv, rfl, rfl, rfl, rfl, rfl, rfl⟩ hP hD hS dX1_setWears_21 (Nat.le_refl _) (Nat.le_refl _)
  · skip
    subst g2
    refine lv_if_eq (tgt := 21) hx hb dX1_setWears_8 (by decide) (fun _ => ?_) (fun c0 => absurd (by decide) c0)
    exact ret (v, f) _ _ _ _ _ _ ⟨hIv, rfl, rfl, rfl, rfl, rfl, rfl⟩ hP hD hS dX1_setWears_21 (Nat.le_refl _) (Nat.le_refl _)
set_option maxHeartbeats 4000000 in
set_option maxRecDepth 100000 in
theorem sX_X1_setPart_2 (l : Launch) (dC : Nat → ClassId) (dI : Nat → Nat → Nat) (cy : Nat → ClassId) (x0 : Nat) (x : Nat → Nat) (p1 : Int32) (p2 : Int32) (p3 : Int32) (v : Nat → Int32) (f : Nat → Nat → Int32) (hIv : XI v)  : ctV l (dC, dI) cy yX1_setPart cX1_setPart 4 2 81 0 0 ((Nat → Int32) × (Nat → Nat → Int32)) [.ref (x 27), .int p1, .int p2, .int p3] (XW cy x0 x v f) (fun u => XI u.1 ∧ u.1 0 = v 0 ∧ u.1 1 = v 1 ∧ u.1 9 = v 9 ∧ u.1 10 = v 10 ∧ u.1 31 = v 31 ∧ u.1 32 = v 32) (fun u => XW cy x0 x u.1 u.2) := by
  refine ctV_of (by decide) (Nat.le_of_ble_eq_true rfl) (fun p e s m below meth c A ls Q hx hb hml hts hown hnm hE hP hD hA hl ret => ?_)
  have hown : s.vm.findClass RX1 = some m.cls := hown
  have hS : va_S A s.heap s.heap [] := va_S.rf
  have hl : lv_has ls 4 [(0, .ref (x 27)), (1, .int p1), (2, .int p2), (3, .int p3)] := hl
  refine lv_aload_n hx hb dX1_setPart_0 rfl (lv_at hl 0 rfl) ?_
  refine va_get (D := (dC, dI)) (ci := 1) (v := .ref (x 26)) (C := RX1) (T := TX1) (N := 2) hx hb hts inB_1 hown hE.1 hP 28 rfl rfl 0 (by decide) (hts _ k_318) (fun _ h9 => h9) rfl dX1_setPart_1 ?_
  refine lv_iload_n hx hb dX1_setPart_4 rfl (lv_at hl 2 rfl) ?_
  refine cbVi (n := 1) (rest := []) hx hb hml hown hts hE hP hD hS hA (sX_X7_hasCoat_1 l dC dI cy x0 x p2 v f hIv ) k_821 k_315 k_316 k_104 k_317 (by decide +kernel) ⟨Nat.le_of_ble_eq_true rfl, Nat.le_of_ble_eq_true rfl⟩ 27 7 rfl rfl (rfl) hl.1 rfl (Nat.le_of_ble_eq_true rfl) dX1_setPart_5 (fun r1 u H locs hw hP hD hS => ?_)
  rcases hw with ⟨g2, g2_0, g2_1⟩ | ⟨g2⟩
  · skip
    subst g2
    refine lv_if_eq (tgt := 35) hx hb dX1_setPart_8 (by decide) (fun c0 => absurd c0 (by decide)) (fun _ => ?_)
    refine lv_iload_n hx hb dX1_setPart_11 rfl (lv_at hl 1 rfl) ?_
    refine lv_if_lt (tgt := 35) hx hb dX1_setPart_12 (by decide) (fun c3 => ?_) (fun c3 => ?_)
    · skip
      have zc3 : p1.toInt < 0 := by rw [fa_lt, show (0 : Int32).toInt = 0 from by decide] at c3; exact c3
      exact ret (v, f) _ _ _ _ _ _ ⟨hIv, rfl, rfl, rfl, rfl, rfl, rfl⟩ hP hD hS dX1_setPart_35 (Nat.le_refl _) (Nat.le_refl _)
    · skip
      have zc3 : ¬ (p1.toInt < 0) := by rw [fa_lt, show (0 : Int32).toInt = 0 from by decide] at c3; exact c3
      refine lv_iload_n hx hb dX1_setPart_15 rfl (lv_at hl 1 rfl) ?_
      refine lv_iconst (v := 5) hx hb dX1_setPart_16 (by decide) ?_
      refine lv_icmp_ge (tgt := 35) hx hb dX1_setPart_17 (by decide) (fun c4 => ?_) (fun c4 => ?_)
      · skip
        have zc4 : 5 ≤ p1.toInt := by rw [fa_le, show (5 : Int32).toInt = 5 from by decide] at c4; exact c4
        exact ret (v, f) _ _ _ _ _ _ ⟨hIv, rfl, rfl, rfl, rfl, rfl, rfl⟩ hP hD hS dX1_setPart_35 (Nat.le_refl _) (Nat.le_refl _)
      · skip
        have zc4 : ¬ (5 ≤ p1.toInt) := by rw [fa_le, show (5 : Int32).toInt = 5 from by decide] at c4; exact c4
        refine lv_aload_n hx hb dX1_setPart_20 rfl (lv_at hl 0 rfl) ?_
        refine va_get (D := (dC, dI)) (ci := 1) (v := .ref (x 28)) (C := RX1) (T := TX1) (N := 2) hx hb hts inB_1 hown hE.1 hP 28 rfl rfl 1 (by decide) (hts _ k_319) (fun _ h9 => h9) rfl dX1_setPart_21 ?_
        refine lv_bipush (v := 12) hx hb dX1_setPart_24 (by decide) ?_
        refine lv_iload_n hx hb dX1_setPart_26 rfl (lv_at hl 1 rfl) ?_
        refine lv_bipush (v := 6) hx hb dX1_setPart_27 (by decide) ?_
        refine lv_imul hx hb dX1_setPart_29 ?_
        refine lv_topi (fun t5 et5 => ?_)
        have zt5 : t5.toInt = p1.toInt * 6 := by rw [et5]; exact mul_i rfl (by decide) (by omega) (by omega)
        refine lv_iadd hx hb dX1_setPart_30 ?_
        refine lv_topi (fun t6 et6 => ?_)
        have zt6 : t6.toInt = 12 + t5.toInt := by rw [et6]; exact add_i (by decide) rfl (by omega) (by omega)
        refine lv_iload_n hx hb dX1_setPart_31 rfl (lv_at hl 2 rfl) ?_
        refine lv_iadd hx hb dX1_setPart_32 ?_
        refine lv_topi (fun t7 et7 => ?_)
        have zt7 : t7.toInt = t6.toInt + p2.toInt := by rw [et7]; exact add_i rfl rfl (by omega) (by omega)
        refine lv_iload_n hx hb dX1_setPart_33 rfl (lv_at hl 3 rfl) ?_
        refine stI hx hb hE hP hD hS 29 rfl (vp_in_iff.mpr ⟨by omega, by omega⟩) rfl dX1_setPart_34 (fun H locs hP hD hS => ?_)
        obtain ⟨f8, hP, hD⟩ : ∃ f9, va_P (dC, dI) vwCl (XW cy x0 x v f9) H ∧ va_D A (XW cy x0 x v f9) := ⟨upd2 f 18 _, hP, hD⟩
        exact ret (v, f8) _ _ _ _ _ _ ⟨hIv, rfl, rfl, rfl, rfl, rfl, rfl⟩ hP hD hS dX1_setPart_35 (Nat.le_refl _) (Nat.le_refl _)
  · skip
    subst g2
    refine lv_if_eq (tgt := 35) hx hb dX1_setPart_8 (by decide) (fun _ => ?_) (fun c0 => absurd (by decide) c0)
    exact ret (v, f) _ _ _ _ _ _ ⟨hIv, rfl, rfl, rfl, rfl, rfl, rfl⟩ hP hD hS dX1_setPart_35 (Nat.le_refl _) (Nat.le_refl _)
set_option maxHeartbeats 4000000 in
set_option maxRecDepth 100000 in
theorem sX_X1_weather_2 (l : Launch) (dC : Nat → ClassId) (dI : Nat → Nat → Nat) (cy : Nat → ClassId) (x0 : Nat) (x : Nat → Nat) (p1 : Int32) (p2 : Int32) (v : Nat → Int32) (f : Nat → Nat → Int32) (hIv : XI v)  : ctV l (dC, dI) cy yX1_weather cX1_weather 3 3 104 0 0 ((Nat → Int32) × (Nat → Nat → Int32)) [.ref (x 27), .int p1, .int p2] (XW cy x0 x v f) (fun u => XI u.1 ∧ u.1 0 = v 0 ∧ u.1 1 = v 1 ∧ u.1 9 = v 9 ∧ u.1 10 = v 10 ∧ u.1 31 = v 31 ∧ u.1 32 = v 32) (fun u => XW cy x0 x u.1 u.2) := by
  refine ctV_of (by decide) (Nat.le_of_ble_eq_true rfl) (fun p e s m below meth c A ls Q hx hb hml hts hown hnm hE hP hD hA hl ret => ?_)
  have hown : s.vm.findClass RX1 = some m.cls := hown
  have hS : va_S A s.heap s.heap [] := va_S.rf
  have hl : lv_has ls 3 [(0, .ref (x 27)), (1, .int p1), (2, .int p2)] := hl
  refine lv_aload_n hx hb dX1_weather_0 rfl (lv_at hl 0 rfl) ?_
  refine lv_iconst (v := 3) hx hb dX1_weather_1 (by decide) ?_
  refine lv_iload_n hx hb dX1_weather_2 rfl (lv_at hl 1 rfl) ?_
  refine lv_bipush (v := 99) hx hb dX1_weather_3 (by decide) ?_
  refine lv_aload_n hx hb dX1_weather_5 rfl (lv_at hl 0 rfl) ?_
  refine lv_iconst (v := 3) hx hb dX1_weather_6 (by decide) ?_
  refine lv_iload_n hx hb dX1_weather_7 rfl (lv_at hl 1 rfl) ?_
  refine cbVi (n := 2) (rest := [.int 99, .int p1, .int 3, .ref (x 27)]) hx hb hml hown hts hE hP hD hS hA (sX_X1_part_2 l dC dI cy x0 x 3 p1 v f hIv ) k_827 k_828 k_829 k_106 k_830 (by decide +kernel) ⟨Nat.le_of_ble_eq_true rfl, Nat.le_of_ble_eq_true rfl⟩ 28 1 rfl rfl (rfl) hl.1 rfl (Nat.le_of_ble_eq_true rfl) dX1_weather_8 (fun r1 u H locs hw hP hD hS => ?_)
  refine lv_iconst (v := 1) hx hb dX1_weather_11 (by decide) ?_
  refine lv_iadd hx hb dX1_weather_12 ?_
  refine lv_topi (fun t2 et2 => ?_)
  refine va_mmin hx hb (by rw [hml]; exact hl.1.symm) hown (hts _ k_869) (hts _ k_643) (hts _ k_119) (hts _ k_644) (Nat.le_of_ble_eq_true rfl) (Nat.le_of_ble_eq_true rfl) (Nat.le_of_ble_eq_true rfl) (Nat.le_of_ble_eq_true rfl) dX1_weather_13 ?_
  refine lv_topi (fun t3 et3 => ?_)
  have zt3 : t3.toInt = min (99) (t2.toInt) := by rw [et3]; exact mmin_i (by decide) rfl
  refine cbVv (n := 3) (rest := []) hx hb hml hown hts hE hP hD hS hA (sX_X1_setPart_2 l dC dI cy x0 x 3 p1 t3 v f hIv ) k_874 k_875 k_876 k_106 k_877 (by decide +kernel) ⟨Nat.le_of_ble_eq_true rfl, Nat.le_of_ble_eq_true rfl⟩ 28 1 rfl rfl (rfl) hl.1 rfl (Nat.le_of_ble_eq_true rfl) dX1_weather_16 (fun u H locs hw hP hD hS => ?_)
  obtain ⟨v4, f5⟩ := u
  obtain ⟨hIv4, hk0_v4, hk1_v4, hk9_v4, hk10_v4, hk31_v4, hk32_v4⟩ := hw
  have hP : va_P (dC, dI) vwCl (XW cy x0 x v4 f5) H := hP
  have hD : va_D A (XW cy x0 x v4 f5) := hD
  have hq0_v4 : v4 0 = (v 0) := hk0_v4
  have hq1_v4 : v4 1 = (v 1) := hk1_v4
  have hq9_v4 : v4 9 = (v 9) := hk9_v4
  have hq10_v4 : v4 10 = (v 10) := hk10_v4
  have hq31_v4 : v4 31 = (v 31) := hk31_v4
  have hq32_v4 : v4 32 = (v 32) := hk32_v4
  refine lv_aload_n hx hb dX1_weather_19 rfl (lv_at hl 0 rfl) ?_
  refine lv_iconst (v := 1) hx hb dX1_weather_20 (by decide) ?_
  refine lv_iload_n hx hb dX1_weather_21 rfl (lv_at hl 1 rfl) ?_
  refine lv_iconst (v := 0) hx hb dX1_weather_22 (by decide) ?_
  refine lv_aload_n hx hb dX1_weather_23 rfl (lv_at hl 0 rfl) ?_
  refine lv_iconst (v := 1) hx hb dX1_weather_24 (by decide) ?_
  refine lv_iload_n hx hb dX1_weather_25 rfl (lv_at hl 1 rfl) ?_
  refine cbVi (n := 2) (rest := [.int 0, .int p1, .int 1, .ref (x 27)]) hx hb hml hown hts hE hP hD hS hA (sX_X1_part_2 l dC dI cy x0 x 1 p1 v4 f5 hIv4 ) k_827 k_828 k_829 k_106 k_830 (by decide +kernel) ⟨Nat.le_of_ble_eq_true rfl, Nat.le_of_ble_eq_true rfl⟩ 28 1 rfl rfl (rfl) hl.1 rfl (Nat.le_of_ble_eq_true rfl) dX1_weather_26 (fun r6 u H locs hw hP hD hS => ?_)
  refine lv_iload_n hx hb dX1_weather_29 rfl (lv_at hl 2 rfl) ?_
  refine lv_isub hx hb dX1_weather_30 ?_
  refine lv_topi (fun t7 et7 => ?_)
  refine va_mmax hx hb (by rw [hml]; exact hl.1.symm) hown (hts _ k_878) (hts _ k_640) (hts _ k_119) (hts _ k_641) (Nat.le_of_ble_eq_true rfl) (Nat.le_of_ble_eq_true rfl) (Nat.le_of_ble_eq_true rfl) (Nat.le_of_ble_eq_true rfl) dX1_weather_31 ?_
  refine lv_topi (fun t8 et8 => ?_)
  have zt8 : t8.toInt = max (0) (t7.toInt) := by rw [et8]; exact mmax_i (by decide) rfl
  refine cbVv (n := 3) (rest := []) hx hb hml hown hts hE hP hD hS hA (sX_X1_setPart_2 l dC dI cy x0 x 1 p1 t8 v4 f5 hIv4 ) k_874 k_875 k_876 k_106 k_877 (by decide +kernel) ⟨Nat.le_of_ble_eq_true rfl, Nat.le_of_ble_eq_true rfl⟩ 28 1 rfl rfl (rfl) hl.1 rfl (Nat.le_of_ble_eq_true rfl) dX1_weather_34 (fun u H locs hw hP hD hS => ?_)
  obtain ⟨v9, f10⟩ := u
  obtain ⟨hIv9, hk0_v9, hk1_v9, hk9_v9, hk10_v9, hk31_v9, hk32_v9⟩ := hw
  have hP : va_P (dC, dI) vwCl (XW cy x0 x v9 f10) H := hP
  have hD : va_D A (XW cy x0 x v9 f10) := hD
  have hq0_v9 : v9 0 = (v 0) := hk0_v9.trans hq0_v4
  have hq1_v9 : v9 1 = (v 1) := hk1_v9.trans hq1_v4
  have hq9_v9 : v9 9 = (v 9) := hk9_v9.trans hq9_v4
  have hq10_v9 : v9 10 = (v 10) := hk10_v9.trans hq10_v4
  have hq31_v9 : v9 31 = (v 31) := hk31_v9.trans hq31_v4
  have hq32_v9 : v9 32 = (v 32) := hk32_v9.trans hq32_v4
  refine lv_aload_n hx hb dX1_weather_37 rfl (lv_at hl 0 rfl) ?_
  refine lv_iconst (v := 0) hx hb dX1_weather_38 (by decide) ?_
  refine lv_iload_n hx hb dX1_weather_39 rfl (lv_at hl 1 rfl) ?_
  refine lv_iconst (v := 0) hx hb dX1_weather_40 (by decide) ?_
  refine lv_aload_n hx hb dX1_weather_41 rfl (lv_at hl 0 rfl) ?_
  refine lv_iconst (v := 0) hx hb dX1_weather_42 (by decide) ?_
  refine lv_iload_n hx hb dX1_weather_43 rfl (lv_at hl 1 rfl) ?_
  refine cbVi (n := 2) (rest := [.int 0, .int p1, .int 0, .ref (x 27)]) hx hb hml hown hts hE hP hD hS hA (sX_X1_part_2 l dC dI cy x0 x 0 p1 v9 f10 hIv9 ) k_827 k_828 k_829 k_106 k_830 (by decide +kernel) ⟨Nat.le_of_ble_eq_true rfl, Nat.le_of_ble_eq_true rfl⟩ 28 1 rfl rfl (rfl) hl.1 rfl (Nat.le_of_ble_eq_true rfl) dX1_weather_44 (fun r11 u H locs hw hP hD hS => ?_)
  refine lv_iload_n hx hb dX1_weather_47 rfl (lv_at hl 2 rfl) ?_
  refine lv_isub hx hb dX1_weather_48 ?_
  refine lv_topi (fun t12 et12 => ?_)
  refine va_mmax hx hb (by rw [hml]; exact hl.1.symm) hown (hts _ k_878) (hts _ k_640) (hts _ k_119) (hts _ k_641) (Nat.le_of_ble_eq_true rfl) (Nat.le_of_ble_eq_true rfl) (Nat.le_of_ble_eq_true rfl) (Nat.le_of_ble_eq_true rfl) dX1_weather_49 ?_
  refine lv_topi (fun t13 et13 => ?_)
  have zt13 : t13.toInt = max (0) (t12.toInt) := by rw [et13]; exact mmax_i (by decide) rfl
  refine cbVv (n := 3) (rest := []) hx hb hml hown hts hE hP hD hS hA (sX_X1_setPart_2 l dC dI cy x0 x 0 p1 t13 v9 f10 hIv9 ) k_874 k_875 k_876 k_106 k_877 (by decide +kernel) ⟨Nat.le_of_ble_eq_true rfl, Nat.le_of_ble_eq_true rfl⟩ 28 1 rfl rfl (rfl) hl.1 rfl (Nat.le_of_ble_eq_true rfl) dX1_weather_52 (fun u H locs hw hP hD hS => ?_)
  obtain ⟨v14, f15⟩ := u
  obtain ⟨hIv14, hk0_v14, hk1_v14, hk9_v14, hk10_v14, hk31_v14, hk32_v14⟩ := hw
  have hP : va_P (dC, dI) vwCl (XW cy x0 x v14 f15) H := hP
  have hD : va_D A (XW cy x0 x v14 f15) := hD
  have hq0_v14 : v14 0 = (v 0) := hk0_v14.trans hq0_v9
  have hq1_v14 : v14 1 = (v 1) := hk1_v14.trans hq1_v9
  have hq9_v14 : v14 9 = (v 9) := hk9_v14.trans hq9_v9
  have hq10_v14 : v14 10 = (v 10) := hk10_v14.trans hq10_v9
  have hq31_v14 : v14 31 = (v 31) := hk31_v14.trans hq31_v9
  have hq32_v14 : v14 32 = (v 32) := hk32_v14.trans hq32_v9
  exact ret (v14, f15) _ _ _ _ _ _ ⟨hIv14, (hk0_v14.trans (hk0_v9.trans hk0_v4)), (hk1_v14.trans (hk1_v9.trans hk1_v4)), (hk9_v14.trans (hk9_v9.trans hk9_v4)), (hk10_v14.trans (hk10_v9.trans hk10_v4)), (hk31_v14.trans (hk31_v9.trans hk31_v4)), (hk32_v14.trans (hk32_v9.trans hk32_v4))⟩ hP hD hS dX1_weather_55 (Nat.le_refl _) (Nat.le_refl _)
set_option maxHeartbeats 4000000 in
set_option maxRecDepth 100000 in
theorem sX_X1_passDay_2 (l : Launch) (dC : Nat → ClassId) (dI : Nat → Nat → Nat) (cy : Nat → ClassId) (x0 : Nat) (x : Nat → Nat) (p1 : Int32) (v : Nat → Int32) (f : Nat → Nat → Int32) (hIv : XI v)  : ctI l (dC, dI) cy yX1_passDay cX1_passDay 5 .int 5 155 0 0 ((Nat → Int32) × (Nat → Nat → Int32)) [.ref (x 27), .int p1] (XW cy x0 x v f) (fun r u => XI u.1 ∧ u.1 0 = v 0 ∧ u.1 1 = v 1 ∧ u.1 9 = v 9 ∧ u.1 10 = v 10 ∧ u.1 31 = v 31 ∧ u.1 32 = v 32) (fun u => XW cy x0 x u.1 u.2) := by
  refine ctI_of (by decide) (Nat.le_of_ble_eq_true rfl) (fun p e s m below meth c A ls Q hx hb hml hts hown hE hP hD hA hl ret => ?_)
  have hown : s.vm.findClass RX1 = some m.cls := hown
  have hS : va_S A s.heap s.heap [] := va_S.rf
  have hl : lv_has ls 5 [(0, .ref (x 27)), (1, .int p1)] := hl
  refine lv_iconst (v := 0) hx hb dX1_passDay_0 (by decide) ?_
  refine lv_istore_n (lv' := [(2, .int 0), (0, .ref (x 27)), (1, .int p1)]) hx hb dX1_passDay_1 rfl hl (by decide) rfl (fun ls hl => ?_)
  have lp1 : ∀ (n : Nat) (l2_1 : Int32) (v1 : Nat → Int32) (f1 : Nat → Nat → Int32), XI v1 → v1 0 = (v 0) → v1 1 = (v 1) → v1 9 = (v 9) → v1 10 = (v 10) → v1 31 = (v 31) → v1 32 = (v 32) → (2147483647 - l2_1.toInt).toNat < n → ∀ (H : Heap) (locs : List Loc) (ls : Array Slot), va_P (dC, dI) vwCl (XW cy x0 x v1 f1) H → va_D A (XW cy x0 x v1 f1) → va_S A s.heap H locs → lv_has ls 5 [(2, .int l2_1), (0, .ref (x 27)), (1, .int p1)] → W p l e { frames := 5, cells := 0, slots := 0, locals := 155 } s m ([.ref (x 27), .int p1] : List Value).toArray below meth c H locs 0 0 Q (F0 m 2 ls []) := by
    intro n
    induction n with
    | zero => intro l2_1 v1 f1 hIv1 hq0_v1 hq1_v1 hq9_v1 hq10_v1 hq31_v1 hq32_v1 hm; exact absurd hm (Nat.not_lt_zero _)
    | succ n ih1 =>
      intro l2_1 v1 f1 hIv1 hq0_v1 hq1_v1 hq9_v1 hq10_v1 hq31_v1 hq32_v1 hm1 H locs ls hP hD hS hl
      refine lv_iload_n hx hb dX1_passDay_2 rfl (lv_at hl 0 rfl) ?_
      refine lv_aload_n hx hb dX1_passDay_3 rfl (lv_at hl 1 rfl) ?_
      refine va_get (D := (dC, dI)) (ci := 1) (v := .ref (x 26)) (C := RX1) (T := TX1) (N := 2) hx hb hts inB_1 hown hE.1 hP 28 rfl rfl 0 (by decide) (hts _ k_318) (fun _ h9 => h9) rfl dX1_passDay_4 ?_
      refine va_getN (D := (dC, dI)) (ci := 7) (v := .int (v1 31)) (C := RX7) (T := TX7) (N := 10) hx hb hts inB_7 hown hE.1 hP 27 rfl rfl 3 (by decide) (va_Nw.use rfl (hE.2 _ k_219)) (fun _ h9 => h9) rfl dX1_passDay_7 ?_
      refine tI (y := (v 31)) hq31_v1 ?_
      refine lv_icmp_ge (tgt := 46) hx hb dX1_passDay_10 (by decide) (fun c2 => ?_) (fun c2 => ?_)
      · skip
        have zc2 : (v 31).toInt ≤ l2_1.toInt := by rw [fa_le] at c2; exact c2
        refine lv_aload_n hx hb dX1_passDay_46 rfl (lv_at hl 1 rfl) ?_
        refine va_get (D := (dC, dI)) (ci := 1) (v := .ref (x 28)) (C := RX1) (T := TX1) (N := 2) hx hb hts inB_1 hown hE.1 hP 28 rfl rfl 1 (by decide) (hts _ k_319) (fun _ h9 => h9) rfl dX1_passDay_47 ?_
        refine lv_bipush (v := 43) hx hb dX1_passDay_50 (by decide) ?_
        refine lv_aload_n hx hb dX1_passDay_52 rfl (lv_at hl 1 rfl) ?_
        refine va_get (D := (dC, dI)) (ci := 1) (v := .ref (x 28)) (C := RX1) (T := TX1) (N := 2) hx hb hts inB_1 hown hE.1 hP 28 rfl rfl 1 (by decide) (hts _ k_319) (fun _ h9 => h9) rfl dX1_passDay_53 ?_
        refine lv_bipush (v := 43) hx hb dX1_passDay_56 (by decide) ?_
        refine ldI hx hb hE hP 29 rfl (vp_in_nI (n := 43) (by decide) (by decide)) rfl rfl dX1_passDay_58 ?_
        refine lv_topi (fun t3 et3 => ?_)
        refine lv_sipush (v := 137) hx hb dX1_passDay_59 (by decide) ?_
        refine lv_imul hx hb dX1_passDay_62 ?_
        refine lv_topi (fun t4 et4 => ?_)
        refine lv_bipush (v := 71) hx hb dX1_passDay_63 (by decide) ?_
        refine lv_iadd hx hb dX1_passDay_65 ?_
        refine lv_topi (fun t5 et5 => ?_)
        refine lv_sipush (v := 1000) hx hb dX1_passDay_66 (by decide) ?_
        refine lv_irem hx hb dX1_passDay_69 (by decide) ?_
        refine lv_topi (fun t6 et6 => ?_)
        refine stI hx hb hE hP hD hS 29 rfl (vp_in_nI (n := 43) (by decide) (by decide)) rfl dX1_passDay_70 (fun H locs hP hD hS => ?_)
        obtain ⟨f7, hP, hD⟩ : ∃ f9, va_P (dC, dI) vwCl (XW cy x0 x v1 f9) H ∧ va_D A (XW cy x0 x v1 f9) := ⟨upd2 f1 18 _, hP, hD⟩
        refine lv_aload_n hx hb dX1_passDay_71 rfl (lv_at hl 1 rfl) ?_
        refine va_get (D := (dC, dI)) (ci := 1) (v := .ref (x 28)) (C := RX1) (T := TX1) (N := 2) hx hb hts inB_1 hown hE.1 hP 28 rfl rfl 1 (by decide) (hts _ k_319) (fun _ h9 => h9) rfl dX1_passDay_72 ?_
        refine lv_bipush (v := 43) hx hb dX1_passDay_75 (by decide) ?_
        refine ldI hx hb hE hP 29 rfl (vp_in_nI (n := 43) (by decide) (by decide)) rfl rfl dX1_passDay_77 ?_
        refine lv_topi (fun t8 et8 => ?_)
        refine lv_bipush (v := 100) hx hb dX1_passDay_78 (by decide) ?_
        refine lv_irem hx hb dX1_passDay_80 (by decide) ?_
        refine lv_topi (fun t9 et9 => ?_)
        refine lv_iload_n hx hb dX1_passDay_81 rfl (lv_at hl 2 rfl) ?_
        refine lv_icmp_ge (tgt := 89) hx hb dX1_passDay_82 (by decide) (fun c10 => ?_) (fun c10 => ?_)
        · skip
          have zc10 : p1.toInt ≤ t9.toInt := by rw [fa_le] at c10; exact c10
          refine lv_iconst (v := 0) hx hb dX1_passDay_89 (by decide) ?_
          refine lv_istore_n (lv' := [(2, .int 0), (0, .ref (x 27)), (1, .int p1)]) hx hb dX1_passDay_90 rfl hl (by decide) rfl (fun ls hl => ?_)
          refine lv_iconst (v := 0) hx hb dX1_passDay_91 (by decide) ?_
          refine lv_istore_n (lv' := [(3, .int 0), (2, .int 0), (0, .ref (x 27)), (1, .int p1)]) hx hb dX1_passDay_92 rfl hl (by decide) rfl (fun ls hl => ?_)
          have lp11 : ∀ (n : Nat) (l3_11 : Int32) (v11 : Nat → Int32) (f11 : Nat → Nat → Int32), XI v11 → v11 0 = (v 0) → v11 1 = (v 1) → v11 9 = (v 9) → v11 10 = (v 10) → v11 31 = (v 31) → v11 32 = (v 32) → (2147483647 - l3_11.toInt).toNat < n → ∀ (H : Heap) (locs : List Loc) (ls : Array Slot), va_P (dC, dI) vwCl (XW cy x0 x v11 f11) H → va_D A (XW cy x0 x v11 f11) → va_S A s.heap H locs → lv_has ls 5 [(3, .int l3_11), (2, .int 0), (0, .ref (x 27)), (1, .int p1)] → W p l e { frames := 5, cells := 0, slots := 0, locals := 155 } s m ([.ref (x 27), .int p1] : List Value).toArray below meth c H locs 0 0 Q (F0 m 93 ls []) := by
            intro n
            induction n with
            | zero => intro l3_11 v11 f11 hIv11 hq0_v11 hq1_v11 hq9_v11 hq10_v11 hq31_v11 hq32_v11 hm; exact absurd hm (Nat.not_lt_zero _)
            | succ n ih11 =>
              intro l3_11 v11 f11 hIv11 hq0_v11 hq1_v11 hq9_v11 hq10_v11 hq31_v11 hq32_v11 hm11 H locs ls hP hD hS hl
              refine lv_iload_n hx hb dX1_passDay_93 rfl (lv_at hl 0 rfl) ?_
              refine lv_aload_n hx hb dX1_passDay_94 rfl (lv_at hl 2 rfl) ?_
              refine va_get (D := (dC, dI)) (ci := 1) (v := .ref (x 26)) (C := RX1) (T := TX1) (N := 2) hx hb hts inB_1 hown hE.1 hP 28 rfl rfl 0 (by decide) (hts _ k_318) (fun _ h9 => h9) rfl dX1_passDay_95 ?_
              refine va_getN (D := (dC, dI)) (ci := 7) (v := .int (v11 31)) (C := RX7) (T := TX7) (N := 10) hx hb hts inB_7 hown hE.1 hP 27 rfl rfl 3 (by decide) (va_Nw.use rfl (hE.2 _ k_219)) (fun _ h9 => h9) rfl dX1_passDay_98 ?_
              refine tI (y := (v 31)) hq31_v11 ?_
              refine lv_icmp_ge (tgt := 120) hx hb dX1_passDay_101 (by decide) (fun c12 => ?_) (fun c12 => ?_)
              · skip
                have zc12 : (v 31).toInt ≤ l3_11.toInt := by rw [fa_le] at c12; exact c12
                refine lv_aload_n hx hb dX1_passDay_120 rfl (lv_at hl 2 rfl) ?_
                refine va_get (D := (dC, dI)) (ci := 1) (v := .ref (x 28)) (C := RX1) (T := TX1) (N := 2) hx hb hts inB_1 hown hE.1 hP 28 rfl rfl 1 (by decide) (hts _ k_319) (fun _ h9 => h9) rfl dX1_passDay_121 ?_
                refine lv_bipush (v := 42) hx hb dX1_passDay_124 (by decide) ?_
                refine lv_dup2_11 hx hb dX1_passDay_126 rfl rfl ?_
                refine ldI hx hb hE hP 29 rfl (vp_in_nI (n := 42) (by decide) (by decide)) rfl rfl dX1_passDay_127 ?_
                refine lv_topi (fun t13 et13 => ?_)
                refine lv_iconst (v := 1) hx hb dX1_passDay_128 (by decide) ?_
                refine lv_iadd hx hb dX1_passDay_129 ?_
                refine lv_topi (fun t14 et14 => ?_)
                refine stI hx hb hE hP hD hS 29 rfl (vp_in_nI (n := 42) (by decide) (by decide)) rfl dX1_passDay_130 (fun H locs hP hD hS => ?_)
                obtain ⟨f15, hP, hD⟩ : ∃ f9, va_P (dC, dI) vwCl (XW cy x0 x v11 f9) H ∧ va_D A (XW cy x0 x v11 f9) := ⟨upd2 f11 18 _, hP, hD⟩
                refine lv_iconst (v := 0) hx hb dX1_passDay_131 (by decide) ?_
                refine lv_istore_n (lv' := [(3, .int 0), (2, .int 0), (0, .ref (x 27)), (1, .int p1)]) hx hb dX1_passDay_132 rfl hl (by decide) rfl (fun ls hl => ?_)
                refine lv_iconst (v := 0) hx hb dX1_passDay_133 (by decide) ?_
                refine lv_istore (lv' := [(4, .int 0), (3, .int 0), (2, .int 0), (0, .ref (x 27)), (1, .int p1)]) hx hb dX1_passDay_134 hl (by decide) rfl (fun ls hl => ?_)
                have lp16 : ∀ (n : Nat) (l3_16 : Int32) (l4_16 : Int32) (v16 : Nat → Int32) (f16 : Nat → Nat → Int32), XI v16 → v16 0 = (v 0) → v16 1 = (v 1) → v16 9 = (v 9) → v16 10 = (v 10) → v16 31 = (v 31) → v16 32 = (v 32) → (2147483647 - l4_16.toInt).toNat < n → ∀ (H : Heap) (locs : List Loc) (ls : Array Slot), va_P (dC, dI) vwCl (XW cy x0 x v16 f16) H → va_D A (XW cy x0 x v16 f16) → va_S A s.heap H locs → lv_has ls 5 [(4, .int l4_16), (3, .int l3_16), (2, .int 0), (0, .ref (x 27)), (1, .int p1)] → W p l e { frames := 5, cells := 0, slots := 0, locals := 155 } s m ([.ref (x 27), .int p1] : List Value).toArray below meth c H locs 0 0 Q (F0 m 136 ls []) := by
                  intro n
                  induction n with
                  | zero => intro l3_16 l4_16 v16 f16 hIv16 hq0_v16 hq1_v16 hq9_v16 hq10_v16 hq31_v16 hq32_v16 hm; exact absurd hm (Nat.not_lt_zero _)
                  | succ n ih16 =>
                    intro l3_16 l4_16 v16 f16 hIv16 hq0_v16 hq1_v16 hq9_v16 hq10_v16 hq31_v16 hq32_v16 hm16 H locs ls hP hD hS hl
                    refine lv_iload hx hb dX1_passDay_136 (lv_at hl 0 rfl) ?_
                    refine lv_aload_n hx hb dX1_passDay_138 rfl (lv_at hl 3 rfl) ?_
                    refine va_get (D := (dC, dI)) (ci := 1) (v := .ref (x 26)) (C := RX1) (T := TX1) (N := 2) hx hb hts inB_1 hown hE.1 hP 28 rfl rfl 0 (by decide) (hts _ k_318) (fun _ h9 => h9) rfl dX1_passDay_139 ?_
                    refine va_getN (D := (dC, dI)) (ci := 7) (v := .int (v16 31)) (C := RX7) (T := TX7) (N := 10) hx hb hts inB_7 hown hE.1 hP 27 rfl rfl 3 (by decide) (va_Nw.use rfl (hE.2 _ k_219)) (fun _ h9 => h9) rfl dX1_passDay_142 ?_
                    refine tI (y := (v 31)) hq31_v16 ?_
                    refine lv_icmp_ge (tgt := 193) hx hb dX1_passDay_145 (by decide) (fun c17 => ?_) (fun c17 => ?_)
                    · skip
                      have zc17 : (v 31).toInt ≤ l4_16.toInt := by rw [fa_le] at c17; exact c17
                      refine lv_iload_n hx hb dX1_passDay_193 rfl (lv_at hl 1 rfl) ?_
                      exact ret l3_16 (v16, f16) _ _ _ _ _ _ rfl ⟨hIv16, hq0_v16, hq1_v16, hq9_v16, hq10_v16, hq31_v16, hq32_v16⟩ hP hD hS dX1_passDay_194 (Nat.le_refl _) (Nat.le_refl _)
                    · skip
                      have zc17 : ¬ ((v 31).toInt ≤ l4_16.toInt) := by rw [fa_le] at c17; exact c17
                      refine lv_aload_n hx hb dX1_passDay_148 rfl (lv_at hl 3 rfl) ?_
                      refine lv_iload hx hb dX1_passDay_149 (lv_at hl 0 rfl) ?_
                      refine cbVi (n := 1) (rest := []) hx hb hml hown hts hE hP hD hS hA (sX_X1_wears_2 l dC dI cy x0 x l4_16 v16 f16 hIv16 ) k_853 k_810 k_811 k_106 k_812 (by decide +kernel) ⟨Nat.le_of_ble_eq_true rfl, Nat.le_of_ble_eq_true rfl⟩ 28 1 rfl rfl (rfl) hl.1 rfl (Nat.le_of_ble_eq_true rfl) dX1_passDay_151 (fun r18 u H locs hw hP hD hS => ?_)
                      refine lv_iconst (v := (-1)) hx hb dX1_passDay_154 (by decide) ?_
                      refine lv_icmp_eq (tgt := 187) hx hb dX1_passDay_155 (by decide) (fun c19 => ?_) (fun c19 => ?_)
                      · skip
                        have zc19 : r18.toInt = (-1) := by rw [fa_eq, show ((-1) : Int32).toInt = -1 from by decide] at c19; exact c19
                        obtain ⟨t20, et20⟩ : ∃ y : Int32, y = l4_16 + 1 := ⟨_, rfl⟩
                        have zt20 : t20.toInt = l4_16.toInt + 1 := by rw [et20]; exact add_i rfl (by decide) (by omega) (by omega)
                        refine lv_iinc (v := t20) (lv' := [(4, .int t20), (3, .int l3_16), (2, .int 0), (0, .ref (x 27)), (1, .int p1)]) hx hb dX1_passDay_187 hl (k := 0) rfl (by rw [et20]; rfl) (by decide) rfl (fun ls hl => ?_)
                        refine lv_goto (tgt := 136) hx hb dX1_passDay_190 (by decide) ?_
                        exact ih16 l3_16 t20 v16 f16 hIv16 hq0_v16 hq1_v16 hq9_v16 hq10_v16 hq31_v16 hq32_v16  (by show (2147483647 - t20.toInt).toNat < n; omega) _ _ _ hP hD hS (lv_sub hl [0, 1, 2, 3, 4] rfl)
                      · skip
                        have zc19 : ¬ (r18.toInt = (-1)) := by rw [fa_eq, show ((-1) : Int32).toInt = -1 from by decide] at c19; exact c19
                        refine lv_aload_n hx hb dX1_passDay_158 rfl (lv_at hl 3 rfl) ?_
                        refine lv_iload hx hb dX1_passDay_159 (lv_at hl 0 rfl) ?_
                        refine lv_aload_n hx hb dX1_passDay_161 rfl (lv_at hl 3 rfl) ?_
                        refine lv_iload hx hb dX1_passDay_162 (lv_at hl 0 rfl) ?_
                        refine cbVi (n := 1) (rest := [.int l4_16, .ref (x 27)]) hx hb hml hown hts hE hP hD hS hA (sX_X1_wears_2 l dC dI cy x0 x l4_16 v16 f16 hIv16 ) k_853 k_810 k_811 k_106 k_812 (by decide +kernel) ⟨Nat.le_of_ble_eq_true rfl, Nat.le_of_ble_eq_true rfl⟩ 28 1 rfl rfl (rfl) hl.1 rfl (Nat.le_of_ble_eq_true rfl) dX1_passDay_164 (fun r21 u H locs hw hP hD hS => ?_)
                        refine cbVi (n := 2) (rest := []) hx hb hml hown hts hE hP hD hS hA (sX_X1_fits_2 l dC dI cy x0 x l4_16 r21 v16 f16 hIv16 ) k_817 k_818 k_819 k_106 k_820 (by decide +kernel) ⟨Nat.le_of_ble_eq_true rfl, Nat.le_of_ble_eq_true rfl⟩ 28 1 rfl rfl (rfl) hl.1 rfl (Nat.le_of_ble_eq_true rfl) dX1_passDay_167 (fun r22 u H locs hw hP hD hS => ?_)
                        obtain ⟨v23, f24⟩ := u
                        obtain ⟨hIv23, hk0_v23, hk1_v23, hk9_v23, hk10_v23, hk31_v23, hk32_v23, hw⟩ := hw
                        have hP : va_P (dC, dI) vwCl (XW cy x0 x v23 f24) H := hP
                        have hD : va_D A (XW cy x0 x v23 f24) := hD
                        have hq0_v23 : v23 0 = (v 0) := hk0_v23.trans hq0_v16
                        have hq1_v23 : v23 1 = (v 1) := hk1_v23.trans hq1_v16
                        have hq9_v23 : v23 9 = (v 9) := hk9_v23.trans hq9_v16
                        have hq10_v23 : v23 10 = (v 10) := hk10_v23.trans hq10_v16
                        have hq31_v23 : v23 31 = (v 31) := hk31_v23.trans hq31_v16
                        have hq32_v23 : v23 32 = (v 32) := hk32_v23.trans hq32_v16
                        rcases hw with ⟨g25⟩ | ⟨g25⟩
                        · skip
                          subst g25
                          refine lv_if_ne (tgt := 187) hx hb dX1_passDay_170 (by decide) (fun _ => ?_) (fun c0 => absurd c0 (by decide))
                          obtain ⟨t26, et26⟩ : ∃ y : Int32, y = l4_16 + 1 := ⟨_, rfl⟩
                          have zt26 : t26.toInt = l4_16.toInt + 1 := by rw [et26]; exact add_i rfl (by decide) (by omega) (by omega)
                          refine lv_iinc (v := t26) (lv' := [(4, .int t26), (3, .int l3_16), (2, .int 0), (0, .ref (x 27)), (1, .int p1)]) hx hb dX1_passDay_187 hl (k := 0) rfl (by rw [et26]; rfl) (by decide) rfl (fun ls hl => ?_)
                          refine lv_goto (tgt := 136) hx hb dX1_passDay_190 (by decide) ?_
                          exact ih16 l3_16 t26 v23 f24 hIv23 hq0_v23 hq1_v23 hq9_v23 hq10_v23 hq31_v23 hq32_v23  (by show (2147483647 - t26.toInt).toNat < n; omega) _ _ _ hP hD hS (lv_sub hl [0, 1, 2, 3, 4] rfl)
                        · skip
                          subst g25
                          refine lv_if_ne (tgt := 187) hx hb dX1_passDay_170 (by decide) (fun c0 => absurd (by decide) c0) (fun _ => ?_)
                          refine lv_aload_n hx hb dX1_passDay_173 rfl (lv_at hl 3 rfl) ?_
                          refine lv_iload hx hb dX1_passDay_174 (lv_at hl 0 rfl) ?_
                          refine lv_iconst (v := (-1)) hx hb dX1_passDay_176 (by decide) ?_
                          refine cbVv (n := 2) (rest := []) hx hb hml hown hts hE hP hD hS hA (sX_X1_setWears_2 l dC dI cy x0 x l4_16 (-1) v23 f24 hIv23 ) k_879 k_880 k_881 k_106 k_882 (by decide +kernel) ⟨Nat.le_of_ble_eq_true rfl, Nat.le_of_ble_eq_true rfl⟩ 28 1 rfl rfl (rfl) hl.1 rfl (Nat.le_of_ble_eq_true rfl) dX1_passDay_177 (fun u H locs hw hP hD hS => ?_)
                          obtain ⟨v27, f28⟩ := u
                          obtain ⟨hIv27, hk0_v27, hk1_v27, hk9_v27, hk10_v27, hk31_v27, hk32_v27⟩ := hw
                          have hP : va_P (dC, dI) vwCl (XW cy x0 x v27 f28) H := hP
                          have hD : va_D A (XW cy x0 x v27 f28) := hD
                          have hq0_v27 : v27 0 = (v 0) := hk0_v27.trans hq0_v23
                          have hq1_v27 : v27 1 = (v 1) := hk1_v27.trans hq1_v23
                          have hq9_v27 : v27 9 = (v 9) := hk9_v27.trans hq9_v23
                          have hq10_v27 : v27 10 = (v 10) := hk10_v27.trans hq10_v23
                          have hq31_v27 : v27 31 = (v 31) := hk31_v27.trans hq31_v23
                          have hq32_v27 : v27 32 = (v 32) := hk32_v27.trans hq32_v23
                          refine lv_iload_n hx hb dX1_passDay_180 rfl (lv_at hl 1 rfl) ?_
                          refine lv_iconst (v := 1) hx hb dX1_passDay_181 (by decide) ?_
                          refine lv_iload hx hb dX1_passDay_182 (lv_at hl 0 rfl) ?_
                          refine lv_ishl hx hb dX1_passDay_184 ?_
                          refine lv_topi (fun t29 et29 => ?_)
                          refine lv_ior hx hb dX1_passDay_185 ?_
                          refine lv_topi (fun t30 et30 => ?_)
                          refine lv_istore_n (lv' := [(3, .int t30), (4, .int l4_16), (2, .int 0), (0, .ref (x 27)), (1, .int p1)]) hx hb dX1_passDay_186 rfl hl (by decide) rfl (fun ls hl => ?_)
                          obtain ⟨t31, et31⟩ : ∃ y : Int32, y = l4_16 + 1 := ⟨_, rfl⟩
                          have zt31 : t31.toInt = l4_16.toInt + 1 := by rw [et31]; exact add_i rfl (by decide) (by omega) (by omega)
                          refine lv_iinc (v := t31) (lv' := [(4, .int t31), (3, .int t30), (2, .int 0), (0, .ref (x 27)), (1, .int p1)]) hx hb dX1_passDay_187 hl (k := 1) rfl (by rw [et31]; rfl) (by decide) rfl (fun ls hl => ?_)
                          refine lv_goto (tgt := 136) hx hb dX1_passDay_190 (by decide) ?_
                          exact ih16 t30 t31 v27 f28 hIv27 hq0_v27 hq1_v27 hq9_v27 hq10_v27 hq31_v27 hq32_v27  (by show (2147483647 - t31.toInt).toNat < n; omega) _ _ _ hP hD hS (lv_sub hl [0, 1, 2, 3, 4] rfl)
                exact lp16 _ 0 0 v11 f15 hIv11 hq0_v11 hq1_v11 hq9_v11 hq10_v11 hq31_v11 hq32_v11  (Nat.lt_succ_self _) _ _ _ hP hD hS (lv_sub hl [0, 1, 2, 3, 4] rfl)
              · skip
                have zc12 : ¬ ((v 31).toInt ≤ l3_11.toInt) := by rw [fa_le] at c12; exact c12
                refine lv_aload_n hx hb dX1_passDay_104 rfl (lv_at hl 2 rfl) ?_
                refine lv_aload_n hx hb dX1_passDay_105 rfl (lv_at hl 2 rfl) ?_
                refine lv_iload_n hx hb dX1_passDay_106 rfl (lv_at hl 0 rfl) ?_
                refine cbVi (n := 1) (rest := [.ref (x 27)]) hx hb hml hown hts hE hP hD hS hA (sX_X1_wears_2 l dC dI cy x0 x l3_11 v11 f11 hIv11 ) k_853 k_810 k_811 k_106 k_812 (by decide +kernel) ⟨Nat.le_of_ble_eq_true rfl, Nat.le_of_ble_eq_true rfl⟩ 28 1 rfl rfl (rfl) hl.1 rfl (Nat.le_of_ble_eq_true rfl) dX1_passDay_107 (fun r32 u H locs hw hP hD hS => ?_)
                refine lv_iload_n hx hb dX1_passDay_110 rfl (lv_at hl 1 rfl) ?_
                refine cbVv (n := 2) (rest := []) hx hb hml hown hts hE hP hD hS hA (sX_X1_weather_2 l dC dI cy x0 x r32 0 v11 f11 hIv11 ) k_870 k_872 k_20 k_106 k_873 (by decide +kernel) ⟨Nat.le_of_ble_eq_true rfl, Nat.le_of_ble_eq_true rfl⟩ 28 1 rfl rfl (rfl) hl.1 rfl (Nat.le_of_ble_eq_true rfl) dX1_passDay_111 (fun u H locs hw hP hD hS => ?_)
                obtain ⟨v33, f34⟩ := u
                obtain ⟨hIv33, hk0_v33, hk1_v33, hk9_v33, hk10_v33, hk31_v33, hk32_v33⟩ := hw
                have hP : va_P (dC, dI) vwCl (XW cy x0 x v33 f34) H := hP
                have hD : va_D A (XW cy x0 x v33 f34) := hD
                have hq0_v33 : v33 0 = (v 0) := hk0_v33.trans hq0_v11
                have hq1_v33 : v33 1 = (v 1) := hk1_v33.trans hq1_v11
                have hq9_v33 : v33 9 = (v 9) := hk9_v33.trans hq9_v11
                have hq10_v33 : v33 10 = (v 10) := hk10_v33.trans hq10_v11
                have hq31_v33 : v33 31 = (v 31) := hk31_v33.trans hq31_v11
                have hq32_v33 : v33 32 = (v 32) := hk32_v33.trans hq32_v11
                obtain ⟨t35, et35⟩ : ∃ y : Int32, y = l3_11 + 1 := ⟨_, rfl⟩
                have zt35 : t35.toInt = l3_11.toInt + 1 := by rw [et35]; exact add_i rfl (by decide) (by omega) (by omega)
                refine lv_iinc (v := t35) (lv' := [(3, .int t35), (2, .int 0), (0, .ref (x 27)), (1, .int p1)]) hx hb dX1_passDay_114 hl (k := 0) rfl (by rw [et35]; rfl) (by decide) rfl (fun ls hl => ?_)
                refine lv_goto (tgt := 93) hx hb dX1_passDay_117 (by decide) ?_
                exact ih11 t35 v33 f34 hIv33 hq0_v33 hq1_v33 hq9_v33 hq10_v33 hq31_v33 hq32_v33  (by show (2147483647 - t35.toInt).toNat < n; omega) _ _ _ hP hD hS (lv_sub hl [0, 1, 2, 3] rfl)
          exact lp11 _ 0 v1 f7 hIv1 hq0_v1 hq1_v1 hq9_v1 hq10_v1 hq31_v1 hq32_v1  (Nat.lt_succ_self _) _ _ _ hP hD hS (lv_sub hl [0, 1, 2, 3] rfl)
        · skip
          have zc10 : ¬ (p1.toInt ≤ t9.toInt) := by rw [fa_le] at c10; exact c10
          refine lv_iconst (v := 1) hx hb dX1_passDay_85 (by decide) ?_
          refine lv_goto (tgt := 90) hx hb dX1_passDay_86 (by decide) ?_
          refine lv_istore_n (lv' := [(2, .int 1), (0, .ref (x 27)), (1, .int p1)]) hx hb dX1_passDay_90 rfl hl (by decide) rfl (fun ls hl => ?_)
          refine lv_iconst (v := 0) hx hb dX1_passDay_91 (by decide) ?_
          refine lv_istore_n (lv' := [(3, .int 0), (2, .int 1), (0, .ref (x 27)), (1, .int p1)]) hx hb dX1_passDay_92 rfl hl (by decide) rfl (fun ls hl => ?_)
          have lp36 : ∀ (n : Nat) (l3_36 : Int32) (v36 : Nat → Int32) (f36 : Nat → Nat → Int32), XI v36 → v36 0 = (v 0) → v36 1 = (v 1) → v36 9 = (v 9) → v36 10 = (v 10) → v36 31 = (v 31) → v36 32 = (v 32) → (2147483647 - l3_36.toInt).toNat < n → ∀ (H : Heap) (locs : List Loc) (ls : Array Slot), va_P (dC, dI) vwCl (XW cy x0 x v36 f36) H → va_D A (XW cy x0 x v36 f36) → va_S A s.heap H locs → lv_has ls 5 [(3, .int l3_36), (2, .int 1), (0, .ref (x 27)), (1, .int p1)] → W p l e { frames := 5, cells := 0, slots := 0, locals := 155 } s m ([.ref (x 27), .int p1] : List Value).toArray below meth c H locs 0 0 Q (F0 m 93 ls []) := by
            intro n
            induction n with
            | zero => intro l3_36 v36 f36 hIv36 hq0_v36 hq1_v36 hq9_v36 hq10_v36 hq31_v36 hq32_v36 hm; exact absurd hm (Nat.not_lt_zero _)
            | succ n ih36 =>
              intro l3_36 v36 f36 hIv36 hq0_v36 hq1_v36 hq9_v36 hq10_v36 hq31_v36 hq32_v36 hm36 H locs ls hP hD hS hl
              refine lv_iload_n hx hb dX1_passDay_93 rfl (lv_at hl 0 rfl) ?_
              refine lv_aload_n hx hb dX1_passDay_94 rfl (lv_at hl 2 rfl) ?_
              refine va_get (D := (dC, dI)) (ci := 1) (v := .ref (x 26)) (C := RX1) (T := TX1) (N := 2) hx hb hts inB_1 hown hE.1 hP 28 rfl rfl 0 (by decide) (hts _ k_318) (fun _ h9 => h9) rfl dX1_passDay_95 ?_
              refine va_getN (D := (dC, dI)) (ci := 7) (v := .int (v36 31)) (C := RX7) (T := TX7) (N := 10) hx hb hts inB_7 hown hE.1 hP 27 rfl rfl 3 (by decide) (va_Nw.use rfl (hE.2 _ k_219)) (fun _ h9 => h9) rfl dX1_passDay_98 ?_
              refine tI (y := (v 31)) hq31_v36 ?_
              refine lv_icmp_ge (tgt := 120) hx hb dX1_passDay_101 (by decide) (fun c37 => ?_) (fun c37 => ?_)
              · skip
                have zc37 : (v 31).toInt ≤ l3_36.toInt := by rw [fa_le] at c37; exact c37
                refine lv_aload_n hx hb dX1_passDay_120 rfl (lv_at hl 2 rfl) ?_
                refine va_get (D := (dC, dI)) (ci := 1) (v := .ref (x 28)) (C := RX1) (T := TX1) (N := 2) hx hb hts inB_1 hown hE.1 hP 28 rfl rfl 1 (by decide) (hts _ k_319) (fun _ h9 => h9) rfl dX1_passDay_121 ?_
                refine lv_bipush (v := 42) hx hb dX1_passDay_124 (by decide) ?_
                refine lv_dup2_11 hx hb dX1_passDay_126 rfl rfl ?_
                refine ldI hx hb hE hP 29 rfl (vp_in_nI (n := 42) (by decide) (by decide)) rfl rfl dX1_passDay_127 ?_
                refine lv_topi (fun t38 et38 => ?_)
                refine lv_iconst (v := 1) hx hb dX1_passDay_128 (by decide) ?_
                refine lv_iadd hx hb dX1_passDay_129 ?_
                refine lv_topi (fun t39 et39 => ?_)
                refine stI hx hb hE hP hD hS 29 rfl (vp_in_nI (n := 42) (by decide) (by decide)) rfl dX1_passDay_130 (fun H locs hP hD hS => ?_)
                obtain ⟨f40, hP, hD⟩ : ∃ f9, va_P (dC, dI) vwCl (XW cy x0 x v36 f9) H ∧ va_D A (XW cy x0 x v36 f9) := ⟨upd2 f36 18 _, hP, hD⟩
                refine lv_iconst (v := 0) hx hb dX1_passDay_131 (by decide) ?_
                refine lv_istore_n (lv' := [(3, .int 0), (2, .int 1), (0, .ref (x 27)), (1, .int p1)]) hx hb dX1_passDay_132 rfl hl (by decide) rfl (fun ls hl => ?_)
                refine lv_iconst (v := 0) hx hb dX1_passDay_133 (by decide) ?_
                refine lv_istore (lv' := [(4, .int 0), (3, .int 0), (2, .int 1), (0, .ref (x 27)), (1, .int p1)]) hx hb dX1_passDay_134 hl (by decide) rfl (fun ls hl => ?_)
                have lp41 : ∀ (n : Nat) (l3_41 : Int32) (l4_41 : Int32) (v41 : Nat → Int32) (f41 : Nat → Nat → Int32), XI v41 → v41 0 = (v 0) → v41 1 = (v 1) → v41 9 = (v 9) → v41 10 = (v 10) → v41 31 = (v 31) → v41 32 = (v 32) → (2147483647 - l4_41.toInt).toNat < n → ∀ (H : Heap) (locs : List Loc) (ls : Array Slot), va_P (dC, dI) vwCl (XW cy x0 x v41 f41) H → va_D A (XW cy x0 x v41 f41) → va_S A s.heap H locs → lv_has ls 5 [(4, .int l4_41), (3, .int l3_41), (2, .int 1), (0, .ref (x 27)), (1, .int p1)] → W p l e { frames := 5, cells := 0, slots := 0, locals := 155 } s m ([.ref (x 27), .int p1] : List Value).toArray below meth c H locs 0 0 Q (F0 m 136 ls []) := by
                  intro n
                  induction n with
                  | zero => intro l3_41 l4_41 v41 f41 hIv41 hq0_v41 hq1_v41 hq9_v41 hq10_v41 hq31_v41 hq32_v41 hm; exact absurd hm (Nat.not_lt_zero _)
                  | succ n ih41 =>
                    intro l3_41 l4_41 v41 f41 hIv41 hq0_v41 hq1_v41 hq9_v41 hq10_v41 hq31_v41 hq32_v41 hm41 H locs ls hP hD hS hl
                    refine lv_iload hx hb dX1_passDay_136 (lv_at hl 0 rfl) ?_
                    refine lv_aload_n hx hb dX1_passDay_138 rfl (lv_at hl 3 rfl) ?_
                    refine va_get (D := (dC, dI)) (ci := 1) (v := .ref (x 26)) (C := RX1) (T := TX1) (N := 2) hx hb hts inB_1 hown hE.1 hP 28 rfl rfl 0 (by decide) (hts _ k_318) (fun _ h9 => h9) rfl dX1_passDay_139 ?_
                    refine va_getN (D := (dC, dI)) (ci := 7) (v := .int (v41 31)) (C := RX7) (T := TX7) (N := 10) hx hb hts inB_7 hown hE.1 hP 27 rfl rfl 3 (by decide) (va_Nw.use rfl (hE.2 _ k_219)) (fun _ h9 => h9) rfl dX1_passDay_142 ?_
                    refine tI (y := (v 31)) hq31_v41 ?_
                    refine lv_icmp_ge (tgt := 193) hx hb dX1_passDay_145 (by decide) (fun c42 => ?_) (fun c42 => ?_)
                    · skip
                      have zc42 : (v 31).toInt ≤ l4_41.toInt := by rw [fa_le] at c42; exact c42
                      refine lv_iload_n hx hb dX1_passDay_193 rfl (lv_at hl 1 rfl) ?_
                      exact ret l3_41 (v41, f41) _ _ _ _ _ _ rfl ⟨hIv41, hq0_v41, hq1_v41, hq9_v41, hq10_v41, hq31_v41, hq32_v41⟩ hP hD hS dX1_passDay_194 (Nat.le_refl _) (Nat.le_refl _)
                    · skip
                      have zc42 : ¬ ((v 31).toInt ≤ l4_41.toInt) := by rw [fa_le] at c42; exact c42
                      refine lv_aload_n hx hb dX1_passDay_148 rfl (lv_at hl 3 rfl) ?_
                      refine lv_iload hx hb dX1_passDay_149 (lv_at hl 0 rfl) ?_
                      refine cbVi (n := 1) (rest := []) hx hb hml hown hts hE hP hD hS hA (sX_X1_wears_2 l dC dI cy x0 x l4_41 v41 f41 hIv41 ) k_853 k_810 k_811 k_106 k_812 (by decide +kernel) ⟨Nat.le_of_ble_eq_true rfl, Nat.le_of_ble_eq_true rfl⟩ 28 1 rfl rfl (rfl) hl.1 rfl (Nat.le_of_ble_eq_true rfl) dX1_passDay_151 (fun r43 u H locs hw hP hD hS => ?_)
                      refine lv_iconst (v := (-1)) hx hb dX1_passDay_154 (by decide) ?_
                      refine lv_icmp_eq (tgt := 187) hx hb dX1_passDay_155 (by decide) (fun c44 => ?_) (fun c44 => ?_)
                      · skip
                        have zc44 : r43.toInt = (-1) := by rw [fa_eq, show ((-1) : Int32).toInt = -1 from by decide] at c44; exact c44
                        obtain ⟨t45, et45⟩ : ∃ y : Int32, y = l4_41 + 1 := ⟨_, rfl⟩
                        have zt45 : t45.toInt = l4_41.toInt + 1 := by rw [et45]; exact add_i rfl (by decide) (by omega) (by omega)
                        refine lv_iinc (v := t45) (lv' := [(4, .int t45), (3, .int l3_41), (2, .int 1), (0, .ref (x 27)), (1, .int p1)]) hx hb dX1_passDay_187 hl (k := 0) rfl (by rw [et45]; rfl) (by decide) rfl (fun ls hl => ?_)
                        refine lv_goto (tgt := 136) hx hb dX1_passDay_190 (by decide) ?_
                        exact ih41 l3_41 t45 v41 f41 hIv41 hq0_v41 hq1_v41 hq9_v41 hq10_v41 hq31_v41 hq32_v41  (by show (2147483647 - t45.toInt).toNat < n; omega) _ _ _ hP hD hS (lv_sub hl [0, 1, 2, 3, 4] rfl)
                      · skip
                        have zc44 : ¬ (r43.toInt = (-1)) := by rw [fa_eq, show ((-1) : Int32).toInt = -1 from by decide] at c44; exact c44
                        refine lv_aload_n hx hb dX1_passDay_158 rfl (lv_at hl 3 rfl) ?_
                        refine lv_iload hx hb dX1_passDay_159 (lv_at hl 0 rfl) ?_
                        refine lv_aload_n hx hb dX1_passDay_161 rfl (lv_at hl 3 rfl) ?_
                        refine lv_iload hx hb dX1_passDay_162 (lv_at hl 0 rfl) ?_
                        refine cbVi (n := 1) (rest := [.int l4_41, .ref (x 27)]) hx hb hml hown hts hE hP hD hS hA (sX_X1_wears_2 l dC dI cy x0 x l4_41 v41 f41 hIv41 ) k_853 k_810 k_811 k_106 k_812 (by decide +kernel) ⟨Nat.le_of_ble_eq_true rfl, Nat.le_of_ble_eq_true rfl⟩ 28 1 rfl rfl (rfl) hl.1 rfl (Nat.le_of_ble_eq_true rfl) dX1_passDay_164 (fun r46 u H locs hw hP hD hS => ?_)
                        refine cbVi (n := 2) (rest := []) hx hb hml hown hts hE hP hD hS hA (sX_X1_fits_2 l dC dI cy x0 x l4_41 r46 v41 f41 hIv41 ) k_817 k_818 k_819 k_106 k_820 (by decide +kernel) ⟨Nat.le_of_ble_eq_true rfl, Nat.le_of_ble_eq_true rfl⟩ 28 1 rfl rfl (rfl) hl.1 rfl (Nat.le_of_ble_eq_true rfl) dX1_passDay_167 (fun r47 u H locs hw hP hD hS => ?_)
                        obtain ⟨v48, f49⟩ := u
                        obtain ⟨hIv48, hk0_v48, hk1_v48, hk9_v48, hk10_v48, hk31_v48, hk32_v48, hw⟩ := hw
                        have hP : va_P (dC, dI) vwCl (XW cy x0 x v48 f49) H := hP
                        have hD : va_D A (XW cy x0 x v48 f49) := hD
                        have hq0_v48 : v48 0 = (v 0) := hk0_v48.trans hq0_v41
                        have hq1_v48 : v48 1 = (v 1) := hk1_v48.trans hq1_v41
                        have hq9_v48 : v48 9 = (v 9) := hk9_v48.trans hq9_v41
                        have hq10_v48 : v48 10 = (v 10) := hk10_v48.trans hq10_v41
                        have hq31_v48 : v48 31 = (v 31) := hk31_v48.trans hq31_v41
                        have hq32_v48 : v48 32 = (v 32) := hk32_v48.trans hq32_v41
                        rcases hw with ⟨g50⟩ | ⟨g50⟩
                        · skip
                          subst g50
                          refine lv_if_ne (tgt := 187) hx hb dX1_passDay_170 (by decide) (fun _ => ?_) (fun c0 => absurd c0 (by decide))
                          obtain ⟨t51, et51⟩ : ∃ y : Int32, y = l4_41 + 1 := ⟨_, rfl⟩
                          have zt51 : t51.toInt = l4_41.toInt + 1 := by rw [et51]; exact add_i rfl (by decide) (by omega) (by omega)
                          refine lv_iinc (v := t51) (lv' := [(4, .int t51), (3, .int l3_41), (2, .int 1), (0, .ref (x 27)), (1, .int p1)]) hx hb dX1_passDay_187 hl (k := 0) rfl (by rw [et51]; rfl) (by decide) rfl (fun ls hl => ?_)
                          refine lv_goto (tgt := 136) hx hb dX1_passDay_190 (by decide) ?_
                          exact ih41 l3_41 t51 v48 f49 hIv48 hq0_v48 hq1_v48 hq9_v48 hq10_v48 hq31_v48 hq32_v48  (by show (2147483647 - t51.toInt).toNat < n; omega) _ _ _ hP hD hS (lv_sub hl [0, 1, 2, 3, 4] rfl)
                        · skip
                          subst g50
                          refine lv_if_ne (tgt := 187) hx hb dX1_passDay_170 (by decide) (fun c0 => absurd (by decide) c0) (fun _ => ?_)
                          refine lv_aload_n hx hb dX1_passDay_173 rfl (lv_at hl 3 rfl) ?_
                          refine lv_iload hx hb dX1_passDay_174 (lv_at hl 0 rfl) ?_
                          refine lv_iconst (v := (-1)) hx hb dX1_passDay_176 (by decide) ?_
                          refine cbVv (n := 2) (rest := []) hx hb hml hown hts hE hP hD hS hA (sX_X1_setWears_2 l dC dI cy x0 x l4_41 (-1) v48 f49 hIv48 ) k_879 k_880 k_881 k_106 k_882 (by decide +kernel) ⟨Nat.le_of_ble_eq_true rfl, Nat.le_of_ble_eq_true rfl⟩ 28 1 rfl rfl (rfl) hl.1 rfl (Nat.le_of_ble_eq_true rfl) dX1_passDay_177 (fun u H locs hw hP hD hS => ?_)
                          obtain ⟨v52, f53⟩ := u
                          obtain ⟨hIv52, hk0_v52, hk1_v52, hk9_v52, hk10_v52, hk31_v52, hk32_v52⟩ := hw
                          have hP : va_P (dC, dI) vwCl (XW cy x0 x v52 f53) H := hP
                          have hD : va_D A (XW cy x0 x v52 f53) := hD
                          have hq0_v52 : v52 0 = (v 0) := hk0_v52.trans hq0_v48
                          have hq1_v52 : v52 1 = (v 1) := hk1_v52.trans hq1_v48
                          have hq9_v52 : v52 9 = (v 9) := hk9_v52.trans hq9_v48
                          have hq10_v52 : v52 10 = (v 10) := hk10_v52.trans hq10_v48
                          have hq31_v52 : v52 31 = (v 31) := hk31_v52.trans hq31_v48
                          have hq32_v52 : v52 32 = (v 32) := hk32_v52.trans hq32_v48
                          refine lv_iload_n hx hb dX1_passDay_180 rfl (lv_at hl 1 rfl) ?_
                          refine lv_iconst (v := 1) hx hb dX1_passDay_181 (by decide) ?_
                          refine lv_iload hx hb dX1_passDay_182 (lv_at hl 0 rfl) ?_
                          refine lv_ishl hx hb dX1_passDay_184 ?_
                          refine lv_topi (fun t54 et54 => ?_)
                          refine lv_ior hx hb dX1_passDay_185 ?_
                          refine lv_topi (fun t55 et55 => ?_)
                          refine lv_istore_n (lv' := [(3, .int t55), (4, .int l4_41), (2, .int 1), (0, .ref (x 27)), (1, .int p1)]) hx hb dX1_passDay_186 rfl hl (by decide) rfl (fun ls hl => ?_)
                          obtain ⟨t56, et56⟩ : ∃ y : Int32, y = l4_41 + 1 := ⟨_, rfl⟩
                          have zt56 : t56.toInt = l4_41.toInt + 1 := by rw [et56]; exact add_i rfl (by decide) (by omega) (by omega)
                          refine lv_iinc (v := t56) (lv' := [(4, .int t56), (3, .int t55), (2, .int 1), (0, .ref (x 27)), (1, .int p1)]) hx hb dX1_passDay_187 hl (k := 1) rfl (by rw [et56]; rfl) (by decide) rfl (fun ls hl => ?_)
                          refine lv_goto (tgt := 136) hx hb dX1_passDay_190 (by decide) ?_
                          exact ih41 t55 t56 v52 f53 hIv52 hq0_v52 hq1_v52 hq9_v52 hq10_v52 hq31_v52 hq32_v52  (by show (2147483647 - t56.toInt).toNat < n; omega) _ _ _ hP hD hS (lv_sub hl [0, 1, 2, 3, 4] rfl)
                exact lp41 _ 0 0 v36 f40 hIv36 hq0_v36 hq1_v36 hq9_v36 hq10_v36 hq31_v36 hq32_v36  (Nat.lt_succ_self _) _ _ _ hP hD hS (lv_sub hl [0, 1, 2, 3, 4] rfl)
              · skip
                have zc37 : ¬ ((v 31).toInt ≤ l3_36.toInt) := by rw [fa_le] at c37; exact c37
                refine lv_aload_n hx hb dX1_passDay_104 rfl (lv_at hl 2 rfl) ?_
                refine lv_aload_n hx hb dX1_passDay_105 rfl (lv_at hl 2 rfl) ?_
                refine lv_iload_n hx hb dX1_passDay_106 rfl (lv_at hl 0 rfl) ?_
                refine cbVi (n := 1) (rest := [.ref (x 27)]) hx hb hml hown hts hE hP hD hS hA (sX_X1_wears_2 l dC dI cy x0 x l3_36 v36 f36 hIv36 ) k_853 k_810 k_811 k_106 k_812 (by decide +kernel) ⟨Nat.le_of_ble_eq_true rfl, Nat.le_of_ble_eq_true rfl⟩ 28 1 rfl rfl (rfl) hl.1 rfl (Nat.le_of_ble_eq_true rfl) dX1_passDay_107 (fun r57 u H locs hw hP hD hS => ?_)
                refine lv_iload_n hx hb dX1_passDay_110 rfl (lv_at hl 1 rfl) ?_
                refine cbVv (n := 2) (rest := []) hx hb hml hown hts hE hP hD hS hA (sX_X1_weather_2 l dC dI cy x0 x r57 1 v36 f36 hIv36 ) k_870 k_872 k_20 k_106 k_873 (by decide +kernel) ⟨Nat.le_of_ble_eq_true rfl, Nat.le_of_ble_eq_true rfl⟩ 28 1 rfl rfl (rfl) hl.1 rfl (Nat.le_of_ble_eq_true rfl) dX1_passDay_111 (fun u H locs hw hP hD hS => ?_)
                obtain ⟨v58, f59⟩ := u
                obtain ⟨hIv58, hk0_v58, hk1_v58, hk9_v58, hk10_v58, hk31_v58, hk32_v58⟩ := hw
                have hP : va_P (dC, dI) vwCl (XW cy x0 x v58 f59) H := hP
                have hD : va_D A (XW cy x0 x v58 f59) := hD
                have hq0_v58 : v58 0 = (v 0) := hk0_v58.trans hq0_v36
                have hq1_v58 : v58 1 = (v 1) := hk1_v58.trans hq1_v36
                have hq9_v58 : v58 9 = (v 9) := hk9_v58.trans hq9_v36
                have hq10_v58 : v58 10 = (v 10) := hk10_v58.trans hq10_v36
                have hq31_v58 : v58 31 = (v 31) := hk31_v58.trans hq31_v36
                have hq32_v58 : v58 32 = (v 32) := hk32_v58.trans hq32_v36
                obtain ⟨t60, et60⟩ : ∃ y : Int32, y = l3_36 + 1 := ⟨_, rfl⟩
                have zt60 : t60.toInt = l3_36.toInt + 1 := by rw [et60]; exact add_i rfl (by decide) (by omega) (by omega)
                refine lv_iinc (v := t60) (lv' := [(3, .int t60), (2, .int 1), (0, .ref (x 27)), (1, .int p1)]) hx hb dX1_passDay_114 hl (k := 0) rfl (by rw [et60]; rfl) (by decide) rfl (fun ls hl => ?_)
                refine lv_goto (tgt := 93) hx hb dX1_passDay_117 (by decide) ?_
                exact ih36 t60 v58 f59 hIv58 hq0_v58 hq1_v58 hq9_v58 hq10_v58 hq31_v58 hq32_v58  (by show (2147483647 - t60.toInt).toNat < n; omega) _ _ _ hP hD hS (lv_sub hl [0, 1, 2, 3] rfl)
          exact lp36 _ 0 v1 f7 hIv1 hq0_v1 hq1_v1 hq9_v1 hq10_v1 hq31_v1 hq32_v1  (Nat.lt_succ_self _) _ _ _ hP hD hS (lv_sub hl [0, 1, 2, 3] rfl)
      · skip
        have zc2 : ¬ ((v 31).toInt ≤ l2_1.toInt) := by rw [fa_le] at c2; exact c2
        refine lv_aload_n hx hb dX1_passDay_13 rfl (lv_at hl 1 rfl) ?_
        refine va_get (D := (dC, dI)) (ci := 1) (v := .ref (x 28)) (C := RX1) (T := TX1) (N := 2) hx hb hts inB_1 hown hE.1 hP 28 rfl rfl 1 (by decide) (hts _ k_319) (fun _ h9 => h9) rfl dX1_passDay_14 ?_
        refine lv_iload_n hx hb dX1_passDay_17 rfl (lv_at hl 0 rfl) ?_
        refine lv_bipush (v := 99) hx hb dX1_passDay_18 (by decide) ?_
        refine lv_aload_n hx hb dX1_passDay_20 rfl (lv_at hl 1 rfl) ?_
        refine va_get (D := (dC, dI)) (ci := 1) (v := .ref (x 28)) (C := RX1) (T := TX1) (N := 2) hx hb hts inB_1 hown hE.1 hP 28 rfl rfl 1 (by decide) (hts _ k_319) (fun _ h9 => h9) rfl dX1_passDay_21 ?_
        refine lv_iload_n hx hb dX1_passDay_24 rfl (lv_at hl 0 rfl) ?_
        refine ldI hx hb hE hP 29 rfl (vp_in_iff.mpr ⟨by omega, by omega⟩) rfl rfl dX1_passDay_25 ?_
        refine lv_topi (fun t61 et61 => ?_)
        refine lv_aload_n hx hb dX1_passDay_26 rfl (lv_at hl 1 rfl) ?_
        refine va_get (D := (dC, dI)) (ci := 1) (v := .ref (x 26)) (C := RX1) (T := TX1) (N := 2) hx hb hts inB_1 hown hE.1 hP 28 rfl rfl 0 (by decide) (hts _ k_318) (fun _ h9 => h9) rfl dX1_passDay_27 ?_
        refine lv_iconst (v := 2) hx hb dX1_passDay_30 (by decide) ?_
        refine lv_iload_n hx hb dX1_passDay_31 rfl (lv_at hl 0 rfl) ?_
        refine cbVi (n := 2) (rest := [.int t61, .int 99, .int l2_1, .ref (x 28)]) hx hb hml hown hts hE hP hD hS hA (sX_X7_manPart_1 l dC dI cy x0 x 2 l2_1 v1 f1 hIv1 ) k_302 k_303 k_304 k_104 k_305 (by decide +kernel) ⟨Nat.le_of_ble_eq_true rfl, Nat.le_of_ble_eq_true rfl⟩ 27 7 rfl rfl (rfl) hl.1 rfl (Nat.le_of_ble_eq_true rfl) dX1_passDay_32 (fun r62 u H locs hw hP hD hS => ?_)
        refine lv_iadd hx hb dX1_passDay_35 ?_
        refine lv_topi (fun t63 et63 => ?_)
        refine va_mmin hx hb (by rw [hml]; exact hl.1.symm) hown (hts _ k_869) (hts _ k_643) (hts _ k_119) (hts _ k_644) (Nat.le_of_ble_eq_true rfl) (Nat.le_of_ble_eq_true rfl) (Nat.le_of_ble_eq_true rfl) (Nat.le_of_ble_eq_true rfl) dX1_passDay_36 ?_
        refine lv_topi (fun t64 et64 => ?_)
        have zt64 : t64.toInt = min (99) (t63.toInt) := by rw [et64]; exact mmin_i (by decide) rfl
        refine stI hx hb hE hP hD hS 29 rfl (vp_in_iff.mpr ⟨by omega, by omega⟩) rfl dX1_passDay_39 (fun H locs hP hD hS => ?_)
        obtain ⟨f65, hP, hD⟩ : ∃ f9, va_P (dC, dI) vwCl (XW cy x0 x v1 f9) H ∧ va_D A (XW cy x0 x v1 f9) := ⟨upd2 f1 18 _, hP, hD⟩
        obtain ⟨t66, et66⟩ : ∃ y : Int32, y = l2_1 + 1 := ⟨_, rfl⟩
        have zt66 : t66.toInt = l2_1.toInt + 1 := by rw [et66]; exact add_i rfl (by decide) (by omega) (by omega)
        refine lv_iinc (v := t66) (lv' := [(2, .int t66), (0, .ref (x 27)), (1, .int p1)]) hx hb dX1_passDay_40 hl (k := 0) rfl (by rw [et66]; rfl) (by decide) rfl (fun ls hl => ?_)
        refine lv_goto (tgt := 2) hx hb dX1_passDay_43 (by decide) ?_
        exact ih1 t66 v1 f65 hIv1 hq0_v1 hq1_v1 hq9_v1 hq10_v1 hq31_v1 hq32_v1  (by show (2147483647 - t66.toInt).toNat < n; omega) _ _ _ hP hD hS (lv_sub hl [0, 1, 2] rfl)
  exact lp1 _ 0 v f hIv rfl rfl rfl rfl rfl rfl  (Nat.lt_succ_self _) _ _ _ hP hD hS (lv_sub hl [0, 1, 2] rfl)
