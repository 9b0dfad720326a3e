set_option maxHeartbeats 4000000 in
set_option maxRecDepth 100000 in
theorem sY_X11_act_1 (NF : Nat) (l : Launch) (dC : Nat → ClassId) (dI : Nat → Nat → Nat) (cy : Nat → ClassId) (y0 : Nat) (r : Nat → Nat)  (v : Nat → Int32) (f : Nat → Nat → Int32) (w : Int64) (g : Nat → Int64) (hIv : YI v) (hCf : YC f) (hRf : progOK (f 4) (f 5) (v 9).toInt.toNat)  : ctV l (dC, dI) cy yX11_act cX11_act 2 2 81 0 0 ((Nat → Int32) × (Nat → Nat → Int32) × (Int64) × (Nat → Int64)) [.ref y0] (YW cy y0 r v f w g) (fun u => gsY_X11_act_1 NF v f w g = u ∧ KV [35, 36] u.1 v ∧ KF [24, 25] u.2.1 f ∧ YI u.1 ∧ YC u.2.1 ∧ progOK (u.2.1 4) (u.2.1 5) (u.1 9).toInt.toNat ∧ u.1 0 = v 0 ∧ u.1 1 = v 1 ∧ u.1 2 = v 2 ∧ u.1 3 = v 3 ∧ u.1 4 = v 4 ∧ u.1 5 = v 5 ∧ u.1 8 = v 8 ∧ u.1 9 = v 9 ∧ u.1 10 = v 10 ∧ u.1 13 = v 13 ∧ u.1 14 = v 14 ∧ u.1 15 = v 15 ∧ u.1 17 = v 17 ∧ u.1 18 = v 18 ∧ u.1 24 = v 24 ∧ u.1 25 = v 25 ∧ u.1 38 = v 38 ∧ u.1 39 = v 39) (fun u => YW cy y0 r u.1 u.2.1 u.2.2.1 u.2.2.2) := by
  refine ctV_of (by decide) (Nat.le_of_ble_eq_true rfl) (fun p e s m below meth c A ls Q hx hb hml hts hown hnm hE hP hD hA hl ret => ?_)
  have hUv : (v 35).toInt + (v 36).toInt ≤ 40 := hIv.2
  have hM_v : KV [35, 36] v v := fun _ _ => rfl
  have hA_f : KF [24, 25] f f := fun _ _ => rfl
  have hown : s.vm.findClass RX11 = some m.cls := hown
  have hS : va_S A s.heap s.heap [] := va_S.rf
  have hl : lv_has ls 2 [(0, .ref y0)] := hl
  refine lv_aload_n hx hb dX11_act_0 rfl (lv_at hl 0 rfl) ?_
  refine va_get (D := (dC, dI)) (ci := 11) (v := .int (v 35)) (C := RX11) (T := TX11) (N := 79) hx hb hts inB_11 hown hE.1 hP 0 rfl rfl 62 (by decide) (hts _ k_1382) (fun _ h9 => h9) rfl dX11_act_1 ?_
  have b35_v : 0 ≤ (v 35).toInt ∧ (v 35).toInt ≤ 40 := YIb.b hIv.1 35 (by decide)
  refine lv_bipush (v := 40) hx hb dX11_act_4 (by decide) ?_
  refine lv_icmp_ne (tgt := 49) hx hb dX11_act_6 (by decide) (fun c1 => ?_) (fun c1 => ?_)
  · skip
    have zc1 : ¬ ((v 35).toInt = 40) := by rw [fa_eq, show (40 : Int32).toInt = 40 from by decide] at c1; exact c1
    refine lv_iconst (v := 0) hx hb dX11_act_49 (by decide) ?_
    refine lv_istore_n (lv' := [(1, .int 0), (0, .ref y0)]) hx hb dX11_act_50 rfl hl (by decide) rfl (fun ls hl => ?_)
    have lp2 : ∀ (n2 : Nat) (l1_2 : Int32) (v2 : Nat → Int32) (f2 : Nat → Nat → Int32) (w2 : Int64) (g2 : Nat → Int64), YI v2 → YC f2 → progOK (f2 4) (f2 5) (v2 9).toInt.toNat → v2 0 = (v 0) → v2 1 = (v 1) → v2 2 = (v 2) → v2 3 = (v 3) → v2 4 = (v 4) → v2 5 = (v 5) → v2 8 = (v 8) → v2 9 = (v 9) → v2 10 = (v 10) → v2 13 = (v 13) → v2 14 = (v 14) → v2 15 = (v 15) → v2 17 = (v 17) → v2 18 = (v 18) → v2 24 = (v 24) → v2 25 = (v 25) → v2 35 = (v 35) → v2 36 = (v 36) → v2 38 = (v 38) → v2 39 = (v 39) → gsY_X11_act_1_L2 NF v n2 l1_2 v2 f2 w2 g2 = (gsY_X11_act_1 NF v f w g) → ((0 : Int) ≤ l1_2.toInt ∧ l1_2.toInt ≤ 2147483647) → KV [35, 36] v2 v → KF [24, 25] f2 f → (2147483647 - l1_2.toInt).toNat < n2 → ∀ (H : Heap) (locs : List Loc) (ls : Array Slot), va_P (dC, dI) vwCl (YW cy y0 r v2 f2 w2 g2) H → va_D A (YW cy y0 r v2 f2 w2 g2) → va_S A s.heap H locs → lv_has ls 2 [(1, .int l1_2), (0, .ref y0)] → W p l e { frames := 2, cells := 0, slots := 0, locals := 81 } s m ([.ref y0] : List Value).toArray below meth c H locs 0 0 Q (F0 m 51 ls []) := by
      intro n2
      induction n2 with
      | zero => intro l1_2 v2 f2 w2 g2 hIv2 hCf2 hRf2 hq0_v2 hq1_v2 hq2_v2 hq3_v2 hq4_v2 hq5_v2 hq8_v2 hq9_v2 hq10_v2 hq13_v2 hq14_v2 hq15_v2 hq17_v2 hq18_v2 hq24_v2 hq25_v2 hq35_v2 hq36_v2 hq38_v2 hq39_v2 hT2 hr1_2 hM_v2 hA_f2 hm; exact absurd hm (Nat.not_lt_zero _)
      | succ n2 ih2 =>
        intro l1_2 v2 f2 w2 g2 hIv2 hCf2 hRf2 hq0_v2 hq1_v2 hq2_v2 hq3_v2 hq4_v2 hq5_v2 hq8_v2 hq9_v2 hq10_v2 hq13_v2 hq14_v2 hq15_v2 hq17_v2 hq18_v2 hq24_v2 hq25_v2 hq35_v2 hq36_v2 hq38_v2 hq39_v2 hT2 hr1_2 hM_v2 hA_f2 hm2 H locs ls hP hD hS hl
        have hUv2 : (v2 35).toInt + (v2 36).toInt ≤ 40 := hIv2.2
        have zq9_v2 := congrArg Int32.toInt hq9_v2
        have zq35_v2 := congrArg Int32.toInt hq35_v2
        have zq36_v2 := congrArg Int32.toInt hq36_v2
        refine lv_iload_n hx hb dX11_act_51 rfl (lv_at hl 0 rfl) ?_
        refine lv_bipush (v := 39) hx hb dX11_act_52 (by decide) ?_
        refine lv_icmp_ge (tgt := 83) hx hb dX11_act_54 (by decide) (fun c3 => ?_) (fun c3 => ?_)
        · skip
          have zc3 : 39 ≤ l1_2.toInt := by rw [fa_le, show (39 : Int32).toInt = 39 from by decide] at c3; exact c3
          refine lv_aload_n hx hb dX11_act_83 rfl (lv_at hl 1 rfl) ?_
          refine lv_dup hx hb dX11_act_84 rfl ?_
          refine va_get (D := (dC, dI)) (ci := 11) (v := .int (v2 35)) (C := RX11) (T := TX11) (N := 79) hx hb hts inB_11 hown hE.1 hP 0 rfl rfl 62 (by decide) (hts _ k_1382) (fun _ h9 => h9) rfl dX11_act_85 ?_
          refine tI (y := (v 35)) hq35_v2 ?_
          have b35_v : 0 ≤ (v 35).toInt ∧ (v 35).toInt ≤ 40 := YIb.b hIv.1 35 (by decide)
          refine lv_iconst (v := 1) hx hb dX11_act_88 (by decide) ?_
          refine lv_iadd hx hb dX11_act_89 ?_
          refine lv_topi (fun t4 et4 => ?_)
          have rg5 := fb_rng (v 35)
          have zt4 : t4.toInt = (v 35).toInt + 1 := by rw [et4]; exact add_i rfl (by decide) (by omega) (by omega)
          refine va_put (D := (dC, dI)) (ci := 11) (v := .int t4) (ty := tyX11 62) (C := RX11) (T := TX11) (N := 79) hx hb hts inB_11 tyX11 tyX11_ok nmX11 hown hE.1 hP hD hS 0 rfl rfl 62 (by decide) (hts _ k_1382) (fun _ h9 => h9) rfl (tyX11_ok 62 (by decide)) rfl rfl (Nat.le_of_ble_eq_true rfl) dX11_act_90 (fun H locs hP hD hS => ?_)
          have hP : va_P (dC, dI) vwCl (YW cy y0 r (upd v2 35 t4) f2 w2 g2) H := hP
          have hD : va_D A (YW cy y0 r (upd v2 35 t4) f2 w2 g2) := hD
          refine lv_aload_n hx hb dX11_act_93 rfl (lv_at hl 1 rfl) ?_
          refine lv_iconst (v := 0) hx hb dX11_act_94 (by decide) ?_
          refine va_put (D := (dC, dI)) (ci := 11) (v := .int 0) (ty := tyX11 63) (C := RX11) (T := TX11) (N := 79) hx hb hts inB_11 tyX11 tyX11_ok nmX11 hown hE.1 hP hD hS 0 rfl rfl 63 (by decide) (hts _ k_1383) (fun _ h9 => h9) rfl (tyX11_ok 63 (by decide)) rfl rfl (Nat.le_of_ble_eq_true rfl) dX11_act_95 (fun H locs hP hD hS => ?_)
          have hP : va_P (dC, dI) vwCl (YW cy y0 r (upd (upd v2 35 t4) 36 0) f2 w2 g2) H := hP
          have hD : va_D A (YW cy y0 r (upd (upd v2 35 t4) 36 0) f2 w2 g2) := hD
          refine lv_aload_n hx hb dX11_act_98 rfl (lv_at hl 1 rfl) ?_
          refine cbVv (n := 0) (rest := []) hx hb hml hown hts hE hP hD hS hA (sY_X11_fill_1 NF l dC dI cy y0 r  (upd (upd v2 35 t4) 36 0) f2 w2 g2 ⟨(YIb.upd (j := 36) (x := 0) (YIb.upd (j := 35) (x := t4) hIv2.1 (show (0 : Int) ≤ t4.toInt by omega) (show t4.toInt ≤ (40 : Int) by omega)) (by decide) (by decide)), (by have q9 := hIv2.2; have q0 : (0 : Int32).toInt = 0 := (by decide); show t4.toInt + (0 : Int32).toInt ≤ 40; omega)⟩ hCf2 hRf2 ) k_1739 k_1741 k_71 k_114 k_1742 (by decide +kernel) ⟨Nat.le_of_ble_eq_true rfl, Nat.le_of_ble_eq_true rfl⟩ 0 11 rfl rfl (rfl) hl.1 rfl (Nat.le_of_ble_eq_true rfl) dX11_act_99 (fun u H locs hw hP hD hS => ?_)
          obtain ⟨hG6, hw⟩ := hw
          obtain ⟨v7, f8, w9, g10⟩ := u
          obtain ⟨kV_v7, kF_f8, hIv7, hCf8, hRf8, hk0_v7, hk1_v7, hk2_v7, hk3_v7, hk4_v7, hk5_v7, hk8_v7, hk9_v7, hk10_v7, hk13_v7, hk14_v7, hk15_v7, hk17_v7, hk18_v7, hk24_v7, hk25_v7, hk35_v7, hk36_v7, hk38_v7, hk39_v7⟩ := hw
          have hM_v7 : KV [35, 36] v7 v := KV.tr kV_v7 (KV.up (j := 36) (x := 0) (KV.up (j := 35) (x := t4) hM_v2 rfl) rfl) rfl
          have hA_f8 : KF [24, 25] f8 f := KF.tr kF_f8 hA_f2 rfl
          have hP : va_P (dC, dI) vwCl (YW cy y0 r v7 f8 w9 g10) H := hP
          have hD : va_D A (YW cy y0 r v7 f8 w9 g10) := hD
          have hUv7 : (v7 35).toInt + (v7 36).toInt ≤ 40 := hIv7.2
          have hq9_v7 : v7 9 = (v 9) := hk9_v7.trans hq9_v2
          have zq9_v7 := congrArg Int32.toInt hq9_v7
          have hq35_v7 : v7 35 = t4 := hk35_v7
          have zq35_v7 := congrArg Int32.toInt hq35_v7
          have hq36_v7 : v7 36 = 0 := hk36_v7
          have zq36_v7 := congrArg Int32.toInt hq36_v7
          exact ret (v7, f8, w9, g10) _ _ _ _ _ _ ⟨(hT2.symm.trans (gsY_X11_act_1_q0 c3 et4 hG6)), hM_v7, hA_f8, hIv7, hCf8, hRf8, (hk0_v7.trans (show v2 0 = v 0 from hq0_v2)), (hk1_v7.trans (show v2 1 = v 1 from hq1_v2)), (hk2_v7.trans (show v2 2 = v 2 from hq2_v2)), (hk3_v7.trans (show v2 3 = v 3 from hq3_v2)), (hk4_v7.trans (show v2 4 = v 4 from hq4_v2)), (hk5_v7.trans (show v2 5 = v 5 from hq5_v2)), (hk8_v7.trans (show v2 8 = v 8 from hq8_v2)), (hk9_v7.trans (show v2 9 = v 9 from hq9_v2)), (hk10_v7.trans (show v2 10 = v 10 from hq10_v2)), (hk13_v7.trans (show v2 13 = v 13 from hq13_v2)), (hk14_v7.trans (show v2 14 = v 14 from hq14_v2)), (hk15_v7.trans (show v2 15 = v 15 from hq15_v2)), (hk17_v7.trans (show v2 17 = v 17 from hq17_v2)), (hk18_v7.trans (show v2 18 = v 18 from hq18_v2)), (hk24_v7.trans (show v2 24 = v 24 from hq24_v2)), (hk25_v7.trans (show v2 25 = v 25 from hq25_v2)), (hk38_v7.trans (show v2 38 = v 38 from hq38_v2)), (hk39_v7.trans (show v2 39 = v 39 from hq39_v2))⟩ hP hD hS dX11_act_102 (Nat.le_refl _) (Nat.le_refl _)
        · skip
          have zc3 : ¬ (39 ≤ l1_2.toInt) := by rw [fa_le, show (39 : Int32).toInt = 39 from by decide] at c3; exact c3
          refine lv_aload_n hx hb dX11_act_57 rfl (lv_at hl 1 rfl) ?_
          refine va_get (D := (dC, dI)) (ci := 11) (v := .ref (r 61)) (C := RX11) (T := TX11) (N := 79) hx hb hts inB_11 hown hE.1 hP 0 rfl rfl 61 (by decide) (hts _ k_1381) (fun _ h9 => h9) rfl dX11_act_58 ?_
          refine lv_bipush (v := 39) hx hb dX11_act_61 (by decide) ?_
          refine lv_aload_n hx hb dX11_act_63 rfl (lv_at hl 1 rfl) ?_
          refine va_get (D := (dC, dI)) (ci := 11) (v := .int (v2 35)) (C := RX11) (T := TX11) (N := 79) hx hb hts inB_11 hown hE.1 hP 0 rfl rfl 62 (by decide) (hts _ k_1382) (fun _ h9 => h9) rfl dX11_act_64 ?_
          refine tI (y := (v 35)) hq35_v2 ?_
          have b35_v : 0 ≤ (v 35).toInt ∧ (v 35).toInt ≤ 40 := YIb.b hIv.1 35 (by decide)
          refine lv_imul hx hb dX11_act_67 ?_
          refine lv_topi (fun t11 et11 => ?_)
          have rg12 := fb_rng (v 35)
          have zt11 : t11.toInt = 39 * (v 35).toInt := by rw [et11]; exact mul_i (by decide) rfl (by omega) (by omega)
          refine lv_iload_n hx hb dX11_act_68 rfl (lv_at hl 0 rfl) ?_
          refine lv_iadd hx hb dX11_act_69 ?_
          refine lv_topi (fun t13 et13 => ?_)
          have rg14 := fb_rng t11
          have rg15 := fb_rng l1_2
          have zt13 : t13.toInt = t11.toInt + l1_2.toInt := by rw [et13]; exact add_i rfl rfl (by omega) (by omega)
          refine lv_aload_n hx hb dX11_act_70 rfl (lv_at hl 1 rfl) ?_
          refine va_get (D := (dC, dI)) (ci := 11) (v := .ref (r 59)) (C := RX11) (T := TX11) (N := 79) hx hb hts inB_11 hown hE.1 hP 0 rfl rfl 59 (by decide) (hts _ k_1379) (fun _ h9 => h9) rfl dX11_act_71 ?_
          refine lv_iload_n hx hb dX11_act_74 rfl (lv_at hl 0 rfl) ?_
          refine ldI hx hb hE hP 24 rfl (vp_in_iff.mpr ⟨by omega, by omega⟩) rfl rfl dX11_act_75 ?_
          refine lv_topi (fun t16 et16 => ?_)
          have zt16 : l1_2.toInt.toNat % 39 < 6 ∨ 12 ≤ l1_2.toInt.toNat % 39 ∨ (-1 ≤ t16.toInt ∧ t16.toInt ≤ 5) := by rw [et16]; exact wear_ld hCf2.1 (show l1_2.toInt.toNat < 39 by omega)
          refine stI hx hb hE hP hD hS 26 rfl (vp_in_iff.mpr ⟨by omega, by omega⟩) rfl dX11_act_76 (fun H locs hP hD hS => ?_)
          obtain ⟨f17, ef17, hP, hD⟩ : ∃ fz9, fz9 = upd2 f2 25 (upd (f2 25) t13.toNatClampNeg t16) ∧ va_P (dC, dI) vwCl (YW cy y0 r v2 fz9 w2 g2) H ∧ va_D A (YW cy y0 r v2 fz9 w2 g2) := ⟨_, rfl, hP, hD⟩
          have hCf17 : YC f17 := by rw [ef17]; exact ⟨hCf2.1, hCf2.2.1, (wear_st hCf2.2.2.1 (by show t13.toInt.toNat % 39 < 6 ∨ 12 ≤ t13.toInt.toNat % 39 ∨ (-1 ≤ t16.toInt ∧ t16.toInt ≤ 5); omega)), hCf2.2.2.2.1, hCf2.2.2.2.2.1, hCf2.2.2.2.2.2⟩
          have hRf17 : progOK (f17 4) (f17 5) (v2 9).toInt.toNat := by rw [ef17]; exact hRf2
          have hA_f17 : KF [24, 25] f17 f := by rw [ef17]; exact KF.up hA_f2 rfl
          obtain ⟨t18, et18⟩ : ∃ y : Int32, y = l1_2 + 1 := ⟨_, rfl⟩
          have zt18 : t18.toInt = l1_2.toInt + 1 := by rw [et18]; exact add_i rfl (by decide) (by omega) (by omega)
          refine lv_iinc (v := t18) (lv' := [(1, .int t18), (0, .ref y0)]) hx hb dX11_act_77 hl (k := 0) rfl (by rw [et18]; rfl) (by decide) rfl (fun ls hl => ?_)
          refine lv_goto (tgt := 51) hx hb dX11_act_80 (by decide) ?_
          have rg19 := fb_rng t18
          exact ih2 t18 v2 f17 w2 g2 hIv2 hCf17 hRf17 hq0_v2 hq1_v2 hq2_v2 hq3_v2 hq4_v2 hq5_v2 hq8_v2 hq9_v2 hq10_v2 hq13_v2 hq14_v2 hq15_v2 hq17_v2 hq18_v2 hq24_v2 hq25_v2 hq35_v2 hq36_v2 hq38_v2 hq39_v2 ((gsY_X11_act_1_q1 c3 et11 et13 et16 ef17 et18).symm.trans hT2) ⟨show (0 : Int) ≤ t18.toInt by omega, show t18.toInt ≤ (2147483647 : Int) by omega⟩ hM_v2 hA_f17 (by show (2147483647 - t18.toInt).toNat < n2; omega) _ _ _ hP hD hS (lv_sub hl [0, 1] rfl)
    exact lp2 (4294967296 + NF) 0 v f w g hIv hCf hRf rfl rfl rfl rfl rfl rfl rfl rfl rfl rfl rfl rfl rfl rfl rfl rfl rfl rfl rfl rfl (gsY_X11_act_1_q2 c1).symm ⟨by decide, by decide⟩ hM_v hA_f (by have q1 : (0 : Int32).toInt = 0 := (by decide); show (2147483647 - (0 : Int32).toInt).toNat < 4294967296 + NF; omega) _ _ _ hP hD hS (lv_sub hl [0, 1] rfl)
  · skip
    have zc1 : (v 35).toInt = 40 := by rw [fa_eq, show (40 : Int32).toInt = 40 from by decide] at c1; exact c1
    refine lv_iconst (v := 0) hx hb dX11_act_9 (by decide) ?_
    refine lv_istore_n (lv' := [(1, .int 0), (0, .ref y0)]) hx hb dX11_act_10 rfl hl (by decide) rfl (fun ls hl => ?_)
    have lp20 : ∀ (n20 : Nat) (l1_20 : Int32) (v20 : Nat → Int32) (f20 : Nat → Nat → Int32) (w20 : Int64) (g20 : Nat → Int64), YI v20 → YC f20 → progOK (f20 4) (f20 5) (v20 9).toInt.toNat → v20 0 = (v 0) → v20 1 = (v 1) → v20 2 = (v 2) → v20 3 = (v 3) → v20 4 = (v 4) → v20 5 = (v 5) → v20 8 = (v 8) → v20 9 = (v 9) → v20 10 = (v 10) → v20 13 = (v 13) → v20 14 = (v 14) → v20 15 = (v 15) → v20 17 = (v 17) → v20 18 = (v 18) → v20 24 = (v 24) → v20 25 = (v 25) → v20 35 = (v 35) → v20 36 = (v 36) → v20 38 = (v 38) → v20 39 = (v 39) → gsY_X11_act_1_L20 NF v n20 l1_20 v20 f20 w20 g20 = (gsY_X11_act_1 NF v f w g) → ((0 : Int) ≤ l1_20.toInt ∧ l1_20.toInt ≤ 2147483647) → KV [35, 36] v20 v → KF [24, 25] f20 f → (2147483647 - l1_20.toInt).toNat < n20 → ∀ (H : Heap) (locs : List Loc) (ls : Array Slot), va_P (dC, dI) vwCl (YW cy y0 r v20 f20 w20 g20) H → va_D A (YW cy y0 r v20 f20 w20 g20) → va_S A s.heap H locs → lv_has ls 2 [(1, .int l1_20), (0, .ref y0)] → W p l e { frames := 2, cells := 0, slots := 0, locals := 81 } s m ([.ref y0] : List Value).toArray below meth c H locs 0 0 Q (F0 m 11 ls []) := by
      intro n20
      induction n20 with
      | zero => intro l1_20 v20 f20 w20 g20 hIv20 hCf20 hRf20 hq0_v20 hq1_v20 hq2_v20 hq3_v20 hq4_v20 hq5_v20 hq8_v20 hq9_v20 hq10_v20 hq13_v20 hq14_v20 hq15_v20 hq17_v20 hq18_v20 hq24_v20 hq25_v20 hq35_v20 hq36_v20 hq38_v20 hq39_v20 hT20 hr1_20 hM_v20 hA_f20 hm; exact absurd hm (Nat.not_lt_zero _)
      | succ n20 ih20 =>
        intro l1_20 v20 f20 w20 g20 hIv20 hCf20 hRf20 hq0_v20 hq1_v20 hq2_v20 hq3_v20 hq4_v20 hq5_v20 hq8_v20 hq9_v20 hq10_v20 hq13_v20 hq14_v20 hq15_v20 hq17_v20 hq18_v20 hq24_v20 hq25_v20 hq35_v20 hq36_v20 hq38_v20 hq39_v20 hT20 hr1_20 hM_v20 hA_f20 hm20 H locs ls hP hD hS hl
        have hUv20 : (v20 35).toInt + (v20 36).toInt ≤ 40 := hIv20.2
        have zq9_v20 := congrArg Int32.toInt hq9_v20
        have zq35_v20 := congrArg Int32.toInt hq35_v20
        have zq36_v20 := congrArg Int32.toInt hq36_v20
        refine lv_iload_n hx hb dX11_act_11 rfl (lv_at hl 0 rfl) ?_
        refine lv_sipush (v := 1521) hx hb dX11_act_12 (by decide) ?_
        refine lv_icmp_ge (tgt := 39) hx hb dX11_act_15 (by decide) (fun c21 => ?_) (fun c21 => ?_)
        · skip
          have zc21 : 1521 ≤ l1_20.toInt := by rw [fa_le, show (1521 : Int32).toInt = 1521 from by decide] at c21; exact c21
          refine lv_aload_n hx hb dX11_act_39 rfl (lv_at hl 1 rfl) ?_
          refine lv_dup hx hb dX11_act_40 rfl ?_
          refine va_get (D := (dC, dI)) (ci := 11) (v := .int (v20 35)) (C := RX11) (T := TX11) (N := 79) hx hb hts inB_11 hown hE.1 hP 0 rfl rfl 62 (by decide) (hts _ k_1382) (fun _ h9 => h9) rfl dX11_act_41 ?_
          refine tI (y := (v 35)) hq35_v20 ?_
          have b35_v : 0 ≤ (v 35).toInt ∧ (v 35).toInt ≤ 40 := YIb.b hIv.1 35 (by decide)
          refine lv_iconst (v := 1) hx hb dX11_act_44 (by decide) ?_
          refine lv_isub hx hb dX11_act_45 ?_
          refine lv_topi (fun t22 et22 => ?_)
          have rg23 := fb_rng (v 35)
          have zt22 : t22.toInt = (v 35).toInt - 1 := by rw [et22]; exact sub_i rfl (by decide) (by omega) (by omega)
          refine va_put (D := (dC, dI)) (ci := 11) (v := .int t22) (ty := tyX11 62) (C := RX11) (T := TX11) (N := 79) hx hb hts inB_11 tyX11 tyX11_ok nmX11 hown hE.1 hP hD hS 0 rfl rfl 62 (by decide) (hts _ k_1382) (fun _ h9 => h9) rfl (tyX11_ok 62 (by decide)) rfl rfl (Nat.le_of_ble_eq_true rfl) dX11_act_46 (fun H locs hP hD hS => ?_)
          have hP : va_P (dC, dI) vwCl (YW cy y0 r (upd v20 35 t22) f20 w20 g20) H := hP
          have hD : va_D A (YW cy y0 r (upd v20 35 t22) f20 w20 g20) := hD
          refine lv_iconst (v := 0) hx hb dX11_act_49 (by decide) ?_
          refine lv_istore_n (lv' := [(1, .int 0), (0, .ref y0)]) hx hb dX11_act_50 rfl hl (by decide) rfl (fun ls hl => ?_)
          have lp24 : ∀ (n24 : Nat) (l1_24 : Int32) (v24 : Nat → Int32) (f24 : Nat → Nat → Int32) (w24 : Int64) (g24 : Nat → Int64), YI v24 → YC f24 → progOK (f24 4) (f24 5) (v24 9).toInt.toNat → v24 0 = (v 0) → v24 1 = (v 1) → v24 2 = (v 2) → v24 3 = (v 3) → v24 4 = (v 4) → v24 5 = (v 5) → v24 8 = (v 8) → v24 9 = (v 9) → v24 10 = (v 10) → v24 13 = (v 13) → v24 14 = (v 14) → v24 15 = (v 15) → v24 17 = (v 17) → v24 18 = (v 18) → v24 24 = (v 24) → v24 25 = (v 25) → v24 35 = t22 → v24 36 = (v 36) → v24 38 = (v 38) → v24 39 = (v 39) → gsY_X11_act_1_L24 NF t22 n24 l1_24 v24 f24 w24 g24 = (gsY_X11_act_1 NF v f w g) → ((0 : Int) ≤ l1_24.toInt ∧ l1_24.toInt ≤ 2147483647) → KV [35, 36] v24 v → KF [24, 25] f24 f → (2147483647 - l1_24.toInt).toNat < n24 → ∀ (H : Heap) (locs : List Loc) (ls : Array Slot), va_P (dC, dI) vwCl (YW cy y0 r v24 f24 w24 g24) H → va_D A (YW cy y0 r v24 f24 w24 g24) → va_S A s.heap H locs → lv_has ls 2 [(1, .int l1_24), (0, .ref y0)] → W p l e { frames := 2, cells := 0, slots := 0, locals := 81 } s m ([.ref y0] : List Value).toArray below meth c H locs 0 0 Q (F0 m 51 ls []) := by
            intro n24
            induction n24 with
            | zero => intro l1_24 v24 f24 w24 g24 hIv24 hCf24 hRf24 hq0_v24 hq1_v24 hq2_v24 hq3_v24 hq4_v24 hq5_v24 hq8_v24 hq9_v24 hq10_v24 hq13_v24 hq14_v24 hq15_v24 hq17_v24 hq18_v24 hq24_v24 hq25_v24 hq35_v24 hq36_v24 hq38_v24 hq39_v24 hT24 hr1_24 hM_v24 hA_f24 hm; exact absurd hm (Nat.not_lt_zero _)
            | succ n24 ih24 =>
              intro l1_24 v24 f24 w24 g24 hIv24 hCf24 hRf24 hq0_v24 hq1_v24 hq2_v24 hq3_v24 hq4_v24 hq5_v24 hq8_v24 hq9_v24 hq10_v24 hq13_v24 hq14_v24 hq15_v24 hq17_v24 hq18_v24 hq24_v24 hq25_v24 hq35_v24 hq36_v24 hq38_v24 hq39_v24 hT24 hr1_24 hM_v24 hA_f24 hm24 H locs ls hP hD hS hl
              have hUv24 : (v24 35).toInt + (v24 36).toInt ≤ 40 := hIv24.2
              have zq9_v24 := congrArg Int32.toInt hq9_v24
              have zq35_v24 := congrArg Int32.toInt hq35_v24
              have zq36_v24 := congrArg Int32.toInt hq36_v24
              refine lv_iload_n hx hb dX11_act_51 rfl (lv_at hl 0 rfl) ?_
              refine lv_bipush (v := 39) hx hb dX11_act_52 (by decide) ?_
              refine lv_icmp_ge (tgt := 83) hx hb dX11_act_54 (by decide) (fun c25 => ?_) (fun c25 => ?_)
              · skip
                have zc25 : 39 ≤ l1_24.toInt := by rw [fa_le, show (39 : Int32).toInt = 39 from by decide] at c25; exact c25
                refine lv_aload_n hx hb dX11_act_83 rfl (lv_at hl 1 rfl) ?_
                refine lv_dup hx hb dX11_act_84 rfl ?_
                refine va_get (D := (dC, dI)) (ci := 11) (v := .int (v24 35)) (C := RX11) (T := TX11) (N := 79) hx hb hts inB_11 hown hE.1 hP 0 rfl rfl 62 (by decide) (hts _ k_1382) (fun _ h9 => h9) rfl dX11_act_85 ?_
                refine tI (y := t22) hq35_v24 ?_
                refine lv_iconst (v := 1) hx hb dX11_act_88 (by decide) ?_
                refine lv_iadd hx hb dX11_act_89 ?_
                refine lv_topi (fun t26 et26 => ?_)
                have rg27 := fb_rng t22
                have zt26 : t26.toInt = t22.toInt + 1 := by rw [et26]; exact add_i rfl (by decide) (by omega) (by omega)
                refine va_put (D := (dC, dI)) (ci := 11) (v := .int t26) (ty := tyX11 62) (C := RX11) (T := TX11) (N := 79) hx hb hts inB_11 tyX11 tyX11_ok nmX11 hown hE.1 hP hD hS 0 rfl rfl 62 (by decide) (hts _ k_1382) (fun _ h9 => h9) rfl (tyX11_ok 62 (by decide)) rfl rfl (Nat.le_of_ble_eq_true rfl) dX11_act_90 (fun H locs hP hD hS => ?_)
                have hP : va_P (dC, dI) vwCl (YW cy y0 r (upd v24 35 t26) f24 w24 g24) H := hP
                have hD : va_D A (YW cy y0 r (upd v24 35 t26) f24 w24 g24) := hD
                refine lv_aload_n hx hb dX11_act_93 rfl (lv_at hl 1 rfl) ?_
                refine lv_iconst (v := 0) hx hb dX11_act_94 (by decide) ?_
                refine va_put (D := (dC, dI)) (ci := 11) (v := .int 0) (ty := tyX11 63) (C := RX11) (T := TX11) (N := 79) hx hb hts inB_11 tyX11 tyX11_ok nmX11 hown hE.1 hP hD hS 0 rfl rfl 63 (by decide) (hts _ k_1383) (fun _ h9 => h9) rfl (tyX11_ok 63 (by decide)) rfl rfl (Nat.le_of_ble_eq_true rfl) dX11_act_95 (fun H locs hP hD hS => ?_)
                have hP : va_P (dC, dI) vwCl (YW cy y0 r (upd (upd v24 35 t26) 36 0) f24 w24 g24) H := hP
                have hD : va_D A (YW cy y0 r (upd (upd v24 35 t26) 36 0) f24 w24 g24) := hD
                refine lv_aload_n hx hb dX11_act_98 rfl (lv_at hl 1 rfl) ?_
                refine cbVv (n := 0) (rest := []) hx hb hml hown hts hE hP hD hS hA (sY_X11_fill_1 NF l dC dI cy y0 r  (upd (upd v24 35 t26) 36 0) f24 w24 g24 ⟨(YIb.upd (j := 36) (x := 0) (YIb.upd (j := 35) (x := t26) hIv24.1 (show (0 : Int) ≤ t26.toInt by omega) (show t26.toInt ≤ (40 : Int) by omega)) (by decide) (by decide)), (by have q9 := hIv24.2; have q0 : (0 : Int32).toInt = 0 := (by decide); show t26.toInt + (0 : Int32).toInt ≤ 40; omega)⟩ hCf24 hRf24 ) k_1739 k_1741 k_71 k_114 k_1742 (by decide +kernel) ⟨Nat.le_of_ble_eq_true rfl, Nat.le_of_ble_eq_true rfl⟩ 0 11 rfl rfl (rfl) hl.1 rfl (Nat.le_of_ble_eq_true rfl) dX11_act_99 (fun u H locs hw hP hD hS => ?_)
                obtain ⟨hG28, hw⟩ := hw
                obtain ⟨v29, f30, w31, g32⟩ := u
                obtain ⟨kV_v29, kF_f30, hIv29, hCf30, hRf30, hk0_v29, hk1_v29, hk2_v29, hk3_v29, hk4_v29, hk5_v29, hk8_v29, hk9_v29, hk10_v29, hk13_v29, hk14_v29, hk15_v29, hk17_v29, hk18_v29, hk24_v29, hk25_v29, hk35_v29, hk36_v29, hk38_v29, hk39_v29⟩ := hw
                have hM_v29 : KV [35, 36] v29 v := KV.tr kV_v29 (KV.up (j := 36) (x := 0) (KV.up (j := 35) (x := t26) hM_v24 rfl) rfl) rfl
                have hA_f30 : KF [24, 25] f30 f := KF.tr kF_f30 hA_f24 rfl
                have hP : va_P (dC, dI) vwCl (YW cy y0 r v29 f30 w31 g32) H := hP
                have hD : va_D A (YW cy y0 r v29 f30 w31 g32) := hD
                have hUv29 : (v29 35).toInt + (v29 36).toInt ≤ 40 := hIv29.2
                have hq9_v29 : v29 9 = (v 9) := hk9_v29.trans hq9_v24
                have zq9_v29 := congrArg Int32.toInt hq9_v29
                have hq35_v29 : v29 35 = t26 := hk35_v29
                have zq35_v29 := congrArg Int32.toInt hq35_v29
                have hq36_v29 : v29 36 = 0 := hk36_v29
                have zq36_v29 := congrArg Int32.toInt hq36_v29
                exact ret (v29, f30, w31, g32) _ _ _ _ _ _ ⟨(hT24.symm.trans (gsY_X11_act_1_q3 c25 et26 hG28)), hM_v29, hA_f30, hIv29, hCf30, hRf30, (hk0_v29.trans hq0_v24), (hk1_v29.trans hq1_v24), (hk2_v29.trans hq2_v24), (hk3_v29.trans hq3_v24), (hk4_v29.trans hq4_v24), (hk5_v29.trans hq5_v24), (hk8_v29.trans hq8_v24), (hk9_v29.trans hq9_v24), (hk10_v29.trans hq10_v24), (hk13_v29.trans hq13_v24), (hk14_v29.trans hq14_v24), (hk15_v29.trans hq15_v24), (hk17_v29.trans hq17_v24), (hk18_v29.trans hq18_v24), (hk24_v29.trans hq24_v24), (hk25_v29.trans hq25_v24), (hk38_v29.trans hq38_v24), (hk39_v29.trans hq39_v24)⟩ hP hD hS dX11_act_102 (Nat.le_refl _) (Nat.le_refl _)
              · skip
                have zc25 : ¬ (39 ≤ l1_24.toInt) := by rw [fa_le, show (39 : Int32).toInt = 39 from by decide] at c25; exact c25
                refine lv_aload_n hx hb dX11_act_57 rfl (lv_at hl 1 rfl) ?_
                refine va_get (D := (dC, dI)) (ci := 11) (v := .ref (r 61)) (C := RX11) (T := TX11) (N := 79) hx hb hts inB_11 hown hE.1 hP 0 rfl rfl 61 (by decide) (hts _ k_1381) (fun _ h9 => h9) rfl dX11_act_58 ?_
                refine lv_bipush (v := 39) hx hb dX11_act_61 (by decide) ?_
                refine lv_aload_n hx hb dX11_act_63 rfl (lv_at hl 1 rfl) ?_
                refine va_get (D := (dC, dI)) (ci := 11) (v := .int (v24 35)) (C := RX11) (T := TX11) (N := 79) hx hb hts inB_11 hown hE.1 hP 0 rfl rfl 62 (by decide) (hts _ k_1382) (fun _ h9 => h9) rfl dX11_act_64 ?_
                refine tI (y := t22) hq35_v24 ?_
                refine lv_imul hx hb dX11_act_67 ?_
                refine lv_topi (fun t33 et33 => ?_)
                have rg34 := fb_rng t22
                have zt33 : t33.toInt = 39 * t22.toInt := by rw [et33]; exact mul_i (by decide) rfl (by omega) (by omega)
                refine lv_iload_n hx hb dX11_act_68 rfl (lv_at hl 0 rfl) ?_
                refine lv_iadd hx hb dX11_act_69 ?_
                refine lv_topi (fun t35 et35 => ?_)
                have rg36 := fb_rng t33
                have rg37 := fb_rng l1_24
                have zt35 : t35.toInt = t33.toInt + l1_24.toInt := by rw [et35]; exact add_i rfl rfl (by omega) (by omega)
                refine lv_aload_n hx hb dX11_act_70 rfl (lv_at hl 1 rfl) ?_
                refine va_get (D := (dC, dI)) (ci := 11) (v := .ref (r 59)) (C := RX11) (T := TX11) (N := 79) hx hb hts inB_11 hown hE.1 hP 0 rfl rfl 59 (by decide) (hts _ k_1379) (fun _ h9 => h9) rfl dX11_act_71 ?_
                refine lv_iload_n hx hb dX11_act_74 rfl (lv_at hl 0 rfl) ?_
                refine ldI hx hb hE hP 24 rfl (vp_in_iff.mpr ⟨by omega, by omega⟩) rfl rfl dX11_act_75 ?_
                refine lv_topi (fun t38 et38 => ?_)
                have zt38 : l1_24.toInt.toNat % 39 < 6 ∨ 12 ≤ l1_24.toInt.toNat % 39 ∨ (-1 ≤ t38.toInt ∧ t38.toInt ≤ 5) := by rw [et38]; exact wear_ld hCf24.1 (show l1_24.toInt.toNat < 39 by omega)
                refine stI hx hb hE hP hD hS 26 rfl (vp_in_iff.mpr ⟨by omega, by omega⟩) rfl dX11_act_76 (fun H locs hP hD hS => ?_)
                obtain ⟨f39, ef39, hP, hD⟩ : ∃ fz9, fz9 = upd2 f24 25 (upd (f24 25) t35.toNatClampNeg t38) ∧ va_P (dC, dI) vwCl (YW cy y0 r v24 fz9 w24 g24) H ∧ va_D A (YW cy y0 r v24 fz9 w24 g24) := ⟨_, rfl, hP, hD⟩
                have hCf39 : YC f39 := by rw [ef39]; exact ⟨hCf24.1, hCf24.2.1, (wear_st hCf24.2.2.1 (by show t35.toInt.toNat % 39 < 6 ∨ 12 ≤ t35.toInt.toNat % 39 ∨ (-1 ≤ t38.toInt ∧ t38.toInt ≤ 5); omega)), hCf24.2.2.2.1, hCf24.2.2.2.2.1, hCf24.2.2.2.2.2⟩
                have hRf39 : progOK (f39 4) (f39 5) (v24 9).toInt.toNat := by rw [ef39]; exact hRf24
                have hA_f39 : KF [24, 25] f39 f := by rw [ef39]; exact KF.up hA_f24 rfl
                obtain ⟨t40, et40⟩ : ∃ y : Int32, y = l1_24 + 1 := ⟨_, rfl⟩
                have zt40 : t40.toInt = l1_24.toInt + 1 := by rw [et40]; exact add_i rfl (by decide) (by omega) (by omega)
                refine lv_iinc (v := t40) (lv' := [(1, .int t40), (0, .ref y0)]) hx hb dX11_act_77 hl (k := 0) rfl (by rw [et40]; rfl) (by decide) rfl (fun ls hl => ?_)
                refine lv_goto (tgt := 51) hx hb dX11_act_80 (by decide) ?_
                have rg41 := fb_rng t40
                exact ih24 t40 v24 f39 w24 g24 hIv24 hCf39 hRf39 hq0_v24 hq1_v24 hq2_v24 hq3_v24 hq4_v24 hq5_v24 hq8_v24 hq9_v24 hq10_v24 hq13_v24 hq14_v24 hq15_v24 hq17_v24 hq18_v24 hq24_v24 hq25_v24 hq35_v24 hq36_v24 hq38_v24 hq39_v24 ((gsY_X11_act_1_q4 c25 et33 et35 et38 ef39 et40).symm.trans hT24) ⟨show (0 : Int) ≤ t40.toInt by omega, show t40.toInt ≤ (2147483647 : Int) by omega⟩ hM_v24 hA_f39 (by show (2147483647 - t40.toInt).toNat < n24; omega) _ _ _ hP hD hS (lv_sub hl [0, 1] rfl)
          exact lp24 (4294967296 + NF) 0 (upd v20 35 t22) f20 w20 g20 ⟨(YIb.upd (j := 35) (x := t22) hIv20.1 (show (0 : Int) ≤ t22.toInt by omega) (show t22.toInt ≤ (40 : Int) by omega)), (by have q9 := hIv20.2; show t22.toInt + (v20 36).toInt ≤ 40; omega)⟩ hCf20 hRf20 hq0_v20 hq1_v20 hq2_v20 hq3_v20 hq4_v20 hq5_v20 hq8_v20 hq9_v20 hq10_v20 hq13_v20 hq14_v20 hq15_v20 hq17_v20 hq18_v20 hq24_v20 hq25_v20 rfl hq36_v20 hq38_v20 hq39_v20 ((gsY_X11_act_1_q5 c21 et22).symm.trans hT20) ⟨by decide, by decide⟩ (KV.up (j := 35) (x := t22) hM_v20 rfl) hA_f20 (by have q1 : (0 : Int32).toInt = 0 := (by decide); show (2147483647 - (0 : Int32).toInt).toNat < 4294967296 + NF; omega) _ _ _ hP hD hS (lv_sub hl [0, 1] rfl)
        · skip
          have zc21 : ¬ (1521 ≤ l1_20.toInt) := by rw [fa_le, show (1521 : Int32).toInt = 1521 from by decide] at c21; exact c21
          refine lv_aload_n hx hb dX11_act_18 rfl (lv_at hl 1 rfl) ?_
          refine va_get (D := (dC, dI)) (ci := 11) (v := .ref (r 61)) (C := RX11) (T := TX11) (N := 79) hx hb hts inB_11 hown hE.1 hP 0 rfl rfl 61 (by decide) (hts _ k_1381) (fun _ h9 => h9) rfl dX11_act_19 ?_
          refine lv_iload_n hx hb dX11_act_22 rfl (lv_at hl 0 rfl) ?_
          refine lv_aload_n hx hb dX11_act_23 rfl (lv_at hl 1 rfl) ?_
          refine va_get (D := (dC, dI)) (ci := 11) (v := .ref (r 61)) (C := RX11) (T := TX11) (N := 79) hx hb hts inB_11 hown hE.1 hP 0 rfl rfl 61 (by decide) (hts _ k_1381) (fun _ h9 => h9) rfl dX11_act_24 ?_
          refine lv_bipush (v := 39) hx hb dX11_act_27 (by decide) ?_
          refine lv_iload_n hx hb dX11_act_29 rfl (lv_at hl 0 rfl) ?_
          refine lv_iadd hx hb dX11_act_30 ?_
          refine lv_topi (fun t42 et42 => ?_)
          have rg43 := fb_rng l1_20
          have zt42 : t42.toInt = 39 + l1_20.toInt := by rw [et42]; exact add_i (by decide) rfl (by omega) (by omega)
          refine ldI hx hb hE hP 26 rfl (vp_in_iff.mpr ⟨by omega, by omega⟩) rfl rfl dX11_act_31 ?_
          refine lv_topi (fun t44 et44 => ?_)
          have zt44 : t42.toInt.toNat % 39 < 6 ∨ 12 ≤ t42.toInt.toNat % 39 ∨ (-1 ≤ t44.toInt ∧ t44.toInt ≤ 5) := by rw [et44]; exact wear_ld hCf20.2.2.1 (show t42.toInt.toNat < 1560 by omega)
          refine stI hx hb hE hP hD hS 26 rfl (vp_in_iff.mpr ⟨by omega, by omega⟩) rfl dX11_act_32 (fun H locs hP hD hS => ?_)
          obtain ⟨f45, ef45, hP, hD⟩ : ∃ fz9, fz9 = upd2 f20 25 (upd (f20 25) l1_20.toNatClampNeg t44) ∧ va_P (dC, dI) vwCl (YW cy y0 r v20 fz9 w20 g20) H ∧ va_D A (YW cy y0 r v20 fz9 w20 g20) := ⟨_, rfl, hP, hD⟩
          have hCf45 : YC f45 := by rw [ef45]; exact ⟨hCf20.1, hCf20.2.1, (wear_st hCf20.2.2.1 (by show l1_20.toInt.toNat % 39 < 6 ∨ 12 ≤ l1_20.toInt.toNat % 39 ∨ (-1 ≤ t44.toInt ∧ t44.toInt ≤ 5); omega)), hCf20.2.2.2.1, hCf20.2.2.2.2.1, hCf20.2.2.2.2.2⟩
          have hRf45 : progOK (f45 4) (f45 5) (v20 9).toInt.toNat := by rw [ef45]; exact hRf20
          have hA_f45 : KF [24, 25] f45 f := by rw [ef45]; exact KF.up hA_f20 rfl
          obtain ⟨t46, et46⟩ : ∃ y : Int32, y = l1_20 + 1 := ⟨_, rfl⟩
          have zt46 : t46.toInt = l1_20.toInt + 1 := by rw [et46]; exact add_i rfl (by decide) (by omega) (by omega)
          refine lv_iinc (v := t46) (lv' := [(1, .int t46), (0, .ref y0)]) hx hb dX11_act_33 hl (k := 0) rfl (by rw [et46]; rfl) (by decide) rfl (fun ls hl => ?_)
          refine lv_goto (tgt := 11) hx hb dX11_act_36 (by decide) ?_
          have rg47 := fb_rng t46
          exact ih20 t46 v20 f45 w20 g20 hIv20 hCf45 hRf45 hq0_v20 hq1_v20 hq2_v20 hq3_v20 hq4_v20 hq5_v20 hq8_v20 hq9_v20 hq10_v20 hq13_v20 hq14_v20 hq15_v20 hq17_v20 hq18_v20 hq24_v20 hq25_v20 hq35_v20 hq36_v20 hq38_v20 hq39_v20 ((gsY_X11_act_1_q6 c21 et42 et44 ef45 et46).symm.trans hT20) ⟨show (0 : Int) ≤ t46.toInt by omega, show t46.toInt ≤ (2147483647 : Int) by omega⟩ hM_v20 hA_f45 (by show (2147483647 - t46.toInt).toNat < n20; omega) _ _ _ hP hD hS (lv_sub hl [0, 1] rfl)
    exact lp20 (4294967296 + NF) 0 v f w g hIv hCf hRf rfl rfl rfl rfl rfl rfl rfl rfl rfl rfl rfl rfl rfl rfl rfl rfl rfl rfl rfl rfl (gsY_X11_act_1_q7 c1).symm ⟨by decide, by decide⟩ hM_v hA_f (by have q1 : (0 : Int32).toInt = 0 := (by decide); show (2147483647 - (0 : Int32).toInt).toNat < 4294967296 + NF; omega) _ _ _ hP hD hS (lv_sub hl [0, 1] rfl)
set_option maxHeartbeats 4000000 in
set_option maxRecDepth 100000 in
theorem sY_X11_drawRain_1 (NF : Nat) (l : Launch) (dC : Nat → ClassId) (dI : Nat → Nat → Nat) (cy : Nat → ClassId) (y0 : Nat) (r : Nat → Nat)  (v : Nat → Int32) (f : Nat → Nat → Int32) (w : Int64) (g : Nat → Int64) (hIv : YI v) (hCf : YC f) (hRf : progOK (f 4) (f 5) (v 9).toInt.toNat)  : ctI l (dC, dI) cy yX11_drawRain cX11_drawRain 1 .boolean 1 60 0 0 ((Nat → Int32) × (Nat → Nat → Int32) × (Int64) × (Nat → Int64)) [.ref y0] (YW cy y0 r v f w g) (fun r u => gsY_X11_drawRain_1 NF v f w g = (r, u) ∧ KV [] u.1 v ∧ KF [24] u.2.1 f ∧ YI u.1 ∧ YC u.2.1 ∧ progOK (u.2.1 4) (u.2.1 5) (u.1 9).toInt.toNat ∧ u.1 0 = v 0 ∧ u.1 1 = v 1 ∧ u.1 2 = v 2 ∧ u.1 3 = v 3 ∧ u.1 4 = v 4 ∧ u.1 5 = v 5 ∧ u.1 8 = v 8 ∧ u.1 9 = v 9 ∧ u.1 10 = v 10 ∧ u.1 13 = v 13 ∧ u.1 14 = v 14 ∧ u.1 15 = v 15 ∧ u.1 17 = v 17 ∧ u.1 18 = v 18 ∧ u.1 24 = v 24 ∧ u.1 25 = v 25 ∧ u.1 35 = v 35 ∧ u.1 36 = v 36 ∧ u.1 38 = v 38 ∧ u.1 39 = v 39 ∧ ((r = 1) ∨ (r = 0))) (fun u => YW cy y0 r u.1 u.2.1 u.2.2.1 u.2.2.2) := by
  refine ctI_of (by decide) (Nat.le_of_ble_eq_true rfl) (fun p e s m below meth c A ls Q hx hb hml hts hown hE hP hD hA hl ret => ?_)
  have hUv : (v 35).toInt + (v 36).toInt ≤ 40 := hIv.2
  have hM_v : KV [] v v := fun _ _ => rfl
  have hA_f : KF [24] f f := fun _ _ => rfl
  have hown : s.vm.findClass RX11 = some m.cls := hown
  have hS : va_S A s.heap s.heap [] := va_S.rf
  have hl : lv_has ls 1 [(0, .ref y0)] := hl
  refine lv_aload_n hx hb dX11_drawRain_0 rfl (lv_at hl 0 rfl) ?_
  refine va_get (D := (dC, dI)) (ci := 11) (v := .ref (r 60)) (C := RX11) (T := TX11) (N := 79) hx hb hts inB_11 hown hE.1 hP 0 rfl rfl 60 (by decide) (hts _ k_1380) (fun _ h9 => h9) rfl dX11_drawRain_1 ?_
  refine lv_bipush (v := 38) hx hb dX11_drawRain_4 (by decide) ?_
  refine lv_aload_n hx hb dX11_drawRain_6 rfl (lv_at hl 0 rfl) ?_
  refine va_get (D := (dC, dI)) (ci := 11) (v := .ref (r 60)) (C := RX11) (T := TX11) (N := 79) hx hb hts inB_11 hown hE.1 hP 0 rfl rfl 60 (by decide) (hts _ k_1380) (fun _ h9 => h9) rfl dX11_drawRain_7 ?_
  refine lv_bipush (v := 38) hx hb dX11_drawRain_10 (by decide) ?_
  refine ldI hx hb hE hP 25 rfl (vp_in_nI (n := 38) (by decide) (by decide)) rfl rfl dX11_drawRain_12 ?_
  refine lv_topi (fun t1 et1 => ?_)
  have zt1 : 38 % 39 < 6 ∨ 12 ≤ 38 % 39 ∨ (-1 ≤ t1.toInt ∧ t1.toInt ≤ 5) := by rw [et1]; exact wear_ld hCf.2.1 (show 38 < 39 by omega)
  refine lv_sipush (v := 137) hx hb dX11_drawRain_13 (by decide) ?_
  refine lv_imul hx hb dX11_drawRain_16 ?_
  refine lv_topi (fun t2 et2 => ?_)
  refine lv_bipush (v := 71) hx hb dX11_drawRain_17 (by decide) ?_
  refine lv_iadd hx hb dX11_drawRain_19 ?_
  refine lv_topi (fun t3 et3 => ?_)
  refine lv_sipush (v := 1000) hx hb dX11_drawRain_20 (by decide) ?_
  refine lv_irem hx hb dX11_drawRain_23 (by decide) ?_
  refine lv_topi (fun t4 et4 => ?_)
  refine stI hx hb hE hP hD hS 25 rfl (vp_in_nI (n := 38) (by decide) (by decide)) rfl dX11_drawRain_24 (fun H locs hP hD hS => ?_)
  obtain ⟨f5, ef5, hP, hD⟩ : ∃ fz9, fz9 = upd2 f 24 (upd (f 24) (38 : Int32).toNatClampNeg t4) ∧ va_P (dC, dI) vwCl (YW cy y0 r v fz9 w g) H ∧ va_D A (YW cy y0 r v fz9 w g) := ⟨_, rfl, hP, hD⟩
  have hCf5 : YC f5 := by rw [ef5]; exact ⟨hCf.1, (wear_st hCf.2.1 (by show 38 % 39 < 6 ∨ 12 ≤ 38 % 39 ∨ (-1 ≤ t4.toInt ∧ t4.toInt ≤ 5); omega)), hCf.2.2.1, hCf.2.2.2.1, hCf.2.2.2.2.1, hCf.2.2.2.2.2⟩
  have hRf5 : progOK (f5 4) (f5 5) (v 9).toInt.toNat := by rw [ef5]; exact hRf
  have hA_f5 : KF [24] f5 f := by rw [ef5]; exact KF.up hA_f rfl
  refine lv_aload_n hx hb dX11_drawRain_25 rfl (lv_at hl 0 rfl) ?_
  refine va_get (D := (dC, dI)) (ci := 11) (v := .ref (r 60)) (C := RX11) (T := TX11) (N := 79) hx hb hts inB_11 hown hE.1 hP 0 rfl rfl 60 (by decide) (hts _ k_1380) (fun _ h9 => h9) rfl dX11_drawRain_26 ?_
  refine lv_bipush (v := 38) hx hb dX11_drawRain_29 (by decide) ?_
  refine ldI hx hb hE hP 25 rfl (vp_in_nI (n := 38) (by decide) (by decide)) rfl rfl dX11_drawRain_31 ?_
  refine lv_topi (fun t6 et6 => ?_)
  have zt6 : 38 % 39 < 6 ∨ 12 ≤ 38 % 39 ∨ (-1 ≤ t6.toInt ∧ t6.toInt ≤ 5) := by rw [et6]; exact wear_ld hCf5.2.1 (show 38 < 39 by omega)
  refine lv_bipush (v := 100) hx hb dX11_drawRain_32 (by decide) ?_
  refine lv_irem hx hb dX11_drawRain_34 (by decide) ?_
  refine lv_topi (fun t7 et7 => ?_)
  refine lv_aload_n hx hb dX11_drawRain_35 rfl (lv_at hl 0 rfl) ?_
  refine va_get (D := (dC, dI)) (ci := 11) (v := .int (v 29)) (C := RX11) (T := TX11) (N := 79) hx hb hts inB_11 hown hE.1 hP 0 rfl rfl 53 (by decide) (hts _ k_1373) (fun _ h9 => h9) rfl dX11_drawRain_36 ?_
  refine lv_icmp_ge (tgt := 46) hx hb dX11_drawRain_39 (by decide) (fun c8 => ?_) (fun c8 => ?_)
  · skip
    have zc8 : (v 29).toInt ≤ t7.toInt := by rw [fa_le] at c8; exact c8
    have rg9 := fb_rng t7
    have rg10 := fb_rng (v 29)
    refine lv_iconst (v := 0) hx hb dX11_drawRain_46 (by decide) ?_
    exact ret 0 (v, f5, w, g) _ _ _ _ _ _ rfl ⟨(gsY_X11_drawRain_1_q0 et1 et2 et3 et4 ef5 et6 et7 c8), hM_v, hA_f5, hIv, hCf5, hRf5, rfl, rfl, rfl, rfl, rfl, rfl, rfl, rfl, rfl, rfl, rfl, rfl, rfl, rfl, rfl, rfl, rfl, rfl, rfl, rfl, (Or.inr rfl)⟩ hP hD hS dX11_drawRain_47 (Nat.le_refl _) (Nat.le_refl _)
  · skip
    have zc8 : ¬ ((v 29).toInt ≤ t7.toInt) := by rw [fa_le] at c8; exact c8
    have rg11 := fb_rng t7
    have rg12 := fb_rng (v 29)
    refine lv_iconst (v := 1) hx hb dX11_drawRain_42 (by decide) ?_
    refine lv_goto (tgt := 47) hx hb dX11_drawRain_43 (by decide) ?_
    exact ret 1 (v, f5, w, g) _ _ _ _ _ _ rfl ⟨(gsY_X11_drawRain_1_q1 et1 et2 et3 et4 ef5 et6 et7 c8), hM_v, hA_f5, hIv, hCf5, hRf5, rfl, rfl, rfl, rfl, rfl, rfl, rfl, rfl, rfl, rfl, rfl, rfl, rfl, rfl, rfl, rfl, rfl, rfl, rfl, rfl, (Or.inl rfl)⟩ hP hD hS dX11_drawRain_47 (Nat.le_refl _) (Nat.le_refl _)
set_option maxHeartbeats 4000000 in
set_option maxRecDepth 100000 in
theorem sY_X11_wearers_1 (NF : Nat) (l : Launch) (dC : Nat → ClassId) (dI : Nat → Nat → Nat) (cy : Nat → ClassId) (y0 : Nat) (r : Nat → Nat)  (v : Nat → Int32) (f : Nat → Nat → Int32) (w : Int64) (g : Nat → Int64) (hIv : YI v) (hCf : YC f) (hRf : progOK (f 4) (f 5) (v 9).toInt.toNat)  : ctI l (dC, dI) cy yX11_wearers cX11_wearers 3 .int 2 80 0 0 Unit [.ref y0] (YW cy y0 r v f w g) (fun r u => gsY_X11_wearers_1 NF v f w g = r ∧ ((0 : Int) ≤ r.toInt ∧ r.toInt ≤ 63)) (fun u => YW cy y0 r v f w g) := by
  refine ctI_of (by decide) (Nat.le_of_ble_eq_true rfl) (fun p e s m below meth c A ls Q hx hb hml hts hown hE hP hD hA hl ret => ?_)
  have hUv : (v 35).toInt + (v 36).toInt ≤ 40 := hIv.2
  have hown : s.vm.findClass RX11 = some m.cls := hown
  have hS : va_S A s.heap s.heap [] := va_S.rf
  have hl : lv_has ls 3 [(0, .ref y0)] := hl
  refine lv_iconst (v := 0) hx hb dX11_wearers_0 (by decide) ?_
  refine lv_istore_n (lv' := [(1, .int 0), (0, .ref y0)]) hx hb dX11_wearers_1 rfl hl (by decide) rfl (fun ls hl => ?_)
  refine lv_iconst (v := 0) hx hb dX11_wearers_2 (by decide) ?_
  refine lv_istore_n (lv' := [(2, .int 0), (1, .int 0), (0, .ref y0)]) hx hb dX11_wearers_3 rfl hl (by decide) rfl (fun ls hl => ?_)
  have lp1 : ∀ (n1 : Nat) (l1_1 : Int32) (l2_1 : Int32), gsY_X11_wearers_1_L1 NF v f w g n1 l1_1 l2_1 = (gsY_X11_wearers_1 NF v f w g) → ((0 : Int) ≤ l1_1.toInt ∧ l1_1.toInt ≤ 63) → ((0 : Int) ≤ l2_1.toInt ∧ l2_1.toInt ≤ 2147483647) → (2147483647 - l2_1.toInt).toNat < n1 → ∀ (H : Heap) (locs : List Loc) (ls : Array Slot), va_P (dC, dI) vwCl (YW cy y0 r v f w g) H → va_D A (YW cy y0 r v f w g) → va_S A s.heap H locs → lv_has ls 3 [(2, .int l2_1), (1, .int l1_1), (0, .ref y0)] → W p l e { frames := 2, cells := 0, slots := 0, locals := 80 } s m ([.ref y0] : List Value).toArray below meth c H locs 0 0 Q (F0 m 4 ls []) := by
    intro n1
    induction n1 with
    | zero => intro l1_1 l2_1 hT1 hr1_1 hr2_1 hm; exact absurd hm (Nat.not_lt_zero _)
    | succ n1 ih1 =>
      intro l1_1 l2_1 hT1 hr1_1 hr2_1 hm1 H locs ls hP hD hS hl
      refine lv_iload_n hx hb dX11_wearers_4 rfl (lv_at hl 0 rfl) ?_
      refine lv_aload_n hx hb dX11_wearers_5 rfl (lv_at hl 2 rfl) ?_
      refine va_get (D := (dC, dI)) (ci := 11) (v := .int (v 24)) (C := RX11) (T := TX11) (N := 79) hx hb hts inB_11 hown hE.1 hP 0 rfl rfl 48 (by decide) (hts _ k_1368) (fun _ h9 => h9) rfl dX11_wearers_6 ?_
      have b24_v : 0 ≤ (v 24).toInt ∧ (v 24).toInt ≤ 6 := YIb.b hIv.1 24 (by decide)
      refine lv_icmp_ge (tgt := 43) hx hb dX11_wearers_9 (by decide) (fun c2 => ?_) (fun c2 => ?_)
      · skip
        have zc2 : (v 24).toInt ≤ l2_1.toInt := by rw [fa_le] at c2; exact c2
        have rg3 := fb_rng l2_1
        have rg4 := fb_rng (v 24)
        refine lv_iload_n hx hb dX11_wearers_43 rfl (lv_at hl 1 rfl) ?_
        exact ret l1_1 () _ _ _ _ _ _ rfl ⟨(hT1.symm.trans (gsY_X11_wearers_1_q0 c2)), ⟨by omega, by omega⟩⟩ hP hD hS dX11_wearers_44 (Nat.le_refl _) (Nat.le_refl _)
      · skip
        have zc2 : ¬ ((v 24).toInt ≤ l2_1.toInt) := by rw [fa_le] at c2; exact c2
        have rg5 := fb_rng l2_1
        have rg6 := fb_rng (v 24)
        refine lv_iload_n hx hb dX11_wearers_12 rfl (lv_at hl 1 rfl) ?_
        refine lv_aload_n hx hb dX11_wearers_13 rfl (lv_at hl 2 rfl) ?_
        refine va_get (D := (dC, dI)) (ci := 11) (v := .ref (r 60)) (C := RX11) (T := TX11) (N := 79) hx hb hts inB_11 hown hE.1 hP 0 rfl rfl 60 (by decide) (hts _ k_1380) (fun _ h9 => h9) rfl dX11_wearers_14 ?_
        refine lv_bipush (v := 6) hx hb dX11_wearers_17 (by decide) ?_
        refine lv_iload_n hx hb dX11_wearers_19 rfl (lv_at hl 0 rfl) ?_
        refine lv_iadd hx hb dX11_wearers_20 ?_
        refine lv_topi (fun t7 et7 => ?_)
        have zt7 : t7.toInt = 6 + l2_1.toInt := by rw [et7]; exact add_i (by decide) rfl (by omega) (by omega)
        refine ldI hx hb hE hP 25 rfl (vp_in_iff.mpr ⟨by omega, by omega⟩) rfl rfl dX11_wearers_21 ?_
        refine lv_topi (fun t8 et8 => ?_)
        have zt8 : t7.toInt.toNat % 39 < 6 ∨ 12 ≤ t7.toInt.toNat % 39 ∨ (-1 ≤ t8.toInt ∧ t8.toInt ≤ 5) := by rw [et8]; exact wear_ld hCf.2.1 (show t7.toInt.toNat < 39 by omega)
        refine lv_if_lt (tgt := 29) hx hb dX11_wearers_22 (by decide) (fun c9 => ?_) (fun c9 => ?_)
        · skip
          have zc9 : t8.toInt < 0 := by rw [fa_lt, show (0 : Int32).toInt = 0 from by decide] at c9; exact c9
          refine lv_iconst (v := 0) hx hb dX11_wearers_29 (by decide) ?_
          have lt10 : (0 : Int32).toInt = 0 := by decide
          refine cbSi (n := 1) (rest := [.int l1_1]) hx hb hml hown hts hE hP hD hS hA (sY_X11_truth_1 NF l dC dI cy y0 r 0 v f w g hIv hCf hRf ) k_1761 k_1762 k_114 k_1763 (by decide +kernel) ⟨Nat.le_of_ble_eq_true rfl, Nat.le_of_ble_eq_true rfl⟩ (rfl) hl.1 rfl (Nat.le_of_ble_eq_true rfl) dX11_wearers_30 (fun r11 u H locs hw hP hD hS => ?_)
          obtain ⟨hG12, hw⟩ := hw
          refine lv_iload_n hx hb dX11_wearers_33 rfl (lv_at hl 0 rfl) ?_
          refine lv_ishl hx hb dX11_wearers_34 ?_
          refine lv_topi (fun t13 et13 => ?_)
          have zt13 : 0 ≤ t13.toInt ∧ t13.toInt ≤ 32 := by rw [et13]; exact shl01_rng (by omega) (by omega) (by omega) (by omega)
          refine lv_ior hx hb dX11_wearers_35 ?_
          refine lv_topi (fun t14 et14 => ?_)
          have zt14 : 0 ≤ t14.toInt ∧ t14.toInt ≤ 63 := by rw [et14]; exact or_rng (by omega) (by omega) (by omega) (by omega)
          refine lv_istore_n (lv' := [(1, .int t14), (2, .int l2_1), (0, .ref y0)]) hx hb dX11_wearers_36 rfl hl (by decide) rfl (fun ls hl => ?_)
          obtain ⟨t15, et15⟩ : ∃ y : Int32, y = l2_1 + 1 := ⟨_, rfl⟩
          have zt15 : t15.toInt = l2_1.toInt + 1 := by rw [et15]; exact add_i rfl (by decide) (by omega) (by omega)
          refine lv_iinc (v := t15) (lv' := [(2, .int t15), (1, .int t14), (0, .ref y0)]) hx hb dX11_wearers_37 hl (k := 1) rfl (by rw [et15]; rfl) (by decide) rfl (fun ls hl => ?_)
          refine lv_goto (tgt := 4) hx hb dX11_wearers_40 (by decide) ?_
          have rg16 := fb_rng t14
          have rg17 := fb_rng t15
          exact ih1 t14 t15 ((gsY_X11_wearers_1_q1 c2 et7 et8 c9 hG12.symm et13 et14 et15).symm.trans hT1) ⟨show (0 : Int) ≤ t14.toInt by omega, show t14.toInt ≤ (63 : Int) by omega⟩ ⟨show (0 : Int) ≤ t15.toInt by omega, show t15.toInt ≤ (2147483647 : Int) by omega⟩ (by show (2147483647 - t15.toInt).toNat < n1; omega) _ _ _ hP hD hS (lv_sub hl [0, 1, 2] rfl)
        · skip
          have zc9 : ¬ (t8.toInt < 0) := by rw [fa_lt, show (0 : Int32).toInt = 0 from by decide] at c9; exact c9
          refine lv_iconst (v := 1) hx hb dX11_wearers_25 (by decide) ?_
          refine lv_goto (tgt := 30) hx hb dX11_wearers_26 (by decide) ?_
          have lt18 : (1 : Int32).toInt = 1 := by decide
          refine cbSi (n := 1) (rest := [.int l1_1]) hx hb hml hown hts hE hP hD hS hA (sY_X11_truth_1 NF l dC dI cy y0 r 1 v f w g hIv hCf hRf ) k_1761 k_1762 k_114 k_1763 (by decide +kernel) ⟨Nat.le_of_ble_eq_true rfl, Nat.le_of_ble_eq_true rfl⟩ (rfl) hl.1 rfl (Nat.le_of_ble_eq_true rfl) dX11_wearers_30 (fun r19 u H locs hw hP hD hS => ?_)
          obtain ⟨hG20, hw⟩ := hw
          refine lv_iload_n hx hb dX11_wearers_33 rfl (lv_at hl 0 rfl) ?_
          refine lv_ishl hx hb dX11_wearers_34 ?_
          refine lv_topi (fun t21 et21 => ?_)
          have zt21 : 0 ≤ t21.toInt ∧ t21.toInt ≤ 32 := by rw [et21]; exact shl01_rng (by omega) (by omega) (by omega) (by omega)
          refine lv_ior hx hb dX11_wearers_35 ?_
          refine lv_topi (fun t22 et22 => ?_)
          have zt22 : 0 ≤ t22.toInt ∧ t22.toInt ≤ 63 := by rw [et22]; exact or_rng (by omega) (by omega) (by omega) (by omega)
          refine lv_istore_n (lv' := [(1, .int t22), (2, .int l2_1), (0, .ref y0)]) hx hb dX11_wearers_36 rfl hl (by decide) rfl (fun ls hl => ?_)
          obtain ⟨t23, et23⟩ : ∃ y : Int32, y = l2_1 + 1 := ⟨_, rfl⟩
          have zt23 : t23.toInt = l2_1.toInt + 1 := by rw [et23]; exact add_i rfl (by decide) (by omega) (by omega)
          refine lv_iinc (v := t23) (lv' := [(2, .int t23), (1, .int t22), (0, .ref y0)]) hx hb dX11_wearers_37 hl (k := 1) rfl (by rw [et23]; rfl) (by decide) rfl (fun ls hl => ?_)
          refine lv_goto (tgt := 4) hx hb dX11_wearers_40 (by decide) ?_
          have rg24 := fb_rng t22
          have rg25 := fb_rng t23
          exact ih1 t22 t23 ((gsY_X11_wearers_1_q2 c2 et7 et8 c9 hG20.symm et21 et22 et23).symm.trans hT1) ⟨show (0 : Int) ≤ t22.toInt by omega, show t22.toInt ≤ (63 : Int) by omega⟩ ⟨show (0 : Int) ≤ t23.toInt by omega, show t23.toInt ≤ (2147483647 : Int) by omega⟩ (by show (2147483647 - t23.toInt).toNat < n1; omega) _ _ _ hP hD hS (lv_sub hl [0, 1, 2] rfl)
  exact lp1 (4294967296 + NF) 0 0 gsY_X11_wearers_1_q3.symm ⟨by decide, by decide⟩ ⟨by decide, by decide⟩ (by have q2 : (0 : Int32).toInt = 0 := (by decide); have q1 : (0 : Int32).toInt = 0 := (by decide); show (2147483647 - (0 : Int32).toInt).toNat < 4294967296 + NF; omega) _ _ _ hP hD hS (lv_sub hl [0, 1, 2] rfl)
