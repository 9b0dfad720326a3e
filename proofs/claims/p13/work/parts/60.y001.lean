set_option maxHeartbeats 4000000 in
set_option maxRecDepth 100000 in
theorem sY_X11_token_1 (NF : Nat) (l : Launch) (dC : Nat → ClassId) (dI : Nat → Nat → Nat) (cy : Nat → ClassId) (y0 : Nat) (r : Nat → Nat)  (v : Nat → Int32) (f : Nat → Nat → Int32) (w : Int64) (g : Nat → Int64) (hIv : YI v) (hCf : YC f) (hRf : progOK (f 4) (f 5) (v 9).toInt.toNat)  : ctV l (dC, dI) cy yX11_token cX11_token 3 2 81 0 0 ((Nat → Int32) × (Nat → Nat → Int32) × (Int64) × (Nat → Int64)) [.ref y0] (YW cy y0 r v f w g) (fun u => gsY_X11_token_1 NF v f w g = u ∧ KV [3, 5, 6, 7] u.1 v ∧ KF [] u.2.1 f ∧ YI u.1 ∧ YC u.2.1 ∧ progOK (u.2.1 4) (u.2.1 5) (u.1 9).toInt.toNat ∧ u.1 0 = v 0 ∧ u.1 1 = v 1 ∧ u.1 2 = v 2 ∧ u.1 4 = v 4 ∧ u.1 8 = v 8 ∧ u.1 9 = v 9 ∧ u.1 10 = v 10 ∧ u.1 13 = v 13 ∧ u.1 14 = v 14 ∧ u.1 15 = v 15 ∧ u.1 17 = v 17 ∧ u.1 18 = v 18 ∧ u.1 24 = v 24 ∧ u.1 25 = v 25 ∧ u.1 35 = v 35 ∧ u.1 36 = v 36 ∧ u.1 38 = v 38 ∧ u.1 39 = v 39 ∧ ((v 3).toInt ≤ (u.1 3).toInt) ∧ ((u.1 5).toInt = (v 5).toInt ∨ (v 3).toInt < (u.1 3).toInt ∨ ¬ (u.1 5).toInt = 59) ∧ u.2.1 2 = f 2 ∧ u.2.1 3 = f 3 ∧ u.2.1 6 = f 6) (fun u => YW cy y0 r u.1 u.2.1 u.2.2.1 u.2.2.2) := by
  refine ctV_of (by decide) (Nat.le_of_ble_eq_true rfl) (fun p e s m below meth c A ls Q hx hb hml hts hown hnm hE hP hD hA hl ret => ?_)
  have hUv : (v 35).toInt + (v 36).toInt ≤ 40 := hIv.2
  have hM_v : KV [3, 5, 6, 7] v v := fun _ _ => rfl
  have hA_f : KF [] f f := fun _ _ => rfl
  have b0_v : (0 : Int) ≤ (v 0).toInt ∧ (v 0).toInt ≤ 1600 := YIb.b hIv.1 0 (by decide)
  have b1_v : (0 : Int) ≤ (v 1).toInt ∧ (v 1).toInt ≤ 4 := YIb.b hIv.1 1 (by decide)
  have b8_v : (0 : Int) ≤ (v 8).toInt ∧ (v 8).toInt ≤ 320 := YIb.b hIv.1 8 (by decide)
  have b10_v : (0 : Int) ≤ (v 10).toInt ∧ (v 10).toInt ≤ 160 := YIb.b hIv.1 10 (by decide)
  have b13_v : (0 : Int) ≤ (v 13).toInt ∧ (v 13).toInt ≤ 31 := YIb.b hIv.1 13 (by decide)
  have b14_v : (0 : Int) ≤ (v 14).toInt ∧ (v 14).toInt ≤ 8 := YIb.b hIv.1 14 (by decide)
  have b15_v : (0 : Int) ≤ (v 15).toInt ∧ (v 15).toInt ≤ 1 := YIb.b hIv.1 15 (by decide)
  have b17_v : (0 : Int) ≤ (v 17).toInt ∧ (v 17).toInt ≤ 6 := YIb.b hIv.1 17 (by decide)
  have b18_v : (0 : Int) ≤ (v 18).toInt ∧ (v 18).toInt ≤ 6 := YIb.b hIv.1 18 (by decide)
  have hown : s.vm.findClass RX11 = some m.cls := hown
  have hS : va_S A s.heap s.heap [] := va_S.rf
  have hl : lv_has ls 3 [(0, .ref y0)] := hl
  have lp1 : ∀ (n1 : Nat)  (v1 : Nat → Int32) (f1 : Nat → Nat → Int32) (w1 : Int64) (g1 : Nat → Int64), YI v1 → YC f1 → progOK (f1 4) (f1 5) (v1 9).toInt.toNat → v1 0 = (v 0) → v1 1 = (v 1) → v1 2 = (v 2) → v1 4 = (v 4) → v1 5 = (v 5) → v1 8 = (v 8) → v1 9 = (v 9) → v1 10 = (v 10) → v1 13 = (v 13) → v1 14 = (v 14) → v1 15 = (v 15) → v1 17 = (v 17) → v1 18 = (v 18) → v1 24 = (v 24) → v1 25 = (v 25) → v1 35 = (v 35) → v1 36 = (v 36) → v1 38 = (v 38) → v1 39 = (v 39) → gsY_X11_token_1_L1 NF n1 v1 f1 w1 g1 = (gsY_X11_token_1 NF v f w g) → ((v 3).toInt ≤ (v1 3).toInt) → KV [3, 5, 6, 7] v1 v → KF [] f1 f → f1 2 = (f 2) → f1 3 = (f 3) → f1 6 = (f 6) → (1600 - (v1 3).toInt).toNat < n1 → ∀ (H : Heap) (locs : List Loc) (ls : Array Slot), va_P (dC, dI) vwCl (YW cy y0 r v1 f1 w1 g1) H → va_D A (YW cy y0 r v1 f1 w1 g1) → va_S A s.heap H locs → lv_has ls 3 [(0, .ref y0)] → W p l e { frames := 2, cells := 0, slots := 0, locals := 81 } s m ([.ref y0] : List Value).toArray below meth c H locs 0 0 Q (F0 m 0 ls []) := by
    intro n1
    induction n1 with
    | zero => intro  v1 f1 w1 g1 hIv1 hCf1 hRf1 hq0_v1 hq1_v1 hq2_v1 hq4_v1 hq5_v1 hq8_v1 hq9_v1 hq10_v1 hq13_v1 hq14_v1 hq15_v1 hq17_v1 hq18_v1 hq24_v1 hq25_v1 hq35_v1 hq36_v1 hq38_v1 hq39_v1 hT1 hx0_1 hM_v1 hA_f1 hs2_f1 hs3_f1 hs6_f1 hm; exact absurd hm (Nat.not_lt_zero _)
    | succ n1 ih1 =>
      intro  v1 f1 w1 g1 hIv1 hCf1 hRf1 hq0_v1 hq1_v1 hq2_v1 hq4_v1 hq5_v1 hq8_v1 hq9_v1 hq10_v1 hq13_v1 hq14_v1 hq15_v1 hq17_v1 hq18_v1 hq24_v1 hq25_v1 hq35_v1 hq36_v1 hq38_v1 hq39_v1 hT1 hx0_1 hM_v1 hA_f1 hs2_f1 hs3_f1 hs6_f1 hm1 H locs ls hP hD hS hl
      have hUv1 : (v1 35).toInt + (v1 36).toInt ≤ 40 := hIv1.2
      have zq0_v1 := congrArg Int32.toInt hq0_v1
      have zq1_v1 := congrArg Int32.toInt hq1_v1
      have zq4_v1 := congrArg Int32.toInt hq4_v1
      have zq5_v1 := congrArg Int32.toInt hq5_v1
      have zq8_v1 := congrArg Int32.toInt hq8_v1
      have zq9_v1 := congrArg Int32.toInt hq9_v1
      have zq10_v1 := congrArg Int32.toInt hq10_v1
      have zq13_v1 := congrArg Int32.toInt hq13_v1
      have zq14_v1 := congrArg Int32.toInt hq14_v1
      have zq15_v1 := congrArg Int32.toInt hq15_v1
      have zq17_v1 := congrArg Int32.toInt hq17_v1
      have zq18_v1 := congrArg Int32.toInt hq18_v1
      have b3_v1 : 0 ≤ (v1 3).toInt ∧ (v1 3).toInt ≤ 1600 := YIb.b hIv1.1 3 (by decide)
      refine lv_aload_n hx hb dX11_token_0 rfl (lv_at hl 0 rfl) ?_
      refine lv_iconst (v := 0) hx hb dX11_token_1 (by decide) ?_
      have lt2 : (0 : Int32).toInt = 0 := by decide
      refine cbVi (n := 1) (rest := []) hx hb hml hown hts hE hP hD hS hA (sY_X11_here_1 NF l dC dI cy y0 r 0 v1 f1 w1 g1 hIv1 hCf1 hRf1 ⟨by decide, by decide⟩) k_1583 k_1585 k_43 k_114 k_1586 (by decide +kernel) ⟨Nat.le_of_ble_eq_true rfl, Nat.le_of_ble_eq_true rfl⟩ 0 11 rfl rfl (rfl) hl.1 rfl (Nat.le_of_ble_eq_true rfl) dX11_token_2 (fun r3 u H locs hw hP hD hS => ?_)
      obtain ⟨hG4, hw⟩ := hw
      have pp5 := hw
      have b4_v1 : 0 ≤ (v1 4).toInt ∧ (v1 4).toInt ≤ 1600 := YIb.b hIv1.1 4 (by decide)
      have b4_v : 0 ≤ (v 4).toInt ∧ (v 4).toInt ≤ 1600 := YIb.b hIv.1 4 (by decide)
      have pp5 : r3.toInt < 0 ∨ (v1 3).toInt + (0 : Int32).toInt < (v1 4).toInt := pp5
      refine lv_bipush (v := 32) hx hb dX11_token_5 (by decide) ?_
      refine lv_icmp_eq (tgt := 20) hx hb dX11_token_7 (by decide) (fun c6 => ?_) (fun c6 => ?_)
      · skip
        have zc6 : r3.toInt = 32 := by rw [fa_eq, show (32 : Int32).toInt = 32 from by decide] at c6; exact c6
        refine lv_aload_n hx hb dX11_token_20 rfl (lv_at hl 0 rfl) ?_
        refine lv_dup hx hb dX11_token_21 rfl ?_
        refine va_get (D := (dC, dI)) (ci := 11) (v := .int (v1 3)) (C := RX11) (T := TX11) (N := 79) hx hb hts inB_11 hown hE.1 hP 0 rfl rfl 4 (by decide) (hts _ k_1324) (fun _ h9 => h9) rfl dX11_token_22 ?_
        refine lv_iconst (v := 1) hx hb dX11_token_25 (by decide) ?_
        refine lv_iadd hx hb dX11_token_26 ?_
        refine lv_topi (fun t7 et7 => ?_)
        have rg8 := fb_rng (v1 3)
        have zt7 : t7.toInt = (v1 3).toInt + 1 := by rw [et7]; exact add_i rfl (by decide) (by omega) (by omega)
        refine va_put (D := (dC, dI)) (ci := 11) (v := .int t7) (ty := tyX11 4) (C := RX11) (T := TX11) (N := 79) hx hb hts inB_11 tyX11 tyX11_ok nmX11 hown hE.1 hP hD hS 0 rfl rfl 4 (by decide) (hts _ k_1324) (fun _ h9 => h9) rfl (tyX11_ok 4 (by decide)) rfl rfl (Nat.le_of_ble_eq_true rfl) dX11_token_27 (fun H locs hP hD hS => ?_)
        have hP : va_P (dC, dI) vwCl (YW cy y0 r (upd v1 3 t7) f1 w1 g1) H := hP
        have hD : va_D A (YW cy y0 r (upd v1 3 t7) f1 w1 g1) := hD
        refine lv_goto (tgt := 0) hx hb dX11_token_30 (by decide) ?_
        exact ih1  (upd v1 3 t7) f1 w1 g1 ⟨(YIb.upd (j := 3) (x := t7) hIv1.1 (show (0 : Int) ≤ t7.toInt by omega) (show t7.toInt ≤ (1600 : Int) by omega)), hIv1.2⟩ hCf1 hRf1 hq0_v1 hq1_v1 hq2_v1 hq4_v1 hq5_v1 hq8_v1 hq9_v1 hq10_v1 hq13_v1 hq14_v1 hq15_v1 hq17_v1 hq18_v1 hq24_v1 hq25_v1 hq35_v1 hq36_v1 hq38_v1 hq39_v1 ((gsY_X11_token_1_q0 hG4.symm c6 et7).symm.trans hT1) (by show (v 3).toInt ≤ t7.toInt; omega) (KV.up (j := 3) (x := t7) hM_v1 rfl) hA_f1 hs2_f1 hs3_f1 hs6_f1 (by show (1600 - t7.toInt).toNat < n1; omega) _ _ _ hP hD hS (lv_sub hl [0] rfl)
      · skip
        have zc6 : ¬ (r3.toInt = 32) := by rw [fa_eq, show (32 : Int32).toInt = 32 from by decide] at c6; exact c6
        refine lv_aload_n hx hb dX11_token_10 rfl (lv_at hl 0 rfl) ?_
        refine lv_iconst (v := 0) hx hb dX11_token_11 (by decide) ?_
        refine cbVi (n := 1) (rest := []) hx hb hml hown hts hE hP hD hS hA (sY_X11_here_1 NF l dC dI cy y0 r 0 v1 f1 w1 g1 hIv1 hCf1 hRf1 ⟨by decide, by decide⟩) k_1583 k_1585 k_43 k_114 k_1586 (by decide +kernel) ⟨Nat.le_of_ble_eq_true rfl, Nat.le_of_ble_eq_true rfl⟩ 0 11 rfl rfl (rfl) hl.1 rfl (Nat.le_of_ble_eq_true rfl) dX11_token_12 (fun r9 u H locs hw hP hD hS => ?_)
        obtain ⟨hG10, hw⟩ := hw
        have pp11 := hw
        have pp11 : r9.toInt < 0 ∨ (v1 3).toInt + (0 : Int32).toInt < (v1 4).toInt := pp11
        refine lv_bipush (v := 10) hx hb dX11_token_15 (by decide) ?_
        refine lv_icmp_ne (tgt := 33) hx hb dX11_token_17 (by decide) (fun c12 => ?_) (fun c12 => ?_)
        · skip
          have zc12 : ¬ (r9.toInt = 10) := by rw [fa_eq, show (10 : Int32).toInt = 10 from by decide] at c12; exact c12
          refine lv_aload_n hx hb dX11_token_33 rfl (lv_at hl 0 rfl) ?_
          refine lv_aload_n hx hb dX11_token_34 rfl (lv_at hl 0 rfl) ?_
          refine va_get (D := (dC, dI)) (ci := 11) (v := .int (v1 3)) (C := RX11) (T := TX11) (N := 79) hx hb hts inB_11 hown hE.1 hP 0 rfl rfl 4 (by decide) (hts _ k_1324) (fun _ h9 => h9) rfl dX11_token_35 ?_
          refine va_put (D := (dC, dI)) (ci := 11) (v := .int (v1 3)) (ty := tyX11 7) (C := RX11) (T := TX11) (N := 79) hx hb hts inB_11 tyX11 tyX11_ok nmX11 hown hE.1 hP hD hS 0 rfl rfl 7 (by decide) (hts _ k_1327) (fun _ h9 => h9) rfl (tyX11_ok 7 (by decide)) rfl rfl (Nat.le_of_ble_eq_true rfl) dX11_token_38 (fun H locs hP hD hS => ?_)
          have hP : va_P (dC, dI) vwCl (YW cy y0 r (upd v1 6 (v1 3)) f1 w1 g1) H := hP
          have hD : va_D A (YW cy y0 r (upd v1 6 (v1 3)) f1 w1 g1) := hD
          refine lv_aload_n hx hb dX11_token_41 rfl (lv_at hl 0 rfl) ?_
          refine lv_iconst (v := 0) hx hb dX11_token_42 (by decide) ?_
          refine cbVi (n := 1) (rest := []) hx hb hml hown hts hE hP hD hS hA (sY_X11_here_1 NF l dC dI cy y0 r 0 (upd v1 6 (v1 3)) f1 w1 g1 ⟨(YIb.upd (j := 6) (x := (v1 3)) hIv1.1 (rlo _) (rhi _)), hIv1.2⟩ hCf1 hRf1 ⟨by decide, by decide⟩) k_1583 k_1585 k_43 k_114 k_1586 (by decide +kernel) ⟨Nat.le_of_ble_eq_true rfl, Nat.le_of_ble_eq_true rfl⟩ 0 11 rfl rfl (rfl) hl.1 rfl (Nat.le_of_ble_eq_true rfl) dX11_token_43 (fun r13 u H locs hw hP hD hS => ?_)
          obtain ⟨hG14, hw⟩ := hw
          have pp15 := hw
          have pp15 : r13.toInt < 0 ∨ (v1 3).toInt + (0 : Int32).toInt < (v1 4).toInt := pp15
          refine lv_istore_n (lv' := [(1, .int r13), (0, .ref y0)]) hx hb dX11_token_46 rfl hl (by decide) rfl (fun ls hl => ?_)
          refine lv_iconst (v := 0) hx hb dX11_token_47 (by decide) ?_
          refine lv_istore_n (lv' := [(2, .int 0), (1, .int r13), (0, .ref y0)]) hx hb dX11_token_48 rfl hl (by decide) rfl (fun ls hl => ?_)
          refine lv_aload_n hx hb dX11_token_49 rfl (lv_at hl 2 rfl) ?_
          refine lv_lconst (v := 0) hx hb dX11_token_50 (by decide) ?_
          refine va_put (D := (dC, dI)) (ci := 11) (v := .long 0) (ty := tyX11 9) (C := RX11) (T := TX11) (N := 79) hx hb hts inB_11 tyX11 tyX11_ok nmX11 hown hE.1 hP hD hS 0 rfl rfl 9 (by decide) (hts _ k_1329) (fun _ h9 => h9) rfl (tyX11_ok 9 (by decide)) rfl rfl (Nat.le_of_ble_eq_true rfl) dX11_token_51 (fun H locs hP hD hS => ?_)
          have hP : va_P (dC, dI) vwCl (YW cy y0 r (upd v1 6 (v1 3)) f1 0 g1) H := hP
          have hD : va_D A (YW cy y0 r (upd v1 6 (v1 3)) f1 0 g1) := hD
          refine lv_aload_n hx hb dX11_token_54 rfl (lv_at hl 2 rfl) ?_
          refine lv_iconst (v := 0) hx hb dX11_token_55 (by decide) ?_
          refine va_put (D := (dC, dI)) (ci := 11) (v := .int 0) (ty := tyX11 8) (C := RX11) (T := TX11) (N := 79) hx hb hts inB_11 tyX11 tyX11_ok nmX11 hown hE.1 hP hD hS 0 rfl rfl 8 (by decide) (hts _ k_1328) (fun _ h9 => h9) rfl (tyX11_ok 8 (by decide)) rfl rfl (Nat.le_of_ble_eq_true rfl) dX11_token_56 (fun H locs hP hD hS => ?_)
          have hP : va_P (dC, dI) vwCl (YW cy y0 r (upd (upd v1 6 (v1 3)) 7 0) f1 0 g1) H := hP
          have hD : va_D A (YW cy y0 r (upd (upd v1 6 (v1 3)) 7 0) f1 0 g1) := hD
          refine lv_iload_n hx hb dX11_token_59 rfl (lv_at hl 1 rfl) ?_
          refine lv_if_ge (tgt := 71) hx hb dX11_token_60 (by decide) (fun c16 => ?_) (fun c16 => ?_)
          · skip
            have zc16 : 0 ≤ r13.toInt := by rw [fa_le, show (0 : Int32).toInt = 0 from by decide] at c16; exact c16
            refine lv_iload_n hx hb dX11_token_71 rfl (lv_at hl 1 rfl) ?_
            refine cbSi (n := 1) (rest := []) hx hb hml hown hts hE hP hD hS hA (sY_X11_isLetter_1 NF l dC dI cy y0 r r13 (upd (upd v1 6 (v1 3)) 7 0) f1 0 g1 ⟨(YIb.upd (j := 7) (x := 0) (YIb.upd (j := 6) (x := (v1 3)) hIv1.1 (rlo _) (rhi _)) (rlo _) (rhi _)), hIv1.2⟩ hCf1 hRf1 ) k_1587 k_1588 k_114 k_1589 (by decide +kernel) ⟨Nat.le_of_ble_eq_true rfl, Nat.le_of_ble_eq_true rfl⟩ (rfl) hl.1 rfl (Nat.le_of_ble_eq_true rfl) dX11_token_72 (fun r17 u H locs hw hP hD hS => ?_)
            obtain ⟨hG18, hw⟩ := hw
            rcases hw with ⟨g19, g19_0⟩ | ⟨g19⟩
            · skip
              subst g19
              refine lv_if_eq (tgt := 137) hx hb dX11_token_75 (by decide) (fun c0 => absurd c0 (by decide)) (fun _ => ?_)
              have lp20 : ∀ (n20 : Nat) (l2_20 : Int32) (v20 : Nat → Int32) (f20 : Nat → Nat → Int32) (w20 : Int64) (g20 : Nat → Int64), YI v20 → YC f20 → progOK (f20 4) (f20 5) (v20 9).toInt.toNat → v20 0 = (v 0) → v20 1 = (v 1) → v20 2 = (v 2) → v20 3 = (v1 3) → v20 4 = (v 4) → v20 5 = (v 5) → v20 8 = (v 8) → v20 9 = (v 9) → v20 10 = (v 10) → v20 13 = (v 13) → v20 14 = (v 14) → v20 15 = (v 15) → v20 17 = (v 17) → v20 18 = (v 18) → v20 24 = (v 24) → v20 25 = (v 25) → v20 35 = (v 35) → v20 36 = (v 36) → v20 38 = (v 38) → v20 39 = (v 39) → gsY_X11_token_1_L20 NF v1 n20 l2_20 v20 f20 w20 g20 = (gsY_X11_token_1 NF v f w g) → ((0 : Int) ≤ l2_20.toInt ∧ l2_20.toInt ≤ 1600) → ((v20 3).toInt + l2_20.toInt ≤ (v20 4).toInt) → KV [3, 5, 6, 7] v20 v → KF [] f20 f → f20 2 = (f 2) → f20 3 = (f 3) → f20 6 = (f 6) → (2147483647 - l2_20.toInt).toNat < n20 → ∀ (H : Heap) (locs : List Loc) (ls : Array Slot), va_P (dC, dI) vwCl (YW cy y0 r v20 f20 w20 g20) H → va_D A (YW cy y0 r v20 f20 w20 g20) → va_S A s.heap H locs → lv_has ls 3 [(2, .int l2_20), (1, .int r13), (0, .ref y0)] → W p l e { frames := 2, cells := 0, slots := 0, locals := 81 } s m ([.ref y0] : List Value).toArray below meth c H locs 0 0 Q (F0 m 78 ls []) := by
                intro n20
                induction n20 with
                | zero => intro l2_20 v20 f20 w20 g20 hIv20 hCf20 hRf20 hq0_v20 hq1_v20 hq2_v20 hq3_v20 hq4_v20 hq5_v20 hq8_v20 hq9_v20 hq10_v20 hq13_v20 hq14_v20 hq15_v20 hq17_v20 hq18_v20 hq24_v20 hq25_v20 hq35_v20 hq36_v20 hq38_v20 hq39_v20 hT20 hr2_20 hx0_20 hM_v20 hA_f20 hs2_f20 hs3_f20 hs6_f20 hm; exact absurd hm (Nat.not_lt_zero _)
                | succ n20 ih20 =>
                  intro l2_20 v20 f20 w20 g20 hIv20 hCf20 hRf20 hq0_v20 hq1_v20 hq2_v20 hq3_v20 hq4_v20 hq5_v20 hq8_v20 hq9_v20 hq10_v20 hq13_v20 hq14_v20 hq15_v20 hq17_v20 hq18_v20 hq24_v20 hq25_v20 hq35_v20 hq36_v20 hq38_v20 hq39_v20 hT20 hr2_20 hx0_20 hM_v20 hA_f20 hs2_f20 hs3_f20 hs6_f20 hm20 H locs ls hP hD hS hl
                  have hUv20 : (v20 35).toInt + (v20 36).toInt ≤ 40 := hIv20.2
                  have zq0_v20 := congrArg Int32.toInt hq0_v20
                  try clear zq0_v1
                  have zq1_v20 := congrArg Int32.toInt hq1_v20
                  try clear zq1_v1
                  have zq3_v20 := congrArg Int32.toInt hq3_v20
                  have zq4_v20 := congrArg Int32.toInt hq4_v20
                  try clear zq4_v1
                  have zq5_v20 := congrArg Int32.toInt hq5_v20
                  try clear zq5_v1
                  have zq8_v20 := congrArg Int32.toInt hq8_v20
                  try clear zq8_v1
                  have zq9_v20 := congrArg Int32.toInt hq9_v20
                  try clear zq9_v1
                  have zq10_v20 := congrArg Int32.toInt hq10_v20
                  try clear zq10_v1
                  have zq13_v20 := congrArg Int32.toInt hq13_v20
                  try clear zq13_v1
                  have zq14_v20 := congrArg Int32.toInt hq14_v20
                  try clear zq14_v1
                  have zq15_v20 := congrArg Int32.toInt hq15_v20
                  try clear zq15_v1
                  have zq17_v20 := congrArg Int32.toInt hq17_v20
                  try clear zq17_v1
                  have zq18_v20 := congrArg Int32.toInt hq18_v20
                  try clear zq18_v1
                  have b3_v20 : 0 ≤ (v20 3).toInt ∧ (v20 3).toInt ≤ 1600 := YIb.b hIv20.1 3 (by decide)
                  have b3_v1 : 0 ≤ (v1 3).toInt ∧ (v1 3).toInt ≤ 1600 := YIb.b hIv1.1 3 (by decide)
                  have b4_v20 : 0 ≤ (v20 4).toInt ∧ (v20 4).toInt ≤ 1600 := YIb.b hIv20.1 4 (by decide)
                  have b4_v : 0 ≤ (v 4).toInt ∧ (v 4).toInt ≤ 1600 := YIb.b hIv.1 4 (by decide)
                  refine lv_aload_n hx hb dX11_token_78 rfl (lv_at hl 2 rfl) ?_
                  refine lv_iload_n hx hb dX11_token_79 rfl (lv_at hl 0 rfl) ?_
                  refine cbVi (n := 1) (rest := []) hx hb hml hown hts hE hP hD hS hA (sY_X11_here_1 NF l dC dI cy y0 r l2_20 v20 f20 w20 g20 hIv20 hCf20 hRf20 ⟨show (0 : Int) ≤ l2_20.toInt by omega, show l2_20.toInt ≤ (1600 : Int) by omega⟩) k_1583 k_1585 k_43 k_114 k_1586 (by decide +kernel) ⟨Nat.le_of_ble_eq_true rfl, Nat.le_of_ble_eq_true rfl⟩ 0 11 rfl rfl (rfl) hl.1 rfl (Nat.le_of_ble_eq_true rfl) dX11_token_80 (fun r21 u H locs hw hP hD hS => ?_)
                  obtain ⟨hG22, hw⟩ := hw
                  have pp23 := hw
                  have pp23 : r21.toInt < 0 ∨ (v20 3).toInt + l2_20.toInt < (v20 4).toInt := pp23
                  refine cbSi (n := 1) (rest := []) hx hb hml hown hts hE hP hD hS hA (sY_X11_isLetter_1 NF l dC dI cy y0 r r21 v20 f20 w20 g20 hIv20 hCf20 hRf20 ) k_1587 k_1588 k_114 k_1589 (by decide +kernel) ⟨Nat.le_of_ble_eq_true rfl, Nat.le_of_ble_eq_true rfl⟩ (rfl) hl.1 rfl (Nat.le_of_ble_eq_true rfl) dX11_token_83 (fun r24 u H locs hw hP hD hS => ?_)
                  obtain ⟨hG25, hw⟩ := hw
                  rcases hw with ⟨g26, g26_0⟩ | ⟨g26⟩
                  · skip
                    subst g26
                    refine lv_if_eq (tgt := 119) hx hb dX11_token_86 (by decide) (fun c0 => absurd c0 (by decide)) (fun _ => ?_)
                    refine lv_iload_n hx hb dX11_token_89 rfl (lv_at hl 0 rfl) ?_
                    refine lv_bipush (v := 8) hx hb dX11_token_90 (by decide) ?_
                    refine lv_icmp_ge (tgt := 113) hx hb dX11_token_92 (by decide) (fun c27 => ?_) (fun c27 => ?_)
                    · skip
                      have zc27 : 8 ≤ l2_20.toInt := by rw [fa_le, show (8 : Int32).toInt = 8 from by decide] at c27; exact c27
                      obtain ⟨t28, et28⟩ : ∃ y : Int32, y = l2_20 + 1 := ⟨_, rfl⟩
                      have rg29 := fb_rng l2_20
                      have zt28 : t28.toInt = l2_20.toInt + 1 := by rw [et28]; exact add_i rfl (by decide) (by omega) (by omega)
                      refine lv_iinc (v := t28) (lv' := [(2, .int t28), (1, .int r13), (0, .ref y0)]) hx hb dX11_token_113 hl (k := 0) rfl (by rw [et28]; rfl) (by decide) rfl (fun ls hl => ?_)
                      refine lv_goto (tgt := 78) hx hb dX11_token_116 (by decide) ?_
                      have rg30 := fb_rng t28
                      exact ih20 t28 v20 f20 w20 g20 hIv20 hCf20 hRf20 hq0_v20 hq1_v20 hq2_v20 hq3_v20 hq4_v20 hq5_v20 hq8_v20 hq9_v20 hq10_v20 hq13_v20 hq14_v20 hq15_v20 hq17_v20 hq18_v20 hq24_v20 hq25_v20 hq35_v20 hq36_v20 hq38_v20 hq39_v20 ((gsY_X11_token_1_q1 hG22.symm hG25 c27 et28).symm.trans hT20) ⟨show (0 : Int) ≤ t28.toInt by omega, show t28.toInt ≤ (1600 : Int) by omega⟩ (by show (v20 3).toInt + t28.toInt ≤ (v20 4).toInt; omega) hM_v20 hA_f20 hs2_f20 hs3_f20 hs6_f20 (by show (2147483647 - t28.toInt).toNat < n20; omega) _ _ _ hP hD hS (lv_sub hl [0, 1, 2] rfl)
                    · skip
                      have zc27 : ¬ (8 ≤ l2_20.toInt) := by rw [fa_le, show (8 : Int32).toInt = 8 from by decide] at c27; exact c27
                      refine lv_aload_n hx hb dX11_token_95 rfl (lv_at hl 2 rfl) ?_
                      refine lv_aload_n hx hb dX11_token_96 rfl (lv_at hl 2 rfl) ?_
                      refine va_get (D := (dC, dI)) (ci := 11) (v := .long w20) (C := RX11) (T := TX11) (N := 79) hx hb hts inB_11 hown hE.1 hP 0 rfl rfl 9 (by decide) (hts _ k_1329) (fun _ h9 => h9) rfl dX11_token_97 ?_
                      refine lv_bipush (v := 8) hx hb dX11_token_100 (by decide) ?_
                      refine lv_lshl hx hb dX11_token_102 rfl ?_
                      refine lv_topl (fun j31 ej31 => ?_)
                      refine lv_aload_n hx hb dX11_token_103 rfl (lv_at hl 2 rfl) ?_
                      refine lv_iload_n hx hb dX11_token_104 rfl (lv_at hl 0 rfl) ?_
                      refine cbVi (n := 1) (rest := [.long j31, .ref y0]) hx hb hml hown hts hE hP hD hS hA (sY_X11_here_1 NF l dC dI cy y0 r l2_20 v20 f20 w20 g20 hIv20 hCf20 hRf20 ⟨show (0 : Int) ≤ l2_20.toInt by omega, show l2_20.toInt ≤ (1600 : Int) by omega⟩) k_1583 k_1585 k_43 k_114 k_1586 (by decide +kernel) ⟨Nat.le_of_ble_eq_true rfl, Nat.le_of_ble_eq_true rfl⟩ 0 11 rfl rfl (rfl) hl.1 rfl (Nat.le_of_ble_eq_true rfl) dX11_token_105 (fun r32 u H locs hw hP hD hS => ?_)
                      obtain ⟨hG33, hw⟩ := hw
                      have pp34 := hw
                      have pp34 : r32.toInt < 0 ∨ (v20 3).toInt + l2_20.toInt < (v20 4).toInt := pp34
                      refine lv_i2l hx hb dX11_token_108 rfl ?_
                      refine lv_topl (fun j35 ej35 => ?_)
                      refine lv_lor hx hb dX11_token_109 ?_
                      refine lv_topl (fun j36 ej36 => ?_)
                      refine va_put (D := (dC, dI)) (ci := 11) (v := .long j36) (ty := tyX11 9) (C := RX11) (T := TX11) (N := 79) hx hb hts inB_11 tyX11 tyX11_ok nmX11 hown hE.1 hP hD hS 0 rfl rfl 9 (by decide) (hts _ k_1329) (fun _ h9 => h9) rfl (tyX11_ok 9 (by decide)) rfl rfl (Nat.le_of_ble_eq_true rfl) dX11_token_110 (fun H locs hP hD hS => ?_)
                      have hP : va_P (dC, dI) vwCl (YW cy y0 r v20 f20 j36 g20) H := hP
                      have hD : va_D A (YW cy y0 r v20 f20 j36 g20) := hD
                      obtain ⟨t37, et37⟩ : ∃ y : Int32, y = l2_20 + 1 := ⟨_, rfl⟩
                      have rg38 := fb_rng l2_20
                      have zt37 : t37.toInt = l2_20.toInt + 1 := by rw [et37]; exact add_i rfl (by decide) (by omega) (by omega)
                      refine lv_iinc (v := t37) (lv' := [(2, .int t37), (1, .int r13), (0, .ref y0)]) hx hb dX11_token_113 hl (k := 0) rfl (by rw [et37]; rfl) (by decide) rfl (fun ls hl => ?_)
                      refine lv_goto (tgt := 78) hx hb dX11_token_116 (by decide) ?_
                      have rg39 := fb_rng t37
                      exact ih20 t37 v20 f20 j36 g20 hIv20 hCf20 hRf20 hq0_v20 hq1_v20 hq2_v20 hq3_v20 hq4_v20 hq5_v20 hq8_v20 hq9_v20 hq10_v20 hq13_v20 hq14_v20 hq15_v20 hq17_v20 hq18_v20 hq24_v20 hq25_v20 hq35_v20 hq36_v20 hq38_v20 hq39_v20 ((gsY_X11_token_1_q2 hG22.symm hG25 c27 ej31 hG33.symm ej35 ej36 et37).symm.trans hT20) ⟨show (0 : Int) ≤ t37.toInt by omega, show t37.toInt ≤ (1600 : Int) by omega⟩ (by show (v20 3).toInt + t37.toInt ≤ (v20 4).toInt; omega) hM_v20 hA_f20 hs2_f20 hs3_f20 hs6_f20 (by show (2147483647 - t37.toInt).toNat < n20; omega) _ _ _ hP hD hS (lv_sub hl [0, 1, 2] rfl)
                  · skip
                    subst g26
                    refine lv_if_eq (tgt := 119) hx hb dX11_token_86 (by decide) (fun _ => ?_) (fun c0 => absurd (by decide) c0)
                    refine lv_aload_n hx hb dX11_token_119 rfl (lv_at hl 2 rfl) ?_
                    refine lv_iload_n hx hb dX11_token_120 rfl (lv_at hl 0 rfl) ?_
                    refine lv_bipush (v := 8) hx hb dX11_token_121 (by decide) ?_
                    refine lv_icmp_le (tgt := 130) hx hb dX11_token_123 (by decide) (fun c40 => ?_) (fun c40 => ?_)
                    · skip
                      have zc40 : l2_20.toInt ≤ 8 := by rw [fa_le, show (8 : Int32).toInt = 8 from by decide] at c40; exact c40
                      refine lv_iconst (v := 1) hx hb dX11_token_130 (by decide) ?_
                      refine va_put (D := (dC, dI)) (ci := 11) (v := .int 1) (ty := tyX11 6) (C := RX11) (T := TX11) (N := 79) hx hb hts inB_11 tyX11 tyX11_ok nmX11 hown hE.1 hP hD hS 0 rfl rfl 6 (by decide) (hts _ k_1326) (fun _ h9 => h9) rfl (tyX11_ok 6 (by decide)) rfl rfl (Nat.le_of_ble_eq_true rfl) dX11_token_131 (fun H locs hP hD hS => ?_)
                      have hP : va_P (dC, dI) vwCl (YW cy y0 r (upd v20 5 1) f20 w20 g20) H := hP
                      have hD : va_D A (YW cy y0 r (upd v20 5 1) f20 w20 g20) := hD
                      refine lv_goto (tgt := 232) hx hb dX11_token_134 (by decide) ?_
                      refine lv_aload_n hx hb dX11_token_232 rfl (lv_at hl 2 rfl) ?_
                      refine va_get (D := (dC, dI)) (ci := 11) (v := .int 1) (C := RX11) (T := TX11) (N := 79) hx hb hts inB_11 hown hE.1 hP 0 rfl rfl 6 (by decide) (hts _ k_1326) (fun _ h9 => h9) rfl dX11_token_233 ?_
                      refine lv_iconst (v := 3) hx hb dX11_token_236 (by decide) ?_
                      refine lv_icmp_eq (tgt := 250) hx hb dX11_token_237 (by decide) (fun c0 => absurd c0 (by decide)) (fun _ => ?_)
                      refine lv_aload_n hx hb dX11_token_240 rfl (lv_at hl 2 rfl) ?_
                      refine lv_dup hx hb dX11_token_241 rfl ?_
                      refine va_get (D := (dC, dI)) (ci := 11) (v := .int (v20 3)) (C := RX11) (T := TX11) (N := 79) hx hb hts inB_11 hown hE.1 hP 0 rfl rfl 4 (by decide) (hts _ k_1324) (fun _ h9 => h9) rfl dX11_token_242 ?_
                      refine tI (y := (v1 3)) hq3_v20 ?_
                      refine lv_iload_n hx hb dX11_token_245 rfl (lv_at hl 0 rfl) ?_
                      refine lv_iadd hx hb dX11_token_246 ?_
                      refine lv_topi (fun t41 et41 => ?_)
                      have rg42 := fb_rng (v1 3)
                      have rg43 := fb_rng l2_20
                      have zt41 : t41.toInt = (v1 3).toInt + l2_20.toInt := by rw [et41]; exact add_i rfl rfl (by omega) (by omega)
                      refine va_put (D := (dC, dI)) (ci := 11) (v := .int t41) (ty := tyX11 4) (C := RX11) (T := TX11) (N := 79) hx hb hts inB_11 tyX11 tyX11_ok nmX11 hown hE.1 hP hD hS 0 rfl rfl 4 (by decide) (hts _ k_1324) (fun _ h9 => h9) rfl (tyX11_ok 4 (by decide)) rfl rfl (Nat.le_of_ble_eq_true rfl) dX11_token_247 (fun H locs hP hD hS => ?_)
                      have hP : va_P (dC, dI) vwCl (YW cy y0 r (upd (upd v20 5 1) 3 t41) f20 w20 g20) H := hP
                      have hD : va_D A (YW cy y0 r (upd (upd v20 5 1) 3 t41) f20 w20 g20) := hD
                      exact ret ((upd (upd v20 5 1) 3 t41), f20, w20, g20) _ _ _ _ _ _ ⟨(hT20.symm.trans (gsY_X11_token_1_q3 hG22.symm hG25 c40 et41)), (KV.up (j := 3) (x := t41) (KV.up (j := 5) (x := 1) hM_v20 rfl) rfl), hA_f20, ⟨(YIb.upd (j := 3) (x := t41) (YIb.upd (j := 5) (x := 1) hIv20.1 (rlo _) (rhi _)) (show (0 : Int) ≤ t41.toInt by omega) (show t41.toInt ≤ (1600 : Int) by omega)), hIv20.2⟩, hCf20, hRf20, hq0_v20, hq1_v20, hq2_v20, hq4_v20, hq8_v20, hq9_v20, hq10_v20, hq13_v20, hq14_v20, hq15_v20, hq17_v20, hq18_v20, hq24_v20, hq25_v20, hq35_v20, hq36_v20, hq38_v20, hq39_v20, (by have q0 : (1 : Int32).toInt = 1 := (by decide); show (v 3).toInt ≤ t41.toInt; omega), (by have q0 : (1 : Int32).toInt = 1 := (by decide); show (1 : Int32).toInt = (v 5).toInt ∨ (v 3).toInt < t41.toInt ∨ ¬ (1 : Int32).toInt = 59; omega), hs2_f20, hs3_f20, hs6_f20⟩ hP hD hS dX11_token_250 (Nat.le_refl _) (Nat.le_refl _)
                    · skip
                      have zc40 : ¬ (l2_20.toInt ≤ 8) := by rw [fa_le, show (8 : Int32).toInt = 8 from by decide] at c40; exact c40
                      refine lv_iconst (v := 3) hx hb dX11_token_126 (by decide) ?_
                      refine lv_goto (tgt := 131) hx hb dX11_token_127 (by decide) ?_
                      refine va_put (D := (dC, dI)) (ci := 11) (v := .int 3) (ty := tyX11 6) (C := RX11) (T := TX11) (N := 79) hx hb hts inB_11 tyX11 tyX11_ok nmX11 hown hE.1 hP hD hS 0 rfl rfl 6 (by decide) (hts _ k_1326) (fun _ h9 => h9) rfl (tyX11_ok 6 (by decide)) rfl rfl (Nat.le_of_ble_eq_true rfl) dX11_token_131 (fun H locs hP hD hS => ?_)
                      have hP : va_P (dC, dI) vwCl (YW cy y0 r (upd v20 5 3) f20 w20 g20) H := hP
                      have hD : va_D A (YW cy y0 r (upd v20 5 3) f20 w20 g20) := hD
                      refine lv_goto (tgt := 232) hx hb dX11_token_134 (by decide) ?_
                      refine lv_aload_n hx hb dX11_token_232 rfl (lv_at hl 2 rfl) ?_
                      refine va_get (D := (dC, dI)) (ci := 11) (v := .int 3) (C := RX11) (T := TX11) (N := 79) hx hb hts inB_11 hown hE.1 hP 0 rfl rfl 6 (by decide) (hts _ k_1326) (fun _ h9 => h9) rfl dX11_token_233 ?_
                      refine lv_iconst (v := 3) hx hb dX11_token_236 (by decide) ?_
                      refine lv_icmp_eq (tgt := 250) hx hb dX11_token_237 (by decide) (fun _ => ?_) (fun c0 => absurd (by decide) c0)
                      exact ret ((upd v20 5 3), f20, w20, g20) _ _ _ _ _ _ ⟨(hT20.symm.trans (gsY_X11_token_1_q4 hG22.symm hG25 c40)), (KV.up (j := 5) (x := 3) hM_v20 rfl), hA_f20, ⟨(YIb.upd (j := 5) (x := 3) hIv20.1 (rlo _) (rhi _)), hIv20.2⟩, hCf20, hRf20, hq0_v20, hq1_v20, hq2_v20, hq4_v20, hq8_v20, hq9_v20, hq10_v20, hq13_v20, hq14_v20, hq15_v20, hq17_v20, hq18_v20, hq24_v20, hq25_v20, hq35_v20, hq36_v20, hq38_v20, hq39_v20, (by have q0 : (3 : Int32).toInt = 3 := (by decide); show (v 3).toInt ≤ (v20 3).toInt; omega), (by have q0 : (3 : Int32).toInt = 3 := (by decide); show (3 : Int32).toInt = (v 5).toInt ∨ (v 3).toInt < (v20 3).toInt ∨ ¬ (3 : Int32).toInt = 59; omega), hs2_f20, hs3_f20, hs6_f20⟩ hP hD hS dX11_token_250 (Nat.le_refl _) (Nat.le_refl _)
              exact lp20 (4294967296 + NF) 0 (upd (upd v1 6 (v1 3)) 7 0) f1 0 g1 ⟨(YIb.upd (j := 7) (x := 0) (YIb.upd (j := 6) (x := (v1 3)) hIv1.1 (rlo _) (rhi _)) (rlo _) (rhi _)), hIv1.2⟩ hCf1 hRf1 hq0_v1 hq1_v1 hq2_v1 rfl hq4_v1 hq5_v1 hq8_v1 hq9_v1 hq10_v1 hq13_v1 hq14_v1 hq15_v1 hq17_v1 hq18_v1 hq24_v1 hq25_v1 hq35_v1 hq36_v1 hq38_v1 hq39_v1 ((gsY_X11_token_1_q5 hG4.symm c6 hG10.symm c12 hG14.symm c16 hG18).symm.trans hT1) ⟨by decide, by decide⟩ (by have qc0 : (0 : Int32).toInt = 0 := (by decide); have q2 : (0 : Int32).toInt = 0 := (by decide); show (v1 3).toInt + (0 : Int32).toInt ≤ (v1 4).toInt; omega) (KV.up (j := 7) (x := 0) (KV.up (j := 6) (x := (v1 3)) hM_v1 rfl) rfl) hA_f1 hs2_f1 hs3_f1 hs6_f1 (by have q2 : (0 : Int32).toInt = 0 := (by decide); have qc0 : (0 : Int32).toInt = 0 := (by decide); show (2147483647 - (0 : Int32).toInt).toNat < 4294967296 + NF; omega) _ _ _ hP hD hS (lv_sub hl [0, 1, 2] rfl)
            · skip
              subst g19
              refine lv_if_eq (tgt := 137) hx hb dX11_token_75 (by decide) (fun _ => ?_) (fun c0 => absurd (by decide) c0)
              refine lv_iload_n hx hb dX11_token_137 rfl (lv_at hl 1 rfl) ?_
              refine cbSi (n := 1) (rest := []) hx hb hml hown hts hE hP hD hS hA (sY_X11_isDigit_1 NF l dC dI cy y0 r r13 (upd (upd v1 6 (v1 3)) 7 0) f1 0 g1 ⟨(YIb.upd (j := 7) (x := 0) (YIb.upd (j := 6) (x := (v1 3)) hIv1.1 (rlo _) (rhi _)) (rlo _) (rhi _)), hIv1.2⟩ hCf1 hRf1 ) k_1590 k_1591 k_114 k_1592 (by decide +kernel) ⟨Nat.le_of_ble_eq_true rfl, Nat.le_of_ble_eq_true rfl⟩ (rfl) hl.1 rfl (Nat.le_of_ble_eq_true rfl) dX11_token_138 (fun r44 u H locs hw hP hD hS => ?_)
              obtain ⟨hG45, hw⟩ := hw
              rcases hw with ⟨g46, g46_0⟩ | ⟨g46⟩
              · skip
                subst g46
                refine lv_if_eq (tgt := 214) hx hb dX11_token_141 (by decide) (fun c0 => absurd c0 (by decide)) (fun _ => ?_)
                have lp47 : ∀ (n47 : Nat) (l2_47 : Int32) (v47 : Nat → Int32) (f47 : Nat → Nat → Int32) (w47 : Int64) (g47 : Nat → Int64), YI v47 → YC f47 → progOK (f47 4) (f47 5) (v47 9).toInt.toNat → v47 0 = (v 0) → v47 1 = (v 1) → v47 2 = (v 2) → v47 3 = (v1 3) → v47 4 = (v 4) → v47 5 = (v 5) → v47 8 = (v 8) → v47 9 = (v 9) → v47 10 = (v 10) → v47 13 = (v 13) → v47 14 = (v 14) → v47 15 = (v 15) → v47 17 = (v 17) → v47 18 = (v 18) → v47 24 = (v 24) → v47 25 = (v 25) → v47 35 = (v 35) → v47 36 = (v 36) → v47 38 = (v 38) → v47 39 = (v 39) → gsY_X11_token_1_L47 NF v1 n47 l2_47 v47 f47 w47 g47 = (gsY_X11_token_1 NF v f w g) → ((0 : Int) ≤ l2_47.toInt ∧ l2_47.toInt ≤ 1600) → ((v47 3).toInt + l2_47.toInt ≤ (v47 4).toInt) → KV [3, 5, 6, 7] v47 v → KF [] f47 f → f47 2 = (f 2) → f47 3 = (f 3) → f47 6 = (f 6) → (2147483647 - l2_47.toInt).toNat < n47 → ∀ (H : Heap) (locs : List Loc) (ls : Array Slot), va_P (dC, dI) vwCl (YW cy y0 r v47 f47 w47 g47) H → va_D A (YW cy y0 r v47 f47 w47 g47) → va_S A s.heap H locs → lv_has ls 3 [(2, .int l2_47), (1, .int r13), (0, .ref y0)] → W p l e { frames := 2, cells := 0, slots := 0, locals := 81 } s m ([.ref y0] : List Value).toArray below meth c H locs 0 0 Q (F0 m 144 ls []) := by
                  intro n47
                  induction n47 with
                  | zero => intro l2_47 v47 f47 w47 g47 hIv47 hCf47 hRf47 hq0_v47 hq1_v47 hq2_v47 hq3_v47 hq4_v47 hq5_v47 hq8_v47 hq9_v47 hq10_v47 hq13_v47 hq14_v47 hq15_v47 hq17_v47 hq18_v47 hq24_v47 hq25_v47 hq35_v47 hq36_v47 hq38_v47 hq39_v47 hT47 hr2_47 hx0_47 hM_v47 hA_f47 hs2_f47 hs3_f47 hs6_f47 hm; exact absurd hm (Nat.not_lt_zero _)
                  | succ n47 ih47 =>
                    intro l2_47 v47 f47 w47 g47 hIv47 hCf47 hRf47 hq0_v47 hq1_v47 hq2_v47 hq3_v47 hq4_v47 hq5_v47 hq8_v47 hq9_v47 hq10_v47 hq13_v47 hq14_v47 hq15_v47 hq17_v47 hq18_v47 hq24_v47 hq25_v47 hq35_v47 hq36_v47 hq38_v47 hq39_v47 hT47 hr2_47 hx0_47 hM_v47 hA_f47 hs2_f47 hs3_f47 hs6_f47 hm47 H locs ls hP hD hS hl
                    have hUv47 : (v47 35).toInt + (v47 36).toInt ≤ 40 := hIv47.2
                    have zq0_v47 := congrArg Int32.toInt hq0_v47
                    try clear zq0_v1
                    have zq1_v47 := congrArg Int32.toInt hq1_v47
                    try clear zq1_v1
                    have zq3_v47 := congrArg Int32.toInt hq3_v47
                    have zq4_v47 := congrArg Int32.toInt hq4_v47
                    try clear zq4_v1
                    have zq5_v47 := congrArg Int32.toInt hq5_v47
                    try clear zq5_v1
                    have zq8_v47 := congrArg Int32.toInt hq8_v47
                    try clear zq8_v1
                    have zq9_v47 := congrArg Int32.toInt hq9_v47
                    try clear zq9_v1
                    have zq10_v47 := congrArg Int32.toInt hq10_v47
                    try clear zq10_v1
                    have zq13_v47 := congrArg Int32.toInt hq13_v47
                    try clear zq13_v1
                    have zq14_v47 := congrArg Int32.toInt hq14_v47
                    try clear zq14_v1
                    have zq15_v47 := congrArg Int32.toInt hq15_v47
                    try clear zq15_v1
                    have zq17_v47 := congrArg Int32.toInt hq17_v47
                    try clear zq17_v1
                    have zq18_v47 := congrArg Int32.toInt hq18_v47
                    try clear zq18_v1
                    have b3_v47 : 0 ≤ (v47 3).toInt ∧ (v47 3).toInt ≤ 1600 := YIb.b hIv47.1 3 (by decide)
                    have b3_v1 : 0 ≤ (v1 3).toInt ∧ (v1 3).toInt ≤ 1600 := YIb.b hIv1.1 3 (by decide)
                    have b4_v47 : 0 ≤ (v47 4).toInt ∧ (v47 4).toInt ≤ 1600 := YIb.b hIv47.1 4 (by decide)
                    have b4_v : 0 ≤ (v 4).toInt ∧ (v 4).toInt ≤ 1600 := YIb.b hIv.1 4 (by decide)
                    refine lv_aload_n hx hb dX11_token_144 rfl (lv_at hl 2 rfl) ?_
                    refine lv_iload_n hx hb dX11_token_145 rfl (lv_at hl 0 rfl) ?_
                    refine cbVi (n := 1) (rest := []) hx hb hml hown hts hE hP hD hS hA (sY_X11_here_1 NF l dC dI cy y0 r l2_47 v47 f47 w47 g47 hIv47 hCf47 hRf47 ⟨show (0 : Int) ≤ l2_47.toInt by omega, show l2_47.toInt ≤ (1600 : Int) by omega⟩) k_1583 k_1585 k_43 k_114 k_1586 (by decide +kernel) ⟨Nat.le_of_ble_eq_true rfl, Nat.le_of_ble_eq_true rfl⟩ 0 11 rfl rfl (rfl) hl.1 rfl (Nat.le_of_ble_eq_true rfl) dX11_token_146 (fun r48 u H locs hw hP hD hS => ?_)
                    obtain ⟨hG49, hw⟩ := hw
                    have pp50 := hw
                    have pp50 : r48.toInt < 0 ∨ (v47 3).toInt + l2_47.toInt < (v47 4).toInt := pp50
                    refine cbSi (n := 1) (rest := []) hx hb hml hown hts hE hP hD hS hA (sY_X11_isDigit_1 NF l dC dI cy y0 r r48 v47 f47 w47 g47 hIv47 hCf47 hRf47 ) k_1590 k_1591 k_114 k_1592 (by decide +kernel) ⟨Nat.le_of_ble_eq_true rfl, Nat.le_of_ble_eq_true rfl⟩ (rfl) hl.1 rfl (Nat.le_of_ble_eq_true rfl) dX11_token_149 (fun r51 u H locs hw hP hD hS => ?_)
                    obtain ⟨hG52, hw⟩ := hw
                    rcases hw with ⟨g53, g53_0⟩ | ⟨g53⟩
                    · skip
                      subst g53
                      refine lv_if_eq (tgt := 186) hx hb dX11_token_152 (by decide) (fun c0 => absurd c0 (by decide)) (fun _ => ?_)
                      refine lv_iload_n hx hb dX11_token_155 rfl (lv_at hl 0 rfl) ?_
                      refine lv_iconst (v := 4) hx hb dX11_token_156 (by decide) ?_
                      refine lv_icmp_ge (tgt := 180) hx hb dX11_token_157 (by decide) (fun c54 => ?_) (fun c54 => ?_)
                      · skip
                        have zc54 : 4 ≤ l2_47.toInt := by rw [fa_le, show (4 : Int32).toInt = 4 from by decide] at c54; exact c54
                        obtain ⟨t55, et55⟩ : ∃ y : Int32, y = l2_47 + 1 := ⟨_, rfl⟩
                        have rg56 := fb_rng l2_47
                        have zt55 : t55.toInt = l2_47.toInt + 1 := by rw [et55]; exact add_i rfl (by decide) (by omega) (by omega)
                        refine lv_iinc (v := t55) (lv' := [(2, .int t55), (1, .int r13), (0, .ref y0)]) hx hb dX11_token_180 hl (k := 0) rfl (by rw [et55]; rfl) (by decide) rfl (fun ls hl => ?_)
                        refine lv_goto (tgt := 144) hx hb dX11_token_183 (by decide) ?_
                        have rg57 := fb_rng t55
                        exact ih47 t55 v47 f47 w47 g47 hIv47 hCf47 hRf47 hq0_v47 hq1_v47 hq2_v47 hq3_v47 hq4_v47 hq5_v47 hq8_v47 hq9_v47 hq10_v47 hq13_v47 hq14_v47 hq15_v47 hq17_v47 hq18_v47 hq24_v47 hq25_v47 hq35_v47 hq36_v47 hq38_v47 hq39_v47 ((gsY_X11_token_1_q6 hG49.symm hG52 c54 et55).symm.trans hT47) ⟨show (0 : Int) ≤ t55.toInt by omega, show t55.toInt ≤ (1600 : Int) by omega⟩ (by show (v47 3).toInt + t55.toInt ≤ (v47 4).toInt; omega) hM_v47 hA_f47 hs2_f47 hs3_f47 hs6_f47 (by show (2147483647 - t55.toInt).toNat < n47; omega) _ _ _ hP hD hS (lv_sub hl [0, 1, 2] rfl)
                      · skip
                        have zc54 : ¬ (4 ≤ l2_47.toInt) := by rw [fa_le, show (4 : Int32).toInt = 4 from by decide] at c54; exact c54
                        refine lv_aload_n hx hb dX11_token_160 rfl (lv_at hl 2 rfl) ?_
                        refine lv_bipush (v := 10) hx hb dX11_token_161 (by decide) ?_
                        refine lv_aload_n hx hb dX11_token_163 rfl (lv_at hl 2 rfl) ?_
                        refine va_get (D := (dC, dI)) (ci := 11) (v := .int (v47 7)) (C := RX11) (T := TX11) (N := 79) hx hb hts inB_11 hown hE.1 hP 0 rfl rfl 8 (by decide) (hts _ k_1328) (fun _ h9 => h9) rfl dX11_token_164 ?_
                        refine lv_imul hx hb dX11_token_167 ?_
                        refine lv_topi (fun t58 et58 => ?_)
                        refine lv_aload_n hx hb dX11_token_168 rfl (lv_at hl 2 rfl) ?_
                        refine lv_iload_n hx hb dX11_token_169 rfl (lv_at hl 0 rfl) ?_
                        refine cbVi (n := 1) (rest := [.int t58, .ref y0]) hx hb hml hown hts hE hP hD hS hA (sY_X11_here_1 NF l dC dI cy y0 r l2_47 v47 f47 w47 g47 hIv47 hCf47 hRf47 ⟨show (0 : Int) ≤ l2_47.toInt by omega, show l2_47.toInt ≤ (1600 : Int) by omega⟩) k_1583 k_1585 k_43 k_114 k_1586 (by decide +kernel) ⟨Nat.le_of_ble_eq_true rfl, Nat.le_of_ble_eq_true rfl⟩ 0 11 rfl rfl (rfl) hl.1 rfl (Nat.le_of_ble_eq_true rfl) dX11_token_170 (fun r59 u H locs hw hP hD hS => ?_)
                        obtain ⟨hG60, hw⟩ := hw
                        have pp61 := hw
                        have pp61 : r59.toInt < 0 ∨ (v47 3).toInt + l2_47.toInt < (v47 4).toInt := pp61
                        refine lv_iadd hx hb dX11_token_173 ?_
                        refine lv_topi (fun t62 et62 => ?_)
                        refine lv_bipush (v := 48) hx hb dX11_token_174 (by decide) ?_
                        refine lv_isub hx hb dX11_token_176 ?_
                        refine lv_topi (fun t63 et63 => ?_)
                        refine va_put (D := (dC, dI)) (ci := 11) (v := .int t63) (ty := tyX11 8) (C := RX11) (T := TX11) (N := 79) hx hb hts inB_11 tyX11 tyX11_ok nmX11 hown hE.1 hP hD hS 0 rfl rfl 8 (by decide) (hts _ k_1328) (fun _ h9 => h9) rfl (tyX11_ok 8 (by decide)) rfl rfl (Nat.le_of_ble_eq_true rfl) dX11_token_177 (fun H locs hP hD hS => ?_)
                        have hP : va_P (dC, dI) vwCl (YW cy y0 r (upd v47 7 t63) f47 w47 g47) H := hP
                        have hD : va_D A (YW cy y0 r (upd v47 7 t63) f47 w47 g47) := hD
                        obtain ⟨t64, et64⟩ : ∃ y : Int32, y = l2_47 + 1 := ⟨_, rfl⟩
                        have rg65 := fb_rng l2_47
                        have zt64 : t64.toInt = l2_47.toInt + 1 := by rw [et64]; exact add_i rfl (by decide) (by omega) (by omega)
                        refine lv_iinc (v := t64) (lv' := [(2, .int t64), (1, .int r13), (0, .ref y0)]) hx hb dX11_token_180 hl (k := 0) rfl (by rw [et64]; rfl) (by decide) rfl (fun ls hl => ?_)
                        refine lv_goto (tgt := 144) hx hb dX11_token_183 (by decide) ?_
                        have rg66 := fb_rng t64
                        exact ih47 t64 (upd v47 7 t63) f47 w47 g47 ⟨(YIb.upd (j := 7) (x := t63) hIv47.1 (rlo _) (rhi _)), hIv47.2⟩ hCf47 hRf47 hq0_v47 hq1_v47 hq2_v47 hq3_v47 hq4_v47 hq5_v47 hq8_v47 hq9_v47 hq10_v47 hq13_v47 hq14_v47 hq15_v47 hq17_v47 hq18_v47 hq24_v47 hq25_v47 hq35_v47 hq36_v47 hq38_v47 hq39_v47 ((gsY_X11_token_1_q7 hG49.symm hG52 c54 et58 hG60.symm et62 et63 et64).symm.trans hT47) ⟨show (0 : Int) ≤ t64.toInt by omega, show t64.toInt ≤ (1600 : Int) by omega⟩ (by show (v47 3).toInt + t64.toInt ≤ (v47 4).toInt; omega) (KV.up (j := 7) (x := t63) hM_v47 rfl) hA_f47 hs2_f47 hs3_f47 hs6_f47 (by show (2147483647 - t64.toInt).toNat < n47; omega) _ _ _ hP hD hS (lv_sub hl [0, 1, 2] rfl)
                    · skip
                      subst g53
                      refine lv_if_eq (tgt := 186) hx hb dX11_token_152 (by decide) (fun _ => ?_) (fun c0 => absurd (by decide) c0)
                      refine lv_aload_n hx hb dX11_token_186 rfl (lv_at hl 2 rfl) ?_
                      refine lv_iload_n hx hb dX11_token_187 rfl (lv_at hl 0 rfl) ?_
                      refine lv_iconst (v := 4) hx hb dX11_token_188 (by decide) ?_
                      refine lv_icmp_gt (tgt := 203) hx hb dX11_token_189 (by decide) (fun c67 => ?_) (fun c67 => ?_)
                      · skip
                        have zc67 : 4 < l2_47.toInt := by rw [fa_lt, show (4 : Int32).toInt = 4 from by decide] at c67; exact c67
                        refine lv_iconst (v := 3) hx hb dX11_token_203 (by decide) ?_
                        refine lv_goto (tgt := 208) hx hb dX11_token_204 (by decide) ?_
                        refine va_put (D := (dC, dI)) (ci := 11) (v := .int 3) (ty := tyX11 6) (C := RX11) (T := TX11) (N := 79) hx hb hts inB_11 tyX11 tyX11_ok nmX11 hown hE.1 hP hD hS 0 rfl rfl 6 (by decide) (hts _ k_1326) (fun _ h9 => h9) rfl (tyX11_ok 6 (by decide)) rfl rfl (Nat.le_of_ble_eq_true rfl) dX11_token_208 (fun H locs hP hD hS => ?_)
                        have hP : va_P (dC, dI) vwCl (YW cy y0 r (upd v47 5 3) f47 w47 g47) H := hP
                        have hD : va_D A (YW cy y0 r (upd v47 5 3) f47 w47 g47) := hD
                        refine lv_goto (tgt := 232) hx hb dX11_token_211 (by decide) ?_
                        refine lv_aload_n hx hb dX11_token_232 rfl (lv_at hl 2 rfl) ?_
                        refine va_get (D := (dC, dI)) (ci := 11) (v := .int 3) (C := RX11) (T := TX11) (N := 79) hx hb hts inB_11 hown hE.1 hP 0 rfl rfl 6 (by decide) (hts _ k_1326) (fun _ h9 => h9) rfl dX11_token_233 ?_
                        refine lv_iconst (v := 3) hx hb dX11_token_236 (by decide) ?_
                        refine lv_icmp_eq (tgt := 250) hx hb dX11_token_237 (by decide) (fun _ => ?_) (fun c0 => absurd (by decide) c0)
                        exact ret ((upd v47 5 3), f47, w47, g47) _ _ _ _ _ _ ⟨(hT47.symm.trans (gsY_X11_token_1_q8 hG49.symm hG52 c67)), (KV.up (j := 5) (x := 3) hM_v47 rfl), hA_f47, ⟨(YIb.upd (j := 5) (x := 3) hIv47.1 (rlo _) (rhi _)), hIv47.2⟩, hCf47, hRf47, hq0_v47, hq1_v47, hq2_v47, hq4_v47, hq8_v47, hq9_v47, hq10_v47, hq13_v47, hq14_v47, hq15_v47, hq17_v47, hq18_v47, hq24_v47, hq25_v47, hq35_v47, hq36_v47, hq38_v47, hq39_v47, (by have q0 : (3 : Int32).toInt = 3 := (by decide); show (v 3).toInt ≤ (v47 3).toInt; omega), (by have q0 : (3 : Int32).toInt = 3 := (by decide); show (3 : Int32).toInt = (v 5).toInt ∨ (v 3).toInt < (v47 3).toInt ∨ ¬ (3 : Int32).toInt = 59; omega), hs2_f47, hs3_f47, hs6_f47⟩ hP hD hS dX11_token_250 (Nat.le_refl _) (Nat.le_refl _)
                      · skip
                        have zc67 : ¬ (4 < l2_47.toInt) := by rw [fa_lt, show (4 : Int32).toInt = 4 from by decide] at c67; exact c67
                        refine lv_aload_n hx hb dX11_token_192 rfl (lv_at hl 2 rfl) ?_
                        refine lv_iload_n hx hb dX11_token_193 rfl (lv_at hl 0 rfl) ?_
                        refine cbVi (n := 1) (rest := [.ref y0]) hx hb hml hown hts hE hP hD hS hA (sY_X11_here_1 NF l dC dI cy y0 r l2_47 v47 f47 w47 g47 hIv47 hCf47 hRf47 ⟨show (0 : Int) ≤ l2_47.toInt by omega, show l2_47.toInt ≤ (1600 : Int) by omega⟩) k_1583 k_1585 k_43 k_114 k_1586 (by decide +kernel) ⟨Nat.le_of_ble_eq_true rfl, Nat.le_of_ble_eq_true rfl⟩ 0 11 rfl rfl (rfl) hl.1 rfl (Nat.le_of_ble_eq_true rfl) dX11_token_194 (fun r68 u H locs hw hP hD hS => ?_)
                        obtain ⟨hG69, hw⟩ := hw
                        have pp70 := hw
                        have pp70 : r68.toInt < 0 ∨ (v47 3).toInt + l2_47.toInt < (v47 4).toInt := pp70
                        refine cbSi (n := 1) (rest := [.ref y0]) hx hb hml hown hts hE hP hD hS hA (sY_X11_isLetter_1 NF l dC dI cy y0 r r68 v47 f47 w47 g47 hIv47 hCf47 hRf47 ) k_1587 k_1588 k_114 k_1589 (by decide +kernel) ⟨Nat.le_of_ble_eq_true rfl, Nat.le_of_ble_eq_true rfl⟩ (rfl) hl.1 rfl (Nat.le_of_ble_eq_true rfl) dX11_token_197 (fun r71 u H locs hw hP hD hS => ?_)
                        obtain ⟨hG72, hw⟩ := hw
                        rcases hw with ⟨g73, g73_0⟩ | ⟨g73⟩
                        · skip
                          subst g73
                          refine lv_if_eq (tgt := 207) hx hb dX11_token_200 (by decide) (fun c0 => absurd c0 (by decide)) (fun _ => ?_)
                          refine lv_iconst (v := 3) hx hb dX11_token_203 (by decide) ?_
                          refine lv_goto (tgt := 208) hx hb dX11_token_204 (by decide) ?_
                          refine va_put (D := (dC, dI)) (ci := 11) (v := .int 3) (ty := tyX11 6) (C := RX11) (T := TX11) (N := 79) hx hb hts inB_11 tyX11 tyX11_ok nmX11 hown hE.1 hP hD hS 0 rfl rfl 6 (by decide) (hts _ k_1326) (fun _ h9 => h9) rfl (tyX11_ok 6 (by decide)) rfl rfl (Nat.le_of_ble_eq_true rfl) dX11_token_208 (fun H locs hP hD hS => ?_)
                          have hP : va_P (dC, dI) vwCl (YW cy y0 r (upd v47 5 3) f47 w47 g47) H := hP
                          have hD : va_D A (YW cy y0 r (upd v47 5 3) f47 w47 g47) := hD
                          refine lv_goto (tgt := 232) hx hb dX11_token_211 (by decide) ?_
                          refine lv_aload_n hx hb dX11_token_232 rfl (lv_at hl 2 rfl) ?_
                          refine va_get (D := (dC, dI)) (ci := 11) (v := .int 3) (C := RX11) (T := TX11) (N := 79) hx hb hts inB_11 hown hE.1 hP 0 rfl rfl 6 (by decide) (hts _ k_1326) (fun _ h9 => h9) rfl dX11_token_233 ?_
                          refine lv_iconst (v := 3) hx hb dX11_token_236 (by decide) ?_
                          refine lv_icmp_eq (tgt := 250) hx hb dX11_token_237 (by decide) (fun _ => ?_) (fun c0 => absurd (by decide) c0)
                          exact ret ((upd v47 5 3), f47, w47, g47) _ _ _ _ _ _ ⟨(hT47.symm.trans (gsY_X11_token_1_q9 hG49.symm hG52 c67 hG69.symm hG72)), (KV.up (j := 5) (x := 3) hM_v47 rfl), hA_f47, ⟨(YIb.upd (j := 5) (x := 3) hIv47.1 (rlo _) (rhi _)), hIv47.2⟩, hCf47, hRf47, hq0_v47, hq1_v47, hq2_v47, hq4_v47, hq8_v47, hq9_v47, hq10_v47, hq13_v47, hq14_v47, hq15_v47, hq17_v47, hq18_v47, hq24_v47, hq25_v47, hq35_v47, hq36_v47, hq38_v47, hq39_v47, (by have q0 : (3 : Int32).toInt = 3 := (by decide); show (v 3).toInt ≤ (v47 3).toInt; omega), (by have q0 : (3 : Int32).toInt = 3 := (by decide); show (3 : Int32).toInt = (v 5).toInt ∨ (v 3).toInt < (v47 3).toInt ∨ ¬ (3 : Int32).toInt = 59; omega), hs2_f47, hs3_f47, hs6_f47⟩ hP hD hS dX11_token_250 (Nat.le_refl _) (Nat.le_refl _)
                        · skip
                          subst g73
                          refine lv_if_eq (tgt := 207) hx hb dX11_token_200 (by decide) (fun _ => ?_) (fun c0 => absurd (by decide) c0)
                          refine lv_iconst (v := 2) hx hb dX11_token_207 (by decide) ?_
                          refine va_put (D := (dC, dI)) (ci := 11) (v := .int 2) (ty := tyX11 6) (C := RX11) (T := TX11) (N := 79) hx hb hts inB_11 tyX11 tyX11_ok nmX11 hown hE.1 hP hD hS 0 rfl rfl 6 (by decide) (hts _ k_1326) (fun _ h9 => h9) rfl (tyX11_ok 6 (by decide)) rfl rfl (Nat.le_of_ble_eq_true rfl) dX11_token_208 (fun H locs hP hD hS => ?_)
                          have hP : va_P (dC, dI) vwCl (YW cy y0 r (upd v47 5 2) f47 w47 g47) H := hP
                          have hD : va_D A (YW cy y0 r (upd v47 5 2) f47 w47 g47) := hD
                          refine lv_goto (tgt := 232) hx hb dX11_token_211 (by decide) ?_
                          refine lv_aload_n hx hb dX11_token_232 rfl (lv_at hl 2 rfl) ?_
                          refine va_get (D := (dC, dI)) (ci := 11) (v := .int 2) (C := RX11) (T := TX11) (N := 79) hx hb hts inB_11 hown hE.1 hP 0 rfl rfl 6 (by decide) (hts _ k_1326) (fun _ h9 => h9) rfl dX11_token_233 ?_
                          refine lv_iconst (v := 3) hx hb dX11_token_236 (by decide) ?_
                          refine lv_icmp_eq (tgt := 250) hx hb dX11_token_237 (by decide) (fun c0 => absurd c0 (by decide)) (fun _ => ?_)
                          refine lv_aload_n hx hb dX11_token_240 rfl (lv_at hl 2 rfl) ?_
                          refine lv_dup hx hb dX11_token_241 rfl ?_
                          refine va_get (D := (dC, dI)) (ci := 11) (v := .int (v47 3)) (C := RX11) (T := TX11) (N := 79) hx hb hts inB_11 hown hE.1 hP 0 rfl rfl 4 (by decide) (hts _ k_1324) (fun _ h9 => h9) rfl dX11_token_242 ?_
                          refine tI (y := (v1 3)) hq3_v47 ?_
                          refine lv_iload_n hx hb dX11_token_245 rfl (lv_at hl 0 rfl) ?_
                          refine lv_iadd hx hb dX11_token_246 ?_
                          refine lv_topi (fun t74 et74 => ?_)
                          have rg75 := fb_rng (v1 3)
                          have rg76 := fb_rng l2_47
                          have zt74 : t74.toInt = (v1 3).toInt + l2_47.toInt := by rw [et74]; exact add_i rfl rfl (by omega) (by omega)
                          refine va_put (D := (dC, dI)) (ci := 11) (v := .int t74) (ty := tyX11 4) (C := RX11) (T := TX11) (N := 79) hx hb hts inB_11 tyX11 tyX11_ok nmX11 hown hE.1 hP hD hS 0 rfl rfl 4 (by decide) (hts _ k_1324) (fun _ h9 => h9) rfl (tyX11_ok 4 (by decide)) rfl rfl (Nat.le_of_ble_eq_true rfl) dX11_token_247 (fun H locs hP hD hS => ?_)
                          have hP : va_P (dC, dI) vwCl (YW cy y0 r (upd (upd v47 5 2) 3 t74) f47 w47 g47) H := hP
                          have hD : va_D A (YW cy y0 r (upd (upd v47 5 2) 3 t74) f47 w47 g47) := hD
                          exact ret ((upd (upd v47 5 2) 3 t74), f47, w47, g47) _ _ _ _ _ _ ⟨(hT47.symm.trans (gsY_X11_token_1_q10 hG49.symm hG52 c67 hG69.symm hG72 et74)), (KV.up (j := 3) (x := t74) (KV.up (j := 5) (x := 2) hM_v47 rfl) rfl), hA_f47, ⟨(YIb.upd (j := 3) (x := t74) (YIb.upd (j := 5) (x := 2) hIv47.1 (rlo _) (rhi _)) (show (0 : Int) ≤ t74.toInt by omega) (show t74.toInt ≤ (1600 : Int) by omega)), hIv47.2⟩, hCf47, hRf47, hq0_v47, hq1_v47, hq2_v47, hq4_v47, hq8_v47, hq9_v47, hq10_v47, hq13_v47, hq14_v47, hq15_v47, hq17_v47, hq18_v47, hq24_v47, hq25_v47, hq35_v47, hq36_v47, hq38_v47, hq39_v47, (by have q0 : (2 : Int32).toInt = 2 := (by decide); show (v 3).toInt ≤ t74.toInt; omega), (by have q0 : (2 : Int32).toInt = 2 := (by decide); show (2 : Int32).toInt = (v 5).toInt ∨ (v 3).toInt < t74.toInt ∨ ¬ (2 : Int32).toInt = 59; omega), hs2_f47, hs3_f47, hs6_f47⟩ hP hD hS dX11_token_250 (Nat.le_refl _) (Nat.le_refl _)
                exact lp47 (4294967296 + NF) 0 (upd (upd v1 6 (v1 3)) 7 0) f1 0 g1 ⟨(YIb.upd (j := 7) (x := 0) (YIb.upd (j := 6) (x := (v1 3)) hIv1.1 (rlo _) (rhi _)) (rlo _) (rhi _)), hIv1.2⟩ hCf1 hRf1 hq0_v1 hq1_v1 hq2_v1 rfl hq4_v1 hq5_v1 hq8_v1 hq9_v1 hq10_v1 hq13_v1 hq14_v1 hq15_v1 hq17_v1 hq18_v1 hq24_v1 hq25_v1 hq35_v1 hq36_v1 hq38_v1 hq39_v1 ((gsY_X11_token_1_q11 hG4.symm c6 hG10.symm c12 hG14.symm c16 hG18 hG45).symm.trans hT1) ⟨by decide, by decide⟩ (by have qc0 : (0 : Int32).toInt = 0 := (by decide); have q2 : (0 : Int32).toInt = 0 := (by decide); show (v1 3).toInt + (0 : Int32).toInt ≤ (v1 4).toInt; omega) (KV.up (j := 7) (x := 0) (KV.up (j := 6) (x := (v1 3)) hM_v1 rfl) rfl) hA_f1 hs2_f1 hs3_f1 hs6_f1 (by have q2 : (0 : Int32).toInt = 0 := (by decide); have qc0 : (0 : Int32).toInt = 0 := (by decide); show (2147483647 - (0 : Int32).toInt).toNat < 4294967296 + NF; omega) _ _ _ hP hD hS (lv_sub hl [0, 1, 2] rfl)
              · skip
                subst g46
                refine lv_if_eq (tgt := 214) hx hb dX11_token_141 (by decide) (fun _ => ?_) (fun c0 => absurd (by decide) c0)
                refine lv_iconst (v := 1) hx hb dX11_token_214 (by decide) ?_
                refine lv_istore_n (lv' := [(2, .int 1), (1, .int r13), (0, .ref y0)]) hx hb dX11_token_215 rfl hl (by decide) rfl (fun ls hl => ?_)
                refine lv_aload_n hx hb dX11_token_216 rfl (lv_at hl 2 rfl) ?_
                refine lv_iload_n hx hb dX11_token_217 rfl (lv_at hl 1 rfl) ?_
                refine cbSi (n := 1) (rest := [.ref y0]) hx hb hml hown hts hE hP hD hS hA (sY_X11_isSign_1 NF l dC dI cy y0 r r13 (upd (upd v1 6 (v1 3)) 7 0) f1 0 g1 ⟨(YIb.upd (j := 7) (x := 0) (YIb.upd (j := 6) (x := (v1 3)) hIv1.1 (rlo _) (rhi _)) (rlo _) (rhi _)), hIv1.2⟩ hCf1 hRf1 ) k_1593 k_1594 k_114 k_1595 (by decide +kernel) ⟨Nat.le_of_ble_eq_true rfl, Nat.le_of_ble_eq_true rfl⟩ (rfl) hl.1 rfl (Nat.le_of_ble_eq_true rfl) dX11_token_218 (fun r77 u H locs hw hP hD hS => ?_)
                obtain ⟨hG78, hw⟩ := hw
                rcases hw with ⟨g79⟩ | ⟨g79⟩
                · skip
                  subst g79
                  refine lv_if_eq (tgt := 228) hx hb dX11_token_221 (by decide) (fun c0 => absurd c0 (by decide)) (fun _ => ?_)
                  refine lv_iload_n hx hb dX11_token_224 rfl (lv_at hl 1 rfl) ?_
                  refine lv_goto (tgt := 229) hx hb dX11_token_225 (by decide) ?_
                  refine va_put (D := (dC, dI)) (ci := 11) (v := .int r13) (ty := tyX11 6) (C := RX11) (T := TX11) (N := 79) hx hb hts inB_11 tyX11 tyX11_ok nmX11 hown hE.1 hP hD hS 0 rfl rfl 6 (by decide) (hts _ k_1326) (fun _ h9 => h9) rfl (tyX11_ok 6 (by decide)) rfl rfl (Nat.le_of_ble_eq_true rfl) dX11_token_229 (fun H locs hP hD hS => ?_)
                  have hP : va_P (dC, dI) vwCl (YW cy y0 r (upd (upd (upd v1 6 (v1 3)) 7 0) 5 r13) f1 0 g1) H := hP
                  have hD : va_D A (YW cy y0 r (upd (upd (upd v1 6 (v1 3)) 7 0) 5 r13) f1 0 g1) := hD
                  refine lv_aload_n hx hb dX11_token_232 rfl (lv_at hl 2 rfl) ?_
                  refine va_get (D := (dC, dI)) (ci := 11) (v := .int r13) (C := RX11) (T := TX11) (N := 79) hx hb hts inB_11 hown hE.1 hP 0 rfl rfl 6 (by decide) (hts _ k_1326) (fun _ h9 => h9) rfl dX11_token_233 ?_
                  refine lv_iconst (v := 3) hx hb dX11_token_236 (by decide) ?_
                  refine lv_icmp_eq (tgt := 250) hx hb dX11_token_237 (by decide) (fun c80 => ?_) (fun c80 => ?_)
                  · skip
                    have zc80 : r13.toInt = 3 := by rw [fa_eq, show (3 : Int32).toInt = 3 from by decide] at c80; exact c80
                    exact ret ((upd (upd (upd v1 6 (v1 3)) 7 0) 5 r13), f1, 0, g1) _ _ _ _ _ _ ⟨(hT1.symm.trans (gsY_X11_token_1_q12 hG4.symm c6 hG10.symm c12 hG14.symm c16 hG18 hG45 hG78 c80)), (KV.up (j := 5) (x := r13) (KV.up (j := 7) (x := 0) (KV.up (j := 6) (x := (v1 3)) hM_v1 rfl) rfl) rfl), hA_f1, ⟨(YIb.upd (j := 5) (x := r13) (YIb.upd (j := 7) (x := 0) (YIb.upd (j := 6) (x := (v1 3)) hIv1.1 (rlo _) (rhi _)) (rlo _) (rhi _)) (rlo _) (rhi _)), hIv1.2⟩, hCf1, hRf1, (show v1 0 = v 0 from hq0_v1), (show v1 1 = v 1 from hq1_v1), (show v1 2 = v 2 from hq2_v1), (show v1 4 = v 4 from hq4_v1), (show v1 8 = v 8 from hq8_v1), (show v1 9 = v 9 from hq9_v1), (show v1 10 = v 10 from hq10_v1), (show v1 13 = v 13 from hq13_v1), (show v1 14 = v 14 from hq14_v1), (show v1 15 = v 15 from hq15_v1), (show v1 17 = v 17 from hq17_v1), (show v1 18 = v 18 from hq18_v1), (show v1 24 = v 24 from hq24_v1), (show v1 25 = v 25 from hq25_v1), (show v1 35 = v 35 from hq35_v1), (show v1 36 = v 36 from hq36_v1), (show v1 38 = v 38 from hq38_v1), (show v1 39 = v 39 from hq39_v1), (by have q0 : (0 : Int32).toInt = 0 := (by decide); show (v 3).toInt ≤ (v1 3).toInt; omega), (by have q0 : (0 : Int32).toInt = 0 := (by decide); show r13.toInt = (v 5).toInt ∨ (v 3).toInt < (v1 3).toInt ∨ ¬ r13.toInt = 59; omega), hs2_f1, hs3_f1, hs6_f1⟩ hP hD hS dX11_token_250 (Nat.le_refl _) (Nat.le_refl _)
                  · skip
                    have zc80 : ¬ (r13.toInt = 3) := by rw [fa_eq, show (3 : Int32).toInt = 3 from by decide] at c80; exact c80
                    refine lv_aload_n hx hb dX11_token_240 rfl (lv_at hl 2 rfl) ?_
                    refine lv_dup hx hb dX11_token_241 rfl ?_
                    refine va_get (D := (dC, dI)) (ci := 11) (v := .int (v1 3)) (C := RX11) (T := TX11) (N := 79) hx hb hts inB_11 hown hE.1 hP 0 rfl rfl 4 (by decide) (hts _ k_1324) (fun _ h9 => h9) rfl dX11_token_242 ?_
                    refine lv_iload_n hx hb dX11_token_245 rfl (lv_at hl 0 rfl) ?_
                    refine lv_iadd hx hb dX11_token_246 ?_
                    refine lv_topi (fun t81 et81 => ?_)
                    have rg82 := fb_rng (v1 3)
                    have zt81 : t81.toInt = (v1 3).toInt + 1 := by rw [et81]; exact add_i rfl (by decide) (by omega) (by omega)
                    refine va_put (D := (dC, dI)) (ci := 11) (v := .int t81) (ty := tyX11 4) (C := RX11) (T := TX11) (N := 79) hx hb hts inB_11 tyX11 tyX11_ok nmX11 hown hE.1 hP hD hS 0 rfl rfl 4 (by decide) (hts _ k_1324) (fun _ h9 => h9) rfl (tyX11_ok 4 (by decide)) rfl rfl (Nat.le_of_ble_eq_true rfl) dX11_token_247 (fun H locs hP hD hS => ?_)
                    have hP : va_P (dC, dI) vwCl (YW cy y0 r (upd (upd (upd (upd v1 6 (v1 3)) 7 0) 5 r13) 3 t81) f1 0 g1) H := hP
                    have hD : va_D A (YW cy y0 r (upd (upd (upd (upd v1 6 (v1 3)) 7 0) 5 r13) 3 t81) f1 0 g1) := hD
                    exact ret ((upd (upd (upd (upd v1 6 (v1 3)) 7 0) 5 r13) 3 t81), f1, 0, g1) _ _ _ _ _ _ ⟨(hT1.symm.trans (gsY_X11_token_1_q13 hG4.symm c6 hG10.symm c12 hG14.symm c16 hG18 hG45 hG78 c80 et81)), (KV.up (j := 3) (x := t81) (KV.up (j := 5) (x := r13) (KV.up (j := 7) (x := 0) (KV.up (j := 6) (x := (v1 3)) hM_v1 rfl) rfl) rfl) rfl), hA_f1, ⟨(YIb.upd (j := 3) (x := t81) (YIb.upd (j := 5) (x := r13) (YIb.upd (j := 7) (x := 0) (YIb.upd (j := 6) (x := (v1 3)) hIv1.1 (rlo _) (rhi _)) (rlo _) (rhi _)) (rlo _) (rhi _)) (show (0 : Int) ≤ t81.toInt by omega) (show t81.toInt ≤ (1600 : Int) by omega)), hIv1.2⟩, hCf1, hRf1, (show v1 0 = v 0 from hq0_v1), (show v1 1 = v 1 from hq1_v1), (show v1 2 = v 2 from hq2_v1), (show v1 4 = v 4 from hq4_v1), (show v1 8 = v 8 from hq8_v1), (show v1 9 = v 9 from hq9_v1), (show v1 10 = v 10 from hq10_v1), (show v1 13 = v 13 from hq13_v1), (show v1 14 = v 14 from hq14_v1), (show v1 15 = v 15 from hq15_v1), (show v1 17 = v 17 from hq17_v1), (show v1 18 = v 18 from hq18_v1), (show v1 24 = v 24 from hq24_v1), (show v1 25 = v 25 from hq25_v1), (show v1 35 = v 35 from hq35_v1), (show v1 36 = v 36 from hq36_v1), (show v1 38 = v 38 from hq38_v1), (show v1 39 = v 39 from hq39_v1), (by have q0 : (0 : Int32).toInt = 0 := (by decide); show (v 3).toInt ≤ t81.toInt; omega), (by have q0 : (0 : Int32).toInt = 0 := (by decide); show r13.toInt = (v 5).toInt ∨ (v 3).toInt < t81.toInt ∨ ¬ r13.toInt = 59; omega), hs2_f1, hs3_f1, hs6_f1⟩ hP hD hS dX11_token_250 (Nat.le_refl _) (Nat.le_refl _)
                · skip
                  subst g79
                  refine lv_if_eq (tgt := 228) hx hb dX11_token_221 (by decide) (fun _ => ?_) (fun c0 => absurd (by decide) c0)
                  refine lv_iconst (v := 3) hx hb dX11_token_228 (by decide) ?_
                  refine va_put (D := (dC, dI)) (ci := 11) (v := .int 3) (ty := tyX11 6) (C := RX11) (T := TX11) (N := 79) hx hb hts inB_11 tyX11 tyX11_ok nmX11 hown hE.1 hP hD hS 0 rfl rfl 6 (by decide) (hts _ k_1326) (fun _ h9 => h9) rfl (tyX11_ok 6 (by decide)) rfl rfl (Nat.le_of_ble_eq_true rfl) dX11_token_229 (fun H locs hP hD hS => ?_)
                  have hP : va_P (dC, dI) vwCl (YW cy y0 r (upd (upd (upd v1 6 (v1 3)) 7 0) 5 3) f1 0 g1) H := hP
                  have hD : va_D A (YW cy y0 r (upd (upd (upd v1 6 (v1 3)) 7 0) 5 3) f1 0 g1) := hD
                  refine lv_aload_n hx hb dX11_token_232 rfl (lv_at hl 2 rfl) ?_
                  refine va_get (D := (dC, dI)) (ci := 11) (v := .int 3) (C := RX11) (T := TX11) (N := 79) hx hb hts inB_11 hown hE.1 hP 0 rfl rfl 6 (by decide) (hts _ k_1326) (fun _ h9 => h9) rfl dX11_token_233 ?_
                  refine lv_iconst (v := 3) hx hb dX11_token_236 (by decide) ?_
                  refine lv_icmp_eq (tgt := 250) hx hb dX11_token_237 (by decide) (fun _ => ?_) (fun c0 => absurd (by decide) c0)
                  exact ret ((upd (upd (upd v1 6 (v1 3)) 7 0) 5 3), f1, 0, g1) _ _ _ _ _ _ ⟨(hT1.symm.trans (gsY_X11_token_1_q14 hG4.symm c6 hG10.symm c12 hG14.symm c16 hG18 hG45 hG78)), (KV.up (j := 5) (x := 3) (KV.up (j := 7) (x := 0) (KV.up (j := 6) (x := (v1 3)) hM_v1 rfl) rfl) rfl), hA_f1, ⟨(YIb.upd (j := 5) (x := 3) (YIb.upd (j := 7) (x := 0) (YIb.upd (j := 6) (x := (v1 3)) hIv1.1 (rlo _) (rhi _)) (rlo _) (rhi _)) (rlo _) (rhi _)), hIv1.2⟩, hCf1, hRf1, (show v1 0 = v 0 from hq0_v1), (show v1 1 = v 1 from hq1_v1), (show v1 2 = v 2 from hq2_v1), (show v1 4 = v 4 from hq4_v1), (show v1 8 = v 8 from hq8_v1), (show v1 9 = v 9 from hq9_v1), (show v1 10 = v 10 from hq10_v1), (show v1 13 = v 13 from hq13_v1), (show v1 14 = v 14 from hq14_v1), (show v1 15 = v 15 from hq15_v1), (show v1 17 = v 17 from hq17_v1), (show v1 18 = v 18 from hq18_v1), (show v1 24 = v 24 from hq24_v1), (show v1 25 = v 25 from hq25_v1), (show v1 35 = v 35 from hq35_v1), (show v1 36 = v 36 from hq36_v1), (show v1 38 = v 38 from hq38_v1), (show v1 39 = v 39 from hq39_v1), (by have q0 : (0 : Int32).toInt = 0 := (by decide); have q1 : (3 : Int32).toInt = 3 := (by decide); show (v 3).toInt ≤ (v1 3).toInt; omega), (by have q0 : (0 : Int32).toInt = 0 := (by decide); have q1 : (3 : Int32).toInt = 3 := (by decide); show (3 : Int32).toInt = (v 5).toInt ∨ (v 3).toInt < (v1 3).toInt ∨ ¬ (3 : Int32).toInt = 59; omega), hs2_f1, hs3_f1, hs6_f1⟩ hP hD hS dX11_token_250 (Nat.le_refl _) (Nat.le_refl _)
          · skip
            have zc16 : ¬ (0 ≤ r13.toInt) := by rw [fa_le, show (0 : Int32).toInt = 0 from by decide] at c16; exact c16
            refine lv_aload_n hx hb dX11_token_63 rfl (lv_at hl 2 rfl) ?_
            refine lv_iconst (v := 0) hx hb dX11_token_64 (by decide) ?_
            refine va_put (D := (dC, dI)) (ci := 11) (v := .int 0) (ty := tyX11 6) (C := RX11) (T := TX11) (N := 79) hx hb hts inB_11 tyX11 tyX11_ok nmX11 hown hE.1 hP hD hS 0 rfl rfl 6 (by decide) (hts _ k_1326) (fun _ h9 => h9) rfl (tyX11_ok 6 (by decide)) rfl rfl (Nat.le_of_ble_eq_true rfl) dX11_token_65 (fun H locs hP hD hS => ?_)
            have hP : va_P (dC, dI) vwCl (YW cy y0 r (upd (upd (upd v1 6 (v1 3)) 7 0) 5 0) f1 0 g1) H := hP
            have hD : va_D A (YW cy y0 r (upd (upd (upd v1 6 (v1 3)) 7 0) 5 0) f1 0 g1) := hD
            refine lv_goto (tgt := 232) hx hb dX11_token_68 (by decide) ?_
            refine lv_aload_n hx hb dX11_token_232 rfl (lv_at hl 2 rfl) ?_
            refine va_get (D := (dC, dI)) (ci := 11) (v := .int 0) (C := RX11) (T := TX11) (N := 79) hx hb hts inB_11 hown hE.1 hP 0 rfl rfl 6 (by decide) (hts _ k_1326) (fun _ h9 => h9) rfl dX11_token_233 ?_
            refine lv_iconst (v := 3) hx hb dX11_token_236 (by decide) ?_
            refine lv_icmp_eq (tgt := 250) hx hb dX11_token_237 (by decide) (fun c0 => absurd c0 (by decide)) (fun _ => ?_)
            refine lv_aload_n hx hb dX11_token_240 rfl (lv_at hl 2 rfl) ?_
            refine lv_dup hx hb dX11_token_241 rfl ?_
            refine va_get (D := (dC, dI)) (ci := 11) (v := .int (v1 3)) (C := RX11) (T := TX11) (N := 79) hx hb hts inB_11 hown hE.1 hP 0 rfl rfl 4 (by decide) (hts _ k_1324) (fun _ h9 => h9) rfl dX11_token_242 ?_
            refine lv_iload_n hx hb dX11_token_245 rfl (lv_at hl 0 rfl) ?_
            refine lv_iadd hx hb dX11_token_246 ?_
            refine lv_topi (fun t83 et83 => ?_)
            have rg84 := fb_rng (v1 3)
            have zt83 : t83.toInt = (v1 3).toInt + 0 := by rw [et83]; exact add_i rfl (by decide) (by omega) (by omega)
            refine va_put (D := (dC, dI)) (ci := 11) (v := .int t83) (ty := tyX11 4) (C := RX11) (T := TX11) (N := 79) hx hb hts inB_11 tyX11 tyX11_ok nmX11 hown hE.1 hP hD hS 0 rfl rfl 4 (by decide) (hts _ k_1324) (fun _ h9 => h9) rfl (tyX11_ok 4 (by decide)) rfl rfl (Nat.le_of_ble_eq_true rfl) dX11_token_247 (fun H locs hP hD hS => ?_)
            have hP : va_P (dC, dI) vwCl (YW cy y0 r (upd (upd (upd (upd v1 6 (v1 3)) 7 0) 5 0) 3 t83) f1 0 g1) H := hP
            have hD : va_D A (YW cy y0 r (upd (upd (upd (upd v1 6 (v1 3)) 7 0) 5 0) 3 t83) f1 0 g1) := hD
            exact ret ((upd (upd (upd (upd v1 6 (v1 3)) 7 0) 5 0) 3 t83), f1, 0, g1) _ _ _ _ _ _ ⟨(hT1.symm.trans (gsY_X11_token_1_q15 hG4.symm c6 hG10.symm c12 hG14.symm c16 et83)), (KV.up (j := 3) (x := t83) (KV.up (j := 5) (x := 0) (KV.up (j := 7) (x := 0) (KV.up (j := 6) (x := (v1 3)) hM_v1 rfl) rfl) rfl) rfl), hA_f1, ⟨(YIb.upd (j := 3) (x := t83) (YIb.upd (j := 5) (x := 0) (YIb.upd (j := 7) (x := 0) (YIb.upd (j := 6) (x := (v1 3)) hIv1.1 (rlo _) (rhi _)) (rlo _) (rhi _)) (rlo _) (rhi _)) (show (0 : Int) ≤ t83.toInt by omega) (show t83.toInt ≤ (1600 : Int) by omega)), hIv1.2⟩, hCf1, hRf1, (show v1 0 = v 0 from hq0_v1), (show v1 1 = v 1 from hq1_v1), (show v1 2 = v 2 from hq2_v1), (show v1 4 = v 4 from hq4_v1), (show v1 8 = v 8 from hq8_v1), (show v1 9 = v 9 from hq9_v1), (show v1 10 = v 10 from hq10_v1), (show v1 13 = v 13 from hq13_v1), (show v1 14 = v 14 from hq14_v1), (show v1 15 = v 15 from hq15_v1), (show v1 17 = v 17 from hq17_v1), (show v1 18 = v 18 from hq18_v1), (show v1 24 = v 24 from hq24_v1), (show v1 25 = v 25 from hq25_v1), (show v1 35 = v 35 from hq35_v1), (show v1 36 = v 36 from hq36_v1), (show v1 38 = v 38 from hq38_v1), (show v1 39 = v 39 from hq39_v1), (by have q0 : (0 : Int32).toInt = 0 := (by decide); show (v 3).toInt ≤ t83.toInt; omega), (by have q0 : (0 : Int32).toInt = 0 := (by decide); show (0 : Int32).toInt = (v 5).toInt ∨ (v 3).toInt < t83.toInt ∨ ¬ (0 : Int32).toInt = 59; omega), hs2_f1, hs3_f1, hs6_f1⟩ hP hD hS dX11_token_250 (Nat.le_refl _) (Nat.le_refl _)
        · skip
          have zc12 : r9.toInt = 10 := by rw [fa_eq, show (10 : Int32).toInt = 10 from by decide] at c12; exact c12
          refine lv_aload_n hx hb dX11_token_20 rfl (lv_at hl 0 rfl) ?_
          refine lv_dup hx hb dX11_token_21 rfl ?_
          refine va_get (D := (dC, dI)) (ci := 11) (v := .int (v1 3)) (C := RX11) (T := TX11) (N := 79) hx hb hts inB_11 hown hE.1 hP 0 rfl rfl 4 (by decide) (hts _ k_1324) (fun _ h9 => h9) rfl dX11_token_22 ?_
          refine lv_iconst (v := 1) hx hb dX11_token_25 (by decide) ?_
          refine lv_iadd hx hb dX11_token_26 ?_
          refine lv_topi (fun t85 et85 => ?_)
          have rg86 := fb_rng (v1 3)
          have zt85 : t85.toInt = (v1 3).toInt + 1 := by rw [et85]; exact add_i rfl (by decide) (by omega) (by omega)
          refine va_put (D := (dC, dI)) (ci := 11) (v := .int t85) (ty := tyX11 4) (C := RX11) (T := TX11) (N := 79) hx hb hts inB_11 tyX11 tyX11_ok nmX11 hown hE.1 hP hD hS 0 rfl rfl 4 (by decide) (hts _ k_1324) (fun _ h9 => h9) rfl (tyX11_ok 4 (by decide)) rfl rfl (Nat.le_of_ble_eq_true rfl) dX11_token_27 (fun H locs hP hD hS => ?_)
          have hP : va_P (dC, dI) vwCl (YW cy y0 r (upd v1 3 t85) f1 w1 g1) H := hP
          have hD : va_D A (YW cy y0 r (upd v1 3 t85) f1 w1 g1) := hD
          refine lv_goto (tgt := 0) hx hb dX11_token_30 (by decide) ?_
          exact ih1  (upd v1 3 t85) f1 w1 g1 ⟨(YIb.upd (j := 3) (x := t85) hIv1.1 (show (0 : Int) ≤ t85.toInt by omega) (show t85.toInt ≤ (1600 : Int) by omega)), hIv1.2⟩ hCf1 hRf1 hq0_v1 hq1_v1 hq2_v1 hq4_v1 hq5_v1 hq8_v1 hq9_v1 hq10_v1 hq13_v1 hq14_v1 hq15_v1 hq17_v1 hq18_v1 hq24_v1 hq25_v1 hq35_v1 hq36_v1 hq38_v1 hq39_v1 ((gsY_X11_token_1_q16 hG4.symm c6 hG10.symm c12 et85).symm.trans hT1) (by show (v 3).toInt ≤ t85.toInt; omega) (KV.up (j := 3) (x := t85) hM_v1 rfl) hA_f1 hs2_f1 hs3_f1 hs6_f1 (by show (1600 - t85.toInt).toNat < n1; omega) _ _ _ hP hD hS (lv_sub hl [0] rfl)
  exact lp1 (4294967296 + NF)  v f w g hIv hCf hRf rfl rfl rfl rfl rfl rfl rfl rfl rfl rfl rfl rfl rfl rfl rfl rfl rfl rfl rfl gsY_X11_token_1_q17.symm (by show (v 3).toInt ≤ (v 3).toInt; omega) hM_v hA_f rfl rfl rfl (by have qr0 := fb_rng (v 3); show (1600 - (v 3).toInt).toNat < 4294967296 + NF; omega) _ _ _ hP hD hS (lv_sub hl [0] rfl)
