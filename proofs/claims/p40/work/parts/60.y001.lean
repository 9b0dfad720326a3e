set_option maxHeartbeats 4000000 in
set_option maxRecDepth 100000 in
theorem sY_X11_token_1 (NF : Nat) (l : Launch) (dC : Nat → ClassId) (dI : Nat → Nat → Nat) (cy : Nat → ClassId) (y0 : Nat) (r : Nat → Nat)  (v : Nat → Int32) (f : Nat → Nat → Int32) (w : Int64) (g : Nat → Int64) (hIv : YI v) (hCf : YC f) (hRf : progOK (f 4) (f 5) (v 9).toInt.toNat)  : ctV l (dC, dI) cy yX11_token cX11_token 3 2 81 0 0 ((Nat → Int32) × (Nat → Nat → Int32) × (Int64) × (Nat → Int64)) [.ref y0] (YW cy y0 r v f w g) (fun u => gsY_X11_token_1 NF v f w g = u ∧ KV [3, 5, 6, 7] u.1 v ∧ KF [] u.2.1 f ∧ YI u.1 ∧ YC u.2.1 ∧ progOK (u.2.1 4) (u.2.1 5) (u.1 9).toInt.toNat ∧ u.1 0 = v 0 ∧ u.1 1 = v 1 ∧ u.1 2 = v 2 ∧ u.1 4 = v 4 ∧ u.1 8 = v 8 ∧ u.1 9 = v 9 ∧ u.1 10 = v 10 ∧ u.1 13 = v 13 ∧ u.1 14 = v 14 ∧ u.1 15 = v 15 ∧ u.1 17 = v 17 ∧ u.1 18 = v 18 ∧ u.1 24 = v 24 ∧ u.1 25 = v 25 ∧ u.1 35 = v 35 ∧ u.1 36 = v 36 ∧ u.1 38 = v 38 ∧ u.1 39 = v 39 ∧ ((v 3).toInt ≤ (u.1 3).toInt) ∧ ((u.1 5).toInt = (v 5).toInt ∨ (v 3).toInt < (u.1 3).toInt ∨ ¬ (u.1 5).toInt = 59) ∧ u.2.1 2 = f 2 ∧ u.2.1 3 = f 3 ∧ u.2.1 6 = f 6) (fun u => YW cy y0 r u.1 u.2.1 u.2.2.1 u.2.2.2) := by
  refine ctV_of (by decide) (Nat.le_of_ble_eq_true rfl) (fun p e s m below meth c A ls Q hx hb hml hts hown hnm hE hP hD hA hl ret => ?_)
  have hUv : (v 35).toInt + (v 36).toInt ≤ 40 := hIv.2
  have hM_v : KV [3, 5, 6, 7] v v := fun _ _ => rfl
  have hA_f : KF [] f f := fun _ _ => rfl
  have b0_v : (0 : Int) ≤ (v 0).toInt ∧ (v 0).toInt ≤ 1600 := YIb.b hIv.1 0 (by decide)
  have b1_v : (0 : Int) ≤ (v 1).toInt ∧ (v 1).toInt ≤ 4 := YIb.b hIv.1 1 (by decide)
  have b8_v : (0 : Int) ≤ (v 8).toInt ∧ (v 8).toInt ≤ 320 := YIb.b hIv.1 8 (by decide)
  have b10_v : (0 : Int) ≤ (v 10).toInt ∧ (v 10).toInt ≤ 160 := YIb.b hIv.1 10 (by decide)
  have b13_v : (0 : Int) ≤ (v 13).toInt ∧ (v 13).toInt ≤ 31 := YIb.b hIv.1 13 (by decide)
  have b14_v : (0 : Int) ≤ (v 14).toInt ∧ (v 14).toInt ≤ 8 := YIb.b hIv.1 14 (by decide)
  have b15_v : (0 : Int) ≤ (v 15).toInt ∧ (v 15).toInt ≤ 1 := YIb.b hIv.1 15 (by decide)
  have b17_v : (0 : Int) ≤ (v 17).toInt ∧ (v 17).toInt ≤ 6 := YIb.b hIv.1 17 (by decide)
  have b18_v : (0 : Int) ≤ (v 18).toInt ∧ (v 18).toInt ≤ 6 := YIb.b hIv.1 18 (by decide)
  have hown : s.vm.findClass RX11 = some m.cls := hown
  have hS : va_S A s.heap s.heap [] := va_S.rf
  have hl : lv_has ls 3 [(0, .ref y0)] := hl
  have lp1 : ∀ (n1 : Nat)  (v1 : Nat → Int32) (f1 : Nat → Nat → Int32) (w1 : Int64) (g1 : Nat → Int64), YI v1 → YC f1 → progOK (f1 4) (f1 5) (v1 9).toInt.toNat → v1 0 = (v 0) → v1 1 = (v 1) → v1 2 = (v 2) → v1 4 = (v 4) → v1 5 = (v 5) → v1 8 = (v 8) → v1 9 = (v 9) → v1 10 = (v 10) → v1 13 = (v 13) → v1 14 = (v 14) → v1 15 = (v 15) → v1 17 = (v 17) → v1 18 = (v 18) → v1 24 = (v 24) → v1 25 = (v 25) → v1 35 = (v 35) → v1 36 = (v 36) → v1 38 = (v 38) → v1 39 = (v 39) → gsY_X11_token_1_L1 NF n1 v1 f1 w1 g1 = (gsY_X11_token_1 NF v f w g) → ((v 3).toInt ≤ (v1 3).toInt) → KV [3, 5, 6, 7] v1 v → KF [] f1 f → f1 2 = (f 2) → f1 3 = (f 3) → f1 6 = (f 6) → (1600 - (v1 3).toInt).toNat < n1 → ∀ (H : Heap) (locs : List Loc) (ls : Array Slot), va_P (dC, dI) vwCl (YW cy y0 r v1 f1 w1 g1) H → va_D A (YW cy y0 r v1 f1 w1 g1) → va_S A s.heap H locs → lv_has ls 3 [(0, .ref y0)] → W p l e { frames := 2, cells := 0, slots := 0, locals := 81 } s m ([.ref y0] : List Value).toArray below meth c H locs 0 0 Q (F0 m 0 ls []) := by
    intro n1
    induction n1 with
    | zero => intro  v1 f1 w1 g1 hIv1 hCf1 hRf1 hq0_v1 hq1_v1 hq2_v1 hq4_v1 hq5_v1 hq8_v1 hq9_v1 hq10_v1 hq13_v1 hq14_v1 hq15_v1 hq17_v1 hq18_v1 hq24_v1 hq25_v1 hq35_v1 hq36_v1 hq38_v1 hq39_v1 hT1 hx0_1 hM_v1 hA_f1 hs2_f1 hs3_f1 hs6_f1 hm; exact absurd hm (Nat.not_lt_zero _)
    | succ n1 ih1 =>
      intro  v1 f1 w1 g1 hIv1 hCf1 hRf1 hq0_v1 hq1_v1 hq2_v1 hq4_v1 hq5_v1 hq8_v1 hq9_v1 hq10_v1 hq13_v1 hq14_v1 hq15_v1 hq17_v1 hq18_v1 hq24_v1 hq25_v1 hq35_v1 hq36_v1 hq38_v1 hq39_v1 hT1 hx0_1 hM_v1 hA_f1 hs2_f1 hs3_f1 hs6_f1 hm1 H locs ls hP hD hS hl
      have hUv1 : (v1 35).toInt + (v1 36).toInt ≤ 40 := hIv1.2
      have zq0_v1 := congrArg Int32.toInt hq0_v1
      have zq1_v1 := congrArg Int32.toInt hq1_v1
      have zq4_v1 := congrArg Int32.toInt hq4_v1
      have zq5_v1 := congrArg Int32.toInt hq5_v1
      have zq8_v1 := congrArg Int32.toInt hq8_v1
      have zq9_v1 := congrArg Int32.toInt hq9_v1
      have zq10_v1 := congrArg Int32.toInt hq10_v1
      have zq13_v1 := congrArg Int32.toInt hq13_v1
      have zq14_v1 := congrArg Int32.toInt hq14_v1
      have zq15_v1 := congrArg Int32.toInt hq15_v1
      have zq17_v1 := congrArg Int32.toInt hq17_v1
      have zq18_v1 := congrArg Int32.toInt hq18_v1
      have b3_v1 : 0 ≤ (v1 3).toInt ∧ (v1 3).toInt ≤ 1600 := YIb.b hIv1.1 3 (by decide)
      refine lv_aload_n hx hb dX11_token_0 rfl (lv_at hl 0 rfl) ?_
      refine lv_iconst (v := 0) hx hb dX11_token_1 (by decide) ?_
      have lt2 : (0 : Int32).toInt = 0 := by decide
      refine cbVi (n := 1) (rest := []) hx hb hml hown hts hE hP hD hS hA (sY_X11_here_1 NF l dC dI cy y0 r 0 v1 f1 w1 g1 hIv1 hCf1 hRf1 ⟨by decide, by decide⟩) k_1583 k_1585 k_43 k_114 k_1586 (by decide +kernel) ⟨Nat.le_of_ble_eq_true rfl, Nat.le_of_ble_eq_true rfl⟩ 0 11 rfl rfl (rfl) hl.1 rfl (Nat.le_of_ble_eq_true rfl) dX11_token_2 (fun r3 u H locs hw hP hD hS => ?_)
      obtain ⟨hG4, hw⟩ := hw
      have pp5 := hw
      have b4_v1 : 0 ≤ (v1 4).toInt ∧ (v1 4).toInt ≤ 1600 := YIb.b hIv1.1 4 (by decide)
      have b4_v : 0 ≤ (v 4).toInt ∧ (v 4).toInt ≤ 1600 := YIb.b hIv.1 4 (by decide)
      have pp5 : r3.toInt < 0 ∨ (v1 3).toInt + (0 : Int32).toInt < (v1 4).toInt := pp5
      refine lv_bipush (v := 32) hx hb dX11_token_5 (by decide) ?_
      refine lv_icmp_eq (tgt := 20) hx hb dX11_token_7 (by decide) (fun c6 => ?_) (fun c6 => ?_)
      · skip
        have zc6 : r3.toInt = 32 := by rw [fa_eq, show (32 : Int32).toInt = 32 from by decide] at c6; exact c6
        refine lv_aload_n hx hb dX11_token_20 rfl (lv_at hl 0 rfl) ?_
        refine lv_dup hx hb dX11_token_21 rfl ?_
        refine va_get (D := (dC, dI)) (ci := 11) (v := .int (v1 3)) (C := RX11) (T := TX11) (N := 79) hx hb hts inB_11 hown hE.1 hP 0 rfl rfl 4 (by decide) (hts _ k_1324) (fun _ h9 => h9) rfl dX11_token_22 ?_
        refine lv_iconst (v := 1) hx hb dX11_token_25 (by decide) ?_
        refine lv_iadd hx hb dX11_token_26 ?_
        refine lv_topi (fun t7 et7 => ?_)
        have rg8 := fb_rng (v1 3)
        have zt7 : t7.toInt = (v1 3).toInt + 1 := by rw [et7]; exact add_i rfl (by decide) (by omega) (by omega)
        refine va_put (D := (dC, dI)) (ci := 11) (v := .int t7) (ty := tyX11 4) (C := RX11) (T := TX11) (N := 79) hx hb hts inB_11 tyX11 tyX11_ok nmX11 hown hE.1 hP hD hS 0 rfl rfl 4 (by decide) (hts _ k_1324) (fun _ h9 => h9) rfl (tyX11_ok 4 (by decide)) rfl rfl (Nat.le_of_ble_eq_true rfl) dX11_token_27 (fun H locs hP hD hS => ?_)
        have hP : va_P (dC, dI) vwCl (YW cy y0 r (upd v1 3 t7) f1 w1 g1) H := hP
        have hD : va_D A (YW cy y0 r (upd v1 3 t7) f1 w1 g1) := hD
        refine lv_goto (tgt := 0) hx hb dX11_token_30 (by decide) ?_
        exact ih1  (upd v1 3 t7) f1 w1 g1 ⟨(YIb.upd (j := 3) (x := t7) hIv1.1 (show (0 : Int) ≤ t7.toInt by omega) (show t7.toInt ≤ (1600 : Int) by omega)), hIv1.2⟩ hCf1 hRf1 hq0_v1 hq1_v1 hq2_v1 hq4_v1 hq5_v1 hq8_v1 hq9_v1 hq10_v1 hq13_v1 hq14_v1 hq15_v1 hq17_v1 hq18_v1 hq24_v1 hq25_v1 hq35_v1 hq36_v1 hq38_v1 hq39_v1 ((gsY_X11_token_1_q0 hG4.symm c6 et7).symm.trans hT1) (by show (v 3).toInt ≤ t7.toInt; omega) (KV.up (j := 3) (x := t7) hM_v1 rfl) hA_f1 hs2_f1 hs3_f1 hs6_f1 (by show (1600 - t7.toInt).toNat < n1; omega) _ _ _ hP hD hS (lv_sub hl [0] rfl)
      · skip
        have zc6 : ¬ (r3.toInt = 32) := by rw [fa_eq, show (32 : Int32).toInt = 32 from by decide] at c6; exact c6
        refine lv_aload_n hx hb dX11_token_10 rfl (lv_at hl 0 rfl) ?_
        refine lv_iconst (v := 0) hx hb dX11_token_11 (by decide) ?_
        refine cbVi (n := 1) (rest := []) hx hb hml hown hts hE hP hD hS hA (sY_X11_here_1 NF l dC dI cy y0 r 0 v1 f1 w1 g1 hIv1 hCf1 hRf1 ⟨by decide, by decide⟩) k_1583 k_1585 k_43 k_114 k_1586 (by decide +kernel) ⟨Nat.le_of_ble_eq_true rfl, Nat.le_of_ble_eq_true rfl⟩ 0 11 rfl rfl (rfl) hl.1 rfl (Nat.le_of_ble_eq_true rfl) dX11_token_12 (fun r9 u H locs hw hP hD hS => ?_)
        obtain ⟨hG10, hw⟩ := hw
        have pp11 := hw
        have pp11 : r9.toInt < 0 ∨ (v1 3).toInt + (0 : Int32).toInt < (v1 4).toInt := pp11
        refine lv_bipush (v := 10) hx hb dX11_token_15 (by decide) ?_
        refine lv_icmp_ne (tgt := 33) hx hb dX11_token_17 (by decide) (fun c12 => ?_) (fun c12 => ?_)
        · skip
          have zc12 : ¬ (r9.toInt = 10) := by rw [fa_eq, show (10 : Int32).toInt = 10 from by decide] at c12; exact c12
          refine lv_aload_n hx hb dX11_token_33 rfl (lv_at hl 0 rfl) ?_
          refine lv_aload_n hx hb dX11_token_34 rfl (lv_at hl 0 rfl) ?_
          refine va_get (D := (dC, dI)) (ci := 11) (v := .int (v1 3)) (C := RX11) (T := TX11) (N := 79) hx hb hts inB_11 hown hE.1 hP 0 rfl rfl 4 (by decide) (hts _ k_1324) (fun _ h9 => h9) rfl dX11_token_35 ?_
          refine va_put (D := (dC, dI)) (ci := 11) (v := .int (v1 3)) (ty := tyX11 7) (C := RX11) (T := TX11) (N := 79) hx hb hts inB_11 tyX11 tyX11_ok nmX11 hown hE.1 hP hD hS 0 rfl rfl 7 (by decide) (hts _ k_1327) (fun _ h9 => h9) rfl (tyX11_ok 7 (by decide)) rfl rfl (Nat.le_of_ble_eq_true rfl) dX11_token_38 (fun H locs hP hD hS => ?_)
          have hP : va_P (dC, dI) vwCl (YW cy y0 r (upd v1 6 (v1 3)) f1 w1 g1) H := hP
          have hD : va_D A (YW cy y0 r (upd v1 6 (v1 3)) f1 w1 g1) := hD
          refine lv_aload_n hx hb dX11_token_41 rfl (lv_at hl 0 rfl) ?_
          refine lv_iconst (v := 0) hx hb dX11_token_42 (by decide) ?_
          refine cbVi (n := 1) (rest := []) hx hb hml hown hts hE hP hD hS hA (sY_X11_here_1 NF l dC dI cy y0 r 0 (upd v1 6 (v1 3)) f1 w1 g1 ⟨(YIb.upd (j := 6) (x := (v1 3)) hIv1.1 (rlo _) (rhi _)), hIv1.2⟩ hCf1 hRf1 ⟨by decide, by decide⟩) k_1583 k_1585 k_43 k_114 k_1586 (by decide +kernel) ⟨Nat.le_of_ble_eq_true rfl, Nat.le_of_ble_eq_true rfl⟩ 0 11 rfl rfl (rfl) hl.1 rfl (Nat.le_of_ble_eq_true rfl) dX11_token_43 (fun r13 u H locs hw hP hD hS => ?_)
          obtain ⟨hG14, hw⟩ := hw
          have pp15 := hw
          have pp15 : r13.toInt < 0 ∨ (v1 3).toInt + (0 : Int32).toInt < (v1 4).toInt := pp15
          refine lv_istore_n (lv' := [(1, .int r13), (0, .ref y0)]) hx hb dX11_token_46 rfl hl (by decide) rfl (fun ls hl => ?_)
          refine lv_iconst (v := 0) hx hb dX11_token_47 (by decide) ?_
          refine lv_istore_n (lv' := [(2, .int 0), (1, .int r13), (0, .ref y0)]) hx hb dX11_token_48 rfl hl (by decide) rfl (fun ls hl => ?_)
          refine lv_aload_n hx hb dX11_token_49 rfl (lv_at hl 2 rfl) ?_
          refine lv_lconst (v := 0) hx hb dX11_token_50 (by decide) ?_
          refine va_put (D := (dC, dI)) (ci := 11) (v := .long 0) (ty := tyX11 9) (C := RX11) (T := TX11) (N := 79) hx hb hts inB_11 tyX11 tyX11_ok nmX11 hown hE.1 hP hD hS 0 rfl rfl 9 (by decide) (hts _ k_1329) (fun _ h9 => h9) rfl (tyX11_ok 9 (by decide)) rfl rfl (Nat.le_of_ble_eq_true rfl) dX11_token_51 (fun H locs hP hD hS => ?_)
          have hP : va_P (dC, dI) vwCl (YW cy y0 r (upd v1 6 (v1 3)) f1 0 g1) H := hP
          have hD : va_D A (YW cy y0 r (upd v1 6 (v1 3)) f1 0 g1) := hD
          refine lv_aload_n hx hb dX11_token_54 rfl (lv_at hl 2 rfl) ?_
          refine lv_iconst (v := 0) hx hb dX11_token_55 (by decide) ?_
          refine va_put (D := (dC, dI)) (ci := 11) (v := .int 0) (ty := tyX11 8) (C := RX11) (T := TX11) (N := 79) hx hb hts inB_11 tyX11 tyX11_ok nmX11 hown hE.1 hP hD hS 0 rfl rfl 8 (by decide) (hts _ k_1328) (fun _ h9 => h9) rfl (tyX11_ok 8 (by decide)) rfl rfl (Nat.le_of_ble_eq_true rfl) dX11_token_56 (fun H locs hP hD hS => ?_)
          have hP : va_P (dC, dI) vwCl (YW cy y0 r (upd (upd v1 6 (v1 3)) 7 0) f1 0 g1) H := hP
          have hD : va_D A (YW cy y0 r (upd (upd v1 6 (v1 3)) 7 0) f1 0 g1) := hD
          refine lv_iload_n hx hb dX11_token_59 rfl (lv_at hl 1 rfl) ?_
          refine lv_if_ge (tgt := 71) hx hb dX11_token_60 (by decide) (fun c16 => ?_) (fun c16 => ?_)
          · skip
            have zc16 : 0 ≤ r13.toInt := by rw [fa_le, show (0 : Int32).toInt = 0 from by decide] at c16; exact c16
            refine lv_iload_n hx hb dX11_token_71 rfl (lv_at hl 1 rfl) ?_
            refine cbSi (n := 1) (rest := []) hx hb hml hown hts hE hP hD hS hA (sY_X11_isLetter_1 NF l dC dI cy y0 r r13 (upd (upd v1 6 (v1 3)) 7 0) f1 0 g1 ⟨(YIb.upd (j := 7) (x := 0) (YIb.upd (j := 6) (x := (v1 3)) hIv1.1 (rlo _) (rhi _)) (rlo _) (rhi _)), hIv1.2⟩ hCf1 hRf1 ) k_1587 k_1588 k_114 k_1589 (by decide +kernel) ⟨Nat.le_of_ble_eq_true rfl, Nat.le_of_ble_eq_true rfl⟩ (rfl) hl.1 rfl (Nat.le_of_ble_eq_true rfl) dX11_token_72 (fun r17 u H locs hw hP hD hS => ?_)
            obtain ⟨hG18, hw⟩ := hw
            rcases hw with ⟨g19, g19_0⟩ | ⟨g19⟩
            · skip
              subst g19
              refine lv_if_eq (tgt := 137) hx hb dX11_token_75 (by decide) (fun c0 => absurd c0 (by decide)) (fun _ => ?_)
              have lp20 : ∀ (n20 : Nat) (l2_20 : Int32) (v20 : Nat → Int32) (f20 : Nat → Nat → Int32) (w20 : Int64) (g20 : Nat → Int64), YI v20 → YC f20 → progOK (f20 4) (f20 5) (v20 9).toInt.toNat → v20 0 = (v 0) → v20 1 = (v 1) → v20 2 = (v 2) → v20 3 = (v1 3) → v20 4 = (v 4) → v20 5 = (v 5) → v20 8 = (v 8) → v20 9 = (v 9) → v20 10 = (v 10) → v20 13 = (v 13) → v20 14 = (v 14) → v20 15 = (v 15) → v20 17 = (v 17) → v20 18 = (v 18) → v20 24 = (v 24) → v20 25 = (v 25) → v20 35 = (v 35) → v20 36 = (v 36) → v20 38 = (v 38) → v20 39 = (v 39) → gsY_X11_token_1_L20 NF v1 n20 l2_20 v20 f20 w20 g20 = (gsY_X11_token_1 NF v f w g) → ((0 : Int) ≤ l2_20.toInt ∧ l2_20.toInt ≤ 1600) → ((v20 3).toInt + l2_20.toInt ≤ (v20 4).toInt) → KV [3, 5, 6, 7] v20 v → KF [] f20 f → f20 2 = (f 2) → f20 3 = (f 3) → f20 6 = (f 6) → (2147483647 - l2_20.toInt).toNat < n20 → ∀ (H : Heap) (locs : List Loc) (ls : Array Slot), va_P (dC, dI) vwCl (YW cy y0 r v20 f20 w20 g20) H → va_D A (YW cy y0 r v20 f20 w20 g20) → va_S A s.heap H locs → lv_has ls 3 [(2, .int l2_20), (1, .int r13), (0, .ref y0)] → W p l e { frames := 2, cells := 0, slots := 0, locals := 81 } s m ([.ref y0] : List Value).toArray below meth c H locs 0 0 Q (F0 m 78 ls []) := by
                intro n20
                induction n20 with
                | zero => intro l2_20 v20 f20 w20 g20 hIv20 hCf20 hRf20 hq0_v20 hq1_v20 hq2_v20 hq3_v20 hq4_v20 hq5_v20 hq8_v20 hq9_v20 hq10_v20 hq13_v20 hq14_v20 hq15_v20 hq17_v20 hq18_v20 hq24_v20 hq25_v20 hq35_v20 hq36_v20 hq38_v20 hq39_v20 hT20 hr2_20 hx0_20 hM_v20 hA_f20 hs2_f20 hs3_f20 hs6_f20 hm; exact absurd hm (Nat.not_lt_zero _)
                | succ n20 ih20 =>
                  intro l2_20 v20 f20 w20 g20 hIv20 hCf20 hRf20 hq0_v20 hq1_v20 hq2_v20 hq3_v20 hq4_v20 hq5_v20 hq8_v20 hq9_v20 hq10_v20 hq13_v20 hq14_v20 hq15_v20 hq17_v20 hq18_v20 hq24_v20 hq25_v20 hq35_v20 hq36_v20 hq38_v20 hq39_v20 hT20 hr2_20 hx0_20 hM_v20 hA_f20 hs2_f20 hs3_f20 hs6_f20 hm20 H locs ls hP hD hS hl
                  have hUv20 : (v20 35).toInt + (v20 36).toInt ≤ 40 := hIv20.2
                  have zq0_v20 := congrArg Int32.toInt hq0_v20
                  try clear zq0_v1
                  have zq1_v20 := congrArg Int32.toInt hq1_v20
                  try clear zq1_v1
                  have zq3_v20 := congrArg Int32.toInt hq3_v20
                  have zq4_v20 := congrArg Int32.toInt hq4_v20
                  try clear zq4_v1
                  have zq5_v20 := congrArg Int32.toInt hq5_v20
                  try clear zq5_v1
                  have zq8_v20 := congrArg Int32.toInt hq8_v20
                  try clear zq8_v1
                  have zq9_v20 := congrArg Int32.toInt hq9_v20
                  try clear zq9_v1
                  have zq10_v20 := congrArg Int32.toInt hq10_v20
                  try clear zq10_v1
                  have zq13_v20 := congrArg Int32.toInt hq13_v20
                  try clear zq13_v1
                  have zq14_v20 := congrArg Int32.toInt hq14_v20
                  try clear zq14_v1
                  have zq15_v20 := congrArg Int32.toInt hq15_v20
                  try clear zq15_v1
                  have zq17_v20 := congrArg Int32.toInt hq17_v20
                  try clear zq17_v1
                  have zq18_v20 := congrArg Int32.toInt hq18_v20
                  try clear zq18_v1
                  have b3_v20 : 0 ≤ (v20 3).toInt ∧ (v20 3).toInt ≤ 1600 := YIb.b hIv20.1 3 (by decide)
                  have b3_v1 : 0 ≤ (v1 3).toInt ∧ (v1 3).toInt ≤ 1600 := YIb.b hIv1.1 3 (by decide)
                  have b4_v20 : 0 ≤ (v20 4).toInt ∧ (v20 4).toInt ≤ 1600 := YIb.b hIv20.1 4 (by decide)
                  have b4_v : 0 ≤ (v 4).toInt ∧ (v 4).toInt ≤ 1600 := YIb.b hIv.1 4 (by decide)
                  refine lv_aload_n hx hb dX11_token_78 rfl (lv_at hl 2 rfl) ?_
                  refine lv_iload_n hx hb dX11_token_79 rfl (lv_at hl 0 rfl) ?_
                  refine cbVi (n := 1) (rest := []) hx hb hml hown hts hE hP hD hS hA (sY_X11_here_1 NF l dC dI cy y0 r l2_20 v20 f20 w20 g20 hIv20 hCf20 hRf20 ⟨show (0 : Int) ≤ l2_20.toInt by omega, show l2_20.toInt ≤ (1600 : Int) by omega⟩) k_1583 k_1585 k_43 k_114 k_1586 (by decide +kernel) ⟨Nat.le_of_ble_eq_true rfl, Nat.le_of_ble_eq_true rfl⟩ 0 11 rfl rfl (rfl) hl.1 rfl (Nat.le_of_ble_eq_true rfl) dX11_token_80 (fun r21 u H locs hw hP hD hS => ?_)
                  obtain ⟨hG22, hw⟩ := hw
                  have pp23 := hw
                  have pp23 : r21.toInt < 0 ∨ (v20 3).toInt + l2_20.toInt < (v20 4).toInt := pp23
                  refine cbSi (n := 1) (rest := []) hx hb hml hown hts hE hP hD hS hA (sY_X11_isLetter_1 NF l dC dI cy y0 r r21 v20 f20 w20 g20 hIv20 hCf20 hRf20 ) k_1587 k_1588 k_114 k_1589 (by decide +kernel) ⟨Nat.le_of_ble_eq_true rfl, Nat.le_of_ble_eq_true rfl⟩ (rfl) hl.1 rfl (Nat.le_of_ble_eq_true rfl) dX11_token_83 (fun r24 u H locs hw hP hD hS => ?_)
                  obtain ⟨hG25, hw⟩ := hw
                  rcases hw with ⟨g26, g26_0⟩ | ⟨g26⟩
                  · skip
                    subst g26
                    refine lv_if_eq (tgt := 119) hx hb dX11_token_86 (by decide) (fun c0 => absurd c0 (by decide)) (fun _ => ?_)
                    refine lv_iload_n hx hb dX11_token_89 rfl (lv_at hl 0 rfl) ?_
                    refine lv_bipush (v := 8) hx hb dX11_token_90 (by decide) ?_
                    refine lv_icmp_ge (tgt := 113) hx hb dX11_token_92 (by decide) (fun c27 => ?_) (fun c27 => ?_)
                    · skip
                      have zc27 : 8 ≤ l2_20.toInt := by rw [fa_le, show (8 : Int32).toInt = 8 from by decide] at c27; exact c27
                      obtain ⟨t28, et28⟩ : ∃ y : Int32, y = l2_20 + 1 := ⟨_, rfl⟩
                      have rg29 := fb_rng l2_20
                      have zt28 : t28.toInt = l2_20.toInt + 1 := by rw [et28]; exact add_i rfl (by decide) (by omega) (by omega)
                      refine lv_iinc (v := t28) (lv' := [(2, .int t28), (1, .int r13), (0, .ref y0)]) hx hb dX11_token_113 hl (k := 0) rfl (by rw [et28]; rfl) (by decide) rfl (fun ls hl => ?_)
                      refine lv_goto (tgt := 78) hx hb dX11_token_116 (by decide) ?_
                      have rg30 := fb_rng t28
                      exact ih20 t28 v20 f20 w20 g20 hIv20 hCf20 hRf20 hq0_v20 hq1_v20 hq2_v20 hq3_v20 hq4_v20 hq5_v20 hq8_v20 hq9_v20 hq10_v20 hq13_v20 hq14_v20 hq15_v20 hq17_v20 hq18_v20 hq24_v20 hq25_v20 hq35_v20 hq36_v20 hq38_v20 hq39_v20 ((gsY_X11_token_1_q1 hG22.symm hG25 c27 et28).symm.trans hT20) ⟨show (0 : Int) ≤ t28.toInt by omega, show t28.toInt ≤ (1600 : Int) by omega⟩ (by show (v20 3).toInt + t28.toInt ≤ (v20 4).toInt; omega) hM_v20 hA_f20 hs2_f20 hs3_f20 hs6_f20 (by show (2147483647 - t28.toInt).toNat < n20; omega) _ _ _ hP hD hS (lv_sub hl [0, 1, 2] rfl)
                    · skip
                      have zc27 : ¬ (8 ≤ l2_20.toInt) := by rw [fa_le, show (8 : Int32).toInt = 8 from by decide] at c27; exact c27
                      refine lv_aload_n hx hb dX11_token_95 rfl (lv_at hl 2 rfl) ?_
                      refine lv_aload_n hx hb dX11_token_96 rfl (lv_at hl 2 rfl) ?_
                      refine va_get (D := (dC, dI)) (ci := 11) (v := .long w20) (C := RX11) (T := TX11) (N := 79) hx hb hts inB_11 hown hE.1 hP 0 rfl rfl 9 (by decide) (hts _ k_1329) (fun _ h9 => h9) rfl dX11_token_97 ?_
                      refine lv_bipush (v := 8) hx hb dX11_token_100 (by decide) ?_
                      refine lv_lshl hx hb dX11_token_102 rfl ?_
                      refine lv_topl (fun j31 ej31 => ?_)
                      refine lv_aload_n hx hb dX11_token_103 rfl (lv_at hl 2 rfl) ?_
                      refine lv_iload_n hx hb dX11_token_104 rfl (lv_at hl 0 rfl) ?_
                      refine cbVi (n := 1) (rest := [.long j31, .ref y0]) hx hb hml hown hts hE hP hD hS hA (sY_X11_here_1 NF l dC dI cy y0 r l2_20 v20 f20 w20 g20 hIv20 hCf20 hRf20 ⟨show (0 : Int) ≤ l2_20.toInt by omega, show l2_20.toInt ≤ (1600 : Int) by omega⟩) k_1583 k_1585 k_43 k_114 k_1586 (by decide +kernel) ⟨Nat.le_of_ble_eq_true rfl, Nat.le_of_ble_eq_true rfl⟩ 0 11 rfl rfl (rfl) hl.1 rfl (Nat.le_of_ble_eq_true rfl) dX11_token_105 (fun r32 u H locs hw hP hD hS => ?_)
                      obtain ⟨hG33, hw⟩ := hw
                      have pp34 := hw
                      have pp34 : r32.toInt < 0 ∨ (v20 3).toInt + l2_20.toInt < (v20 4).toInt := pp34
                      refine lv_i2l hx hb dX11_token_108 rfl ?_
                      refine lv_topl (fun j35 ej35 => ?_)
                      refine lv_lor hx hb dX11_token_109 ?_
                      refine lv_topl (fun j36 ej36 => ?_)
                      refine va_put (D := (dC, dI)) (ci := 11) (v := .long j36) (ty := tyX11 9) (C := RX11) (T := TX11) (N := 79) hx hb hts inB_11 tyX11 tyX11_ok nmX11 hown hE.1 hP hD hS 0 rfl rfl 9 (by decide) (hts _ k_1329) (fun _ h9 => h9) rfl (tyX11_ok 9 (by decide)) rfl rfl (Nat.le_of_ble_eq_true rfl) dX11_token_110 (fun H locs hP hD hS => ?_)
                      have hP : va_P (dC, dI) vwCl (YW cy y0 r v20 f20 j36 g20) H := hP
                      have hD : va_D A (YW cy y0 r v20 f20 j36 g20) := hD
                      obtain ⟨t37, et37⟩ : ∃ y : Int32, y = l2_20 + 1 := ⟨_, rfl⟩
                      have rg38 := fb_rng l2_20
                      have zt37 : t37.toInt = l2_20.toInt + 1 := by rw [et37]; exact add_i rfl (by decide) (by omega) (by omega)
                      refine lv_iinc (v := t37) (lv' := [(2, .int t37), (1, .int r13), (0, .ref y0)]) hx hb dX11_token_113 hl (k := 0) rfl (by rw [et37]; rfl) (by decide) rfl (fun ls hl => ?_)
                      refine lv_goto (tgt := 78) hx hb dX11_token_116 (by decide) ?_
                      have rg39 := fb_rng t37
                      exact ih20 t37 v20 f20 j36 g20 hIv20 hCf20 hRf20 hq0_v20 hq1_v20 hq2_v20 hq3_v20 hq4_v20 hq5_v20 hq8_v20 hq9_v20 hq10_v20 hq13_v20 hq14_v20 hq15_v20 hq17_v20 hq18_v20 hq24_v20 hq25_v20 hq35_v20 hq36_v20 hq38_v20 hq39_v20 ((gsY_X11_token_1_q2 hG22.symm hG25 c27 ej31 hG33.symm ej35 ej36 et37).symm.trans hT20) ⟨show (0 : Int) ≤ t37.toInt by omega, show t37.toInt ≤ (1600 : Int) by omega⟩ (by show (v20 3).toInt + t37.toInt ≤ (v20 4).toInt; omega) hM_v20 hA_f20 hs2_f20 hs3_f20 hs6_f20 (by show (2147483647 - t37.toInt).toNat < n20; omega) _ _ _ hP hD hS (lv_sub hl [0, 1, 2] rfl)
                  · skip
                    subst g26
                    refine lv_if_eq (tgt := 119) hx hb dX11_token_86 (by decide) (fun _ => ?_) (fun c0 => absurd (by decide) c0)
                    refine lv_aload_n hx hb dX11_token_119 rfl (lv_at hl 2 rfl) ?_
                    refine lv_iload_n hx hb dX11_token_120 rfl (lv_at hl 0 rfl) ?_
                    refine lv_bipush (v := 8) hx hb dX11_token_121 (by decide) ?_
                    refine lv_icmp_le (tgt := 130) hx hb dX11_token_123 (by decide) (fun c40 => ?_) (fun c40 => ?_)
                    · skip
                      have zc40 : l2_20.toInt ≤ 8 := by rw [fa_le, show (8 : Int32).toInt = 8 from by decide] at c40; exact c40
                      refine lv_iconst (v := 1) hx hb dX11_token_130 (by decide) ?_
                      refine va_put (D := (dC, dI)) (ci := 11) (v := .int 1) (ty := tyX11 6) (C := RX11) (T := TX11) (N := 79) hx hb hts inB_11 tyX11 tyX11_ok nmX11 hown hE.1 hP hD hS 0 rfl rfl 6 (by decide) (hts _ k_1326) (fun _ h9 => h9) rfl (tyX11_ok 6 (by decide)) rfl rfl (Nat.le_of_ble_eq_true rfl) dX11_token_131 (fun H locs hP hD hS => ?_)
                      have hP : va_P (dC, dI) vwCl (YW cy y0 r (upd v20 5 1) f20 w20 g20) H := hP
                      have hD : va_D A (YW cy y0 r (upd v20 5 1) f20 w20 g20) := hD
                      refine lv_goto (tgt := 232) hx hb dX11_token_134 (by decide) ?_
                      refine lv_aload_n hx hb dX11_token_232 rfl (lv_at hl 2 rfl) ?_
                      refine va_get (D := (dC, dI)) (ci := 11) (v := .int 1) (C := RX11) (T := TX11) (N := 79) hx hb hts inB_11 hown hE.1 hP 0 rfl rfl 6 (by decide) (hts _ k_1326) (fun _ h9 => h9) rfl dX11_token_233 ?_
                      refine lv_iconst (v := 3) hx hb dX11_token_236 (by decide) ?_
                      refine lv_icmp_eq (tgt := 250) hx hb dX11_token_237 (by decide) (fun c0 => absurd c0 (by decide)) (fun _ => ?_)
                      refine lv_aload_n hx hb dX11_token_240 rfl (lv_at hl 2 rfl) ?_
                      refine lv_dup hx hb dX11_token_241 rfl ?_
                      refine va_get (D := (dC, dI)) (ci := 11) (v := .int (v20 3)) (C := RX11) (T := TX11) (N := 79) hx hb hts inB_11 hown hE.1 hP 0 rfl rfl 4 (by decide) (hts _ k_1324) (fun _ h9 => h9) rfl dX11_token_242 ?_
                      refine tI (y := (v1 3)) hq3_v20 ?_
                      refine lv_iload_n hx hb dX11_token_245 rfl (lv_at hl 0 rfl) ?_
                      refine lv_iadd hx hb dX11_token_246 ?_
                      refine lv_topi (fun t41 et41 => ?_)
                      have rg42 := fb_rng (v1 3)
                      have rg43 := fb_rng l2_20
                      have zt41 : t41.toInt = (v1 3).toInt + l2_20.toInt := by rw [et41]; exact add_i rfl rfl (by omega) (by omega)
                      refine va_put (D := (dC, dI)) (ci := 11) (v := .int t41) (ty := tyX11 4) (C := RX11) (T := TX11) (N := 79) hx hb hts inB_11 tyX11 tyX11_ok nmX11 hown hE.1 hP hD hS 0 rfl rfl 4 (by decide) (hts _ k_1324) (fun _ h9 => h9) rfl (tyX11_ok 4 (by decide)) rfl rfl (Nat.le_of_ble_eq_true rfl) dX11_token_247 (fun H locs hP hD hS => ?_)
                      have hP : va_P (dC, dI) vwCl (YW cy y0 r (upd (upd v20 5 1) 3 t41) f20 w20 g20) H := hP
                      have hD : va_D A (YW cy y0 r (upd (upd v20 5 1) 3 t41) f20 w20 g20) := hD
                      exact ret ((upd (upd v20 5 1) 3 t41), f20, w20, g20) _ _ _ _ _ _ ⟨(hT20.symm.trans (gsY_X11_token_1_q3 hG22.symm hG25 c40 et41)), (KV.up (j := 3) (x := t41) (KV.up (j := 5) (x := 1) hM_v20 rfl) rfl), hA_f20, ⟨(YIb.upd (j := 3) (x := t41) (YIb.upd (j := 5) (x := 1) hIv20.1 (rlo _) (rhi _)) (show (0 : Int) ≤ t41.toInt by omega) (show t41.toInt ≤ (1600 : Int) by omega)), hIv20.2⟩, hCf20, hRf20, hq0_v20, hq1_v20, hq2_v20, hq4_v20, hq8_v20, hq9_v20, hq10_v20, hq13_v20, hq14_v20, hq15_v20, hq17_v20, hq18_v20, hq24_v20, hq25_v20, hq35_v20, hq36_v20, hq38_v20, hq39_v20, (by have q0 : (1 : Int32).toInt = 1 := (by decide); show (v 3).toInt ≤ t41.toInt; omega), (by have q0 : (1 : Int32).toInt = 1 := (by decide); show (1 : Int32).toInt = (v 5).toInt ∨ (v 3).toInt < t41.toInt ∨ ¬ (1 : Int32).toInt = 59; omega), hs2_f20, hs3_f20, hs6_f20⟩ hP hD hS dX11_token_250 (Nat.le_refl _) (Nat.le_refl _)
                    · skip
                      have zc40 : ¬ (l2_20.toInt ≤ 8) := by rw [fa_le, show (8 : Int32).toInt = 8 from by decide] at c40; exact c40
                      refine lv_iconst (v := 3) hx hb dX11_token_126 (by decide) ?_
                      refine lv_goto (tgt := 131) hx hb dX11_token_127 (by decide) ?_
                      refine va_put (D := (dC, dI)) (ci := 11) (v := .int 3) (ty := tyX11 6) (C := RX11) (T := TX11) (N := 79) hx hb hts inB_11 tyX11 tyX11_ok nmX11 hown hE.1 hP hD hS 0 rfl rfl 6 (by decide) (hts _ k_1326) (fun _ h9 => h9) rfl (tyX11_ok 6 (by decide)) rfl rfl (Nat.le_of_ble_eq_true rfl) dX11_token_131 (fun H locs hP hD hS => ?_)
                      have hP : va_P (dC, dI) vwCl (YW cy y0 r (upd v20 5 3) f20 w20 g20) H := hP
                      have hD : va_D A (YW cy y0 r (upd v20 5 3) f20 w20 g20) := hD
                      refine lv_goto (tgt := 232) hx hb dX11_token_134 (by decide) ?_
                      refine lv_aload_n hx hb dX11_token_232 rfl (lv_at hl 2 rfl) ?_
                      refine va_get (D := (dC, dI)) (ci := 11) (v := .int 3) (C := RX11) (T := TX11) (N := 79) hx hb hts inB_11 hown hE.1 hP 0 rfl rfl 6 (by decide) (hts _ k_1326) (fun _ h9 => h9) rfl dX11_token_233 ?_
                      refine lv_iconst (v := 3) hx hb dX11_token_236 (by decide) ?_
                      refine lv_icmp_eq (tgt := 250) hx hb dX11_token_237 (by decide) (fun _ => ?_) (fun c0 => absurd (by decide) c0)
                      exact ret ((upd v20 5 3), f20, w20, g20) _ _ _ _ _ _ ⟨(hT20.symm.trans (gsY_X11_token_1_q4 hG22.symm hG25 c40)), (KV.up (j := 5) (x := 3) hM_v20 rfl), hA_f20, ⟨(YIb.upd (j := 5) (x := 3) hIv20.1 (rlo _) (rhi _)), hIv20.2⟩, hCf20, hRf20, hq0_v20, hq1_v20, hq2_v20, hq4_v20, hq8_v20, hq9_v20, hq10_v20, hq13_v20, hq14_v20, hq15_v20, hq17_v20, hq18_v20, hq24_v20, hq25_v20, hq35_v20, hq36_v20, hq38_v20, hq39_v20, (by have q0 : (3 : Int32).toInt = 3 := (by decide); show (v 3).toInt ≤ (v20 3).toInt; omega), (by have q0 : (3 : Int32).toInt = 3 := (by decide); show (3 : Int32).toInt = (v 5).toInt ∨ (v 3).toInt < (v20 3).toInt ∨ ¬ (3 : Int32).toInt = 59; omega), hs2_f20, hs3_f20, hs6_f20⟩ hP hD hS dX11_token_250 (Nat.le_refl _) (Nat.le_refl _)
              exact lp20 (4294967296 + NF) 0 (upd (upd v1 6 (v1 3)) 7 0) f1 0 g1 ⟨(YIb.upd (j := 7) (x := 0) (YIb.upd (j := 6) (x := (v1 3)) hIv1.1 (rlo _) (rhi _)) (rlo _) (rhi _)), hIv1.2⟩ hCf1 hRf1 hq0_v1 hq1_v1 hq2_v1 rfl hq4_v1 hq5_v1 hq8_v1 hq9_v1 hq10_v1 hq13_v1 hq14_v1 hq15_v1 hq17_v1 hq18_v1 hq24_v1 hq25_v1 hq35_v1 hq36_v1 hq38_v1 hq39_v1 ((gsY_X11_token_1_q5 hG4.symm c6 hG10.symm c12 hG14.symm c16 hG18).symm.trans hT1) ⟨by decide, by decide⟩ (by have qc0 : (0 : Int32).toInt = 0 := (by decide); have q2 : (0 : Int32).toInt = 0 := (by decide); show (v1 3).toInt + (0 : Int32).toInt ≤ (v1 4).toInt; omega) (KV.up (j := 7) (x := 0) (KV.up (j := 6) (x := (v1 3)) hM_v1 rfl) rfl) hA_f1 hs2_f1 hs3_f1 hs6_f1 (by have q2 : (0 : Int32).toInt = 0 := (by decide); have qc0 : (0 : Int32).toInt = 0 := (by decide); show (2147483647 - (0 : Int32).toInt).toNat < 4294967296 + NF; omega) _ _ _ hP hD hS (lv_sub hl [0, 1, 2] rfl)
            · skip
              subst g19
              refine lv_if_eq (tgt := 137) hx hb dX11_token_75 (by decide) (fun _ => ?_) (fun c0 => absurd (by decide) c0)
              refine lv_iload_n hx hb dX11_token_137 rfl (lv_at hl 1 rfl) ?_
              refine cbSi (n := 1) (rest := []) hx hb hml hown hts hE hP hD hS hA (sY_X11_isDigit_1 NF l dC dI cy y0 r r13 (upd (upd v1 6 (v1 3)) 7 0) f1 0 g1 ⟨(YIb.upd (j := 7) (x := 0) (YIb.upd (j := 6) (x := (v1 3)) hIv1.1 (rlo _) (rhi _)) (rlo _) (rhi _)), hIv1.2⟩ hCf1 hRf1 ) k_1590 k_1591 k_114 k_1592 (by decide +kernel) ⟨Nat.le_of_ble_eq_true rfl, Nat.le_of_ble_eq_true rfl⟩ (rfl) hl.1 rfl (Nat.le_of_ble_eq_true rfl) dX11_token_138 (fun r44 u H locs hw hP hD hS => ?_)
              obtain ⟨hG45, hw⟩ := hw
              rcases hw with ⟨g46, g46_0⟩ | ⟨g46⟩
              · skip
                subst g46
                refine lv_if_eq (tgt := 214) hx hb dX11_token_141 (by decide) (fun c0 => absurd c0 (by decide)) (fun _ => ?_)
                have lp47 : ∀ (n47 : Nat) (l2_47 : Int32) (v47 : Nat → Int32) (f47 : Nat → Nat → Int32) (w47 : Int64) (g47 : Nat → Int64), YI v47 → YC f47 → progOK (f47 4) (f47 5) (v47 9).toInt.toNat → v47 0 = (v 0) → v47 1 = (v 1) → v47 2 = (v 2) → v47 3 = (v1 3) → v47 4 = (v 4) → v47 5 = (v 5) → v47 8 = (v 8) → v47 9 = (v 9) → v47 10 = (v 10) → v47 13 = (v 13) → v47 14 = (v 14) → v47 15 = (v 15) → v47 17 = (v 17) → v47 18 = (v 18) → v47 24 = (v 24) → v47 25 = (v 25) → v47 35 = (v 35) → v47 36 = (v 36) → v47 38 = (v 38) → v47 39 = (v 39) → gsY_X11_token_1_L47 NF v1 n47 l2_47 v47 f47 w47 g47 = (gsY_X11_token_1 NF v f w g) → ((0 : Int) ≤ l2_47.toInt ∧ l2_47.toInt ≤ 1600) → ((v47 3).toInt + l2_47.toInt ≤ (v47 4).toInt) → KV [3, 5, 6, 7] v47 v → KF [] f47 f → f47 2 = (f 2) → f47 3 = (f 3) → f47 6 = (f 6) → (2147483647 - l2_47.toInt).toNat < n47 → ∀ (H : Heap) (locs : List Loc) (ls : Array Slot), va_P (dC, dI) vwCl (YW cy y0 r v47 f47 w47 g47) H → va_D A (YW cy y0 r v47 f47 w47 g47) → va_S A s.heap H locs → lv_has ls 3 [(2, .int l2_47), (1, .int r13), (0, .ref y0)] → W p l e { frames := 2, cells := 0, slots := 0, locals := 81 } s m ([.ref y0] : List Value).toArray below meth c H locs 0 0 Q (F0 m 144 ls []) := by
                  intro n47
                  induction n47 with
                  | zero => intro l2_47 v47 f47 w47 g47 hIv47 hCf47 hRf47 hq0_v47 hq1_v47 hq2_v47 hq3_v47 hq4_v47 hq5_v47 hq8_v47 hq9_v47 hq10_v47 hq13_v47 hq14_v47 hq15_v47 hq17_v47 hq18_v47 hq24_v47 hq25_v47 hq35_v47 hq36_v47 hq38_v47 hq39_v47 hT47 hr2_47 hx0_47 hM_v47 hA_f47 hs2_f47 hs3_f47 hs6_f47 hm; exact absurd hm (Nat.not_lt_zero _)
                  | succ n47 ih47 =>
                    intro l2_47 v47 f47 w47 g47 hIv47 hCf47 hRf47 hq0_v47 hq1_v47 hq2_v47 hq3_v47 hq4_v47 hq5_v47 hq8_v47 hq9_v47 hq10_v47 hq13_v47 hq14_v47 hq15_v47 hq17_v47 hq18_v47 hq24_v47 hq25_v47 hq35_v47 hq36_v47 hq38_v47 hq39_v47 hT47 hr2_47 hx0_47 hM_v47 hA_f47 hs2_f47 hs3_f47 hs6_f47 hm47 H locs ls hP hD hS hl
                    have hUv47 : (v47 35).toInt + (v47 36).toInt ≤ 40 := hIv47.2
                    have zq0_v47 := congrArg Int32.toInt hq0_v47
                    try clear zq0_v1
                    have zq1_v47 := congrArg Int32.toInt hq1_v47
                    try clear zq1_v1
                    have zq3_v47 := congrArg Int32.toInt hq3_v47
                    have zq4_v47 := congrArg Int32.toInt hq4_v47
                    try clear zq4_v1
                    have zq5_v47 := congrArg Int32.toInt hq5_v47
                    try clear zq5_v1
                    have zq8_v47 := congrArg Int32.toInt hq8_v47
                    try clear zq8_v1
                    have zq9_v47 := congrArg Int32.toInt hq9_v47
                    try clear zq9_v1
                    have zq10_v47 := congrArg Int32.toInt hq10_v47
                    try clear zq10_v1
                    have zq13_v47 := congrArg Int32.toInt hq13_v47
                    try clear zq13_v1
                    have zq14_v47 := congrArg Int32.toInt hq14_v47
                    try clear zq14_v1
                    have zq15_v47 := congrArg Int32.toInt hq15_v47
                    try clear zq15_v1
                    have zq17_v47 := congrArg Int32.toInt hq17_v47
                    try clear zq17_v1
                    have zq18_v47 := congrArg Int32.toInt hq18_v47
                    try clear zq18_v1
                    have b3_v47 : 0 ≤ (v47 3).toInt ∧ (v47 3).toInt ≤ 1600 := YIb.b hIv47.1 3 (by decide)
                    have b3_v1 : 0 ≤ (v1 3).toInt ∧ (v1 3).toInt ≤ 1600 := YIb.b hIv1.1 3 (by decide)
                    have b4_v47 : 0 ≤ (v47 4).toInt ∧ (v47 4).toInt ≤ 1600 := YIb.b hIv47.1 4 (by decide)
                    have b4_v : 0 ≤ (v 4).toInt ∧ (v 4).toInt ≤ 1600 := YIb.b hIv.1 4 (by decide)
                    refine lv_aload_n hx hb dX11_token_144 rfl (lv_at hl 2 rfl) ?_
                    refine lv_iload_n hx hb dX11_token_145 rfl (lv_at hl 0 rfl) ?_
                    refine cbVi (n := 1) (rest := []) hx hb hml hown hts hE hP hD hS hA (sY_X11_here_1 NF l dC dI cy y0 r l2_47 v47 f47 w47 g47 hIv47 hCf47 hRf47 ⟨show (0 : Int) ≤ l2_47.toInt by omega, show l2_47.toInt ≤ (1600 : Int) by omega⟩) k_1583 k_1585 k_43 k_114 k_1586 (by decide +kernel) ⟨Nat.le_of_ble_eq_true rfl, Nat.le_of_ble_eq_true rfl⟩ 0 11 rfl rfl (rfl) hl.1 rfl (Nat.le_of_ble_eq_true rfl) dX11_token_146 (fun r48 u H locs hw hP hD hS => ?_)
                    obtain ⟨hG49, hw⟩ := hw
                    have pp50 := hw
                    have pp50 : r48.toInt < 0 ∨ (v47 3).toInt + l2_47.toInt < (v47 4).toInt := pp50
                    refine cbSi (n := 1) (rest := []) hx hb hml hown hts hE hP hD hS hA (sY_X11_isDigit_1 NF l dC dI cy y0 r r48 v47 f47 w47 g47 hIv47 hCf47 hRf47 ) k_1590 k_1591 k_114 k_1592 (by decide +kernel) ⟨Nat.le_of_ble_eq_true rfl, Nat.le_of_ble_eq_true rfl⟩ (rfl) hl.1 rfl (Nat.le_of_ble_eq_true rfl) dX11_token_149 (fun r51 u H locs hw hP hD hS => ?_)
                    obtain ⟨hG52, hw⟩ := hw
                    rcases hw with ⟨g53, g53_0⟩ | ⟨g53⟩
                    · skip
                      subst g53
                      refine lv_if_eq (tgt := 186) hx hb dX11_token_152 (by decide) (fun c0 => absurd c0 (by decide)) (fun _ => ?_)
                      refine lv_iload_n hx hb dX11_token_155 rfl (lv_at hl 0 rfl) ?_
                      refine lv_iconst (v := 4) hx hb dX11_token_156 (by decide) ?_
                      refine lv_icmp_ge (tgt := 180) hx hb dX11_token_157 (by decide) (fun c54 => ?_) (fun c54 => ?_)
                      · skip
                        have zc54 : 4 ≤ l2_47.toInt := by rw [fa_le, show (4 : Int32).toInt = 4 from by decide] at c54; exact c54
                        obtain ⟨t55, et55⟩ : ∃ y : Int32, y = l2_47 + 1 := ⟨_, rfl⟩
                        have rg56 := fb_rng l2_47
                        have zt55 : t55.toInt = l2_47.toInt + 1 := by rw [et55]; exact add_i rfl (by decide) (by omega) (by omega)
                        refine lv_iinc (v := t55) (lv' := [(2, .int t55), (1, .int r13), (0, .ref y0)]) hx hb dX11_token_180 hl (k := 0) rfl (by rw [et55]; rfl) (by decide) rfl (fun ls hl => ?_)
                        refine lv_goto (tgt := 144) hx hb dX11_token_183 (by decide) ?_
                        have rg57 := fb_rng t55
                        exact ih47 t55 v47 f47 w47 g47 hIv47 hCf47 hRf47 hq0_v47 hq1_v47 hq2_v47 hq3_v47 hq4_v47 hq5_v47 hq8_v47 hq9_v47 hq10_v47 hq13_v47 hq14_v47 hq15_v47 hq17_v47 hq18_v47 hq24_v47 hq25_v47 hq35_v47 hq36_v47 hq38_v47 hq39_v47 ((gsY_X11_token_1_q6 hG49.symm hG52 c54 et55).symm.trans hT47) ⟨show (0 : Int) ≤ t55.toInt by omega, show t55.toInt ≤ (1600 : Int) by omega⟩ (by show (v47 3).toInt + t55.toInt ≤ (v47 4).toInt; omega) hM_v47 hA_f47 hs2_f47 hs3_f47 hs6_f47 (by show (2147483647 - t55.toInt).toNat < n47; omega) _ _ _ hP hD hS (lv_sub hl [0, 1, 2] rfl)
                      · skip
                        have zc54 : ¬ (4 ≤ l2_47.toInt) := by rw [fa_le, show (4 : Int32).toInt = 4 from by decide] at c54; exact c54
                        refine lv_aload_n hx hb dX11_token_160 rfl (lv_at hl 2 rfl) ?_
                        refine lv_bipush (v := 10) hx hb dX11_token_161 (by decide) ?_
                        refine lv_aload_n hx hb dX11_token_163 rfl (lv_at hl 2 rfl) ?_
                        refine va_get (D := (dC, dI)) (ci := 11) (v := .int (v47 7)) (C := RX11) (T := TX11) (N := 79) hx hb hts inB_11 hown hE.1 hP 0 rfl rfl 8 (by decide) (hts _ k_1328) (fun _ h9 => h9) rfl dX11_token_164 ?_
                        refine lv_imul hx hb dX11_token_167 ?_
                        refine lv_topi (fun t58 et58 => ?_)
                        refine lv_aload_n hx hb dX11_token_168 rfl (lv_at hl 2 rfl) ?_
                        refine lv_iload_n hx hb dX11_token_169 rfl (lv_at hl 0 rfl) ?_
                        refine cbVi (n := 1) (rest := [.int t58, .ref y0]) hx hb hml hown hts hE hP hD hS hA (sY_X11_here_1 NF l dC dI cy y0 r l2_47 v47 f47 w47 g47 hIv47 hCf47 hRf47 ⟨show (0 : Int) ≤ l2_47.toInt by omega, show l2_47.toInt ≤ (1600 : Int) by omega⟩) k_1583 k_1585 k_43 k_114 k_1586 (by decide +kernel) ⟨Nat.le_of_ble_eq_true rfl, Nat.le_of_ble_eq_true rfl⟩ 0 11 rfl rfl (rfl) hl.1 rfl (Nat.le_of_ble_eq_true rfl) dX11_token_170 (fun r59 u H locs hw hP hD hS => ?_)
                        obtain ⟨hG60, hw⟩ := hw
                        have pp61 := hw
                        have pp61 : r59.toInt < 0 ∨ (v47 3).toInt + l2_47.toInt < (v47 4).toInt := pp61
                        refine lv_iadd hx hb dX11_token_173 ?_
                        refine lv_topi (fun t62 et62 => ?_)
                        refine lv_bipush (v := 48) hx hb dX11_token_174 (by decide) ?_
                        refine lv_isub hx hb dX11_token_176 ?_
                        refine lv_topi (fun t63 et63 => ?_)
                        refine va_put (D := (dC, dI)) (ci := 11) (v := .int t63) (ty := tyX11 8) (C := RX11) (T := TX11) (N := 79) hx hb hts inB_11 tyX11 tyX11_ok nmX11 hown hE.1 hP hD hS 0 rfl rfl 8 (by decide) (hts _ k_1328) (fun _ h9 => h9) rfl (tyX11_ok 8 (by decide)) rfl rfl (Nat.le_of_ble_eq_true rfl) dX11_token_177 (fun H locs hP hD hS => ?_)
                        have hP : va_P (dC, dI) vwCl (YW cy y0 r (upd v47 7 t63) f47 w47 g47) H := hP
                        have hD : va_D A (YW cy y0 r (upd v47 7 t63) f47 w47 g47) := hD
                        obtain ⟨t64, et64⟩ : ∃ y : Int32, y = l2_47 + 1 := ⟨_, rfl⟩
                        have rg65 := fb_rng l2_47
                        have zt64 : t64.toInt = l2_47.toInt + 1 := by rw [et64]; exact add_i rfl (by decide) (by omega) (by omega)
                        refine lv_iinc (v := t64) (lv' := [(2, .int t64), (1, .int r13), (0, .ref y0)]) hx hb dX11_token_180 hl (k := 0) rfl (by rw [et64]; rfl) (by decide) rfl (fun ls hl => ?_)
                        refine lv_goto (tgt := 144) hx hb dX11_token_183 (by decide) ?_
                        have rg66 := fb_rng t64
                        exact ih47 t64 (upd v47 7 t63) f47 w47 g47 ⟨(YIb.upd (j := 7) (x := t63) hIv47.1 (rlo _) (rhi _)), hIv47.2⟩ hCf47 hRf47 hq0_v47 hq1_v47 hq2_v47 hq3_v47 hq4_v47 hq5_v47 hq8_v47 hq9_v47 hq10_v47 hq13_v47 hq14_v47 hq15_v47 hq17_v47 hq18_v47 hq24_v47 hq25_v47 hq35_v47 hq36_v47 hq38_v47 hq39_v47 ((gsY_X11_token_1_q7 hG49.symm hG52 c54 et58 hG60.symm et62 et63 et64).symm.trans hT47) ⟨show (0 : Int) ≤ t64.toInt by omega, show t64.toInt ≤ (1600 : Int) by omega⟩ (by show (v47 3).toInt + t64.toInt ≤ (v47 4).toInt; omega) (KV.up (j := 7) (x := t63) hM_v47 rfl) hA_f47 hs2_f47 hs3_f47 hs6_f47 (by show (2147483647 - t64.toInt).toNat < n47; omega) _ _ _ hP hD hS (lv_sub hl [0, 1, 2] rfl)
                    · skip
                      subst g53
                      refine lv_if_eq (tgt := 186) hx hb dX11_token_152 (by decide) (fun _ => ?_) (fun c0 => absurd (by decide) c0)
                      refine lv_aload_n hx hb dX11_token_186 rfl (lv_at hl 2 rfl) ?_
                      refine lv_iload_n hx hb dX11_token_187 rfl (lv_at hl 0 rfl) ?_
                      refine lv_iconst (v := 4) hx hb dX11_token_188 (by decide) ?_
                      refine lv_icmp_gt (tgt := 203) hx hb dX11_token_189 (by decide) (fun c67 => ?_) (fun c67 => ?_)
                      · skip
                        have zc67 : 4 < l2_47.toInt := by rw [fa_lt, show (4 : Int32).toInt = 4 from by decide] at c67; exact c67
                        refine lv_iconst (v := 3) hx hb dX11_token_203 (by decide) ?_
                        refine lv_goto (tgt := 208) hx hb dX11_token_204 (by decide) ?_
                        refine va_put (D := (dC, dI)) (ci := 11) (v := .int 3) (ty := tyX11 6) (C := RX11) (T := TX11) (N := 79) hx hb hts inB_11 tyX11 tyX11_ok nmX11 hown hE.1 hP hD hS 0 rfl rfl 6 (by decide) (hts _ k_1326) (fun _ h9 => h9) rfl (tyX11_ok 6 (by decide)) rfl rfl (Nat.le_of_ble_eq_true rfl) dX11_token_208 (fun H locs hP hD hS => ?_)
                        have hP : va_P (dC, dI) vwCl (YW cy y0 r (upd v47 5 3) f47 w47 g47) H := hP
                        have hD : va_D A (YW cy y0 r (upd v47 5 3) f47 w47 g47) := hD
                        refine lv_goto (tgt := 232) hx hb dX11_token_211 (by decide) ?_
                        refine lv_aload_n hx hb dX11_token_232 rfl (lv_at hl 2 rfl) ?_
                        refine va_get (D := (dC, dI)) (ci := 11) (v := .int 3) (C := RX11) (T := TX11) (N := 79) hx hb hts inB_11 hown hE.1 hP 0 rfl rfl 6 (by decide) (hts _ k_1326) (fun _ h9 => h9) rfl dX11_token_233 ?_
                        refine lv_iconst (v := 3) hx hb dX11_token_236 (by decide) ?_
                        refine lv_icmp_eq (tgt := 250) hx hb dX11_token_237 (by decide) (fun _ => ?_) (fun c0 => absurd (by decide) c0)
                        exact ret ((upd v47 5 3), f47, w47, g47) _ _ _ _ _ _ ⟨(hT47.symm.trans (gsY_X11_token_1_q8 hG49.symm hG52 c67)), (KV.up (j := 5) (x := 3) hM_v47 rfl), hA_f47, ⟨(YIb.upd (j := 5) (x := 3) hIv47.1 (rlo _) (rhi _)), hIv47.2⟩, hCf47, hRf47, hq0_v47, hq1_v47, hq2_v47, hq4_v47, hq8_v47, hq9_v47, hq10_v47, hq13_v47, hq14_v47, hq15_v47, hq17_v47, hq18_v47, hq24_v47, hq25_v47, hq35_v47, hq36_v47, hq38_v47, hq39_v47, (by have q0 : (3 : Int32).toInt = 3 := (by decide); show (v 3).toInt ≤ (v47 3).toInt; omega), (by have q0 : (3 : Int32).toInt = 3 := (by decide); show (3 : Int32).toInt = (v 5).toInt ∨ (v 3).toInt < (v47 3).toInt ∨ ¬ (3 : Int32).toInt = 59; omega), hs2_f47, hs3_f47, hs6_f47⟩ hP hD hS dX11_token_250 (Nat.le_refl _) (Nat.le_refl _)
                      · skip
                        have zc67 : ¬ (4 < l2_47.toInt) := by rw [fa_lt, show (4 : Int32).toInt = 4 from by decide] at c67; exact c67
                        refine lv_aload_n hx hb dX11_token_192 rfl (lv_at hl 2 rfl) ?_
                        refine lv_iload_n hx hb dX11_token_193 rfl (lv_at hl 0 rfl) ?_
                        refine cbVi (n := 1) (rest := [.ref y0]) hx hb hml hown hts hE hP hD hS hA (sY_X11_here_1 NF l dC dI cy y0 r l2_47 v47 f47 w47 g47 hIv47 hCf47 hRf47 ⟨show (0 : Int) ≤ l2_47.toInt by omega, show l2_47.toInt ≤ (1600 : Int) by omega⟩) k_1583 k_1585 k_43 k_114 k_1586 (by decide +kernel) ⟨Nat.le_of_ble_eq_true rfl, Nat.le_of_ble_eq_true rfl⟩ 0 11 rfl rfl (rfl) hl.1 rfl (Nat.le_of_ble_eq_true rfl) dX11_token_194 (fun r68 u H locs hw hP hD hS => ?_)
                        obtain ⟨hG69, hw⟩ := hw
                        have pp70 := hw
                        have pp70 : r68.toInt < 0 ∨ (v47 3).toInt + l2_47.toInt < (v47 4).toInt := pp70
                        refine cbSi (n := 1) (rest := [.ref y0]) hx hb hml hown hts hE hP hD hS hA (sY_X11_isLetter_1 NF l dC dI cy y0 r r68 v47 f47 w47 g47 hIv47 hCf47 hRf47 ) k_1587 k_1588 k_114 k_1589 (by decide +kernel) ⟨Nat.le_of_ble_eq_true rfl, Nat.le_of_ble_eq_true rfl⟩ (rfl) hl.1 rfl (Nat.le_of_ble_eq_true rfl) dX11_token_197 (fun r71 u H locs hw hP hD hS => ?_)
                        obtain ⟨hG72, hw⟩ := hw
                        rcases hw with ⟨g73, g73_0⟩ | ⟨g73⟩
                        · skip
                          subst g73
                          refine lv_if_eq (tgt := 207) hx hb dX11_token_200 (by decide) (fun c0 => absurd c0 (by decide)) (fun _ => ?_)
                          refine lv_iconst (v := 3) hx hb dX11_token_203 (by decide) ?_
                          refine lv_goto (tgt := 208) hx hb dX11_token_204 (by decide) ?_
                          refine va_put (D := (dC, dI)) (ci := 11) (v := .int 3) (ty := tyX11 6) (C := RX11) (T := TX11) (N := 79) hx hb hts inB_11 tyX11 tyX11_ok nmX11 hown hE.1 hP hD hS 0 rfl rfl 6 (by decide) (hts _ k_1326) (fun _ h9 => h9) rfl (tyX11_ok 6 (by decide)) rfl rfl (Nat.le_of_ble_eq_true rfl) dX11_token_208 (fun H locs hP hD hS => ?_)
                          have hP : va_P (dC, dI) vwCl (YW cy y0 r (upd v47 5 3) f47 w47 g47) H := hP
                          have hD : va_D A (YW cy y0 r (upd v47 5 3) f47 w47 g47) := hD
                          refine lv_goto (tgt := 232) hx hb dX11_token_211 (by decide) ?_
                          refine lv_aload_n hx hb dX11_token_232 rfl (lv_at hl 2 rfl) ?_
                          refine va_get (D := (dC, dI)) (ci := 11) (v := .int 3) (C := RX11) (T := TX11) (N := 79) hx hb hts inB_11 hown hE.1 hP 0 rfl rfl 6 (by decide) (hts _ k_1326) (fun _ h9 => h9) rfl dX11_token_233 ?_
                          refine lv_iconst (v := 3) hx hb dX11_token_236 (by decide) ?_
                          refine lv_icmp_eq (tgt := 250) hx hb dX11_token_237 (by decide) (fun _ => ?_) (fun c0 => absurd (by decide) c0)
                          exact ret ((upd v47 5 3), f47, w47, g47) _ _ _ _ _ _ ⟨(hT47.symm.trans (gsY_X11_token_1_q9 hG49.symm hG52 c67 hG69.symm hG72)), (KV.up (j := 5) (x := 3) hM_v47 rfl), hA_f47, ⟨(YIb.upd (j := 5) (x := 3) hIv47.1 (rlo _) (rhi _)), hIv47.2⟩, hCf47, hRf47, hq0_v47, hq1_v47, hq2_v47, hq4_v47, hq8_v47, hq9_v47, hq10_v47, hq13_v47, hq14_v47, hq15_v47, hq17_v47, hq18_v47, hq24_v47, hq25_v47, hq35_v47, hq36_v47, hq38_v47, hq39_v47, (by have q0 : (3 : Int32).toInt = 3 := (by decide); show (v 3).toInt ≤ (v47 3).toInt; omega), (by have q0 : (3 : Int32).toInt = 3 := (by decide); show (3 : Int32).toInt = (v 5).toInt ∨ (v 3).toInt < (v47 3).toInt ∨ ¬ (3 : Int32).toInt = 59; omega), hs2_f47, hs3_f47, hs6_f47⟩ hP hD hS dX11_token_250 (Nat.le_refl _) (Nat.le_refl _)
                        · skip
                          subst g73
                          refine lv_if_eq (tgt := 207) hx hb dX11_token_200 (by decide) (fun _ => ?_) (fun c0 => absurd (by decide) c0)
                          refine lv_iconst (v := 2) hx hb dX11_token_207 (by decide) ?_
                          refine va_put (D := (dC, dI)) (ci := 11) (v := .int 2) (ty := tyX11 6) (C := RX11) (T := TX11) (N := 79) hx hb hts inB_11 tyX11 tyX11_ok nmX11 hown hE.1 hP hD hS 0 rfl rfl 6 (by decide) (hts _ k_1326) (fun _ h9 => h9) rfl (tyX11_ok 6 (by decide)) rfl rfl (Nat.le_of_ble_eq_true rfl) dX11_token_208 (fun H locs hP hD hS => ?_)
                          have hP : va_P (dC, dI) vwCl (YW cy y0 r (upd v47 5 2) f47 w47 g47) H := hP
                          have hD : va_D A (YW cy y0 r (upd v47 5 2) f47 w47 g47) := hD
                          refine lv_goto (tgt := 232) hx hb dX11_token_211 (by decide) ?_
                          refine lv_aload_n hx hb dX11_token_232 rfl (lv_at hl 2 rfl) ?_
                          refine va_get (D := (dC, dI)) (ci := 11) (v := .int 2) (C := RX11) (T := TX11) (N := 79) hx hb hts inB_11 hown hE.1 hP 0 rfl rfl 6 (by decide) (hts _ k_1326) (fun _ h9 => h9) rfl dX11_token_233 ?_
                          refine lv_iconst (v := 3) hx hb dX11_token_236 (by decide) ?_
                          refine lv_icmp_eq (tgt := 250) hx hb dX11_token_237 (by decide) (fun c0 => absurd c0 (by decide)) (fun _ => ?_)
                          refine lv_aload_n hx hb dX11_token_240 rfl (lv_at hl 2 rfl) ?_
                          refine lv_dup hx hb dX11_token_241 rfl ?_
                          refine va_get (D := (dC, dI)) (ci := 11) (v := .int (v47 3)) (C := RX11) (T := TX11) (N := 79) hx hb hts inB_11 hown hE.1 hP 0 rfl rfl 4 (by decide) (hts _ k_1324) (fun _ h9 => h9) rfl dX11_token_242 ?_
                          refine tI (y := (v1 3)) hq3_v47 ?_
                          refine lv_iload_n hx hb dX11_token_245 rfl (lv_at hl 0 rfl) ?_
                          refine lv_iadd hx hb dX11_token_246 ?_
                          refine lv_topi (fun t74 et74 => ?_)
                          have rg75 := fb_rng (v1 3)
                          have rg76 := fb_rng l2_47
                          have zt74 : t74.toInt = (v1 3).toInt + l2_47.toInt := by rw [et74]; exact add_i rfl rfl (by omega) (by omega)
                          refine va_put (D := (dC, dI)) (ci := 11) (v := .int t74) (ty := tyX11 4) (C := RX11) (T := TX11) (N := 79) hx hb hts inB_11 tyX11 tyX11_ok nmX11 hown hE.1 hP hD hS 0 rfl rfl 4 (by decide) (hts _ k_1324) (fun _ h9 => h9) rfl (tyX11_ok 4 (by decide)) rfl rfl (Nat.le_of_ble_eq_true rfl) dX11_token_247 (fun H locs hP hD hS => ?_)
                          have hP : va_P (dC, dI) vwCl (YW cy y0 r (upd (upd v47 5 2) 3 t74) f47 w47 g47) H := hP
                          have hD : va_D A (YW cy y0 r (upd (upd v47 5 2) 3 t74) f47 w47 g47) := hD
                          exact ret ((upd (upd v47 5 2) 3 t74), f47, w47, g47) _ _ _ _ _ _ ⟨(hT47.symm.trans (gsY_X11_token_1_q10 hG49.symm hG52 c67 hG69.symm hG72 et74)), (KV.up (j := 3) (x := t74) (KV.up (j := 5) (x := 2) hM_v47 rfl) rfl), hA_f47, ⟨(YIb.upd (j := 3) (x := t74) (YIb.upd (j := 5) (x := 2) hIv47.1 (rlo _) (rhi _)) (show (0 : Int) ≤ t74.toInt by omega) (show t74.toInt ≤ (1600 : Int) by omega)), hIv47.2⟩, hCf47, hRf47, hq0_v47, hq1_v47, hq2_v47, hq4_v47, hq8_v47, hq9_v47, hq10_v47, hq13_v47, hq14_v47, hq15_v47, hq17_v47, hq18_v47, hq24_v47, hq25_v47, hq35_v47, hq36_v47, hq38_v47, hq39_v47, (by have q0 : (2 : Int32).toInt = 2 := (by decide); show (v 3).toInt ≤ t74.toInt; omega), (by have q0 : (2 : Int32).toInt = 2 := (by decide); show (2 : Int32).toInt = (v 5).toInt ∨ (v 3).toInt < t74.toInt ∨ ¬ (2 : Int32).toInt = 59; omega), hs2_f47, hs3_f47, hs6_f47⟩ hP hD hS dX11_token_250 (Nat.le_refl _) (Nat.le_refl _)
                exact lp47 (4294967296 + NF) 0 (upd (upd v1 6 (v1 3)) 7 0) f1 0 g1 ⟨(YIb.upd (j := 7) (x := 0) (YIb.upd (j := 6) (x := (v1 3)) hIv1.1 (rlo _) (rhi _)) (rlo _) (rhi _)), hIv1.2⟩ hCf1 hRf1 hq0_v1 hq1_v1 hq2_v1 rfl hq4_v1 hq5_v1 hq8_v1 hq9_v1 hq10_v1 hq13_v1 hq14_v1 hq15_v1 hq17_v1 hq18_v1 hq24_v1 hq25_v1 hq35_v1 hq36_v1 hq38_v1 hq39_v1 ((gsY_X11_token_1_q11 hG4.symm c6 hG10.symm c12 hG14.symm c16 hG18 hG45).symm.trans hT1) ⟨by decide, by decide⟩ (by have qc0 : (0 : Int32).toInt = 0 := (by decide); have q2 : (0 : Int32).toInt = 0 := (by decide); show (v1 3).toInt + (0 : Int32).toInt ≤ (v1 4).toInt; omega) (KV.up (j := 7) (x := 0) (KV.up (j := 6) (x := (v1 3)) hM_v1 rfl) rfl) hA_f1 hs2_f1 hs3_f1 hs6_f1 (by have q2 : (0 : Int32).toInt = 0 := (by decide); have qc0 : (0 : Int32).toInt = 0 := (by decide); show (2147483647 - (0 : Int32).toInt).toNat < 4294967296 + NF; omega) _ _ _ hP hD hS (lv_sub hl [0, 1, 2] rfl)
              · skip
                subst g46
                refine lv_if_eq (tgt := 214) hx hb dX11_token_141 (by decide) (fun _ => ?_) (fun c0 => absurd (by decide) c0)
                refine lv_iconst (v := 1) hx hb dX11_token_214 (by decide) ?_
                refine lv_istore_n (lv' := [(2, .int 1), (1, .int r13), (0, .ref y0)]) hx hb dX11_token_215 rfl hl (by decide) rfl (fun ls hl => ?_)
                refine lv_aload_n hx hb dX11_token_216 rfl (lv_at hl 2 rfl) ?_
                refine lv_iload_n hx hb dX11_token_217 rfl (lv_at hl 1 rfl) ?_
                refine cbSi (n := 1) (rest := [.ref y0]) hx hb hml hown hts hE hP hD hS hA (sY_X11_isSign_1 NF l dC dI cy y0 r r13 (upd (upd v1 6 (v1 3)) 7 0) f1 0 g1 ⟨(YIb.upd (j := 7) (x := 0) (YIb.upd (j := 6) (x := (v1 3)) hIv1.1 (rlo _) (rhi _)) (rlo _) (rhi _)), hIv1.2⟩ hCf1 hRf1 ) k_1593 k_1594 k_114 k_1595 (by decide +kernel) ⟨Nat.le_of_ble_eq_true rfl, Nat.le_of_ble_eq_true rfl⟩ (rfl) hl.1 rfl (Nat.le_of_ble_eq_true rfl) dX11_token_218 (fun r77 u H locs hw hP hD hS => ?_)
                obtain ⟨hG78, hw⟩ := hw
                rcases hw with ⟨g79⟩ | ⟨g79⟩
                · skip
                  subst g79
                  refine lv_if_eq (tgt := 228) hx hb dX11_token_221 (by decide) (fun c0 => absurd c0 (by decide)) (fun _ => ?_)
                  refine lv_iload_n hx hb dX11_token_224 rfl (lv_at hl 1 rfl) ?_
                  refine lv_goto (tgt := 229) hx hb dX11_token_225 (by decide) ?_
                  refine va_put (D := (dC, dI)) (ci := 11) (v := .int r13) (ty := tyX11 6) (C := RX11) (T := TX11) (N := 79) hx hb hts inB_11 tyX11 tyX11_ok nmX11 hown hE.1 hP hD hS 0 rfl rfl 6 (by decide) (hts _ k_1326) (fun _ h9 => h9) rfl (tyX11_ok 6 (by decide)) rfl rfl (Nat.le_of_ble_eq_true rfl) dX11_token_229 (fun H locs hP hD hS => ?_)
                  have hP : va_P (dC, dI) vwCl (YW cy y0 r (upd (upd (upd v1 6 (v1 3)) 7 0) 5 r13) f1 0 g1) H := hP
                  have hD : va_D A (YW cy y0 r (upd (upd (upd v1 6 (v1 3)) 7 0) 5 r13) f1 0 g1) := hD
                  refine lv_aload_n hx hb dX11_token_232 rfl (lv_at hl 2 rfl) ?_
                  refine va_get (D := (dC, dI)) (ci := 11) (v := .int r13) (C := RX11) (T := TX11) (N := 79) hx hb hts inB_11 hown hE.1 hP 0 rfl rfl 6 (by decide) (hts _ k_1326) (fun _ h9 => h9) rfl dX11_token_233 ?_
                  refine lv_iconst (v := 3) hx hb dX11_token_236 (by decide) ?_
                  refine lv_icmp_eq (tgt := 250) hx hb dX11_token_237 (by decide) (fun c80 => ?_) (fun c80 => ?_)
                  · skip
                    have zc80 : r13.toInt = 3 := by rw [fa_eq, show (3 : Int32).toInt = 3 from by decide] at c80; exact c80
                    exact ret ((upd (upd (upd v1 6 (v1 3)) 7 0) 5 r13), f1, 0, g1) _ _ _ _ _ _ ⟨(hT1.symm.trans (gsY_X11_token_1_q12 hG4.symm c6 hG10.symm c12 hG14.symm c16 hG18 hG45 hG78 c80)), (KV.up (j := 5) (x := r13) (KV.up (j := 7) (x := 0) (KV.up (j := 6) (x := (v1 3)) hM_v1 rfl) rfl) rfl), hA_f1, ⟨(YIb.upd (j := 5) (x := r13) (YIb.upd (j := 7) (x := 0) (YIb.upd (j := 6) (x := (v1 3)) hIv1.1 (rlo _) (rhi _)) (rlo _) (rhi _)) (rlo _) (rhi _)), hIv1.2⟩, hCf1, hRf1, (show v1 0 = v 0 from hq0_v1), (show v1 1 = v 1 from hq1_v1), (show v1 2 = v 2 from hq2_v1), (show v1 4 = v 4 from hq4_v1), (show v1 8 = v 8 from hq8_v1), (show v1 9 = v 9 from hq9_v1), (show v1 10 = v 10 from hq10_v1), (show v1 13 = v 13 from hq13_v1), (show v1 14 = v 14 from hq14_v1), (show v1 15 = v 15 from hq15_v1), (show v1 17 = v 17 from hq17_v1), (show v1 18 = v 18 from hq18_v1), (show v1 24 = v 24 from hq24_v1), (show v1 25 = v 25 from hq25_v1), (show v1 35 = v 35 from hq35_v1), (show v1 36 = v 36 from hq36_v1), (show v1 38 = v 38 from hq38_v1), (show v1 39 = v 39 from hq39_v1), (by have q0 : (0 : Int32).toInt = 0 := (by decide); show (v 3).toInt ≤ (v1 3).toInt; omega), (by have q0 : (0 : Int32).toInt = 0 := (by decide); show r13.toInt = (v 5).toInt ∨ (v 3).toInt < (v1 3).toInt ∨ ¬ r13.toInt = 59; omega), hs2_f1, hs3_f1, hs6_f1⟩ hP hD hS dX11_token_250 (Nat.le_refl _) (Nat.le_refl _)
                  · skip
                    have zc80 : ¬ (r13.toInt = 3) := by rw [fa_eq, show (3 : Int32).toInt = 3 from by decide] at c80; exact c80
                    refine lv_aload_n hx hb dX11_token_240 rfl (lv_at hl 2 rfl) ?_
                    refine lv_dup hx hb dX11_token_241 rfl ?_
                    refine va_get (D := (dC, dI)) (ci := 11) (v := .int (v1 3)) (C := RX11) (T := TX11) (N := 79) hx hb hts inB_11 hown hE.1 hP 0 rfl rfl 4 (by decide) (hts _ k_1324) (fun _ h9 => h9) rfl dX11_token_242 ?_
                    refine lv_iload_n hx hb dX11_token_245 rfl (lv_at hl 0 rfl) ?_
                    refine lv_iadd hx hb dX11_token_246 ?_
                    refine lv_topi (fun t81 et81 => ?_)
                    have rg82 := fb_rng (v1 3)
                    have zt81 : t81.toInt = (v1 3).toInt + 1 := by rw [et81]; exact add_i rfl (by decide) (by omega) (by omega)
                    refine va_put (D := (dC, dI)) (ci := 11) (v := .int t81) (ty := tyX11 4) (C := RX11) (T := TX11) (N := 79) hx hb hts inB_11 tyX11 tyX11_ok nmX11 hown hE.1 hP hD hS 0 rfl rfl 4 (by decide) (hts _ k_1324) (fun _ h9 => h9) rfl (tyX11_ok 4 (by decide)) rfl rfl (Nat.le_of_ble_eq_true rfl) dX11_token_247 (fun H locs hP hD hS => ?_)
                    have hP : va_P (dC, dI) vwCl (YW cy y0 r (upd (upd (upd (upd v1 6 (v1 3)) 7 0) 5 r13) 3 t81) f1 0 g1) H := hP
                    have hD : va_D A (YW cy y0 r (upd (upd (upd (upd v1 6 (v1 3)) 7 0) 5 r13) 3 t81) f1 0 g1) := hD
                    exact ret ((upd (upd (upd (upd v1 6 (v1 3)) 7 0) 5 r13) 3 t81), f1, 0, g1) _ _ _ _ _ _ ⟨(hT1.symm.trans (gsY_X11_token_1_q13 hG4.symm c6 hG10.symm c12 hG14.symm c16 hG18 hG45 hG78 c80 et81)), (KV.up (j := 3) (x := t81) (KV.up (j := 5) (x := r13) (KV.up (j := 7) (x := 0) (KV.up (j := 6) (x := (v1 3)) hM_v1 rfl) rfl) rfl) rfl), hA_f1, ⟨(YIb.upd (j := 3) (x := t81) (YIb.upd (j := 5) (x := r13) (YIb.upd (j := 7) (x := 0) (YIb.upd (j := 6) (x := (v1 3)) hIv1.1 (rlo _) (rhi _)) (rlo _) (rhi _)) (rlo _) (rhi _)) (show (0 : Int) ≤ t81.toInt by omega) (show t81.toInt ≤ (1600 : Int) by omega)), hIv1.2⟩, hCf1, hRf1, (show v1 0 = v 0 from hq0_v1), (show v1 1 = v 1 from hq1_v1), (show v1 2 = v 2 from hq2_v1), (show v1 4 = v 4 from hq4_v1), (show v1 8 = v 8 from hq8_v1), (show v1 9 = v 9 from hq9_v1), (show v1 10 = v 10 from hq10_v1), (show v1 13 = v 13 from hq13_v1), (show v1 14 = v 14 from hq14_v1), (show v1 15 = v 15 from hq15_v1), (show v1 17 = v 17 from hq17_v1), (show v1 18 = v 18 from hq18_v1), (show v1 24 = v 24 from hq24_v1), (show v1 25 = v 25 from hq25_v1), (show v1 35 = v 35 from hq35_v1), (show v1 36 = v 36 from hq36_v1), (show v1 38 = v 38 from hq38_v1), (show v1 39 = v 39 from hq39_v1), (by have q0 : (0 : Int32).toInt = 0 := (by decide); show (v 3).toInt ≤ t81.toInt; omega), (by have q0 : (0 : Int32).toInt = 0 := (by decide); show r13.toInt = (v 5).toInt ∨ (v 3).toInt < t81.toInt ∨ ¬ r13.toInt = 59; omega), hs2_f1, hs3_f1, hs6_f1⟩ hP hD hS dX11_token_250 (Nat.le_refl _) (Nat.le_refl _)
                · skip
                  subst g79
                  refine lv_if_eq (tgt := 228) hx hb dX11_token_221 (by decide) (fun _ => ?_) (fun c0 => absurd (by decide) c0)
                  refine lv_iconst (v := 3) hx hb dX11_token_228 (by decide) ?_
                  refine va_put (D := (dC, dI)) (ci := 11) (v := .int 3) (ty := tyX11 6) (C := RX11) (T := TX11) (N := 79) hx hb hts inB_11 tyX11 tyX11_ok nmX11 hown hE.1 hP hD hS 0 rfl rfl 6 (by decide) (hts _ k_1326) (fun _ h9 => h9) rfl (tyX11_ok 6 (by decide)) rfl rfl (Nat.le_of_ble_eq_true rfl) dX11_token_229 (fun H locs hP hD hS => ?_)
                  have hP : va_P (dC, dI) vwCl (YW cy y0 r (upd (upd (upd v1 6 (v1 3)) 7 0) 5 3) f1 0 g1) H := hP
                  have hD : va_D A (YW cy y0 r (upd (upd (upd v1 6 (v1 3)) 7 0) 5 3) f1 0 g1) := hD
                  refine lv_aload_n hx hb dX11_token_232 rfl (lv_at hl 2 rfl) ?_
                  refine va_get (D := (dC, dI)) (ci := 11) (v := .int 3) (C := RX11) (T := TX11) (N := 79) hx hb hts inB_11 hown hE.1 hP 0 rfl rfl 6 (by decide) (hts _ k_1326) (fun _ h9 => h9) rfl dX11_token_233 ?_
                  refine lv_iconst (v := 3) hx hb dX11_token_236 (by decide) ?_
                  refine lv_icmp_eq (tgt := 250) hx hb dX11_token_237 (by decide) (fun _ => ?_) (fun c0 => absurd (by decide) c0)
                  exact ret ((upd (upd (upd v1 6 (v1 3)) 7 0) 5 3), f1, 0, g1) _ _ _ _ _ _ ⟨(hT1.symm.trans (gsY_X11_token_1_q14 hG4.symm c6 hG10.symm c12 hG14.symm c16 hG18 hG45 hG78)), (KV.up (j := 5) (x := 3) (KV.up (j := 7) (x := 0) (KV.up (j := 6) (x := (v1 3)) hM_v1 rfl) rfl) rfl), hA_f1, ⟨(YIb.upd (j := 5) (x := 3) (YIb.upd (j := 7) (x := 0) (YIb.upd (j := 6) (x := (v1 3)) hIv1.1 (rlo _) (rhi _)) (rlo _) (rhi _)) (rlo _) (rhi _)), hIv1.2⟩, hCf1, hRf1, (show v1 0 = v 0 from hq0_v1), (show v1 1 = v 1 from hq1_v1), (show v1 2 = v 2 from hq2_v1), (show v1 4 = v 4 from hq4_v1), (show v1 8 = v 8 from hq8_v1), (show v1 9 = v 9 from hq9_v1), (show v1 10 = v 10 from hq10_v1), (show v1 13 = v 13 from hq13_v1), (show v1 14 = v 14 from hq14_v1), (show v1 15 = v 15 from hq15_v1), (show v1 17 = v 17 from hq17_v1), (show v1 18 = v 18 from hq18_v1), (show v1 24 = v 24 from hq24_v1), (show v1 25 = v 25 from hq25_v1), (show v1 35 = v 35 from hq35_v1), (show v1 36 = v 36 from hq36_v1), (show v1 38 = v 38 from hq38_v1), (show v1 39 = v 39 from hq39_v1), (by have q0 : (0 : Int32).toInt = 0 := (by decide); have q1 : (3 : Int32).toInt = 3 := (by decide); show (v 3).toInt ≤ (v1 3).toInt; omega), (by have q0 : (0 : Int32).toInt = 0 := (by decide); have q1 : (3 : Int32).toInt = 3 := (by decide); show (3 : Int32).toInt = (v 5).toInt ∨ (v 3).toInt < (v1 3).toInt ∨ ¬ (3 : Int32).toInt = 59; omega), hs2_f1, hs3_f1, hs6_f1⟩ hP hD hS dX11_token_250 (Nat.le_refl _) (Nat.le_refl _)
          · skip
            have zc16 : ¬ (0 ≤ r13.toInt) := by rw [fa_le, show (0 : Int32).toInt = 0 from by decide] at c16; exact c16
            refine lv_aload_n hx hb dX11_token_63 rfl (lv_at hl 2 rfl) ?_
            refine lv_iconst (v := 0) hx hb dX11_token_64 (by decide) ?_
            refine va_put (D := (dC, dI)) (ci := 11) (v := .int 0) (ty := tyX11 6) (C := RX11) (T := TX11) (N := 79) hx hb hts inB_11 tyX11 tyX11_ok nmX11 hown hE.1 hP hD hS 0 rfl rfl 6 (by decide) (hts _ k_1326) (fun _ h9 => h9) rfl (tyX11_ok 6 (by decide)) rfl rfl (Nat.le_of_ble_eq_true rfl) dX11_token_65 (fun H locs hP hD hS => ?_)
            have hP : va_P (dC, dI) vwCl (YW cy y0 r (upd (upd (upd v1 6 (v1 3)) 7 0) 5 0) f1 0 g1) H := hP
            have hD : va_D A (YW cy y0 r (upd (upd (upd v1 6 (v1 3)) 7 0) 5 0) f1 0 g1) := hD
            refine lv_goto (tgt := 232) hx hb dX11_token_68 (by decide) ?_
            refine lv_aload_n hx hb dX11_token_232 rfl (lv_at hl 2 rfl) ?_
            refine va_get (D := (dC, dI)) (ci := 11) (v := .int 0) (C := RX11) (T := TX11) (N := 79) hx hb hts inB_11 hown hE.1 hP 0 rfl rfl 6 (by decide) (hts _ k_1326) (fun _ h9 => h9) rfl dX11_token_233 ?_
            refine lv_iconst (v := 3) hx hb dX11_token_236 (by decide) ?_
            refine lv_icmp_eq (tgt := 250) hx hb dX11_token_237 (by decide) (fun c0 => absurd c0 (by decide)) (fun _ => ?_)
            refine lv_aload_n hx hb dX11_token_240 rfl (lv_at hl 2 rfl) ?_
            refine lv_dup hx hb dX11_token_241 rfl ?_
            refine va_get (D := (dC, dI)) (ci := 11) (v := .int (v1 3)) (C := RX11) (T := TX11) (N := 79) hx hb hts inB_11 hown hE.1 hP 0 rfl rfl 4 (by decide) (hts _ k_1324) (fun _ h9 => h9) rfl dX11_token_242 ?_
            refine lv_iload_n hx hb dX11_token_245 rfl (lv_at hl 0 rfl) ?_
            refine lv_iadd hx hb dX11_token_246 ?_
            refine lv_topi (fun t83 et83 => ?_)
            have rg84 := fb_rng (v1 3)
            have zt83 : t83.toInt = (v1 3).toInt + 0 := by rw [et83]; exact add_i rfl (by decide) (by omega) (by omega)
            refine va_put (D := (dC, dI)) (ci := 11) (v := .int t83) (ty := tyX11 4) (C := RX11) (T := TX11) (N := 79) hx hb hts inB_11 tyX11 tyX11_ok nmX11 hown hE.1 hP hD hS 0 rfl rfl 4 (by decide) (hts _ k_1324) (fun _ h9 => h9) rfl (tyX11_ok 4 (by decide)) rfl rfl (Nat.le_of_ble_eq_true rfl) dX11_token_247 (fun H locs hP hD hS => ?_)
            have hP : va_P (dC, dI) vwCl (YW cy y0 r (upd (upd (upd (upd v1 6 (v1 3)) 7 0) 5 0) 3 t83) f1 0 g1) H := hP
            have hD : va_D A (YW cy y0 r (upd (upd (upd (upd v1 6 (v1 3)) 7 0) 5 0) 3 t83) f1 0 g1) := hD
            exact ret ((upd (upd (upd (upd v1 6 (v1 3)) 7 0) 5 0) 3 t83), f1, 0, g1) _ _ _ _ _ _ ⟨(hT1.symm.trans (gsY_X11_token_1_q15 hG4.symm c6 hG10.symm c12 hG14.symm c16 et83)), (KV.up (j := 3) (x := t83) (KV.up (j := 5) (x := 0) (KV.up (j := 7) (x := 0) (KV.up (j := 6) (x := (v1 3)) hM_v1 rfl) rfl) rfl) rfl), hA_f1, ⟨(YIb.upd (j := 3) (x := t83) (YIb.upd (j := 5) (x := 0) (YIb.upd (j := 7) (x := 0) (YIb.upd (j := 6) (x := (v1 3)) hIv1.1 (rlo _) (rhi _)) (rlo _) (rhi _)) (rlo _) (rhi _)) (show (0 : Int) ≤ t83.toInt by omega) (show t83.toInt ≤ (1600 : Int) by omega)), hIv1.2⟩, hCf1, hRf1, (show v1 0 = v 0 from hq0_v1), (show v1 1 = v 1 from hq1_v1), (show v1 2 = v 2 from hq2_v1), (show v1 4 = v 4 from hq4_v1), (show v1 8 = v 8 from hq8_v1), (show v1 9 = v 9 from hq9_v1), (show v1 10 = v 10 from hq10_v1), (show v1 13 = v 13 from hq13_v1), (show v1 14 = v 14 from hq14_v1), (show v1 15 = v 15 from hq15_v1), (show v1 17 = v 17 from hq17_v1), (show v1 18 = v 18 from hq18_v1), (show v1 24 = v 24 from hq24_v1), (show v1 25 = v 25 from hq25_v1), (show v1 35 = v 35 from hq35_v1), (show v1 36 = v 36 from hq36_v1), (show v1 38 = v 38 from hq38_v1), (show v1 39 = v 39 from hq39_v1), (by have q0 : (0 : Int32).toInt = 0 := (by decide); show (v 3).toInt ≤ t83.toInt; omega), (by have q0 : (0 : Int32).toInt = 0 := (by decide); show (0 : Int32).toInt = (v 5).toInt ∨ (v 3).toInt < t83.toInt ∨ ¬ (0 : Int32).toInt = 59; omega), hs2_f1, hs3_f1, hs6_f1⟩ hP hD hS dX11_token_250 (Nat.le_refl _) (Nat.le_refl _)
        · skip
          have zc12 : r9.toInt = 10 := by rw [fa_eq, show (10 : Int32).toInt = 10 from by decide] at c12; exact c12
          refine lv_aload_n hx hb dX11_token_20 rfl (lv_at hl 0 rfl) ?_
          refine lv_dup hx hb dX11_token_21 rfl ?_
          refine va_get (D := (dC, dI)) (ci := 11) (v := .int (v1 3)) (C := RX11) (T := TX11) (N := 79) hx hb hts inB_11 hown hE.1 hP 0 rfl rfl 4 (by decide) (hts _ k_1324) (fun _ h9 => h9) rfl dX11_token_22 ?_
          refine lv_iconst (v := 1) hx hb dX11_token_25 (by decide) ?_
          refine lv_iadd hx hb dX11_token_26 ?_
          refine lv_topi (fun t85 et85 => ?_)
          have rg86 := fb_rng (v1 3)
          have zt85 : t85.toInt = (v1 3).toInt + 1 := by rw [et85]; exact add_i rfl (by decide) (by omega) (by omega)
          refine va_put (D := (dC, dI)) (ci := 11) (v := .int t85) (ty := tyX11 4) (C := RX11) (T := TX11) (N := 79) hx hb hts inB_11 tyX11 tyX11_ok nmX11 hown hE.1 hP hD hS 0 rfl rfl 4 (by decide) (hts _ k_1324) (fun _ h9 => h9) rfl (tyX11_ok 4 (by decide)) rfl rfl (Nat.le_of_ble_eq_true rfl) dX11_token_27 (fun H locs hP hD hS => ?_)
          have hP : va_P (dC, dI) vwCl (YW cy y0 r (upd v1 3 t85) f1 w1 g1) H := hP
          have hD : va_D A (YW cy y0 r (upd v1 3 t85) f1 w1 g1) := hD
          refine lv_goto (tgt := 0) hx hb dX11_token_30 (by decide) ?_
          exact ih1  (upd v1 3 t85) f1 w1 g1 ⟨(YIb.upd (j := 3) (x := t85) hIv1.1 (show (0 : Int) ≤ t85.toInt by omega) (show t85.toInt ≤ (1600 : Int) by omega)), hIv1.2⟩ hCf1 hRf1 hq0_v1 hq1_v1 hq2_v1 hq4_v1 hq5_v1 hq8_v1 hq9_v1 hq10_v1 hq13_v1 hq14_v1 hq15_v1 hq17_v1 hq18_v1 hq24_v1 hq25_v1 hq35_v1 hq36_v1 hq38_v1 hq39_v1 ((gsY_X11_token_1_q16 hG4.symm c6 hG10.symm c12 et85).symm.trans hT1) (by show (v 3).toInt ≤ t85.toInt; omega) (KV.up (j := 3) (x := t85) hM_v1 rfl) hA_f1 hs2_f1 hs3_f1 hs6_f1 (by show (1600 - t85.toInt).toNat < n1; omega) _ _ _ hP hD hS (lv_sub hl [0] rfl)
  exact lp1 (4294967296 + NF)  v f w g hIv hCf hRf rfl rfl rfl rfl rfl rfl rfl rfl rfl rfl rfl rfl rfl rfl rfl rfl rfl rfl rfl gsY_X11_token_1_q17.symm (by show (v 3).toInt ≤ (v 3).toInt; omega) hM_v hA_f rfl rfl rfl (by have qr0 := fb_rng (v 3); show (1600 - (v 3).toInt).toNat < 4294967296 + NF; omega) _ _ _ hP hD hS (lv_sub hl [0] rfl)
set_option maxHeartbeats 4000000 in
set_option maxRecDepth 100000 in
theorem sY_X11_wrong_1 (NF : Nat) (l : Launch) (dC : Nat → ClassId) (dI : Nat → Nat → Nat) (cy : Nat → ClassId) (y0 : Nat) (r : Nat → Nat) (p1 : Int32) (v : Nat → Int32) (f : Nat → Nat → Int32) (w : Int64) (g : Nat → Int64) (hIv : YI v) (hCf : YC f) (hRf : progOK (f 4) (f 5) (v 9).toInt.toNat) (hp1 : (1 : Int) ≤ p1.toInt ∧ p1.toInt ≤ 4) : ctV l (dC, dI) cy yX11_wrong cX11_wrong 2 1 60 0 0 ((Nat → Int32) × (Nat → Nat → Int32) × (Int64) × (Nat → Int64)) [.ref y0, .int p1] (YW cy y0 r v f w g) (fun u => gsY_X11_wrong_1 NF p1 v f w g = u ∧ KV [1, 2] u.1 v ∧ KF [] u.2.1 f ∧ YI u.1 ∧ YC u.2.1 ∧ progOK (u.2.1 4) (u.2.1 5) (u.1 9).toInt.toNat ∧ u.1 0 = v 0 ∧ u.1 3 = v 3 ∧ u.1 4 = v 4 ∧ u.1 5 = v 5 ∧ u.1 8 = v 8 ∧ u.1 9 = v 9 ∧ u.1 10 = v 10 ∧ u.1 13 = v 13 ∧ u.1 14 = v 14 ∧ u.1 15 = v 15 ∧ u.1 17 = v 17 ∧ u.1 18 = v 18 ∧ u.1 24 = v 24 ∧ u.1 25 = v 25 ∧ u.1 35 = v 35 ∧ u.1 36 = v 36 ∧ u.1 38 = v 38 ∧ u.1 39 = v 39 ∧ ((v 3).toInt ≤ (u.1 3).toInt) ∧ ((u.1 5).toInt = (v 5).toInt ∨ (v 3).toInt < (u.1 3).toInt ∨ ¬ (u.1 5).toInt = 59) ∧ (0 < (u.1 1).toInt) ∧ u.2.1 2 = f 2 ∧ u.2.1 3 = f 3 ∧ u.2.1 6 = f 6) (fun u => YW cy y0 r u.1 u.2.1 u.2.2.1 u.2.2.2) := by
  refine ctV_of (by decide) (Nat.le_of_ble_eq_true rfl) (fun p e s m below meth c A ls Q hx hb hml hts hown hnm hE hP hD hA hl ret => ?_)
  have hUv : (v 35).toInt + (v 36).toInt ≤ 40 := hIv.2
  have hM_v : KV [1, 2] v v := fun _ _ => rfl
  have hA_f : KF [] f f := fun _ _ => rfl
  have b0_v : (0 : Int) ≤ (v 0).toInt ∧ (v 0).toInt ≤ 1600 := YIb.b hIv.1 0 (by decide)
  have b1_v : (0 : Int) ≤ (v 1).toInt ∧ (v 1).toInt ≤ 4 := YIb.b hIv.1 1 (by decide)
  have b8_v : (0 : Int) ≤ (v 8).toInt ∧ (v 8).toInt ≤ 320 := YIb.b hIv.1 8 (by decide)
  have b10_v : (0 : Int) ≤ (v 10).toInt ∧ (v 10).toInt ≤ 160 := YIb.b hIv.1 10 (by decide)
  have b13_v : (0 : Int) ≤ (v 13).toInt ∧ (v 13).toInt ≤ 31 := YIb.b hIv.1 13 (by decide)
  have b14_v : (0 : Int) ≤ (v 14).toInt ∧ (v 14).toInt ≤ 8 := YIb.b hIv.1 14 (by decide)
  have b15_v : (0 : Int) ≤ (v 15).toInt ∧ (v 15).toInt ≤ 1 := YIb.b hIv.1 15 (by decide)
  have b17_v : (0 : Int) ≤ (v 17).toInt ∧ (v 17).toInt ≤ 6 := YIb.b hIv.1 17 (by decide)
  have b18_v : (0 : Int) ≤ (v 18).toInt ∧ (v 18).toInt ≤ 6 := YIb.b hIv.1 18 (by decide)
  have hown : s.vm.findClass RX11 = some m.cls := hown
  have hS : va_S A s.heap s.heap [] := va_S.rf
  have hl : lv_has ls 2 [(0, .ref y0), (1, .int p1)] := hl
  refine lv_aload_n hx hb dX11_wrong_0 rfl (lv_at hl 0 rfl) ?_
  refine va_get (D := (dC, dI)) (ci := 11) (v := .int (v 1)) (C := RX11) (T := TX11) (N := 79) hx hb hts inB_11 hown hE.1 hP 0 rfl rfl 2 (by decide) (hts _ k_1322) (fun _ h9 => h9) rfl dX11_wrong_1 ?_
  have b1_v : 0 ≤ (v 1).toInt ∧ (v 1).toInt ≤ 4 := YIb.b hIv.1 1 (by decide)
  refine lv_if_le (tgt := 8) hx hb dX11_wrong_4 (by decide) (fun c1 => ?_) (fun c1 => ?_)
  · skip
    have zc1 : (v 1).toInt ≤ 0 := by rw [fa_le, show (0 : Int32).toInt = 0 from by decide] at c1; exact c1
    refine lv_aload_n hx hb dX11_wrong_8 rfl (lv_at hl 0 rfl) ?_
    refine lv_aload_n hx hb dX11_wrong_9 rfl (lv_at hl 0 rfl) ?_
    refine va_get (D := (dC, dI)) (ci := 11) (v := .int (v 5)) (C := RX11) (T := TX11) (N := 79) hx hb hts inB_11 hown hE.1 hP 0 rfl rfl 6 (by decide) (hts _ k_1326) (fun _ h9 => h9) rfl dX11_wrong_10 ?_
    refine lv_iconst (v := 3) hx hb dX11_wrong_13 (by decide) ?_
    refine lv_icmp_ne (tgt := 21) hx hb dX11_wrong_14 (by decide) (fun c2 => ?_) (fun c2 => ?_)
    · skip
      have zc2 : ¬ ((v 5).toInt = 3) := by rw [fa_eq, show (3 : Int32).toInt = 3 from by decide] at c2; exact c2
      refine lv_iload_n hx hb dX11_wrong_21 rfl (lv_at hl 1 rfl) ?_
      refine va_put (D := (dC, dI)) (ci := 11) (v := .int p1) (ty := tyX11 2) (C := RX11) (T := TX11) (N := 79) hx hb hts inB_11 tyX11 tyX11_ok nmX11 hown hE.1 hP hD hS 0 rfl rfl 2 (by decide) (hts _ k_1322) (fun _ h9 => h9) rfl (tyX11_ok 2 (by decide)) rfl rfl (Nat.le_of_ble_eq_true rfl) dX11_wrong_22 (fun H locs hP hD hS => ?_)
      have hP : va_P (dC, dI) vwCl (YW cy y0 r (upd v 1 p1) f w g) H := hP
      have hD : va_D A (YW cy y0 r (upd v 1 p1) f w g) := hD
      refine lv_aload_n hx hb dX11_wrong_25 rfl (lv_at hl 0 rfl) ?_
      refine lv_aload_n hx hb dX11_wrong_26 rfl (lv_at hl 0 rfl) ?_
      refine va_get (D := (dC, dI)) (ci := 11) (v := .int (v 6)) (C := RX11) (T := TX11) (N := 79) hx hb hts inB_11 hown hE.1 hP 0 rfl rfl 7 (by decide) (hts _ k_1327) (fun _ h9 => h9) rfl dX11_wrong_27 ?_
      refine va_put (D := (dC, dI)) (ci := 11) (v := .int (v 6)) (ty := tyX11 3) (C := RX11) (T := TX11) (N := 79) hx hb hts inB_11 tyX11 tyX11_ok nmX11 hown hE.1 hP hD hS 0 rfl rfl 3 (by decide) (hts _ k_1323) (fun _ h9 => h9) rfl (tyX11_ok 3 (by decide)) rfl rfl (Nat.le_of_ble_eq_true rfl) dX11_wrong_30 (fun H locs hP hD hS => ?_)
      have hP : va_P (dC, dI) vwCl (YW cy y0 r (upd (upd v 1 p1) 2 (v 6)) f w g) H := hP
      have hD : va_D A (YW cy y0 r (upd (upd v 1 p1) 2 (v 6)) f w g) := hD
      exact ret ((upd (upd v 1 p1) 2 (v 6)), f, w, g) _ _ _ _ _ _ ⟨(gsY_X11_wrong_1_q0 c1 c2), (KV.up (j := 2) (x := (v 6)) (KV.up (j := 1) (x := p1) hM_v rfl) rfl), hA_f, ⟨(YIb.upd (j := 2) (x := (v 6)) (YIb.upd (j := 1) (x := p1) hIv.1 (show (0 : Int) ≤ p1.toInt by omega) (show p1.toInt ≤ (4 : Int) by omega)) (rlo _) (rhi _)), hIv.2⟩, hCf, hRf, rfl, rfl, rfl, rfl, rfl, rfl, rfl, rfl, rfl, rfl, rfl, rfl, rfl, rfl, rfl, rfl, rfl, rfl, (by show (v 3).toInt ≤ (v 3).toInt; omega), (by show (v 5).toInt = (v 5).toInt ∨ (v 3).toInt < (v 3).toInt ∨ ¬ (v 5).toInt = 59; omega), (by show 0 < p1.toInt; omega), rfl, rfl, rfl⟩ hP hD hS dX11_wrong_33 (Nat.le_refl _) (Nat.le_refl _)
    · skip
      have zc2 : (v 5).toInt = 3 := by rw [fa_eq, show (3 : Int32).toInt = 3 from by decide] at c2; exact c2
      refine lv_iconst (v := 1) hx hb dX11_wrong_17 (by decide) ?_
      refine lv_goto (tgt := 22) hx hb dX11_wrong_18 (by decide) ?_
      refine va_put (D := (dC, dI)) (ci := 11) (v := .int 1) (ty := tyX11 2) (C := RX11) (T := TX11) (N := 79) hx hb hts inB_11 tyX11 tyX11_ok nmX11 hown hE.1 hP hD hS 0 rfl rfl 2 (by decide) (hts _ k_1322) (fun _ h9 => h9) rfl (tyX11_ok 2 (by decide)) rfl rfl (Nat.le_of_ble_eq_true rfl) dX11_wrong_22 (fun H locs hP hD hS => ?_)
      have hP : va_P (dC, dI) vwCl (YW cy y0 r (upd v 1 1) f w g) H := hP
      have hD : va_D A (YW cy y0 r (upd v 1 1) f w g) := hD
      refine lv_aload_n hx hb dX11_wrong_25 rfl (lv_at hl 0 rfl) ?_
      refine lv_aload_n hx hb dX11_wrong_26 rfl (lv_at hl 0 rfl) ?_
      refine va_get (D := (dC, dI)) (ci := 11) (v := .int (v 6)) (C := RX11) (T := TX11) (N := 79) hx hb hts inB_11 hown hE.1 hP 0 rfl rfl 7 (by decide) (hts _ k_1327) (fun _ h9 => h9) rfl dX11_wrong_27 ?_
      refine va_put (D := (dC, dI)) (ci := 11) (v := .int (v 6)) (ty := tyX11 3) (C := RX11) (T := TX11) (N := 79) hx hb hts inB_11 tyX11 tyX11_ok nmX11 hown hE.1 hP hD hS 0 rfl rfl 3 (by decide) (hts _ k_1323) (fun _ h9 => h9) rfl (tyX11_ok 3 (by decide)) rfl rfl (Nat.le_of_ble_eq_true rfl) dX11_wrong_30 (fun H locs hP hD hS => ?_)
      have hP : va_P (dC, dI) vwCl (YW cy y0 r (upd (upd v 1 1) 2 (v 6)) f w g) H := hP
      have hD : va_D A (YW cy y0 r (upd (upd v 1 1) 2 (v 6)) f w g) := hD
      exact ret ((upd (upd v 1 1) 2 (v 6)), f, w, g) _ _ _ _ _ _ ⟨(gsY_X11_wrong_1_q1 c1 c2), (KV.up (j := 2) (x := (v 6)) (KV.up (j := 1) (x := 1) hM_v rfl) rfl), hA_f, ⟨(YIb.upd (j := 2) (x := (v 6)) (YIb.upd (j := 1) (x := 1) hIv.1 (by decide) (by decide)) (rlo _) (rhi _)), hIv.2⟩, hCf, hRf, rfl, rfl, rfl, rfl, rfl, rfl, rfl, rfl, rfl, rfl, rfl, rfl, rfl, rfl, rfl, rfl, rfl, rfl, (by have q0 : (1 : Int32).toInt = 1 := (by decide); show (v 3).toInt ≤ (v 3).toInt; omega), (by have q0 : (1 : Int32).toInt = 1 := (by decide); show (v 5).toInt = (v 5).toInt ∨ (v 3).toInt < (v 3).toInt ∨ ¬ (v 5).toInt = 59; omega), (by have q0 : (1 : Int32).toInt = 1 := (by decide); show 0 < (1 : Int32).toInt; omega), rfl, rfl, rfl⟩ hP hD hS dX11_wrong_33 (Nat.le_refl _) (Nat.le_refl _)
  · skip
    have zc1 : ¬ ((v 1).toInt ≤ 0) := by rw [fa_le, show (0 : Int32).toInt = 0 from by decide] at c1; exact c1
    exact ret (v, f, w, g) _ _ _ _ _ _ ⟨(gsY_X11_wrong_1_q2 c1), hM_v, hA_f, hIv, hCf, hRf, rfl, rfl, rfl, rfl, rfl, rfl, rfl, rfl, rfl, rfl, rfl, rfl, rfl, rfl, rfl, rfl, rfl, rfl, (by show (v 3).toInt ≤ (v 3).toInt; omega), (by show (v 5).toInt = (v 5).toInt ∨ (v 3).toInt < (v 3).toInt ∨ ¬ (v 5).toInt = 59; omega), (by show 0 < (v 1).toInt; omega), rfl, rfl, rfl⟩ hP hD hS dX11_wrong_7 (Nat.le_refl _) (Nat.le_refl _)
set_option maxHeartbeats 4000000 in
set_option maxRecDepth 100000 in
theorem sY_X11_isWord_1 (NF : Nat) (l : Launch) (dC : Nat → ClassId) (dI : Nat → Nat → Nat) (cy : Nat → ClassId) (y0 : Nat) (r : Nat → Nat) (j1 : Int64) (v : Nat → Int32) (f : Nat → Nat → Int32) (w : Int64) (g : Nat → Int64) (hIv : YI v) (hCf : YC f) (hRf : progOK (f 4) (f 5) (v 9).toInt.toNat)  : ctI l (dC, dI) cy yX11_isWord cX11_isWord 3 .boolean 1 60 0 0 Unit [.ref y0, .long j1] (YW cy y0 r v f w g) (fun r u => gsY_X11_isWord_1 NF j1 v f w g = r ∧ ((r = 1 ∧ (v 5).toInt = 1) ∨ (r = 0))) (fun u => YW cy y0 r v f w g) := by
  refine ctI_of (by decide) (Nat.le_of_ble_eq_true rfl) (fun p e s m below meth c A ls Q hx hb hml hts hown hE hP hD hA hl ret => ?_)
  have hUv : (v 35).toInt + (v 36).toInt ≤ 40 := hIv.2
  have hown : s.vm.findClass RX11 = some m.cls := hown
  have hS : va_S A s.heap s.heap [] := va_S.rf
  have hl : lv_has ls 3 [(0, .ref y0), (1, .long j1)] := hl
  refine lv_aload_n hx hb dX11_isWord_0 rfl (lv_at hl 0 rfl) ?_
  refine va_get (D := (dC, dI)) (ci := 11) (v := .int (v 5)) (C := RX11) (T := TX11) (N := 79) hx hb hts inB_11 hown hE.1 hP 0 rfl rfl 6 (by decide) (hts _ k_1326) (fun _ h9 => h9) rfl dX11_isWord_1 ?_
  refine lv_iconst (v := 1) hx hb dX11_isWord_4 (by decide) ?_
  refine lv_icmp_ne (tgt := 21) hx hb dX11_isWord_5 (by decide) (fun c1 => ?_) (fun c1 => ?_)
  · skip
    have zc1 : ¬ ((v 5).toInt = 1) := by rw [fa_eq, show (1 : Int32).toInt = 1 from by decide] at c1; exact c1
    refine lv_iconst (v := 0) hx hb dX11_isWord_21 (by decide) ?_
    exact ret 0 () _ _ _ _ _ _ rfl ⟨(gsY_X11_isWord_1_q0 c1), (Or.inr rfl)⟩ hP hD hS dX11_isWord_22 (Nat.le_refl _) (Nat.le_refl _)
  · skip
    have zc1 : (v 5).toInt = 1 := by rw [fa_eq, show (1 : Int32).toInt = 1 from by decide] at c1; exact c1
    refine lv_aload_n hx hb dX11_isWord_8 rfl (lv_at hl 0 rfl) ?_
    refine va_get (D := (dC, dI)) (ci := 11) (v := .long w) (C := RX11) (T := TX11) (N := 79) hx hb hts inB_11 hown hE.1 hP 0 rfl rfl 9 (by decide) (hts _ k_1329) (fun _ h9 => h9) rfl dX11_isWord_9 ?_
    refine lv_lload_n hx hb dX11_isWord_12 rfl (lv_at hl 1 rfl) ?_
    refine W.lcmp hx hb dX11_isWord_13 ?_
    refine lv_topi (fun t2 et2 => ?_)
    refine lv_if_ne (tgt := 21) hx hb dX11_isWord_14 (by decide) (fun c3 => ?_) (fun c3 => ?_)
    · skip
      have zc3 : ¬ (t2.toInt = 0) := by rw [fa_eq, show (0 : Int32).toInt = 0 from by decide] at c3; exact c3
      refine lv_iconst (v := 0) hx hb dX11_isWord_21 (by decide) ?_
      exact ret 0 () _ _ _ _ _ _ rfl ⟨(gsY_X11_isWord_1_q1 c1 et2 c3), (Or.inr rfl)⟩ hP hD hS dX11_isWord_22 (Nat.le_refl _) (Nat.le_refl _)
    · skip
      have zc3 : t2.toInt = 0 := by rw [fa_eq, show (0 : Int32).toInt = 0 from by decide] at c3; exact c3
      refine lv_iconst (v := 1) hx hb dX11_isWord_17 (by decide) ?_
      refine lv_goto (tgt := 22) hx hb dX11_isWord_18 (by decide) ?_
      exact ret 1 () _ _ _ _ _ _ rfl ⟨(gsY_X11_isWord_1_q2 c1 et2 c3), (Or.inl ⟨rfl, by omega⟩)⟩ hP hD hS dX11_isWord_22 (Nat.le_refl _) (Nat.le_refl _)
set_option maxHeartbeats 4000000 in
set_option maxRecDepth 100000 in
theorem sY_X11_want_1 (NF : Nat) (l : Launch) (dC : Nat → ClassId) (dI : Nat → Nat → Nat) (cy : Nat → ClassId) (y0 : Nat) (r : Nat → Nat) (j1 : Int64) (v : Nat → Int32) (f : Nat → Nat → Int32) (w : Int64) (g : Nat → Int64) (hIv : YI v) (hCf : YC f) (hRf : progOK (f 4) (f 5) (v 9).toInt.toNat)  : ctV l (dC, dI) cy yX11_want cX11_want 3 3 103 0 0 ((Nat → Int32) × (Nat → Nat → Int32) × (Int64) × (Nat → Int64)) [.ref y0, .long j1] (YW cy y0 r v f w g) (fun u => gsY_X11_want_1 NF j1 v f w g = u ∧ KV [1, 2, 3, 5, 6, 7] u.1 v ∧ KF [] u.2.1 f ∧ YI u.1 ∧ YC u.2.1 ∧ progOK (u.2.1 4) (u.2.1 5) (u.1 9).toInt.toNat ∧ u.1 0 = v 0 ∧ u.1 4 = v 4 ∧ u.1 8 = v 8 ∧ u.1 9 = v 9 ∧ u.1 10 = v 10 ∧ u.1 13 = v 13 ∧ u.1 14 = v 14 ∧ u.1 15 = v 15 ∧ u.1 17 = v 17 ∧ u.1 18 = v 18 ∧ u.1 24 = v 24 ∧ u.1 25 = v 25 ∧ u.1 35 = v 35 ∧ u.1 36 = v 36 ∧ u.1 38 = v 38 ∧ u.1 39 = v 39 ∧ ((v 3).toInt ≤ (u.1 3).toInt) ∧ ((u.1 5).toInt = (v 5).toInt ∨ (v 3).toInt < (u.1 3).toInt ∨ ¬ (u.1 5).toInt = 59) ∧ u.2.1 2 = f 2 ∧ u.2.1 3 = f 3 ∧ u.2.1 6 = f 6) (fun u => YW cy y0 r u.1 u.2.1 u.2.2.1 u.2.2.2) := by
  refine ctV_of (by decide) (Nat.le_of_ble_eq_true rfl) (fun p e s m below meth c A ls Q hx hb hml hts hown hnm hE hP hD hA hl ret => ?_)
  have hUv : (v 35).toInt + (v 36).toInt ≤ 40 := hIv.2
  have hM_v : KV [1, 2, 3, 5, 6, 7] v v := fun _ _ => rfl
  have hA_f : KF [] f f := fun _ _ => rfl
  have b0_v : (0 : Int) ≤ (v 0).toInt ∧ (v 0).toInt ≤ 1600 := YIb.b hIv.1 0 (by decide)
  have b1_v : (0 : Int) ≤ (v 1).toInt ∧ (v 1).toInt ≤ 4 := YIb.b hIv.1 1 (by decide)
  have b8_v : (0 : Int) ≤ (v 8).toInt ∧ (v 8).toInt ≤ 320 := YIb.b hIv.1 8 (by decide)
  have b10_v : (0 : Int) ≤ (v 10).toInt ∧ (v 10).toInt ≤ 160 := YIb.b hIv.1 10 (by decide)
  have b13_v : (0 : Int) ≤ (v 13).toInt ∧ (v 13).toInt ≤ 31 := YIb.b hIv.1 13 (by decide)
  have b14_v : (0 : Int) ≤ (v 14).toInt ∧ (v 14).toInt ≤ 8 := YIb.b hIv.1 14 (by decide)
  have b15_v : (0 : Int) ≤ (v 15).toInt ∧ (v 15).toInt ≤ 1 := YIb.b hIv.1 15 (by decide)
  have b17_v : (0 : Int) ≤ (v 17).toInt ∧ (v 17).toInt ≤ 6 := YIb.b hIv.1 17 (by decide)
  have b18_v : (0 : Int) ≤ (v 18).toInt ∧ (v 18).toInt ≤ 6 := YIb.b hIv.1 18 (by decide)
  have hGR : GR (v 3).toInt (v 5).toInt (v 3).toInt (v 5).toInt := GR.refl _ _
  have hown : s.vm.findClass RX11 = some m.cls := hown
  have hS : va_S A s.heap s.heap [] := va_S.rf
  have hl : lv_has ls 3 [(0, .ref y0), (1, .long j1)] := hl
  refine lv_aload_n hx hb dX11_want_0 rfl (lv_at hl 0 rfl) ?_
  refine va_get (D := (dC, dI)) (ci := 11) (v := .int (v 1)) (C := RX11) (T := TX11) (N := 79) hx hb hts inB_11 hown hE.1 hP 0 rfl rfl 2 (by decide) (hts _ k_1322) (fun _ h9 => h9) rfl dX11_want_1 ?_
  have b1_v : 0 ≤ (v 1).toInt ∧ (v 1).toInt ≤ 4 := YIb.b hIv.1 1 (by decide)
  refine lv_if_le (tgt := 8) hx hb dX11_want_4 (by decide) (fun c1 => ?_) (fun c1 => ?_)
  · skip
    have zc1 : (v 1).toInt ≤ 0 := by rw [fa_le, show (0 : Int32).toInt = 0 from by decide] at c1; exact c1
    refine lv_aload_n hx hb dX11_want_8 rfl (lv_at hl 0 rfl) ?_
    refine lv_lload_n hx hb dX11_want_9 rfl (lv_at hl 1 rfl) ?_
    refine cbVi (n := 1) (rest := []) hx hb hml hown hts hE hP hD hS hA (sY_X11_isWord_1 NF l dC dI cy y0 r j1 v f w g hIv hCf hRf ) k_1601 k_1603 k_45 k_114 k_1604 (by decide +kernel) ⟨Nat.le_of_ble_eq_true rfl, Nat.le_of_ble_eq_true rfl⟩ 0 11 rfl rfl (rfl) hl.1 rfl (Nat.le_of_ble_eq_true rfl) dX11_want_10 (fun r2 u H locs hw hP hD hS => ?_)
    obtain ⟨hG3, hw⟩ := hw
    rcases hw with ⟨g4, g4_0⟩ | ⟨g4⟩
    · skip
      subst g4
      refine lv_if_ne (tgt := 24) hx hb dX11_want_13 (by decide) (fun _ => ?_) (fun c0 => absurd c0 (by decide))
      refine lv_aload_n hx hb dX11_want_24 rfl (lv_at hl 0 rfl) ?_
      refine cbVv (n := 0) (rest := []) hx hb hml hown hts hE hP hD hS hA (sY_X11_token_1 NF l dC dI cy y0 r  v f w g hIv hCf hRf ) k_1579 k_1581 k_42 k_114 k_1582 (by decide +kernel) ⟨Nat.le_of_ble_eq_true rfl, Nat.le_of_ble_eq_true rfl⟩ 0 11 rfl rfl (rfl) hl.1 rfl (Nat.le_of_ble_eq_true rfl) dX11_want_25 (fun u H locs hw hP hD hS => ?_)
      obtain ⟨hG5, hw⟩ := hw
      obtain ⟨v6, f7, w8, g9⟩ := u
      obtain ⟨kV_v6, kF_f7, hIv6, hCf7, hRf7, hk0_v6, hk1_v6, hk2_v6, hk4_v6, hk8_v6, hk9_v6, hk10_v6, hk13_v6, hk14_v6, hk15_v6, hk17_v6, hk18_v6, hk24_v6, hk25_v6, hk35_v6, hk36_v6, hk38_v6, hk39_v6, pv10, pv11, kq12, kq13, kq14⟩ := hw
      have hM_v6 : KV [1, 2, 3, 5, 6, 7] v6 v := KV.tr kV_v6 hM_v rfl
      have hA_f7 : KF [] f7 f := KF.tr kF_f7 hA_f rfl
      have hP : va_P (dC, dI) vwCl (YW cy y0 r v6 f7 w8 g9) H := hP
      have hD : va_D A (YW cy y0 r v6 f7 w8 g9) := hD
      have b3_v6 : 0 ≤ (v6 3).toInt ∧ (v6 3).toInt ≤ 1600 := YIb.b hIv6.1 3 (by decide)
      have pv10 : (v 3).toInt ≤ (v6 3).toInt := pv10
      have pv11 : (v6 5).toInt = (v 5).toInt ∨ (v 3).toInt < (v6 3).toInt ∨ ¬ (v6 5).toInt = 59 := pv11
      have hs2_f7 : f7 2 = (f 2) := kq12
      have hs3_f7 : f7 3 = (f 3) := kq13
      have hs6_f7 : f7 6 = (f 6) := kq14
      have hUv6 : (v6 35).toInt + (v6 36).toInt ≤ 40 := hIv6.2
      have hq0_v6 : v6 0 = (v 0) := hk0_v6
      have zq0_v6 := congrArg Int32.toInt hq0_v6
      have hq1_v6 : v6 1 = (v 1) := hk1_v6
      have zq1_v6 := congrArg Int32.toInt hq1_v6
      have hq8_v6 : v6 8 = (v 8) := hk8_v6
      have zq8_v6 := congrArg Int32.toInt hq8_v6
      have hq9_v6 : v6 9 = (v 9) := hk9_v6
      have zq9_v6 := congrArg Int32.toInt hq9_v6
      have hq10_v6 : v6 10 = (v 10) := hk10_v6
      have zq10_v6 := congrArg Int32.toInt hq10_v6
      have hq13_v6 : v6 13 = (v 13) := hk13_v6
      have zq13_v6 := congrArg Int32.toInt hq13_v6
      have hq14_v6 : v6 14 = (v 14) := hk14_v6
      have zq14_v6 := congrArg Int32.toInt hq14_v6
      have hq15_v6 : v6 15 = (v 15) := hk15_v6
      have zq15_v6 := congrArg Int32.toInt hq15_v6
      have hq17_v6 : v6 17 = (v 17) := hk17_v6
      have zq17_v6 := congrArg Int32.toInt hq17_v6
      have hq18_v6 : v6 18 = (v 18) := hk18_v6
      have zq18_v6 := congrArg Int32.toInt hq18_v6
      have hGR : GR (v 3).toInt (v 5).toInt (v6 3).toInt (v6 5).toInt := GR.tr hGR (show GR (v 3).toInt (v 5).toInt (v6 3).toInt (v6 5).toInt from ⟨pv10, pv11⟩) (by first | with_reducible rfl | with_reducible assumption | rfl | omega) (by first | with_reducible rfl | with_reducible assumption | rfl | omega)
      clear pv11
      exact ret (v6, f7, w8, g9) _ _ _ _ _ _ ⟨(gsY_X11_want_1_q0 c1 hG3 hG5), hM_v6, hA_f7, hIv6, hCf7, hRf7, hk0_v6, hk4_v6, hk8_v6, hk9_v6, hk10_v6, hk13_v6, hk14_v6, hk15_v6, hk17_v6, hk18_v6, hk24_v6, hk25_v6, hk35_v6, hk36_v6, hk38_v6, hk39_v6, (by show (v 3).toInt ≤ (v6 3).toInt; exact (GR.cast hGR (by first | with_reducible rfl | with_reducible assumption | rfl | omega) (by first | with_reducible rfl | with_reducible assumption | rfl | omega)).1), (by show (v6 5).toInt = (v 5).toInt ∨ (v 3).toInt < (v6 3).toInt ∨ ¬ (v6 5).toInt = 59; exact (GR.cast hGR (by first | with_reducible rfl | with_reducible assumption | rfl | omega) (by first | with_reducible rfl | with_reducible assumption | rfl | omega)).2), hs2_f7, hs3_f7, hs6_f7⟩ hP hD hS dX11_want_28 (Nat.le_refl _) (Nat.le_refl _)
    · skip
      subst g4
      refine lv_if_ne (tgt := 24) hx hb dX11_want_13 (by decide) (fun c0 => absurd (by decide) c0) (fun _ => ?_)
      refine lv_aload_n hx hb dX11_want_16 rfl (lv_at hl 0 rfl) ?_
      refine lv_iconst (v := 2) hx hb dX11_want_17 (by decide) ?_
      refine cbVv (n := 1) (rest := []) hx hb hml hown hts hE hP hD hS hA (sY_X11_wrong_1 NF l dC dI cy y0 r 2 v f w g hIv hCf hRf ⟨by decide, by decide⟩) k_1641 k_1643 k_50 k_114 k_1644 (by decide +kernel) ⟨Nat.le_of_ble_eq_true rfl, Nat.le_of_ble_eq_true rfl⟩ 0 11 rfl rfl (rfl) hl.1 rfl (Nat.le_of_ble_eq_true rfl) dX11_want_18 (fun u H locs hw hP hD hS => ?_)
      obtain ⟨hG15, hw⟩ := hw
      obtain ⟨v16, f17, w18, g19⟩ := u
      obtain ⟨kV_v16, kF_f17, hIv16, hCf17, hRf17, hk0_v16, hk3_v16, hk4_v16, hk5_v16, hk8_v16, hk9_v16, hk10_v16, hk13_v16, hk14_v16, hk15_v16, hk17_v16, hk18_v16, hk24_v16, hk25_v16, hk35_v16, hk36_v16, hk38_v16, hk39_v16, pv20, pv21, pv22, kq23, kq24, kq25⟩ := hw
      have hM_v16 : KV [1, 2, 3, 5, 6, 7] v16 v := KV.tr kV_v16 hM_v rfl
      have hA_f17 : KF [] f17 f := KF.tr kF_f17 hA_f rfl
      have hP : va_P (dC, dI) vwCl (YW cy y0 r v16 f17 w18 g19) H := hP
      have hD : va_D A (YW cy y0 r v16 f17 w18 g19) := hD
      have b3_v16 : 0 ≤ (v16 3).toInt ∧ (v16 3).toInt ≤ 1600 := YIb.b hIv16.1 3 (by decide)
      have b1_v16 : 0 ≤ (v16 1).toInt ∧ (v16 1).toInt ≤ 4 := YIb.b hIv16.1 1 (by decide)
      have pv20 : (v 3).toInt ≤ (v16 3).toInt := pv20
      have pv21 : (v16 5).toInt = (v 5).toInt ∨ (v 3).toInt < (v16 3).toInt ∨ ¬ (v16 5).toInt = 59 := pv21
      have pv22 : 0 < (v16 1).toInt := pv22
      have hs2_f17 : f17 2 = (f 2) := kq23
      have hs3_f17 : f17 3 = (f 3) := kq24
      have hs6_f17 : f17 6 = (f 6) := kq25
      have hUv16 : (v16 35).toInt + (v16 36).toInt ≤ 40 := hIv16.2
      have hq0_v16 : v16 0 = (v 0) := hk0_v16
      have zq0_v16 := congrArg Int32.toInt hq0_v16
      have hq3_v16 : v16 3 = (v 3) := hk3_v16
      have zq3_v16 := congrArg Int32.toInt hq3_v16
      have hq5_v16 : v16 5 = (v 5) := hk5_v16
      have zq5_v16 := congrArg Int32.toInt hq5_v16
      have hq8_v16 : v16 8 = (v 8) := hk8_v16
      have zq8_v16 := congrArg Int32.toInt hq8_v16
      have hq9_v16 : v16 9 = (v 9) := hk9_v16
      have zq9_v16 := congrArg Int32.toInt hq9_v16
      have hq10_v16 : v16 10 = (v 10) := hk10_v16
      have zq10_v16 := congrArg Int32.toInt hq10_v16
      have hq13_v16 : v16 13 = (v 13) := hk13_v16
      have zq13_v16 := congrArg Int32.toInt hq13_v16
      have hq14_v16 : v16 14 = (v 14) := hk14_v16
      have zq14_v16 := congrArg Int32.toInt hq14_v16
      have hq15_v16 : v16 15 = (v 15) := hk15_v16
      have zq15_v16 := congrArg Int32.toInt hq15_v16
      have hq17_v16 : v16 17 = (v 17) := hk17_v16
      have zq17_v16 := congrArg Int32.toInt hq17_v16
      have hq18_v16 : v16 18 = (v 18) := hk18_v16
      have zq18_v16 := congrArg Int32.toInt hq18_v16
      have hGR : GR (v 3).toInt (v 5).toInt (v16 3).toInt (v16 5).toInt := GR.tr hGR (show GR (v 3).toInt (v 5).toInt (v16 3).toInt (v16 5).toInt from ⟨pv20, pv21⟩) (by first | with_reducible rfl | with_reducible assumption | rfl | omega) (by first | with_reducible rfl | with_reducible assumption | rfl | omega)
      clear pv21
      refine lv_goto (tgt := 28) hx hb dX11_want_21 (by decide) ?_
      exact ret (v16, f17, w18, g19) _ _ _ _ _ _ ⟨(gsY_X11_want_1_q1 c1 hG3 hG15), hM_v16, hA_f17, hIv16, hCf17, hRf17, hk0_v16, hk4_v16, hk8_v16, hk9_v16, hk10_v16, hk13_v16, hk14_v16, hk15_v16, hk17_v16, hk18_v16, hk24_v16, hk25_v16, hk35_v16, hk36_v16, hk38_v16, hk39_v16, (by show (v 3).toInt ≤ (v16 3).toInt; exact (GR.cast hGR (by first | with_reducible rfl | with_reducible assumption | rfl | omega) (by first | with_reducible rfl | with_reducible assumption | rfl | omega)).1), (by show (v16 5).toInt = (v 5).toInt ∨ (v 3).toInt < (v16 3).toInt ∨ ¬ (v16 5).toInt = 59; exact (GR.cast hGR (by first | with_reducible rfl | with_reducible assumption | rfl | omega) (by first | with_reducible rfl | with_reducible assumption | rfl | omega)).2), hs2_f17, hs3_f17, hs6_f17⟩ hP hD hS dX11_want_28 (Nat.le_refl _) (Nat.le_refl _)
  · skip
    have zc1 : ¬ ((v 1).toInt ≤ 0) := by rw [fa_le, show (0 : Int32).toInt = 0 from by decide] at c1; exact c1
    exact ret (v, f, w, g) _ _ _ _ _ _ ⟨(gsY_X11_want_1_q2 c1), hM_v, hA_f, hIv, hCf, hRf, rfl, rfl, rfl, rfl, rfl, rfl, rfl, rfl, rfl, rfl, rfl, rfl, rfl, rfl, rfl, rfl, (by show (v 3).toInt ≤ (v 3).toInt; exact (GR.cast hGR (by first | with_reducible rfl | with_reducible assumption | rfl | omega) (by first | with_reducible rfl | with_reducible assumption | rfl | omega)).1), (by show (v 5).toInt = (v 5).toInt ∨ (v 3).toInt < (v 3).toInt ∨ ¬ (v 5).toInt = 59; exact (GR.cast hGR (by first | with_reducible rfl | with_reducible assumption | rfl | omega) (by first | with_reducible rfl | with_reducible assumption | rfl | omega)).2), rfl, rfl, rfl⟩ hP hD hS dX11_want_7 (Nat.le_refl _) (Nat.le_refl _)
set_option maxHeartbeats 4000000 in
set_option maxRecDepth 100000 in
theorem sY_X11_toldNumber_1 (NF : Nat) (l : Launch) (dC : Nat → ClassId) (dI : Nat → Nat → Nat) (cy : Nat → ClassId) (y0 : Nat) (r : Nat → Nat) (p1 : Int32) (p2 : Int32) (v : Nat → Int32) (f : Nat → Nat → Int32) (w : Int64) (g : Nat → Int64) (hIv : YI v) (hCf : YC f) (hRf : progOK (f 4) (f 5) (v 9).toInt.toNat)  : ctI l (dC, dI) cy yX11_toldNumber cX11_toldNumber 4 .int 3 103 0 0 ((Nat → Int32) × (Nat → Nat → Int32) × (Int64) × (Nat → Int64)) [.ref y0, .int p1, .int p2] (YW cy y0 r v f w g) (fun r u => gsY_X11_toldNumber_1 NF p1 p2 v f w g = (r, u) ∧ KV [1, 2, 3, 5, 6, 7] u.1 v ∧ KF [] u.2.1 f ∧ YI u.1 ∧ YC u.2.1 ∧ progOK (u.2.1 4) (u.2.1 5) (u.1 9).toInt.toNat ∧ u.1 0 = v 0 ∧ u.1 4 = v 4 ∧ u.1 8 = v 8 ∧ u.1 9 = v 9 ∧ u.1 10 = v 10 ∧ u.1 13 = v 13 ∧ u.1 14 = v 14 ∧ u.1 15 = v 15 ∧ u.1 17 = v 17 ∧ u.1 18 = v 18 ∧ u.1 24 = v 24 ∧ u.1 25 = v 25 ∧ u.1 35 = v 35 ∧ u.1 36 = v 36 ∧ u.1 38 = v 38 ∧ u.1 39 = v 39 ∧ ((v 3).toInt ≤ (u.1 3).toInt) ∧ ((u.1 5).toInt = (v 5).toInt ∨ (v 3).toInt < (u.1 3).toInt ∨ ¬ (u.1 5).toInt = 59) ∧ u.2.1 2 = f 2 ∧ u.2.1 3 = f 3 ∧ u.2.1 6 = f 6) (fun u => YW cy y0 r u.1 u.2.1 u.2.2.1 u.2.2.2) := by
  refine ctI_of (by decide) (Nat.le_of_ble_eq_true rfl) (fun p e s m below meth c A ls Q hx hb hml hts hown hE hP hD hA hl ret => ?_)
  have hUv : (v 35).toInt + (v 36).toInt ≤ 40 := hIv.2
  have hM_v : KV [1, 2, 3, 5, 6, 7] v v := fun _ _ => rfl
  have hA_f : KF [] f f := fun _ _ => rfl
  have b0_v : (0 : Int) ≤ (v 0).toInt ∧ (v 0).toInt ≤ 1600 := YIb.b hIv.1 0 (by decide)
  have b1_v : (0 : Int) ≤ (v 1).toInt ∧ (v 1).toInt ≤ 4 := YIb.b hIv.1 1 (by decide)
  have b8_v : (0 : Int) ≤ (v 8).toInt ∧ (v 8).toInt ≤ 320 := YIb.b hIv.1 8 (by decide)
  have b10_v : (0 : Int) ≤ (v 10).toInt ∧ (v 10).toInt ≤ 160 := YIb.b hIv.1 10 (by decide)
  have b13_v : (0 : Int) ≤ (v 13).toInt ∧ (v 13).toInt ≤ 31 := YIb.b hIv.1 13 (by decide)
  have b14_v : (0 : Int) ≤ (v 14).toInt ∧ (v 14).toInt ≤ 8 := YIb.b hIv.1 14 (by decide)
  have b15_v : (0 : Int) ≤ (v 15).toInt ∧ (v 15).toInt ≤ 1 := YIb.b hIv.1 15 (by decide)
  have b17_v : (0 : Int) ≤ (v 17).toInt ∧ (v 17).toInt ≤ 6 := YIb.b hIv.1 17 (by decide)
  have b18_v : (0 : Int) ≤ (v 18).toInt ∧ (v 18).toInt ≤ 6 := YIb.b hIv.1 18 (by decide)
  have hGR : GR (v 3).toInt (v 5).toInt (v 3).toInt (v 5).toInt := GR.refl _ _
  have hown : s.vm.findClass RX11 = some m.cls := hown
  have hS : va_S A s.heap s.heap [] := va_S.rf
  have hl : lv_has ls 4 [(0, .ref y0), (1, .int p1), (2, .int p2)] := hl
  refine lv_aload_n hx hb dX11_toldNumber_0 rfl (lv_at hl 0 rfl) ?_
  refine va_get (D := (dC, dI)) (ci := 11) (v := .int (v 1)) (C := RX11) (T := TX11) (N := 79) hx hb hts inB_11 hown hE.1 hP 0 rfl rfl 2 (by decide) (hts _ k_1322) (fun _ h9 => h9) rfl dX11_toldNumber_1 ?_
  have b1_v : 0 ≤ (v 1).toInt ∧ (v 1).toInt ≤ 4 := YIb.b hIv.1 1 (by decide)
  refine lv_if_le (tgt := 9) hx hb dX11_toldNumber_4 (by decide) (fun c1 => ?_) (fun c1 => ?_)
  · skip
    have zc1 : (v 1).toInt ≤ 0 := by rw [fa_le, show (0 : Int32).toInt = 0 from by decide] at c1; exact c1
    refine lv_aload_n hx hb dX11_toldNumber_9 rfl (lv_at hl 0 rfl) ?_
    refine va_get (D := (dC, dI)) (ci := 11) (v := .int (v 5)) (C := RX11) (T := TX11) (N := 79) hx hb hts inB_11 hown hE.1 hP 0 rfl rfl 6 (by decide) (hts _ k_1326) (fun _ h9 => h9) rfl dX11_toldNumber_10 ?_
    refine lv_iconst (v := 2) hx hb dX11_toldNumber_13 (by decide) ?_
    refine lv_icmp_eq (tgt := 25) hx hb dX11_toldNumber_14 (by decide) (fun c2 => ?_) (fun c2 => ?_)
    · skip
      have zc2 : (v 5).toInt = 2 := by rw [fa_eq, show (2 : Int32).toInt = 2 from by decide] at c2; exact c2
      refine lv_aload_n hx hb dX11_toldNumber_25 rfl (lv_at hl 0 rfl) ?_
      refine va_get (D := (dC, dI)) (ci := 11) (v := .int (v 7)) (C := RX11) (T := TX11) (N := 79) hx hb hts inB_11 hown hE.1 hP 0 rfl rfl 8 (by decide) (hts _ k_1328) (fun _ h9 => h9) rfl dX11_toldNumber_26 ?_
      refine lv_iload_n hx hb dX11_toldNumber_29 rfl (lv_at hl 1 rfl) ?_
      refine lv_icmp_lt (tgt := 41) hx hb dX11_toldNumber_30 (by decide) (fun c3 => ?_) (fun c3 => ?_)
      · skip
        have zc3 : (v 7).toInt < p1.toInt := by rw [fa_lt] at c3; exact c3
        have rg4 := fb_rng (v 7)
        have rg5 := fb_rng p1
        refine lv_aload_n hx hb dX11_toldNumber_41 rfl (lv_at hl 0 rfl) ?_
        refine lv_iconst (v := 4) hx hb dX11_toldNumber_42 (by decide) ?_
        refine cbVv (n := 1) (rest := []) hx hb hml hown hts hE hP hD hS hA (sY_X11_wrong_1 NF l dC dI cy y0 r 4 v f w g hIv hCf hRf ⟨by decide, by decide⟩) k_1641 k_1643 k_50 k_114 k_1644 (by decide +kernel) ⟨Nat.le_of_ble_eq_true rfl, Nat.le_of_ble_eq_true rfl⟩ 0 11 rfl rfl (rfl) hl.1 rfl (Nat.le_of_ble_eq_true rfl) dX11_toldNumber_43 (fun u H locs hw hP hD hS => ?_)
        obtain ⟨hG6, hw⟩ := hw
        obtain ⟨v7, f8, w9, g10⟩ := u
        obtain ⟨kV_v7, kF_f8, hIv7, hCf8, hRf8, hk0_v7, hk3_v7, hk4_v7, hk5_v7, hk8_v7, hk9_v7, hk10_v7, hk13_v7, hk14_v7, hk15_v7, hk17_v7, hk18_v7, hk24_v7, hk25_v7, hk35_v7, hk36_v7, hk38_v7, hk39_v7, pv11, pv12, pv13, kq14, kq15, kq16⟩ := hw
        have hM_v7 : KV [1, 2, 3, 5, 6, 7] v7 v := KV.tr kV_v7 hM_v rfl
        have hA_f8 : KF [] f8 f := KF.tr kF_f8 hA_f rfl
        have hP : va_P (dC, dI) vwCl (YW cy y0 r v7 f8 w9 g10) H := hP
        have hD : va_D A (YW cy y0 r v7 f8 w9 g10) := hD
        have b3_v7 : 0 ≤ (v7 3).toInt ∧ (v7 3).toInt ≤ 1600 := YIb.b hIv7.1 3 (by decide)
        have b1_v7 : 0 ≤ (v7 1).toInt ∧ (v7 1).toInt ≤ 4 := YIb.b hIv7.1 1 (by decide)
        have pv11 : (v 3).toInt ≤ (v7 3).toInt := pv11
        have pv12 : (v7 5).toInt = (v 5).toInt ∨ (v 3).toInt < (v7 3).toInt ∨ ¬ (v7 5).toInt = 59 := pv12
        have pv13 : 0 < (v7 1).toInt := pv13
        have hs2_f8 : f8 2 = (f 2) := kq14
        have hs3_f8 : f8 3 = (f 3) := kq15
        have hs6_f8 : f8 6 = (f 6) := kq16
        have hUv7 : (v7 35).toInt + (v7 36).toInt ≤ 40 := hIv7.2
        have hq0_v7 : v7 0 = (v 0) := hk0_v7
        have zq0_v7 := congrArg Int32.toInt hq0_v7
        have hq3_v7 : v7 3 = (v 3) := hk3_v7
        have zq3_v7 := congrArg Int32.toInt hq3_v7
        have hq5_v7 : v7 5 = (v 5) := hk5_v7
        have zq5_v7 := congrArg Int32.toInt hq5_v7
        have hq8_v7 : v7 8 = (v 8) := hk8_v7
        have zq8_v7 := congrArg Int32.toInt hq8_v7
        have hq9_v7 : v7 9 = (v 9) := hk9_v7
        have zq9_v7 := congrArg Int32.toInt hq9_v7
        have hq10_v7 : v7 10 = (v 10) := hk10_v7
        have zq10_v7 := congrArg Int32.toInt hq10_v7
        have hq13_v7 : v7 13 = (v 13) := hk13_v7
        have zq13_v7 := congrArg Int32.toInt hq13_v7
        have hq14_v7 : v7 14 = (v 14) := hk14_v7
        have zq14_v7 := congrArg Int32.toInt hq14_v7
        have hq15_v7 : v7 15 = (v 15) := hk15_v7
        have zq15_v7 := congrArg Int32.toInt hq15_v7
        have hq17_v7 : v7 17 = (v 17) := hk17_v7
        have zq17_v7 := congrArg Int32.toInt hq17_v7
        have hq18_v7 : v7 18 = (v 18) := hk18_v7
        have zq18_v7 := congrArg Int32.toInt hq18_v7
        have hGR : GR (v 3).toInt (v 5).toInt (v7 3).toInt (v7 5).toInt := GR.tr hGR (show GR (v 3).toInt (v 5).toInt (v7 3).toInt (v7 5).toInt from ⟨pv11, pv12⟩) (by first | with_reducible rfl | with_reducible assumption | rfl | omega) (by first | with_reducible rfl | with_reducible assumption | rfl | omega)
        clear pv12
        refine lv_aload_n hx hb dX11_toldNumber_46 rfl (lv_at hl 0 rfl) ?_
        refine va_get (D := (dC, dI)) (ci := 11) (v := .int (v7 7)) (C := RX11) (T := TX11) (N := 79) hx hb hts inB_11 hown hE.1 hP 0 rfl rfl 8 (by decide) (hts _ k_1328) (fun _ h9 => h9) rfl dX11_toldNumber_47 ?_
        refine lv_istore_n (lv' := [(3, .int (v7 7)), (0, .ref y0), (1, .int p1), (2, .int p2)]) hx hb dX11_toldNumber_50 rfl hl (by decide) rfl (fun ls hl => ?_)
        refine lv_aload_n hx hb dX11_toldNumber_51 rfl (lv_at hl 1 rfl) ?_
        refine va_get (D := (dC, dI)) (ci := 11) (v := .int (v7 1)) (C := RX11) (T := TX11) (N := 79) hx hb hts inB_11 hown hE.1 hP 0 rfl rfl 2 (by decide) (hts _ k_1322) (fun _ h9 => h9) rfl dX11_toldNumber_52 ?_
        have b1_v7 : 0 ≤ (v7 1).toInt ∧ (v7 1).toInt ≤ 4 := YIb.b hIv7.1 1 (by decide)
        refine lv_if_ne (tgt := 62) hx hb dX11_toldNumber_55 (by decide) (fun c17 => ?_) (fun c17 => ?_)
        · skip
          have zc17 : ¬ ((v7 1).toInt = 0) := by rw [fa_eq, show (0 : Int32).toInt = 0 from by decide] at c17; exact c17
          refine lv_iload_n hx hb dX11_toldNumber_62 rfl (lv_at hl 0 rfl) ?_
          exact ret (v7 7) (v7, f8, w9, g10) _ _ _ _ _ _ rfl ⟨(gsY_X11_toldNumber_1_q0 c1 c2 c3 hG6 c17), hM_v7, hA_f8, hIv7, hCf8, hRf8, hk0_v7, hk4_v7, hk8_v7, hk9_v7, hk10_v7, hk13_v7, hk14_v7, hk15_v7, hk17_v7, hk18_v7, hk24_v7, hk25_v7, hk35_v7, hk36_v7, hk38_v7, hk39_v7, (by show (v 3).toInt ≤ (v7 3).toInt; exact (GR.cast hGR (by first | with_reducible rfl | with_reducible assumption | rfl | omega) (by first | with_reducible rfl | with_reducible assumption | rfl | omega)).1), (by show (v7 5).toInt = (v 5).toInt ∨ (v 3).toInt < (v7 3).toInt ∨ ¬ (v7 5).toInt = 59; exact (GR.cast hGR (by first | with_reducible rfl | with_reducible assumption | rfl | omega) (by first | with_reducible rfl | with_reducible assumption | rfl | omega)).2), hs2_f8, hs3_f8, hs6_f8⟩ hP hD hS dX11_toldNumber_63 (Nat.le_refl _) (Nat.le_refl _)
        · skip
          have zc17 : (v7 1).toInt = 0 := by rw [fa_eq, show (0 : Int32).toInt = 0 from by decide] at c17; exact c17
          refine lv_aload_n hx hb dX11_toldNumber_58 rfl (lv_at hl 1 rfl) ?_
          refine cbVv (n := 0) (rest := []) hx hb hml hown hts hE hP hD hS hA (sY_X11_token_1 NF l dC dI cy y0 r  v7 f8 w9 g10 hIv7 hCf8 hRf8 ) k_1579 k_1581 k_42 k_114 k_1582 (by decide +kernel) ⟨Nat.le_of_ble_eq_true rfl, Nat.le_of_ble_eq_true rfl⟩ 0 11 rfl rfl (rfl) hl.1 rfl (Nat.le_of_ble_eq_true rfl) dX11_toldNumber_59 (fun u H locs hw hP hD hS => ?_)
          obtain ⟨hG18, hw⟩ := hw
          obtain ⟨v19, f20, w21, g22⟩ := u
          obtain ⟨kV_v19, kF_f20, hIv19, hCf20, hRf20, hk0_v19, hk1_v19, hk2_v19, hk4_v19, hk8_v19, hk9_v19, hk10_v19, hk13_v19, hk14_v19, hk15_v19, hk17_v19, hk18_v19, hk24_v19, hk25_v19, hk35_v19, hk36_v19, hk38_v19, hk39_v19, pv23, pv24, kq25, kq26, kq27⟩ := hw
          have hM_v19 : KV [1, 2, 3, 5, 6, 7] v19 v := KV.tr kV_v19 hM_v7 rfl
          have hA_f20 : KF [] f20 f := KF.tr kF_f20 hA_f8 rfl
          have hP : va_P (dC, dI) vwCl (YW cy y0 r v19 f20 w21 g22) H := hP
          have hD : va_D A (YW cy y0 r v19 f20 w21 g22) := hD
          have b3_v19 : 0 ≤ (v19 3).toInt ∧ (v19 3).toInt ≤ 1600 := YIb.b hIv19.1 3 (by decide)
          have pv23 : (v7 3).toInt ≤ (v19 3).toInt := pv23
          have pv24 : (v19 5).toInt = (v7 5).toInt ∨ (v7 3).toInt < (v19 3).toInt ∨ ¬ (v19 5).toInt = 59 := pv24
          have hs2_f20 : f20 2 = (f 2) := kq25.trans hs2_f8
          have hs3_f20 : f20 3 = (f 3) := kq26.trans hs3_f8
          have hs6_f20 : f20 6 = (f 6) := kq27.trans hs6_f8
          have hUv19 : (v19 35).toInt + (v19 36).toInt ≤ 40 := hIv19.2
          have hq0_v19 : v19 0 = (v 0) := hk0_v19.trans hq0_v7
          have zq0_v19 := congrArg Int32.toInt hq0_v19
          try clear zq0_v7
          have hq1_v19 : v19 1 = (v7 1) := hk1_v19
          have zq1_v19 := congrArg Int32.toInt hq1_v19
          have hq8_v19 : v19 8 = (v 8) := hk8_v19.trans hq8_v7
          have zq8_v19 := congrArg Int32.toInt hq8_v19
          try clear zq8_v7
          have hq9_v19 : v19 9 = (v 9) := hk9_v19.trans hq9_v7
          have zq9_v19 := congrArg Int32.toInt hq9_v19
          try clear zq9_v7
          have hq10_v19 : v19 10 = (v 10) := hk10_v19.trans hq10_v7
          have zq10_v19 := congrArg Int32.toInt hq10_v19
          try clear zq10_v7
          have hq13_v19 : v19 13 = (v 13) := hk13_v19.trans hq13_v7
          have zq13_v19 := congrArg Int32.toInt hq13_v19
          try clear zq13_v7
          have hq14_v19 : v19 14 = (v 14) := hk14_v19.trans hq14_v7
          have zq14_v19 := congrArg Int32.toInt hq14_v19
          try clear zq14_v7
          have hq15_v19 : v19 15 = (v 15) := hk15_v19.trans hq15_v7
          have zq15_v19 := congrArg Int32.toInt hq15_v19
          try clear zq15_v7
          have hq17_v19 : v19 17 = (v 17) := hk17_v19.trans hq17_v7
          have zq17_v19 := congrArg Int32.toInt hq17_v19
          try clear zq17_v7
          have hq18_v19 : v19 18 = (v 18) := hk18_v19.trans hq18_v7
          have zq18_v19 := congrArg Int32.toInt hq18_v19
          try clear zq18_v7
          have hGR : GR (v 3).toInt (v 5).toInt (v19 3).toInt (v19 5).toInt := GR.tr hGR (show GR (v7 3).toInt (v7 5).toInt (v19 3).toInt (v19 5).toInt from ⟨pv23, pv24⟩) (by first | with_reducible rfl | with_reducible assumption | rfl | omega) (by first | with_reducible rfl | with_reducible assumption | rfl | omega)
          clear pv24
          refine lv_iload_n hx hb dX11_toldNumber_62 rfl (lv_at hl 0 rfl) ?_
          exact ret (v7 7) (v19, f20, w21, g22) _ _ _ _ _ _ rfl ⟨(gsY_X11_toldNumber_1_q1 c1 c2 c3 hG6 c17 hG18), hM_v19, hA_f20, hIv19, hCf20, hRf20, (hk0_v19.trans hk0_v7), (hk4_v19.trans hk4_v7), (hk8_v19.trans hk8_v7), (hk9_v19.trans hk9_v7), (hk10_v19.trans hk10_v7), (hk13_v19.trans hk13_v7), (hk14_v19.trans hk14_v7), (hk15_v19.trans hk15_v7), (hk17_v19.trans hk17_v7), (hk18_v19.trans hk18_v7), (hk24_v19.trans hk24_v7), (hk25_v19.trans hk25_v7), (hk35_v19.trans hk35_v7), (hk36_v19.trans hk36_v7), (hk38_v19.trans hk38_v7), (hk39_v19.trans hk39_v7), (by show (v 3).toInt ≤ (v19 3).toInt; exact (GR.cast hGR (by first | with_reducible rfl | with_reducible assumption | rfl | omega) (by first | with_reducible rfl | with_reducible assumption | rfl | omega)).1), (by show (v19 5).toInt = (v 5).toInt ∨ (v 3).toInt < (v19 3).toInt ∨ ¬ (v19 5).toInt = 59; exact (GR.cast hGR (by first | with_reducible rfl | with_reducible assumption | rfl | omega) (by first | with_reducible rfl | with_reducible assumption | rfl | omega)).2), hs2_f20, hs3_f20, hs6_f20⟩ hP hD hS dX11_toldNumber_63 (Nat.le_refl _) (Nat.le_refl _)
      · skip
        have zc3 : ¬ ((v 7).toInt < p1.toInt) := by rw [fa_lt] at c3; exact c3
        have rg28 := fb_rng (v 7)
        have rg29 := fb_rng p1
        refine lv_aload_n hx hb dX11_toldNumber_33 rfl (lv_at hl 0 rfl) ?_
        refine va_get (D := (dC, dI)) (ci := 11) (v := .int (v 7)) (C := RX11) (T := TX11) (N := 79) hx hb hts inB_11 hown hE.1 hP 0 rfl rfl 8 (by decide) (hts _ k_1328) (fun _ h9 => h9) rfl dX11_toldNumber_34 ?_
        refine lv_iload_n hx hb dX11_toldNumber_37 rfl (lv_at hl 2 rfl) ?_
        refine lv_icmp_le (tgt := 46) hx hb dX11_toldNumber_38 (by decide) (fun c30 => ?_) (fun c30 => ?_)
        · skip
          have zc30 : (v 7).toInt ≤ p2.toInt := by rw [fa_le] at c30; exact c30
          have rg31 := fb_rng p2
          refine lv_aload_n hx hb dX11_toldNumber_46 rfl (lv_at hl 0 rfl) ?_
          refine va_get (D := (dC, dI)) (ci := 11) (v := .int (v 7)) (C := RX11) (T := TX11) (N := 79) hx hb hts inB_11 hown hE.1 hP 0 rfl rfl 8 (by decide) (hts _ k_1328) (fun _ h9 => h9) rfl dX11_toldNumber_47 ?_
          refine lv_istore_n (lv' := [(3, .int (v 7)), (0, .ref y0), (1, .int p1), (2, .int p2)]) hx hb dX11_toldNumber_50 rfl hl (by decide) rfl (fun ls hl => ?_)
          refine lv_aload_n hx hb dX11_toldNumber_51 rfl (lv_at hl 1 rfl) ?_
          refine va_get (D := (dC, dI)) (ci := 11) (v := .int (v 1)) (C := RX11) (T := TX11) (N := 79) hx hb hts inB_11 hown hE.1 hP 0 rfl rfl 2 (by decide) (hts _ k_1322) (fun _ h9 => h9) rfl dX11_toldNumber_52 ?_
          refine lv_if_ne (tgt := 62) hx hb dX11_toldNumber_55 (by decide) (fun c32 => ?_) (fun c32 => ?_)
          · skip
            have zc32 : ¬ ((v 1).toInt = 0) := by rw [fa_eq, show (0 : Int32).toInt = 0 from by decide] at c32; exact c32
            refine lv_iload_n hx hb dX11_toldNumber_62 rfl (lv_at hl 0 rfl) ?_
            exact ret (v 7) (v, f, w, g) _ _ _ _ _ _ rfl ⟨(gsY_X11_toldNumber_1_q2 c1 c2 c3 c30 c32), hM_v, hA_f, hIv, hCf, hRf, rfl, rfl, rfl, rfl, rfl, rfl, rfl, rfl, rfl, rfl, rfl, rfl, rfl, rfl, rfl, rfl, (by show (v 3).toInt ≤ (v 3).toInt; exact (GR.cast hGR (by first | with_reducible rfl | with_reducible assumption | rfl | omega) (by first | with_reducible rfl | with_reducible assumption | rfl | omega)).1), (by show (v 5).toInt = (v 5).toInt ∨ (v 3).toInt < (v 3).toInt ∨ ¬ (v 5).toInt = 59; exact (GR.cast hGR (by first | with_reducible rfl | with_reducible assumption | rfl | omega) (by first | with_reducible rfl | with_reducible assumption | rfl | omega)).2), rfl, rfl, rfl⟩ hP hD hS dX11_toldNumber_63 (Nat.le_refl _) (Nat.le_refl _)
          · skip
            have zc32 : (v 1).toInt = 0 := by rw [fa_eq, show (0 : Int32).toInt = 0 from by decide] at c32; exact c32
            refine lv_aload_n hx hb dX11_toldNumber_58 rfl (lv_at hl 1 rfl) ?_
            refine cbVv (n := 0) (rest := []) hx hb hml hown hts hE hP hD hS hA (sY_X11_token_1 NF l dC dI cy y0 r  v f w g hIv hCf hRf ) k_1579 k_1581 k_42 k_114 k_1582 (by decide +kernel) ⟨Nat.le_of_ble_eq_true rfl, Nat.le_of_ble_eq_true rfl⟩ 0 11 rfl rfl (rfl) hl.1 rfl (Nat.le_of_ble_eq_true rfl) dX11_toldNumber_59 (fun u H locs hw hP hD hS => ?_)
            obtain ⟨hG33, hw⟩ := hw
            obtain ⟨v34, f35, w36, g37⟩ := u
            obtain ⟨kV_v34, kF_f35, hIv34, hCf35, hRf35, hk0_v34, hk1_v34, hk2_v34, hk4_v34, hk8_v34, hk9_v34, hk10_v34, hk13_v34, hk14_v34, hk15_v34, hk17_v34, hk18_v34, hk24_v34, hk25_v34, hk35_v34, hk36_v34, hk38_v34, hk39_v34, pv38, pv39, kq40, kq41, kq42⟩ := hw
            have hM_v34 : KV [1, 2, 3, 5, 6, 7] v34 v := KV.tr kV_v34 hM_v rfl
            have hA_f35 : KF [] f35 f := KF.tr kF_f35 hA_f rfl
            have hP : va_P (dC, dI) vwCl (YW cy y0 r v34 f35 w36 g37) H := hP
            have hD : va_D A (YW cy y0 r v34 f35 w36 g37) := hD
            have b3_v34 : 0 ≤ (v34 3).toInt ∧ (v34 3).toInt ≤ 1600 := YIb.b hIv34.1 3 (by decide)
            have pv38 : (v 3).toInt ≤ (v34 3).toInt := pv38
            have pv39 : (v34 5).toInt = (v 5).toInt ∨ (v 3).toInt < (v34 3).toInt ∨ ¬ (v34 5).toInt = 59 := pv39
            have hs2_f35 : f35 2 = (f 2) := kq40
            have hs3_f35 : f35 3 = (f 3) := kq41
            have hs6_f35 : f35 6 = (f 6) := kq42
            have hUv34 : (v34 35).toInt + (v34 36).toInt ≤ 40 := hIv34.2
            have hq0_v34 : v34 0 = (v 0) := hk0_v34
            have zq0_v34 := congrArg Int32.toInt hq0_v34
            have hq1_v34 : v34 1 = (v 1) := hk1_v34
            have zq1_v34 := congrArg Int32.toInt hq1_v34
            have hq8_v34 : v34 8 = (v 8) := hk8_v34
            have zq8_v34 := congrArg Int32.toInt hq8_v34
            have hq9_v34 : v34 9 = (v 9) := hk9_v34
            have zq9_v34 := congrArg Int32.toInt hq9_v34
            have hq10_v34 : v34 10 = (v 10) := hk10_v34
            have zq10_v34 := congrArg Int32.toInt hq10_v34
            have hq13_v34 : v34 13 = (v 13) := hk13_v34
            have zq13_v34 := congrArg Int32.toInt hq13_v34
            have hq14_v34 : v34 14 = (v 14) := hk14_v34
            have zq14_v34 := congrArg Int32.toInt hq14_v34
            have hq15_v34 : v34 15 = (v 15) := hk15_v34
            have zq15_v34 := congrArg Int32.toInt hq15_v34
            have hq17_v34 : v34 17 = (v 17) := hk17_v34
            have zq17_v34 := congrArg Int32.toInt hq17_v34
            have hq18_v34 : v34 18 = (v 18) := hk18_v34
            have zq18_v34 := congrArg Int32.toInt hq18_v34
            have hGR : GR (v 3).toInt (v 5).toInt (v34 3).toInt (v34 5).toInt := GR.tr hGR (show GR (v 3).toInt (v 5).toInt (v34 3).toInt (v34 5).toInt from ⟨pv38, pv39⟩) (by first | with_reducible rfl | with_reducible assumption | rfl | omega) (by first | with_reducible rfl | with_reducible assumption | rfl | omega)
            clear pv39
            refine lv_iload_n hx hb dX11_toldNumber_62 rfl (lv_at hl 0 rfl) ?_
            exact ret (v 7) (v34, f35, w36, g37) _ _ _ _ _ _ rfl ⟨(gsY_X11_toldNumber_1_q3 c1 c2 c3 c30 c32 hG33), hM_v34, hA_f35, hIv34, hCf35, hRf35, hk0_v34, hk4_v34, hk8_v34, hk9_v34, hk10_v34, hk13_v34, hk14_v34, hk15_v34, hk17_v34, hk18_v34, hk24_v34, hk25_v34, hk35_v34, hk36_v34, hk38_v34, hk39_v34, (by show (v 3).toInt ≤ (v34 3).toInt; exact (GR.cast hGR (by first | with_reducible rfl | with_reducible assumption | rfl | omega) (by first | with_reducible rfl | with_reducible assumption | rfl | omega)).1), (by show (v34 5).toInt = (v 5).toInt ∨ (v 3).toInt < (v34 3).toInt ∨ ¬ (v34 5).toInt = 59; exact (GR.cast hGR (by first | with_reducible rfl | with_reducible assumption | rfl | omega) (by first | with_reducible rfl | with_reducible assumption | rfl | omega)).2), hs2_f35, hs3_f35, hs6_f35⟩ hP hD hS dX11_toldNumber_63 (Nat.le_refl _) (Nat.le_refl _)
        · skip
          have zc30 : ¬ ((v 7).toInt ≤ p2.toInt) := by rw [fa_le] at c30; exact c30
          have rg43 := fb_rng p2
          refine lv_aload_n hx hb dX11_toldNumber_41 rfl (lv_at hl 0 rfl) ?_
          refine lv_iconst (v := 4) hx hb dX11_toldNumber_42 (by decide) ?_
          refine cbVv (n := 1) (rest := []) hx hb hml hown hts hE hP hD hS hA (sY_X11_wrong_1 NF l dC dI cy y0 r 4 v f w g hIv hCf hRf ⟨by decide, by decide⟩) k_1641 k_1643 k_50 k_114 k_1644 (by decide +kernel) ⟨Nat.le_of_ble_eq_true rfl, Nat.le_of_ble_eq_true rfl⟩ 0 11 rfl rfl (rfl) hl.1 rfl (Nat.le_of_ble_eq_true rfl) dX11_toldNumber_43 (fun u H locs hw hP hD hS => ?_)
          obtain ⟨hG44, hw⟩ := hw
          obtain ⟨v45, f46, w47, g48⟩ := u
          obtain ⟨kV_v45, kF_f46, hIv45, hCf46, hRf46, hk0_v45, hk3_v45, hk4_v45, hk5_v45, hk8_v45, hk9_v45, hk10_v45, hk13_v45, hk14_v45, hk15_v45, hk17_v45, hk18_v45, hk24_v45, hk25_v45, hk35_v45, hk36_v45, hk38_v45, hk39_v45, pv49, pv50, pv51, kq52, kq53, kq54⟩ := hw
          have hM_v45 : KV [1, 2, 3, 5, 6, 7] v45 v := KV.tr kV_v45 hM_v rfl
          have hA_f46 : KF [] f46 f := KF.tr kF_f46 hA_f rfl
          have hP : va_P (dC, dI) vwCl (YW cy y0 r v45 f46 w47 g48) H := hP
          have hD : va_D A (YW cy y0 r v45 f46 w47 g48) := hD
          have b3_v45 : 0 ≤ (v45 3).toInt ∧ (v45 3).toInt ≤ 1600 := YIb.b hIv45.1 3 (by decide)
          have b1_v45 : 0 ≤ (v45 1).toInt ∧ (v45 1).toInt ≤ 4 := YIb.b hIv45.1 1 (by decide)
          have pv49 : (v 3).toInt ≤ (v45 3).toInt := pv49
          have pv50 : (v45 5).toInt = (v 5).toInt ∨ (v 3).toInt < (v45 3).toInt ∨ ¬ (v45 5).toInt = 59 := pv50
          have pv51 : 0 < (v45 1).toInt := pv51
          have hs2_f46 : f46 2 = (f 2) := kq52
          have hs3_f46 : f46 3 = (f 3) := kq53
          have hs6_f46 : f46 6 = (f 6) := kq54
          have hUv45 : (v45 35).toInt + (v45 36).toInt ≤ 40 := hIv45.2
          have hq0_v45 : v45 0 = (v 0) := hk0_v45
          have zq0_v45 := congrArg Int32.toInt hq0_v45
          have hq3_v45 : v45 3 = (v 3) := hk3_v45
          have zq3_v45 := congrArg Int32.toInt hq3_v45
          have hq5_v45 : v45 5 = (v 5) := hk5_v45
          have zq5_v45 := congrArg Int32.toInt hq5_v45
          have hq8_v45 : v45 8 = (v 8) := hk8_v45
          have zq8_v45 := congrArg Int32.toInt hq8_v45
          have hq9_v45 : v45 9 = (v 9) := hk9_v45
          have zq9_v45 := congrArg Int32.toInt hq9_v45
          have hq10_v45 : v45 10 = (v 10) := hk10_v45
          have zq10_v45 := congrArg Int32.toInt hq10_v45
          have hq13_v45 : v45 13 = (v 13) := hk13_v45
          have zq13_v45 := congrArg Int32.toInt hq13_v45
          have hq14_v45 : v45 14 = (v 14) := hk14_v45
          have zq14_v45 := congrArg Int32.toInt hq14_v45
          have hq15_v45 : v45 15 = (v 15) := hk15_v45
          have zq15_v45 := congrArg Int32.toInt hq15_v45
          have hq17_v45 : v45 17 = (v 17) := hk17_v45
          have zq17_v45 := congrArg Int32.toInt hq17_v45
          have hq18_v45 : v45 18 = (v 18) := hk18_v45
          have zq18_v45 := congrArg Int32.toInt hq18_v45
          have hGR : GR (v 3).toInt (v 5).toInt (v45 3).toInt (v45 5).toInt := GR.tr hGR (show GR (v 3).toInt (v 5).toInt (v45 3).toInt (v45 5).toInt from ⟨pv49, pv50⟩) (by first | with_reducible rfl | with_reducible assumption | rfl | omega) (by first | with_reducible rfl | with_reducible assumption | rfl | omega)
          clear pv50
          refine lv_aload_n hx hb dX11_toldNumber_46 rfl (lv_at hl 0 rfl) ?_
          refine va_get (D := (dC, dI)) (ci := 11) (v := .int (v45 7)) (C := RX11) (T := TX11) (N := 79) hx hb hts inB_11 hown hE.1 hP 0 rfl rfl 8 (by decide) (hts _ k_1328) (fun _ h9 => h9) rfl dX11_toldNumber_47 ?_
          refine lv_istore_n (lv' := [(3, .int (v45 7)), (0, .ref y0), (1, .int p1), (2, .int p2)]) hx hb dX11_toldNumber_50 rfl hl (by decide) rfl (fun ls hl => ?_)
          refine lv_aload_n hx hb dX11_toldNumber_51 rfl (lv_at hl 1 rfl) ?_
          refine va_get (D := (dC, dI)) (ci := 11) (v := .int (v45 1)) (C := RX11) (T := TX11) (N := 79) hx hb hts inB_11 hown hE.1 hP 0 rfl rfl 2 (by decide) (hts _ k_1322) (fun _ h9 => h9) rfl dX11_toldNumber_52 ?_
          have b1_v45 : 0 ≤ (v45 1).toInt ∧ (v45 1).toInt ≤ 4 := YIb.b hIv45.1 1 (by decide)
          refine lv_if_ne (tgt := 62) hx hb dX11_toldNumber_55 (by decide) (fun c55 => ?_) (fun c55 => ?_)
          · skip
            have zc55 : ¬ ((v45 1).toInt = 0) := by rw [fa_eq, show (0 : Int32).toInt = 0 from by decide] at c55; exact c55
            refine lv_iload_n hx hb dX11_toldNumber_62 rfl (lv_at hl 0 rfl) ?_
            exact ret (v45 7) (v45, f46, w47, g48) _ _ _ _ _ _ rfl ⟨(gsY_X11_toldNumber_1_q4 c1 c2 c3 c30 hG44 c55), hM_v45, hA_f46, hIv45, hCf46, hRf46, hk0_v45, hk4_v45, hk8_v45, hk9_v45, hk10_v45, hk13_v45, hk14_v45, hk15_v45, hk17_v45, hk18_v45, hk24_v45, hk25_v45, hk35_v45, hk36_v45, hk38_v45, hk39_v45, (by show (v 3).toInt ≤ (v45 3).toInt; exact (GR.cast hGR (by first | with_reducible rfl | with_reducible assumption | rfl | omega) (by first | with_reducible rfl | with_reducible assumption | rfl | omega)).1), (by show (v45 5).toInt = (v 5).toInt ∨ (v 3).toInt < (v45 3).toInt ∨ ¬ (v45 5).toInt = 59; exact (GR.cast hGR (by first | with_reducible rfl | with_reducible assumption | rfl | omega) (by first | with_reducible rfl | with_reducible assumption | rfl | omega)).2), hs2_f46, hs3_f46, hs6_f46⟩ hP hD hS dX11_toldNumber_63 (Nat.le_refl _) (Nat.le_refl _)
          · skip
            have zc55 : (v45 1).toInt = 0 := by rw [fa_eq, show (0 : Int32).toInt = 0 from by decide] at c55; exact c55
            refine lv_aload_n hx hb dX11_toldNumber_58 rfl (lv_at hl 1 rfl) ?_
            refine cbVv (n := 0) (rest := []) hx hb hml hown hts hE hP hD hS hA (sY_X11_token_1 NF l dC dI cy y0 r  v45 f46 w47 g48 hIv45 hCf46 hRf46 ) k_1579 k_1581 k_42 k_114 k_1582 (by decide +kernel) ⟨Nat.le_of_ble_eq_true rfl, Nat.le_of_ble_eq_true rfl⟩ 0 11 rfl rfl (rfl) hl.1 rfl (Nat.le_of_ble_eq_true rfl) dX11_toldNumber_59 (fun u H locs hw hP hD hS => ?_)
            obtain ⟨hG56, hw⟩ := hw
            obtain ⟨v57, f58, w59, g60⟩ := u
            obtain ⟨kV_v57, kF_f58, hIv57, hCf58, hRf58, hk0_v57, hk1_v57, hk2_v57, hk4_v57, hk8_v57, hk9_v57, hk10_v57, hk13_v57, hk14_v57, hk15_v57, hk17_v57, hk18_v57, hk24_v57, hk25_v57, hk35_v57, hk36_v57, hk38_v57, hk39_v57, pv61, pv62, kq63, kq64, kq65⟩ := hw
            have hM_v57 : KV [1, 2, 3, 5, 6, 7] v57 v := KV.tr kV_v57 hM_v45 rfl
            have hA_f58 : KF [] f58 f := KF.tr kF_f58 hA_f46 rfl
            have hP : va_P (dC, dI) vwCl (YW cy y0 r v57 f58 w59 g60) H := hP
            have hD : va_D A (YW cy y0 r v57 f58 w59 g60) := hD
            have b3_v57 : 0 ≤ (v57 3).toInt ∧ (v57 3).toInt ≤ 1600 := YIb.b hIv57.1 3 (by decide)
            have pv61 : (v45 3).toInt ≤ (v57 3).toInt := pv61
            have pv62 : (v57 5).toInt = (v45 5).toInt ∨ (v45 3).toInt < (v57 3).toInt ∨ ¬ (v57 5).toInt = 59 := pv62
            have hs2_f58 : f58 2 = (f 2) := kq63.trans hs2_f46
            have hs3_f58 : f58 3 = (f 3) := kq64.trans hs3_f46
            have hs6_f58 : f58 6 = (f 6) := kq65.trans hs6_f46
            have hUv57 : (v57 35).toInt + (v57 36).toInt ≤ 40 := hIv57.2
            have hq0_v57 : v57 0 = (v 0) := hk0_v57.trans hq0_v45
            have zq0_v57 := congrArg Int32.toInt hq0_v57
            try clear zq0_v45
            have hq1_v57 : v57 1 = (v45 1) := hk1_v57
            have zq1_v57 := congrArg Int32.toInt hq1_v57
            have hq8_v57 : v57 8 = (v 8) := hk8_v57.trans hq8_v45
            have zq8_v57 := congrArg Int32.toInt hq8_v57
            try clear zq8_v45
            have hq9_v57 : v57 9 = (v 9) := hk9_v57.trans hq9_v45
            have zq9_v57 := congrArg Int32.toInt hq9_v57
            try clear zq9_v45
            have hq10_v57 : v57 10 = (v 10) := hk10_v57.trans hq10_v45
            have zq10_v57 := congrArg Int32.toInt hq10_v57
            try clear zq10_v45
            have hq13_v57 : v57 13 = (v 13) := hk13_v57.trans hq13_v45
            have zq13_v57 := congrArg Int32.toInt hq13_v57
            try clear zq13_v45
            have hq14_v57 : v57 14 = (v 14) := hk14_v57.trans hq14_v45
            have zq14_v57 := congrArg Int32.toInt hq14_v57
            try clear zq14_v45
            have hq15_v57 : v57 15 = (v 15) := hk15_v57.trans hq15_v45
            have zq15_v57 := congrArg Int32.toInt hq15_v57
            try clear zq15_v45
            have hq17_v57 : v57 17 = (v 17) := hk17_v57.trans hq17_v45
            have zq17_v57 := congrArg Int32.toInt hq17_v57
            try clear zq17_v45
            have hq18_v57 : v57 18 = (v 18) := hk18_v57.trans hq18_v45
            have zq18_v57 := congrArg Int32.toInt hq18_v57
            try clear zq18_v45
            have hGR : GR (v 3).toInt (v 5).toInt (v57 3).toInt (v57 5).toInt := GR.tr hGR (show GR (v45 3).toInt (v45 5).toInt (v57 3).toInt (v57 5).toInt from ⟨pv61, pv62⟩) (by first | with_reducible rfl | with_reducible assumption | rfl | omega) (by first | with_reducible rfl | with_reducible assumption | rfl | omega)
            clear pv62
            refine lv_iload_n hx hb dX11_toldNumber_62 rfl (lv_at hl 0 rfl) ?_
            exact ret (v45 7) (v57, f58, w59, g60) _ _ _ _ _ _ rfl ⟨(gsY_X11_toldNumber_1_q5 c1 c2 c3 c30 hG44 c55 hG56), hM_v57, hA_f58, hIv57, hCf58, hRf58, (hk0_v57.trans hk0_v45), (hk4_v57.trans hk4_v45), (hk8_v57.trans hk8_v45), (hk9_v57.trans hk9_v45), (hk10_v57.trans hk10_v45), (hk13_v57.trans hk13_v45), (hk14_v57.trans hk14_v45), (hk15_v57.trans hk15_v45), (hk17_v57.trans hk17_v45), (hk18_v57.trans hk18_v45), (hk24_v57.trans hk24_v45), (hk25_v57.trans hk25_v45), (hk35_v57.trans hk35_v45), (hk36_v57.trans hk36_v45), (hk38_v57.trans hk38_v45), (hk39_v57.trans hk39_v45), (by show (v 3).toInt ≤ (v57 3).toInt; exact (GR.cast hGR (by first | with_reducible rfl | with_reducible assumption | rfl | omega) (by first | with_reducible rfl | with_reducible assumption | rfl | omega)).1), (by show (v57 5).toInt = (v 5).toInt ∨ (v 3).toInt < (v57 3).toInt ∨ ¬ (v57 5).toInt = 59; exact (GR.cast hGR (by first | with_reducible rfl | with_reducible assumption | rfl | omega) (by first | with_reducible rfl | with_reducible assumption | rfl | omega)).2), hs2_f58, hs3_f58, hs6_f58⟩ hP hD hS dX11_toldNumber_63 (Nat.le_refl _) (Nat.le_refl _)
    · skip
      have zc2 : ¬ ((v 5).toInt = 2) := by rw [fa_eq, show (2 : Int32).toInt = 2 from by decide] at c2; exact c2
      refine lv_aload_n hx hb dX11_toldNumber_17 rfl (lv_at hl 0 rfl) ?_
      refine lv_iconst (v := 2) hx hb dX11_toldNumber_18 (by decide) ?_
      refine cbVv (n := 1) (rest := []) hx hb hml hown hts hE hP hD hS hA (sY_X11_wrong_1 NF l dC dI cy y0 r 2 v f w g hIv hCf hRf ⟨by decide, by decide⟩) k_1641 k_1643 k_50 k_114 k_1644 (by decide +kernel) ⟨Nat.le_of_ble_eq_true rfl, Nat.le_of_ble_eq_true rfl⟩ 0 11 rfl rfl (rfl) hl.1 rfl (Nat.le_of_ble_eq_true rfl) dX11_toldNumber_19 (fun u H locs hw hP hD hS => ?_)
      obtain ⟨hG66, hw⟩ := hw
      obtain ⟨v67, f68, w69, g70⟩ := u
      obtain ⟨kV_v67, kF_f68, hIv67, hCf68, hRf68, hk0_v67, hk3_v67, hk4_v67, hk5_v67, hk8_v67, hk9_v67, hk10_v67, hk13_v67, hk14_v67, hk15_v67, hk17_v67, hk18_v67, hk24_v67, hk25_v67, hk35_v67, hk36_v67, hk38_v67, hk39_v67, pv71, pv72, pv73, kq74, kq75, kq76⟩ := hw
      have hM_v67 : KV [1, 2, 3, 5, 6, 7] v67 v := KV.tr kV_v67 hM_v rfl
      have hA_f68 : KF [] f68 f := KF.tr kF_f68 hA_f rfl
      have hP : va_P (dC, dI) vwCl (YW cy y0 r v67 f68 w69 g70) H := hP
      have hD : va_D A (YW cy y0 r v67 f68 w69 g70) := hD
      have b3_v67 : 0 ≤ (v67 3).toInt ∧ (v67 3).toInt ≤ 1600 := YIb.b hIv67.1 3 (by decide)
      have b1_v67 : 0 ≤ (v67 1).toInt ∧ (v67 1).toInt ≤ 4 := YIb.b hIv67.1 1 (by decide)
      have pv71 : (v 3).toInt ≤ (v67 3).toInt := pv71
      have pv72 : (v67 5).toInt = (v 5).toInt ∨ (v 3).toInt < (v67 3).toInt ∨ ¬ (v67 5).toInt = 59 := pv72
      have pv73 : 0 < (v67 1).toInt := pv73
      have hs2_f68 : f68 2 = (f 2) := kq74
      have hs3_f68 : f68 3 = (f 3) := kq75
      have hs6_f68 : f68 6 = (f 6) := kq76
      have hUv67 : (v67 35).toInt + (v67 36).toInt ≤ 40 := hIv67.2
      have hq0_v67 : v67 0 = (v 0) := hk0_v67
      have zq0_v67 := congrArg Int32.toInt hq0_v67
      have hq3_v67 : v67 3 = (v 3) := hk3_v67
      have zq3_v67 := congrArg Int32.toInt hq3_v67
      have hq5_v67 : v67 5 = (v 5) := hk5_v67
      have zq5_v67 := congrArg Int32.toInt hq5_v67
      have hq8_v67 : v67 8 = (v 8) := hk8_v67
      have zq8_v67 := congrArg Int32.toInt hq8_v67
      have hq9_v67 : v67 9 = (v 9) := hk9_v67
      have zq9_v67 := congrArg Int32.toInt hq9_v67
      have hq10_v67 : v67 10 = (v 10) := hk10_v67
      have zq10_v67 := congrArg Int32.toInt hq10_v67
      have hq13_v67 : v67 13 = (v 13) := hk13_v67
      have zq13_v67 := congrArg Int32.toInt hq13_v67
      have hq14_v67 : v67 14 = (v 14) := hk14_v67
      have zq14_v67 := congrArg Int32.toInt hq14_v67
      have hq15_v67 : v67 15 = (v 15) := hk15_v67
      have zq15_v67 := congrArg Int32.toInt hq15_v67
      have hq17_v67 : v67 17 = (v 17) := hk17_v67
      have zq17_v67 := congrArg Int32.toInt hq17_v67
      have hq18_v67 : v67 18 = (v 18) := hk18_v67
      have zq18_v67 := congrArg Int32.toInt hq18_v67
      have hGR : GR (v 3).toInt (v 5).toInt (v67 3).toInt (v67 5).toInt := GR.tr hGR (show GR (v 3).toInt (v 5).toInt (v67 3).toInt (v67 5).toInt from ⟨pv71, pv72⟩) (by first | with_reducible rfl | with_reducible assumption | rfl | omega) (by first | with_reducible rfl | with_reducible assumption | rfl | omega)
      clear pv72
      refine lv_goto (tgt := 46) hx hb dX11_toldNumber_22 (by decide) ?_
      refine lv_aload_n hx hb dX11_toldNumber_46 rfl (lv_at hl 0 rfl) ?_
      refine va_get (D := (dC, dI)) (ci := 11) (v := .int (v67 7)) (C := RX11) (T := TX11) (N := 79) hx hb hts inB_11 hown hE.1 hP 0 rfl rfl 8 (by decide) (hts _ k_1328) (fun _ h9 => h9) rfl dX11_toldNumber_47 ?_
      refine lv_istore_n (lv' := [(3, .int (v67 7)), (0, .ref y0), (1, .int p1), (2, .int p2)]) hx hb dX11_toldNumber_50 rfl hl (by decide) rfl (fun ls hl => ?_)
      refine lv_aload_n hx hb dX11_toldNumber_51 rfl (lv_at hl 1 rfl) ?_
      refine va_get (D := (dC, dI)) (ci := 11) (v := .int (v67 1)) (C := RX11) (T := TX11) (N := 79) hx hb hts inB_11 hown hE.1 hP 0 rfl rfl 2 (by decide) (hts _ k_1322) (fun _ h9 => h9) rfl dX11_toldNumber_52 ?_
      have b1_v67 : 0 ≤ (v67 1).toInt ∧ (v67 1).toInt ≤ 4 := YIb.b hIv67.1 1 (by decide)
      refine lv_if_ne (tgt := 62) hx hb dX11_toldNumber_55 (by decide) (fun c77 => ?_) (fun c77 => ?_)
      · skip
        have zc77 : ¬ ((v67 1).toInt = 0) := by rw [fa_eq, show (0 : Int32).toInt = 0 from by decide] at c77; exact c77
        refine lv_iload_n hx hb dX11_toldNumber_62 rfl (lv_at hl 0 rfl) ?_
        exact ret (v67 7) (v67, f68, w69, g70) _ _ _ _ _ _ rfl ⟨(gsY_X11_toldNumber_1_q6 c1 c2 hG66 c77), hM_v67, hA_f68, hIv67, hCf68, hRf68, hk0_v67, hk4_v67, hk8_v67, hk9_v67, hk10_v67, hk13_v67, hk14_v67, hk15_v67, hk17_v67, hk18_v67, hk24_v67, hk25_v67, hk35_v67, hk36_v67, hk38_v67, hk39_v67, (by show (v 3).toInt ≤ (v67 3).toInt; exact (GR.cast hGR (by first | with_reducible rfl | with_reducible assumption | rfl | omega) (by first | with_reducible rfl | with_reducible assumption | rfl | omega)).1), (by show (v67 5).toInt = (v 5).toInt ∨ (v 3).toInt < (v67 3).toInt ∨ ¬ (v67 5).toInt = 59; exact (GR.cast hGR (by first | with_reducible rfl | with_reducible assumption | rfl | omega) (by first | with_reducible rfl | with_reducible assumption | rfl | omega)).2), hs2_f68, hs3_f68, hs6_f68⟩ hP hD hS dX11_toldNumber_63 (Nat.le_refl _) (Nat.le_refl _)
      · skip
        have zc77 : (v67 1).toInt = 0 := by rw [fa_eq, show (0 : Int32).toInt = 0 from by decide] at c77; exact c77
        refine lv_aload_n hx hb dX11_toldNumber_58 rfl (lv_at hl 1 rfl) ?_
        refine cbVv (n := 0) (rest := []) hx hb hml hown hts hE hP hD hS hA (sY_X11_token_1 NF l dC dI cy y0 r  v67 f68 w69 g70 hIv67 hCf68 hRf68 ) k_1579 k_1581 k_42 k_114 k_1582 (by decide +kernel) ⟨Nat.le_of_ble_eq_true rfl, Nat.le_of_ble_eq_true rfl⟩ 0 11 rfl rfl (rfl) hl.1 rfl (Nat.le_of_ble_eq_true rfl) dX11_toldNumber_59 (fun u H locs hw hP hD hS => ?_)
        obtain ⟨hG78, hw⟩ := hw
        obtain ⟨v79, f80, w81, g82⟩ := u
        obtain ⟨kV_v79, kF_f80, hIv79, hCf80, hRf80, hk0_v79, hk1_v79, hk2_v79, hk4_v79, hk8_v79, hk9_v79, hk10_v79, hk13_v79, hk14_v79, hk15_v79, hk17_v79, hk18_v79, hk24_v79, hk25_v79, hk35_v79, hk36_v79, hk38_v79, hk39_v79, pv83, pv84, kq85, kq86, kq87⟩ := hw
        have hM_v79 : KV [1, 2, 3, 5, 6, 7] v79 v := KV.tr kV_v79 hM_v67 rfl
        have hA_f80 : KF [] f80 f := KF.tr kF_f80 hA_f68 rfl
        have hP : va_P (dC, dI) vwCl (YW cy y0 r v79 f80 w81 g82) H := hP
        have hD : va_D A (YW cy y0 r v79 f80 w81 g82) := hD
        have b3_v79 : 0 ≤ (v79 3).toInt ∧ (v79 3).toInt ≤ 1600 := YIb.b hIv79.1 3 (by decide)
        have pv83 : (v67 3).toInt ≤ (v79 3).toInt := pv83
        have pv84 : (v79 5).toInt = (v67 5).toInt ∨ (v67 3).toInt < (v79 3).toInt ∨ ¬ (v79 5).toInt = 59 := pv84
        have hs2_f80 : f80 2 = (f 2) := kq85.trans hs2_f68
        have hs3_f80 : f80 3 = (f 3) := kq86.trans hs3_f68
        have hs6_f80 : f80 6 = (f 6) := kq87.trans hs6_f68
        have hUv79 : (v79 35).toInt + (v79 36).toInt ≤ 40 := hIv79.2
        have hq0_v79 : v79 0 = (v 0) := hk0_v79.trans hq0_v67
        have zq0_v79 := congrArg Int32.toInt hq0_v79
        try clear zq0_v67
        have hq1_v79 : v79 1 = (v67 1) := hk1_v79
        have zq1_v79 := congrArg Int32.toInt hq1_v79
        have hq8_v79 : v79 8 = (v 8) := hk8_v79.trans hq8_v67
        have zq8_v79 := congrArg Int32.toInt hq8_v79
        try clear zq8_v67
        have hq9_v79 : v79 9 = (v 9) := hk9_v79.trans hq9_v67
        have zq9_v79 := congrArg Int32.toInt hq9_v79
        try clear zq9_v67
        have hq10_v79 : v79 10 = (v 10) := hk10_v79.trans hq10_v67
        have zq10_v79 := congrArg Int32.toInt hq10_v79
        try clear zq10_v67
        have hq13_v79 : v79 13 = (v 13) := hk13_v79.trans hq13_v67
        have zq13_v79 := congrArg Int32.toInt hq13_v79
        try clear zq13_v67
        have hq14_v79 : v79 14 = (v 14) := hk14_v79.trans hq14_v67
        have zq14_v79 := congrArg Int32.toInt hq14_v79
        try clear zq14_v67
        have hq15_v79 : v79 15 = (v 15) := hk15_v79.trans hq15_v67
        have zq15_v79 := congrArg Int32.toInt hq15_v79
        try clear zq15_v67
        have hq17_v79 : v79 17 = (v 17) := hk17_v79.trans hq17_v67
        have zq17_v79 := congrArg Int32.toInt hq17_v79
        try clear zq17_v67
        have hq18_v79 : v79 18 = (v 18) := hk18_v79.trans hq18_v67
        have zq18_v79 := congrArg Int32.toInt hq18_v79
        try clear zq18_v67
        have hGR : GR (v 3).toInt (v 5).toInt (v79 3).toInt (v79 5).toInt := GR.tr hGR (show GR (v67 3).toInt (v67 5).toInt (v79 3).toInt (v79 5).toInt from ⟨pv83, pv84⟩) (by first | with_reducible rfl | with_reducible assumption | rfl | omega) (by first | with_reducible rfl | with_reducible assumption | rfl | omega)
        clear pv84
        refine lv_iload_n hx hb dX11_toldNumber_62 rfl (lv_at hl 0 rfl) ?_
        exact ret (v67 7) (v79, f80, w81, g82) _ _ _ _ _ _ rfl ⟨(gsY_X11_toldNumber_1_q7 c1 c2 hG66 c77 hG78), hM_v79, hA_f80, hIv79, hCf80, hRf80, (hk0_v79.trans hk0_v67), (hk4_v79.trans hk4_v67), (hk8_v79.trans hk8_v67), (hk9_v79.trans hk9_v67), (hk10_v79.trans hk10_v67), (hk13_v79.trans hk13_v67), (hk14_v79.trans hk14_v67), (hk15_v79.trans hk15_v67), (hk17_v79.trans hk17_v67), (hk18_v79.trans hk18_v67), (hk24_v79.trans hk24_v67), (hk25_v79.trans hk25_v67), (hk35_v79.trans hk35_v67), (hk36_v79.trans hk36_v67), (hk38_v79.trans hk38_v67), (hk39_v79.trans hk39_v67), (by show (v 3).toInt ≤ (v79 3).toInt; exact (GR.cast hGR (by first | with_reducible rfl | with_reducible assumption | rfl | omega) (by first | with_reducible rfl | with_reducible assumption | rfl | omega)).1), (by show (v79 5).toInt = (v 5).toInt ∨ (v 3).toInt < (v79 3).toInt ∨ ¬ (v79 5).toInt = 59; exact (GR.cast hGR (by first | with_reducible rfl | with_reducible assumption | rfl | omega) (by first | with_reducible rfl | with_reducible assumption | rfl | omega)).2), hs2_f80, hs3_f80, hs6_f80⟩ hP hD hS dX11_toldNumber_63 (Nat.le_refl _) (Nat.le_refl _)
  · skip
    have zc1 : ¬ ((v 1).toInt ≤ 0) := by rw [fa_le, show (0 : Int32).toInt = 0 from by decide] at c1; exact c1
    refine lv_iconst (v := 0) hx hb dX11_toldNumber_7 (by decide) ?_
    exact ret 0 (v, f, w, g) _ _ _ _ _ _ rfl ⟨(gsY_X11_toldNumber_1_q8 c1), hM_v, hA_f, hIv, hCf, hRf, rfl, rfl, rfl, rfl, rfl, rfl, rfl, rfl, rfl, rfl, rfl, rfl, rfl, rfl, rfl, rfl, (by show (v 3).toInt ≤ (v 3).toInt; exact (GR.cast hGR (by first | with_reducible rfl | with_reducible assumption | rfl | omega) (by first | with_reducible rfl | with_reducible assumption | rfl | omega)).1), (by show (v 5).toInt = (v 5).toInt ∨ (v 3).toInt < (v 3).toInt ∨ ¬ (v 5).toInt = 59; exact (GR.cast hGR (by first | with_reducible rfl | with_reducible assumption | rfl | omega) (by first | with_reducible rfl | with_reducible assumption | rfl | omega)).2), rfl, rfl, rfl⟩ hP hD hS dX11_toldNumber_8 (Nat.le_refl _) (Nat.le_refl _)
