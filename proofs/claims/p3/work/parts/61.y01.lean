set_option maxHeartbeats 4000000 in
set_option maxRecDepth 100000 in
theorem sY_X11_token_1 (l : Launch) (dC : Nat → ClassId) (dI : Nat → Nat → Nat) (cy : Nat → ClassId) (y0 : Nat) (r : Nat → Nat)  (v : Nat → Int32) (f : Nat → Nat → Int32) (w : Int64) (g : Nat → Int64) (hIv : YI v) (hCf : YC f) (hRf : progOK (f 4) (f 5) (v 9).toInt.toNat)  : ctV l (dC, dI) cy yX11_token cX11_token 3 2 81 0 0 ((Nat → Int32) × (Nat → Nat → Int32) × (Int64) × (Nat → Int64)) [.ref y0] (YW cy y0 r v f w g) (fun u => YI u.1 ∧ YC u.2.1 ∧ progOK (u.2.1 4) (u.2.1 5) (u.1 9).toInt.toNat ∧ u.1 0 = v 0 ∧ u.1 1 = v 1 ∧ u.1 4 = v 4 ∧ u.1 8 = v 8 ∧ u.1 9 = v 9 ∧ u.1 10 = v 10 ∧ u.1 13 = v 13 ∧ u.1 14 = v 14 ∧ u.1 15 = v 15 ∧ u.1 17 = v 17 ∧ u.1 18 = v 18 ∧ u.1 24 = v 24 ∧ u.1 25 = v 25 ∧ u.1 35 = v 35 ∧ u.1 36 = v 36 ∧ u.1 38 = v 38 ∧ u.1 39 = v 39 ∧ ((v 3).toInt ≤ (u.1 3).toInt) ∧ ((u.1 5).toInt = (v 5).toInt ∨ (v 3).toInt < (u.1 3).toInt ∨ ¬ (u.1 5).toInt = 59) ∧ u.2.1 2 = f 2 ∧ u.2.1 3 = f 3 ∧ u.2.1 6 = f 6) (fun u => YW cy y0 r u.1 u.2.1 u.2.2.1 u.2.2.2) := by
  refine ctV_of (by decide) (Nat.le_of_ble_eq_true rfl) (fun p e s m below meth c A ls Q hx hb hml hts hown hnm hE hP hD hA hl ret => ?_)
  have hUv : (v 35).toInt + (v 36).toInt ≤ 40 := hIv.2
  have b0_v : (0 : Int) ≤ (v 0).toInt ∧ (v 0).toInt ≤ 1600 := YIb.b hIv.1 0 (by decide)
  have b1_v : (0 : Int) ≤ (v 1).toInt ∧ (v 1).toInt ≤ 4 := YIb.b hIv.1 1 (by decide)
  have b8_v : (0 : Int) ≤ (v 8).toInt ∧ (v 8).toInt ≤ 320 := YIb.b hIv.1 8 (by decide)
  have b10_v : (0 : Int) ≤ (v 10).toInt ∧ (v 10).toInt ≤ 160 := YIb.b hIv.1 10 (by decide)
  have b13_v : (0 : Int) ≤ (v 13).toInt ∧ (v 13).toInt ≤ 31 := YIb.b hIv.1 13 (by decide)
  have b14_v : (0 : Int) ≤ (v 14).toInt ∧ (v 14).toInt ≤ 8 := YIb.b hIv.1 14 (by decide)
  have b15_v : (0 : Int) ≤ (v 15).toInt ∧ (v 15).toInt ≤ 1 := YIb.b hIv.1 15 (by decide)
  have b17_v : (0 : Int) ≤ (v 17).toInt ∧ (v 17).toInt ≤ 6 := YIb.b hIv.1 17 (by decide)
  have b18_v : (0 : Int) ≤ (v 18).toInt ∧ (v 18).toInt ≤ 6 := YIb.b hIv.1 18 (by decide)
  have hown : s.vm.findClass RX11 = some m.cls := hown
  have hS : va_S A s.heap s.heap [] := va_S.rf
  have hl : lv_has ls 3 [(0, .ref y0)] := hl
  have lp1 : ∀ (n1 : Nat)  (v1 : Nat → Int32) (f1 : Nat → Nat → Int32) (w1 : Int64) (g1 : Nat → Int64), YI v1 → YC f1 → progOK (f1 4) (f1 5) (v1 9).toInt.toNat → v1 0 = (v 0) → v1 1 = (v 1) → v1 4 = (v 4) → v1 5 = (v 5) → v1 8 = (v 8) → v1 9 = (v 9) → v1 10 = (v 10) → v1 13 = (v 13) → v1 14 = (v 14) → v1 15 = (v 15) → v1 17 = (v 17) → v1 18 = (v 18) → v1 24 = (v 24) → v1 25 = (v 25) → v1 35 = (v 35) → v1 36 = (v 36) → v1 38 = (v 38) → v1 39 = (v 39) → ((v 3).toInt ≤ (v1 3).toInt) → f1 2 = (f 2) → f1 3 = (f 3) → f1 6 = (f 6) → (1600 - (v1 3).toInt).toNat < n1 → ∀ (H : Heap) (locs : List Loc) (ls : Array Slot), va_P (dC, dI) vwCl (YW cy y0 r v1 f1 w1 g1) H → va_D A (YW cy y0 r v1 f1 w1 g1) → va_S A s.heap H locs → lv_has ls 3 [(0, .ref y0)] → W p l e { frames := 2, cells := 0, slots := 0, locals := 81 } s m ([.ref y0] : List Value).toArray below meth c H locs 0 0 Q (F0 m 0 ls []) := by
    intro n1
    induction n1 with
    | zero => intro  v1 f1 w1 g1 hIv1 hCf1 hRf1 hq0_v1 hq1_v1 hq4_v1 hq5_v1 hq8_v1 hq9_v1 hq10_v1 hq13_v1 hq14_v1 hq15_v1 hq17_v1 hq18_v1 hq24_v1 hq25_v1 hq35_v1 hq36_v1 hq38_v1 hq39_v1 hx0_1 hs2_f1 hs3_f1 hs6_f1 hm; exact absurd hm (Nat.not_lt_zero _)
    | succ n1 ih1 =>
      intro  v1 f1 w1 g1 hIv1 hCf1 hRf1 hq0_v1 hq1_v1 hq4_v1 hq5_v1 hq8_v1 hq9_v1 hq10_v1 hq13_v1 hq14_v1 hq15_v1 hq17_v1 hq18_v1 hq24_v1 hq25_v1 hq35_v1 hq36_v1 hq38_v1 hq39_v1 hx0_1 hs2_f1 hs3_f1 hs6_f1 hm1 H locs ls hP hD hS hl
      have hUv1 : (v1 35).toInt + (v1 36).toInt ≤ 40 := hIv1.2
      have zq0_v1 := congrArg Int32.toInt hq0_v1
      have zq1_v1 := congrArg Int32.toInt hq1_v1
      have zq4_v1 := congrArg Int32.toInt hq4_v1
      have zq5_v1 := congrArg Int32.toInt hq5_v1
      have zq8_v1 := congrArg Int32.toInt hq8_v1
      have zq9_v1 := congrArg Int32.toInt hq9_v1
      have zq10_v1 := congrArg Int32.toInt hq10_v1
      have zq13_v1 := congrArg Int32.toInt hq13_v1
      have zq14_v1 := congrArg Int32.toInt hq14_v1
      have zq15_v1 := congrArg Int32.toInt hq15_v1
      have zq17_v1 := congrArg Int32.toInt hq17_v1
      have zq18_v1 := congrArg Int32.toInt hq18_v1
      have zq35_v1 := congrArg Int32.toInt hq35_v1
      have zq36_v1 := congrArg Int32.toInt hq36_v1
      have b3_v1 : 0 ≤ (v1 3).toInt ∧ (v1 3).toInt ≤ 1600 := YIb.b hIv1.1 3 (by decide)
      refine lv_aload_n hx hb dX11_token_0 rfl (lv_at hl 0 rfl) ?_
      refine lv_iconst (v := 0) hx hb dX11_token_1 (by decide) ?_
      have lt2 : (0 : Int32).toInt = 0 := by decide
      refine cbVi (n := 1) (rest := []) hx hb hml hown hts hE hP hD hS hA (sY_X11_here_1 l dC dI cy y0 r 0 v1 f1 w1 g1 hIv1 hCf1 hRf1 ⟨by decide, by decide⟩) k_1583 k_1585 k_43 k_114 k_1586 (by decide +kernel) ⟨Nat.le_of_ble_eq_true rfl, Nat.le_of_ble_eq_true rfl⟩ 0 11 rfl rfl (rfl) hl.1 rfl (Nat.le_of_ble_eq_true rfl) dX11_token_2 (fun r3 u H locs hw hP hD hS => ?_)
      have pp4 := hw
      have b4_v1 : 0 ≤ (v1 4).toInt ∧ (v1 4).toInt ≤ 1600 := YIb.b hIv1.1 4 (by decide)
      have b4_v : 0 ≤ (v 4).toInt ∧ (v 4).toInt ≤ 1600 := YIb.b hIv.1 4 (by decide)
      have pp4 : r3.toInt < 0 ∨ (v1 3).toInt + (0 : Int32).toInt < (v1 4).toInt := pp4
      refine lv_bipush (v := 32) hx hb dX11_token_5 (by decide) ?_
      refine lv_icmp_eq (tgt := 20) hx hb dX11_token_7 (by decide) (fun c5 => ?_) (fun c5 => ?_)
      · skip
        have zc5 : r3.toInt = 32 := by rw [fa_eq, show (32 : Int32).toInt = 32 from by decide] at c5; exact c5
        refine lv_aload_n hx hb dX11_token_20 rfl (lv_at hl 0 rfl) ?_
        refine lv_dup hx hb dX11_token_21 rfl ?_
        refine va_get (D := (dC, dI)) (ci := 11) (v := .int (v1 3)) (C := RX11) (T := TX11) (N := 79) hx hb hts inB_11 hown hE.1 hP 0 rfl rfl 4 (by decide) (hts _ k_1324) (fun _ h9 => h9) rfl dX11_token_22 ?_
        refine lv_iconst (v := 1) hx hb dX11_token_25 (by decide) ?_
        refine lv_iadd hx hb dX11_token_26 ?_
        refine lv_topi (fun t6 et6 => ?_)
        have rg7 := fb_rng (v1 3)
        have zt6 : t6.toInt = (v1 3).toInt + 1 := by rw [et6]; exact add_i rfl (by decide) (by omega) (by omega)
        refine va_put (D := (dC, dI)) (ci := 11) (v := .int t6) (ty := tyX11 4) (C := RX11) (T := TX11) (N := 79) hx hb hts inB_11 tyX11 tyX11_ok nmX11 hown hE.1 hP hD hS 0 rfl rfl 4 (by decide) (hts _ k_1324) (fun _ h9 => h9) rfl (tyX11_ok 4 (by decide)) rfl rfl (Nat.le_of_ble_eq_true rfl) dX11_token_27 (fun H locs hP hD hS => ?_)
        have hP : va_P (dC, dI) vwCl (YW cy y0 r (upd v1 3 t6) f1 w1 g1) H := hP
        have hD : va_D A (YW cy y0 r (upd v1 3 t6) f1 w1 g1) := hD
        refine lv_goto (tgt := 0) hx hb dX11_token_30 (by decide) ?_
        exact ih1  (upd v1 3 t6) f1 w1 g1 ⟨(YIb.upd (j := 3) (x := t6) hIv1.1 (show (0 : Int) ≤ t6.toInt by omega) (show t6.toInt ≤ (1600 : Int) by omega)), hIv1.2⟩ hCf1 hRf1 hq0_v1 hq1_v1 hq4_v1 hq5_v1 hq8_v1 hq9_v1 hq10_v1 hq13_v1 hq14_v1 hq15_v1 hq17_v1 hq18_v1 hq24_v1 hq25_v1 hq35_v1 hq36_v1 hq38_v1 hq39_v1 (by show (v 3).toInt ≤ t6.toInt; omega) hs2_f1 hs3_f1 hs6_f1 (by show (1600 - t6.toInt).toNat < n1; omega) _ _ _ hP hD hS (lv_sub hl [0] rfl)
      · skip
        have zc5 : ¬ (r3.toInt = 32) := by rw [fa_eq, show (32 : Int32).toInt = 32 from by decide] at c5; exact c5
        refine lv_aload_n hx hb dX11_token_10 rfl (lv_at hl 0 rfl) ?_
        refine lv_iconst (v := 0) hx hb dX11_token_11 (by decide) ?_
        refine cbVi (n := 1) (rest := []) hx hb hml hown hts hE hP hD hS hA (sY_X11_here_1 l dC dI cy y0 r 0 v1 f1 w1 g1 hIv1 hCf1 hRf1 ⟨by decide, by decide⟩) k_1583 k_1585 k_43 k_114 k_1586 (by decide +kernel) ⟨Nat.le_of_ble_eq_true rfl, Nat.le_of_ble_eq_true rfl⟩ 0 11 rfl rfl (rfl) hl.1 rfl (Nat.le_of_ble_eq_true rfl) dX11_token_12 (fun r8 u H locs hw hP hD hS => ?_)
        have pp9 := hw
        have pp9 : r8.toInt < 0 ∨ (v1 3).toInt + (0 : Int32).toInt < (v1 4).toInt := pp9
        refine lv_bipush (v := 10) hx hb dX11_token_15 (by decide) ?_
        refine lv_icmp_ne (tgt := 33) hx hb dX11_token_17 (by decide) (fun c10 => ?_) (fun c10 => ?_)
        · skip
          have zc10 : ¬ (r8.toInt = 10) := by rw [fa_eq, show (10 : Int32).toInt = 10 from by decide] at c10; exact c10
          refine lv_aload_n hx hb dX11_token_33 rfl (lv_at hl 0 rfl) ?_
          refine lv_aload_n hx hb dX11_token_34 rfl (lv_at hl 0 rfl) ?_
          refine va_get (D := (dC, dI)) (ci := 11) (v := .int (v1 3)) (C := RX11) (T := TX11) (N := 79) hx hb hts inB_11 hown hE.1 hP 0 rfl rfl 4 (by decide) (hts _ k_1324) (fun _ h9 => h9) rfl dX11_token_35 ?_
          refine va_put (D := (dC, dI)) (ci := 11) (v := .int (v1 3)) (ty := tyX11 7) (C := RX11) (T := TX11) (N := 79) hx hb hts inB_11 tyX11 tyX11_ok nmX11 hown hE.1 hP hD hS 0 rfl rfl 7 (by decide) (hts _ k_1327) (fun _ h9 => h9) rfl (tyX11_ok 7 (by decide)) rfl rfl (Nat.le_of_ble_eq_true rfl) dX11_token_38 (fun H locs hP hD hS => ?_)
          have hP : va_P (dC, dI) vwCl (YW cy y0 r (upd v1 6 (v1 3)) f1 w1 g1) H := hP
          have hD : va_D A (YW cy y0 r (upd v1 6 (v1 3)) f1 w1 g1) := hD
          refine lv_aload_n hx hb dX11_token_41 rfl (lv_at hl 0 rfl) ?_
          refine lv_iconst (v := 0) hx hb dX11_token_42 (by decide) ?_
          refine cbVi (n := 1) (rest := []) hx hb hml hown hts hE hP hD hS hA (sY_X11_here_1 l dC dI cy y0 r 0 (upd v1 6 (v1 3)) f1 w1 g1 ⟨(YIb.upd (j := 6) (x := (v1 3)) hIv1.1 (rlo _) (rhi _)), hIv1.2⟩ hCf1 hRf1 ⟨by decide, by decide⟩) k_1583 k_1585 k_43 k_114 k_1586 (by decide +kernel) ⟨Nat.le_of_ble_eq_true rfl, Nat.le_of_ble_eq_true rfl⟩ 0 11 rfl rfl (rfl) hl.1 rfl (Nat.le_of_ble_eq_true rfl) dX11_token_43 (fun r11 u H locs hw hP hD hS => ?_)
          have pp12 := hw
          have pp12 : r11.toInt < 0 ∨ (v1 3).toInt + (0 : Int32).toInt < (v1 4).toInt := pp12
          refine lv_istore_n (lv' := [(1, .int r11), (0, .ref y0)]) hx hb dX11_token_46 rfl hl (by decide) rfl (fun ls hl => ?_)
          refine lv_iconst (v := 0) hx hb dX11_token_47 (by decide) ?_
          refine lv_istore_n (lv' := [(2, .int 0), (1, .int r11), (0, .ref y0)]) hx hb dX11_token_48 rfl hl (by decide) rfl (fun ls hl => ?_)
          refine lv_aload_n hx hb dX11_token_49 rfl (lv_at hl 2 rfl) ?_
          refine lv_lconst (v := 0) hx hb dX11_token_50 (by decide) ?_
          refine va_put (D := (dC, dI)) (ci := 11) (v := .long 0) (ty := tyX11 9) (C := RX11) (T := TX11) (N := 79) hx hb hts inB_11 tyX11 tyX11_ok nmX11 hown hE.1 hP hD hS 0 rfl rfl 9 (by decide) (hts _ k_1329) (fun _ h9 => h9) rfl (tyX11_ok 9 (by decide)) rfl rfl (Nat.le_of_ble_eq_true rfl) dX11_token_51 (fun H locs hP hD hS => ?_)
          have hP : va_P (dC, dI) vwCl (YW cy y0 r (upd v1 6 (v1 3)) f1 0 g1) H := hP
          have hD : va_D A (YW cy y0 r (upd v1 6 (v1 3)) f1 0 g1) := hD
          refine lv_aload_n hx hb dX11_token_54 rfl (lv_at hl 2 rfl) ?_
          refine lv_iconst (v := 0) hx hb dX11_token_55 (by decide) ?_
          refine va_put (D := (dC, dI)) (ci := 11) (v := .int 0) (ty := tyX11 8) (C := RX11) (T := TX11) (N := 79) hx hb hts inB_11 tyX11 tyX11_ok nmX11 hown hE.1 hP hD hS 0 rfl rfl 8 (by decide) (hts _ k_1328) (fun _ h9 => h9) rfl (tyX11_ok 8 (by decide)) rfl rfl (Nat.le_of_ble_eq_true rfl) dX11_token_56 (fun H locs hP hD hS => ?_)
          have hP : va_P (dC, dI) vwCl (YW cy y0 r (upd (upd v1 6 (v1 3)) 7 0) f1 0 g1) H := hP
          have hD : va_D A (YW cy y0 r (upd (upd v1 6 (v1 3)) 7 0) f1 0 g1) := hD
          refine lv_iload_n hx hb dX11_token_59 rfl (lv_at hl 1 rfl) ?_
          refine lv_if_ge (tgt := 71) hx hb dX11_token_60 (by decide) (fun c13 => ?_) (fun c13 => ?_)
          · skip
            have zc13 : 0 ≤ r11.toInt := by rw [fa_le, show (0 : Int32).toInt = 0 from by decide] at c13; exact c13
            refine lv_iload_n hx hb dX11_token_71 rfl (lv_at hl 1 rfl) ?_
            refine cbSi (n := 1) (rest := []) hx hb hml hown hts hE hP hD hS hA (sY_X11_isLetter_1 l dC dI cy y0 r r11 (upd (upd v1 6 (v1 3)) 7 0) f1 0 g1 ⟨(YIb.upd (j := 7) (x := 0) (YIb.upd (j := 6) (x := (v1 3)) hIv1.1 (rlo _) (rhi _)) (rlo _) (rhi _)), hIv1.2⟩ hCf1 hRf1 ) k_1587 k_1588 k_114 k_1589 (by decide +kernel) ⟨Nat.le_of_ble_eq_true rfl, Nat.le_of_ble_eq_true rfl⟩ (rfl) hl.1 rfl (Nat.le_of_ble_eq_true rfl) dX11_token_72 (fun r14 u H locs hw hP hD hS => ?_)
            rcases hw with ⟨g15, g15_0⟩ | ⟨g15⟩
            · skip
              subst g15
              refine lv_if_eq (tgt := 137) hx hb dX11_token_75 (by decide) (fun c0 => absurd c0 (by decide)) (fun _ => ?_)
              have lp16 : ∀ (n16 : Nat) (l2_16 : Int32) (v16 : Nat → Int32) (f16 : Nat → Nat → Int32) (w16 : Int64) (g16 : Nat → Int64), YI v16 → YC f16 → progOK (f16 4) (f16 5) (v16 9).toInt.toNat → v16 0 = (v 0) → v16 1 = (v 1) → v16 3 = (v1 3) → v16 4 = (v 4) → v16 5 = (v 5) → v16 8 = (v 8) → v16 9 = (v 9) → v16 10 = (v 10) → v16 13 = (v 13) → v16 14 = (v 14) → v16 15 = (v 15) → v16 17 = (v 17) → v16 18 = (v 18) → v16 24 = (v 24) → v16 25 = (v 25) → v16 35 = (v 35) → v16 36 = (v 36) → v16 38 = (v 38) → v16 39 = (v 39) → ((0 : Int) ≤ l2_16.toInt ∧ l2_16.toInt ≤ 1600) → ((v16 3).toInt + l2_16.toInt ≤ (v16 4).toInt) → f16 2 = (f 2) → f16 3 = (f 3) → f16 6 = (f 6) → (2147483647 - l2_16.toInt).toNat < n16 → ∀ (H : Heap) (locs : List Loc) (ls : Array Slot), va_P (dC, dI) vwCl (YW cy y0 r v16 f16 w16 g16) H → va_D A (YW cy y0 r v16 f16 w16 g16) → va_S A s.heap H locs → lv_has ls 3 [(2, .int l2_16), (1, .int r11), (0, .ref y0)] → W p l e { frames := 2, cells := 0, slots := 0, locals := 81 } s m ([.ref y0] : List Value).toArray below meth c H locs 0 0 Q (F0 m 78 ls []) := by
                intro n16
                induction n16 with
                | zero => intro l2_16 v16 f16 w16 g16 hIv16 hCf16 hRf16 hq0_v16 hq1_v16 hq3_v16 hq4_v16 hq5_v16 hq8_v16 hq9_v16 hq10_v16 hq13_v16 hq14_v16 hq15_v16 hq17_v16 hq18_v16 hq24_v16 hq25_v16 hq35_v16 hq36_v16 hq38_v16 hq39_v16 hr2_16 hx0_16 hs2_f16 hs3_f16 hs6_f16 hm; exact absurd hm (Nat.not_lt_zero _)
                | succ n16 ih16 =>
                  intro l2_16 v16 f16 w16 g16 hIv16 hCf16 hRf16 hq0_v16 hq1_v16 hq3_v16 hq4_v16 hq5_v16 hq8_v16 hq9_v16 hq10_v16 hq13_v16 hq14_v16 hq15_v16 hq17_v16 hq18_v16 hq24_v16 hq25_v16 hq35_v16 hq36_v16 hq38_v16 hq39_v16 hr2_16 hx0_16 hs2_f16 hs3_f16 hs6_f16 hm16 H locs ls hP hD hS hl
                  have hUv16 : (v16 35).toInt + (v16 36).toInt ≤ 40 := hIv16.2
                  have zq0_v16 := congrArg Int32.toInt hq0_v16
                  have zq1_v16 := congrArg Int32.toInt hq1_v16
                  have zq3_v16 := congrArg Int32.toInt hq3_v16
                  have zq4_v16 := congrArg Int32.toInt hq4_v16
                  have zq5_v16 := congrArg Int32.toInt hq5_v16
                  have zq8_v16 := congrArg Int32.toInt hq8_v16
                  have zq9_v16 := congrArg Int32.toInt hq9_v16
                  have zq10_v16 := congrArg Int32.toInt hq10_v16
                  have zq13_v16 := congrArg Int32.toInt hq13_v16
                  have zq14_v16 := congrArg Int32.toInt hq14_v16
                  have zq15_v16 := congrArg Int32.toInt hq15_v16
                  have zq17_v16 := congrArg Int32.toInt hq17_v16
                  have zq18_v16 := congrArg Int32.toInt hq18_v16
                  have zq35_v16 := congrArg Int32.toInt hq35_v16
                  have zq36_v16 := congrArg Int32.toInt hq36_v16
                  have b3_v16 : 0 ≤ (v16 3).toInt ∧ (v16 3).toInt ≤ 1600 := YIb.b hIv16.1 3 (by decide)
                  have b3_v1 : 0 ≤ (v1 3).toInt ∧ (v1 3).toInt ≤ 1600 := YIb.b hIv1.1 3 (by decide)
                  have b4_v16 : 0 ≤ (v16 4).toInt ∧ (v16 4).toInt ≤ 1600 := YIb.b hIv16.1 4 (by decide)
                  have b4_v : 0 ≤ (v 4).toInt ∧ (v 4).toInt ≤ 1600 := YIb.b hIv.1 4 (by decide)
                  refine lv_aload_n hx hb dX11_token_78 rfl (lv_at hl 2 rfl) ?_
                  refine lv_iload_n hx hb dX11_token_79 rfl (lv_at hl 0 rfl) ?_
                  refine cbVi (n := 1) (rest := []) hx hb hml hown hts hE hP hD hS hA (sY_X11_here_1 l dC dI cy y0 r l2_16 v16 f16 w16 g16 hIv16 hCf16 hRf16 ⟨show (0 : Int) ≤ l2_16.toInt by omega, show l2_16.toInt ≤ (1600 : Int) by omega⟩) k_1583 k_1585 k_43 k_114 k_1586 (by decide +kernel) ⟨Nat.le_of_ble_eq_true rfl, Nat.le_of_ble_eq_true rfl⟩ 0 11 rfl rfl (rfl) hl.1 rfl (Nat.le_of_ble_eq_true rfl) dX11_token_80 (fun r17 u H locs hw hP hD hS => ?_)
                  have pp18 := hw
                  have pp18 : r17.toInt < 0 ∨ (v16 3).toInt + l2_16.toInt < (v16 4).toInt := pp18
                  refine cbSi (n := 1) (rest := []) hx hb hml hown hts hE hP hD hS hA (sY_X11_isLetter_1 l dC dI cy y0 r r17 v16 f16 w16 g16 hIv16 hCf16 hRf16 ) k_1587 k_1588 k_114 k_1589 (by decide +kernel) ⟨Nat.le_of_ble_eq_true rfl, Nat.le_of_ble_eq_true rfl⟩ (rfl) hl.1 rfl (Nat.le_of_ble_eq_true rfl) dX11_token_83 (fun r19 u H locs hw hP hD hS => ?_)
                  rcases hw with ⟨g20, g20_0⟩ | ⟨g20⟩
                  · skip
                    subst g20
                    refine lv_if_eq (tgt := 119) hx hb dX11_token_86 (by decide) (fun c0 => absurd c0 (by decide)) (fun _ => ?_)
                    refine lv_iload_n hx hb dX11_token_89 rfl (lv_at hl 0 rfl) ?_
                    refine lv_bipush (v := 8) hx hb dX11_token_90 (by decide) ?_
                    refine lv_icmp_ge (tgt := 113) hx hb dX11_token_92 (by decide) (fun c21 => ?_) (fun c21 => ?_)
                    · skip
                      have zc21 : 8 ≤ l2_16.toInt := by rw [fa_le, show (8 : Int32).toInt = 8 from by decide] at c21; exact c21
                      obtain ⟨t22, et22⟩ : ∃ y : Int32, y = l2_16 + 1 := ⟨_, rfl⟩
                      have rg23 := fb_rng l2_16
                      have zt22 : t22.toInt = l2_16.toInt + 1 := by rw [et22]; exact add_i rfl (by decide) (by omega) (by omega)
                      refine lv_iinc (v := t22) (lv' := [(2, .int t22), (1, .int r11), (0, .ref y0)]) hx hb dX11_token_113 hl (k := 0) rfl (by rw [et22]; rfl) (by decide) rfl (fun ls hl => ?_)
                      refine lv_goto (tgt := 78) hx hb dX11_token_116 (by decide) ?_
                      have rg24 := fb_rng t22
                      exact ih16 t22 v16 f16 w16 g16 hIv16 hCf16 hRf16 hq0_v16 hq1_v16 hq3_v16 hq4_v16 hq5_v16 hq8_v16 hq9_v16 hq10_v16 hq13_v16 hq14_v16 hq15_v16 hq17_v16 hq18_v16 hq24_v16 hq25_v16 hq35_v16 hq36_v16 hq38_v16 hq39_v16 ⟨show (0 : Int) ≤ t22.toInt by omega, show t22.toInt ≤ (1600 : Int) by omega⟩ (by show (v16 3).toInt + t22.toInt ≤ (v16 4).toInt; omega) hs2_f16 hs3_f16 hs6_f16 (by show (2147483647 - t22.toInt).toNat < n16; omega) _ _ _ hP hD hS (lv_sub hl [0, 1, 2] rfl)
                    · skip
                      have zc21 : ¬ (8 ≤ l2_16.toInt) := by rw [fa_le, show (8 : Int32).toInt = 8 from by decide] at c21; exact c21
                      refine lv_aload_n hx hb dX11_token_95 rfl (lv_at hl 2 rfl) ?_
                      refine lv_aload_n hx hb dX11_token_96 rfl (lv_at hl 2 rfl) ?_
                      refine va_get (D := (dC, dI)) (ci := 11) (v := .long w16) (C := RX11) (T := TX11) (N := 79) hx hb hts inB_11 hown hE.1 hP 0 rfl rfl 9 (by decide) (hts _ k_1329) (fun _ h9 => h9) rfl dX11_token_97 ?_
                      refine lv_bipush (v := 8) hx hb dX11_token_100 (by decide) ?_
                      refine lv_lshl hx hb dX11_token_102 rfl ?_
                      refine lv_topl (fun j25 ej25 => ?_)
                      refine lv_aload_n hx hb dX11_token_103 rfl (lv_at hl 2 rfl) ?_
                      refine lv_iload_n hx hb dX11_token_104 rfl (lv_at hl 0 rfl) ?_
                      refine cbVi (n := 1) (rest := [.long j25, .ref y0]) hx hb hml hown hts hE hP hD hS hA (sY_X11_here_1 l dC dI cy y0 r l2_16 v16 f16 w16 g16 hIv16 hCf16 hRf16 ⟨show (0 : Int) ≤ l2_16.toInt by omega, show l2_16.toInt ≤ (1600 : Int) by omega⟩) k_1583 k_1585 k_43 k_114 k_1586 (by decide +kernel) ⟨Nat.le_of_ble_eq_true rfl, Nat.le_of_ble_eq_true rfl⟩ 0 11 rfl rfl (rfl) hl.1 rfl (Nat.le_of_ble_eq_true rfl) dX11_token_105 (fun r26 u H locs hw hP hD hS => ?_)
                      have pp27 := hw
                      have pp27 : r26.toInt < 0 ∨ (v16 3).toInt + l2_16.toInt < (v16 4).toInt := pp27
                      refine lv_i2l hx hb dX11_token_108 rfl ?_
                      refine lv_topl (fun j28 ej28 => ?_)
                      refine lv_lor hx hb dX11_token_109 ?_
                      refine lv_topl (fun j29 ej29 => ?_)
                      refine va_put (D := (dC, dI)) (ci := 11) (v := .long j29) (ty := tyX11 9) (C := RX11) (T := TX11) (N := 79) hx hb hts inB_11 tyX11 tyX11_ok nmX11 hown hE.1 hP hD hS 0 rfl rfl 9 (by decide) (hts _ k_1329) (fun _ h9 => h9) rfl (tyX11_ok 9 (by decide)) rfl rfl (Nat.le_of_ble_eq_true rfl) dX11_token_110 (fun H locs hP hD hS => ?_)
                      have hP : va_P (dC, dI) vwCl (YW cy y0 r v16 f16 j29 g16) H := hP
                      have hD : va_D A (YW cy y0 r v16 f16 j29 g16) := hD
                      obtain ⟨t30, et30⟩ : ∃ y : Int32, y = l2_16 + 1 := ⟨_, rfl⟩
                      have rg31 := fb_rng l2_16
                      have zt30 : t30.toInt = l2_16.toInt + 1 := by rw [et30]; exact add_i rfl (by decide) (by omega) (by omega)
                      refine lv_iinc (v := t30) (lv' := [(2, .int t30), (1, .int r11), (0, .ref y0)]) hx hb dX11_token_113 hl (k := 0) rfl (by rw [et30]; rfl) (by decide) rfl (fun ls hl => ?_)
                      refine lv_goto (tgt := 78) hx hb dX11_token_116 (by decide) ?_
                      have rg32 := fb_rng t30
                      exact ih16 t30 v16 f16 j29 g16 hIv16 hCf16 hRf16 hq0_v16 hq1_v16 hq3_v16 hq4_v16 hq5_v16 hq8_v16 hq9_v16 hq10_v16 hq13_v16 hq14_v16 hq15_v16 hq17_v16 hq18_v16 hq24_v16 hq25_v16 hq35_v16 hq36_v16 hq38_v16 hq39_v16 ⟨show (0 : Int) ≤ t30.toInt by omega, show t30.toInt ≤ (1600 : Int) by omega⟩ (by show (v16 3).toInt + t30.toInt ≤ (v16 4).toInt; omega) hs2_f16 hs3_f16 hs6_f16 (by show (2147483647 - t30.toInt).toNat < n16; omega) _ _ _ hP hD hS (lv_sub hl [0, 1, 2] rfl)
                  · skip
                    subst g20
                    refine lv_if_eq (tgt := 119) hx hb dX11_token_86 (by decide) (fun _ => ?_) (fun c0 => absurd (by decide) c0)
                    refine lv_aload_n hx hb dX11_token_119 rfl (lv_at hl 2 rfl) ?_
                    refine lv_iload_n hx hb dX11_token_120 rfl (lv_at hl 0 rfl) ?_
                    refine lv_bipush (v := 8) hx hb dX11_token_121 (by decide) ?_
                    refine lv_icmp_le (tgt := 130) hx hb dX11_token_123 (by decide) (fun c33 => ?_) (fun c33 => ?_)
                    · skip
                      have zc33 : l2_16.toInt ≤ 8 := by rw [fa_le, show (8 : Int32).toInt = 8 from by decide] at c33; exact c33
                      refine lv_iconst (v := 1) hx hb dX11_token_130 (by decide) ?_
                      refine va_put (D := (dC, dI)) (ci := 11) (v := .int 1) (ty := tyX11 6) (C := RX11) (T := TX11) (N := 79) hx hb hts inB_11 tyX11 tyX11_ok nmX11 hown hE.1 hP hD hS 0 rfl rfl 6 (by decide) (hts _ k_1326) (fun _ h9 => h9) rfl (tyX11_ok 6 (by decide)) rfl rfl (Nat.le_of_ble_eq_true rfl) dX11_token_131 (fun H locs hP hD hS => ?_)
                      have hP : va_P (dC, dI) vwCl (YW cy y0 r (upd v16 5 1) f16 w16 g16) H := hP
                      have hD : va_D A (YW cy y0 r (upd v16 5 1) f16 w16 g16) := hD
                      refine lv_goto (tgt := 232) hx hb dX11_token_134 (by decide) ?_
                      refine lv_aload_n hx hb dX11_token_232 rfl (lv_at hl 2 rfl) ?_
                      refine va_get (D := (dC, dI)) (ci := 11) (v := .int 1) (C := RX11) (T := TX11) (N := 79) hx hb hts inB_11 hown hE.1 hP 0 rfl rfl 6 (by decide) (hts _ k_1326) (fun _ h9 => h9) rfl dX11_token_233 ?_
                      refine lv_iconst (v := 3) hx hb dX11_token_236 (by decide) ?_
                      refine lv_icmp_eq (tgt := 250) hx hb dX11_token_237 (by decide) (fun c0 => absurd c0 (by decide)) (fun _ => ?_)
                      refine lv_aload_n hx hb dX11_token_240 rfl (lv_at hl 2 rfl) ?_
                      refine lv_dup hx hb dX11_token_241 rfl ?_
                      refine va_get (D := (dC, dI)) (ci := 11) (v := .int (v16 3)) (C := RX11) (T := TX11) (N := 79) hx hb hts inB_11 hown hE.1 hP 0 rfl rfl 4 (by decide) (hts _ k_1324) (fun _ h9 => h9) rfl dX11_token_242 ?_
                      refine tI (y := (v1 3)) hq3_v16 ?_
                      refine lv_iload_n hx hb dX11_token_245 rfl (lv_at hl 0 rfl) ?_
                      refine lv_iadd hx hb dX11_token_246 ?_
                      refine lv_topi (fun t34 et34 => ?_)
                      have rg35 := fb_rng (v1 3)
                      have rg36 := fb_rng l2_16
                      have zt34 : t34.toInt = (v1 3).toInt + l2_16.toInt := by rw [et34]; exact add_i rfl rfl (by omega) (by omega)
                      refine va_put (D := (dC, dI)) (ci := 11) (v := .int t34) (ty := tyX11 4) (C := RX11) (T := TX11) (N := 79) hx hb hts inB_11 tyX11 tyX11_ok nmX11 hown hE.1 hP hD hS 0 rfl rfl 4 (by decide) (hts _ k_1324) (fun _ h9 => h9) rfl (tyX11_ok 4 (by decide)) rfl rfl (Nat.le_of_ble_eq_true rfl) dX11_token_247 (fun H locs hP hD hS => ?_)
                      have hP : va_P (dC, dI) vwCl (YW cy y0 r (upd (upd v16 5 1) 3 t34) f16 w16 g16) H := hP
                      have hD : va_D A (YW cy y0 r (upd (upd v16 5 1) 3 t34) f16 w16 g16) := hD
                      exact ret ((upd (upd v16 5 1) 3 t34), f16, w16, g16) _ _ _ _ _ _ ⟨⟨(YIb.upd (j := 3) (x := t34) (YIb.upd (j := 5) (x := 1) hIv16.1 (rlo _) (rhi _)) (show (0 : Int) ≤ t34.toInt by omega) (show t34.toInt ≤ (1600 : Int) by omega)), hIv16.2⟩, hCf16, hRf16, hq0_v16, hq1_v16, hq4_v16, hq8_v16, hq9_v16, hq10_v16, hq13_v16, hq14_v16, hq15_v16, hq17_v16, hq18_v16, hq24_v16, hq25_v16, hq35_v16, hq36_v16, hq38_v16, hq39_v16, (by have q0 : (1 : Int32).toInt = 1 := (by decide); show (v 3).toInt ≤ t34.toInt; omega), (by have q0 : (1 : Int32).toInt = 1 := (by decide); show (1 : Int32).toInt = (v 5).toInt ∨ (v 3).toInt < t34.toInt ∨ ¬ (1 : Int32).toInt = 59; omega), hs2_f16, hs3_f16, hs6_f16⟩ hP hD hS dX11_token_250 (Nat.le_refl _) (Nat.le_refl _)
                    · skip
                      have zc33 : ¬ (l2_16.toInt ≤ 8) := by rw [fa_le, show (8 : Int32).toInt = 8 from by decide] at c33; exact c33
                      refine lv_iconst (v := 3) hx hb dX11_token_126 (by decide) ?_
                      refine lv_goto (tgt := 131) hx hb dX11_token_127 (by decide) ?_
                      refine va_put (D := (dC, dI)) (ci := 11) (v := .int 3) (ty := tyX11 6) (C := RX11) (T := TX11) (N := 79) hx hb hts inB_11 tyX11 tyX11_ok nmX11 hown hE.1 hP hD hS 0 rfl rfl 6 (by decide) (hts _ k_1326) (fun _ h9 => h9) rfl (tyX11_ok 6 (by decide)) rfl rfl (Nat.le_of_ble_eq_true rfl) dX11_token_131 (fun H locs hP hD hS => ?_)
                      have hP : va_P (dC, dI) vwCl (YW cy y0 r (upd v16 5 3) f16 w16 g16) H := hP
                      have hD : va_D A (YW cy y0 r (upd v16 5 3) f16 w16 g16) := hD
                      refine lv_goto (tgt := 232) hx hb dX11_token_134 (by decide) ?_
                      refine lv_aload_n hx hb dX11_token_232 rfl (lv_at hl 2 rfl) ?_
                      refine va_get (D := (dC, dI)) (ci := 11) (v := .int 3) (C := RX11) (T := TX11) (N := 79) hx hb hts inB_11 hown hE.1 hP 0 rfl rfl 6 (by decide) (hts _ k_1326) (fun _ h9 => h9) rfl dX11_token_233 ?_
                      refine lv_iconst (v := 3) hx hb dX11_token_236 (by decide) ?_
                      refine lv_icmp_eq (tgt := 250) hx hb dX11_token_237 (by decide) (fun _ => ?_) (fun c0 => absurd (by decide) c0)
                      exact ret ((upd v16 5 3), f16, w16, g16) _ _ _ _ _ _ ⟨⟨(YIb.upd (j := 5) (x := 3) hIv16.1 (rlo _) (rhi _)), hIv16.2⟩, hCf16, hRf16, hq0_v16, hq1_v16, hq4_v16, hq8_v16, hq9_v16, hq10_v16, hq13_v16, hq14_v16, hq15_v16, hq17_v16, hq18_v16, hq24_v16, hq25_v16, hq35_v16, hq36_v16, hq38_v16, hq39_v16, (by have q0 : (3 : Int32).toInt = 3 := (by decide); show (v 3).toInt ≤ (v16 3).toInt; omega), (by have q0 : (3 : Int32).toInt = 3 := (by decide); show (3 : Int32).toInt = (v 5).toInt ∨ (v 3).toInt < (v16 3).toInt ∨ ¬ (3 : Int32).toInt = 59; omega), hs2_f16, hs3_f16, hs6_f16⟩ hP hD hS dX11_token_250 (Nat.le_refl _) (Nat.le_refl _)
              exact lp16 _ 0 (upd (upd v1 6 (v1 3)) 7 0) f1 0 g1 ⟨(YIb.upd (j := 7) (x := 0) (YIb.upd (j := 6) (x := (v1 3)) hIv1.1 (rlo _) (rhi _)) (rlo _) (rhi _)), hIv1.2⟩ hCf1 hRf1 hq0_v1 hq1_v1 rfl hq4_v1 hq5_v1 hq8_v1 hq9_v1 hq10_v1 hq13_v1 hq14_v1 hq15_v1 hq17_v1 hq18_v1 hq24_v1 hq25_v1 hq35_v1 hq36_v1 hq38_v1 hq39_v1 ⟨by decide, by decide⟩ (by have qc0 : (0 : Int32).toInt = 0 := (by decide); have q2 : (0 : Int32).toInt = 0 := (by decide); show (v1 3).toInt + (0 : Int32).toInt ≤ (v1 4).toInt; omega) hs2_f1 hs3_f1 hs6_f1 (Nat.lt_succ_self _) _ _ _ hP hD hS (lv_sub hl [0, 1, 2] rfl)
            · skip
              subst g15
              refine lv_if_eq (tgt := 137) hx hb dX11_token_75 (by decide) (fun _ => ?_) (fun c0 => absurd (by decide) c0)
              refine lv_iload_n hx hb dX11_token_137 rfl (lv_at hl 1 rfl) ?_
              refine cbSi (n := 1) (rest := []) hx hb hml hown hts hE hP hD hS hA (sY_X11_isDigit_1 l dC dI cy y0 r r11 (upd (upd v1 6 (v1 3)) 7 0) f1 0 g1 ⟨(YIb.upd (j := 7) (x := 0) (YIb.upd (j := 6) (x := (v1 3)) hIv1.1 (rlo _) (rhi _)) (rlo _) (rhi _)), hIv1.2⟩ hCf1 hRf1 ) k_1590 k_1591 k_114 k_1592 (by decide +kernel) ⟨Nat.le_of_ble_eq_true rfl, Nat.le_of_ble_eq_true rfl⟩ (rfl) hl.1 rfl (Nat.le_of_ble_eq_true rfl) dX11_token_138 (fun r37 u H locs hw hP hD hS => ?_)
              rcases hw with ⟨g38, g38_0⟩ | ⟨g38⟩
              · skip
                subst g38
                refine lv_if_eq (tgt := 214) hx hb dX11_token_141 (by decide) (fun c0 => absurd c0 (by decide)) (fun _ => ?_)
                have lp39 : ∀ (n39 : Nat) (l2_39 : Int32) (v39 : Nat → Int32) (f39 : Nat → Nat → Int32) (w39 : Int64) (g39 : Nat → Int64), YI v39 → YC f39 → progOK (f39 4) (f39 5) (v39 9).toInt.toNat → v39 0 = (v 0) → v39 1 = (v 1) → v39 3 = (v1 3) → v39 4 = (v 4) → v39 5 = (v 5) → v39 8 = (v 8) → v39 9 = (v 9) → v39 10 = (v 10) → v39 13 = (v 13) → v39 14 = (v 14) → v39 15 = (v 15) → v39 17 = (v 17) → v39 18 = (v 18) → v39 24 = (v 24) → v39 25 = (v 25) → v39 35 = (v 35) → v39 36 = (v 36) → v39 38 = (v 38) → v39 39 = (v 39) → ((0 : Int) ≤ l2_39.toInt ∧ l2_39.toInt ≤ 1600) → ((v39 3).toInt + l2_39.toInt ≤ (v39 4).toInt) → f39 2 = (f 2) → f39 3 = (f 3) → f39 6 = (f 6) → (2147483647 - l2_39.toInt).toNat < n39 → ∀ (H : Heap) (locs : List Loc) (ls : Array Slot), va_P (dC, dI) vwCl (YW cy y0 r v39 f39 w39 g39) H → va_D A (YW cy y0 r v39 f39 w39 g39) → va_S A s.heap H locs → lv_has ls 3 [(2, .int l2_39), (1, .int r11), (0, .ref y0)] → W p l e { frames := 2, cells := 0, slots := 0, locals := 81 } s m ([.ref y0] : List Value).toArray below meth c H locs 0 0 Q (F0 m 144 ls []) := by
                  intro n39
                  induction n39 with
                  | zero => intro l2_39 v39 f39 w39 g39 hIv39 hCf39 hRf39 hq0_v39 hq1_v39 hq3_v39 hq4_v39 hq5_v39 hq8_v39 hq9_v39 hq10_v39 hq13_v39 hq14_v39 hq15_v39 hq17_v39 hq18_v39 hq24_v39 hq25_v39 hq35_v39 hq36_v39 hq38_v39 hq39_v39 hr2_39 hx0_39 hs2_f39 hs3_f39 hs6_f39 hm; exact absurd hm (Nat.not_lt_zero _)
                  | succ n39 ih39 =>
                    intro l2_39 v39 f39 w39 g39 hIv39 hCf39 hRf39 hq0_v39 hq1_v39 hq3_v39 hq4_v39 hq5_v39 hq8_v39 hq9_v39 hq10_v39 hq13_v39 hq14_v39 hq15_v39 hq17_v39 hq18_v39 hq24_v39 hq25_v39 hq35_v39 hq36_v39 hq38_v39 hq39_v39 hr2_39 hx0_39 hs2_f39 hs3_f39 hs6_f39 hm39 H locs ls hP hD hS hl
                    have hUv39 : (v39 35).toInt + (v39 36).toInt ≤ 40 := hIv39.2
                    have zq0_v39 := congrArg Int32.toInt hq0_v39
                    have zq1_v39 := congrArg Int32.toInt hq1_v39
                    have zq3_v39 := congrArg Int32.toInt hq3_v39
                    have zq4_v39 := congrArg Int32.toInt hq4_v39
                    have zq5_v39 := congrArg Int32.toInt hq5_v39
                    have zq8_v39 := congrArg Int32.toInt hq8_v39
                    have zq9_v39 := congrArg Int32.toInt hq9_v39
                    have zq10_v39 := congrArg Int32.toInt hq10_v39
                    have zq13_v39 := congrArg Int32.toInt hq13_v39
                    have zq14_v39 := congrArg Int32.toInt hq14_v39
                    have zq15_v39 := congrArg Int32.toInt hq15_v39
                    have zq17_v39 := congrArg Int32.toInt hq17_v39
                    have zq18_v39 := congrArg Int32.toInt hq18_v39
                    have zq35_v39 := congrArg Int32.toInt hq35_v39
                    have zq36_v39 := congrArg Int32.toInt hq36_v39
                    have b3_v39 : 0 ≤ (v39 3).toInt ∧ (v39 3).toInt ≤ 1600 := YIb.b hIv39.1 3 (by decide)
                    have b3_v1 : 0 ≤ (v1 3).toInt ∧ (v1 3).toInt ≤ 1600 := YIb.b hIv1.1 3 (by decide)
                    have b4_v39 : 0 ≤ (v39 4).toInt ∧ (v39 4).toInt ≤ 1600 := YIb.b hIv39.1 4 (by decide)
                    have b4_v : 0 ≤ (v 4).toInt ∧ (v 4).toInt ≤ 1600 := YIb.b hIv.1 4 (by decide)
                    refine lv_aload_n hx hb dX11_token_144 rfl (lv_at hl 2 rfl) ?_
                    refine lv_iload_n hx hb dX11_token_145 rfl (lv_at hl 0 rfl) ?_
                    refine cbVi (n := 1) (rest := []) hx hb hml hown hts hE hP hD hS hA (sY_X11_here_1 l dC dI cy y0 r l2_39 v39 f39 w39 g39 hIv39 hCf39 hRf39 ⟨show (0 : Int) ≤ l2_39.toInt by omega, show l2_39.toInt ≤ (1600 : Int) by omega⟩) k_1583 k_1585 k_43 k_114 k_1586 (by decide +kernel) ⟨Nat.le_of_ble_eq_true rfl, Nat.le_of_ble_eq_true rfl⟩ 0 11 rfl rfl (rfl) hl.1 rfl (Nat.le_of_ble_eq_true rfl) dX11_token_146 (fun r40 u H locs hw hP hD hS => ?_)
                    have pp41 := hw
                    have pp41 : r40.toInt < 0 ∨ (v39 3).toInt + l2_39.toInt < (v39 4).toInt := pp41
                    refine cbSi (n := 1) (rest := []) hx hb hml hown hts hE hP hD hS hA (sY_X11_isDigit_1 l dC dI cy y0 r r40 v39 f39 w39 g39 hIv39 hCf39 hRf39 ) k_1590 k_1591 k_114 k_1592 (by decide +kernel) ⟨Nat.le_of_ble_eq_true rfl, Nat.le_of_ble_eq_true rfl⟩ (rfl) hl.1 rfl (Nat.le_of_ble_eq_true rfl) dX11_token_149 (fun r42 u H locs hw hP hD hS => ?_)
                    rcases hw with ⟨g43, g43_0⟩ | ⟨g43⟩
                    · skip
                      subst g43
                      refine lv_if_eq (tgt := 186) hx hb dX11_token_152 (by decide) (fun c0 => absurd c0 (by decide)) (fun _ => ?_)
                      refine lv_iload_n hx hb dX11_token_155 rfl (lv_at hl 0 rfl) ?_
                      refine lv_iconst (v := 4) hx hb dX11_token_156 (by decide) ?_
                      refine lv_icmp_ge (tgt := 180) hx hb dX11_token_157 (by decide) (fun c44 => ?_) (fun c44 => ?_)
                      · skip
                        have zc44 : 4 ≤ l2_39.toInt := by rw [fa_le, show (4 : Int32).toInt = 4 from by decide] at c44; exact c44
                        obtain ⟨t45, et45⟩ : ∃ y : Int32, y = l2_39 + 1 := ⟨_, rfl⟩
                        have rg46 := fb_rng l2_39
                        have zt45 : t45.toInt = l2_39.toInt + 1 := by rw [et45]; exact add_i rfl (by decide) (by omega) (by omega)
                        refine lv_iinc (v := t45) (lv' := [(2, .int t45), (1, .int r11), (0, .ref y0)]) hx hb dX11_token_180 hl (k := 0) rfl (by rw [et45]; rfl) (by decide) rfl (fun ls hl => ?_)
                        refine lv_goto (tgt := 144) hx hb dX11_token_183 (by decide) ?_
                        have rg47 := fb_rng t45
                        exact ih39 t45 v39 f39 w39 g39 hIv39 hCf39 hRf39 hq0_v39 hq1_v39 hq3_v39 hq4_v39 hq5_v39 hq8_v39 hq9_v39 hq10_v39 hq13_v39 hq14_v39 hq15_v39 hq17_v39 hq18_v39 hq24_v39 hq25_v39 hq35_v39 hq36_v39 hq38_v39 hq39_v39 ⟨show (0 : Int) ≤ t45.toInt by omega, show t45.toInt ≤ (1600 : Int) by omega⟩ (by show (v39 3).toInt + t45.toInt ≤ (v39 4).toInt; omega) hs2_f39 hs3_f39 hs6_f39 (by show (2147483647 - t45.toInt).toNat < n39; omega) _ _ _ hP hD hS (lv_sub hl [0, 1, 2] rfl)
                      · skip
                        have zc44 : ¬ (4 ≤ l2_39.toInt) := by rw [fa_le, show (4 : Int32).toInt = 4 from by decide] at c44; exact c44
                        refine lv_aload_n hx hb dX11_token_160 rfl (lv_at hl 2 rfl) ?_
                        refine lv_bipush (v := 10) hx hb dX11_token_161 (by decide) ?_
                        refine lv_aload_n hx hb dX11_token_163 rfl (lv_at hl 2 rfl) ?_
                        refine va_get (D := (dC, dI)) (ci := 11) (v := .int (v39 7)) (C := RX11) (T := TX11) (N := 79) hx hb hts inB_11 hown hE.1 hP 0 rfl rfl 8 (by decide) (hts _ k_1328) (fun _ h9 => h9) rfl dX11_token_164 ?_
                        refine lv_imul hx hb dX11_token_167 ?_
                        refine lv_topi (fun t48 et48 => ?_)
                        refine lv_aload_n hx hb dX11_token_168 rfl (lv_at hl 2 rfl) ?_
                        refine lv_iload_n hx hb dX11_token_169 rfl (lv_at hl 0 rfl) ?_
                        refine cbVi (n := 1) (rest := [.int t48, .ref y0]) hx hb hml hown hts hE hP hD hS hA (sY_X11_here_1 l dC dI cy y0 r l2_39 v39 f39 w39 g39 hIv39 hCf39 hRf39 ⟨show (0 : Int) ≤ l2_39.toInt by omega, show l2_39.toInt ≤ (1600 : Int) by omega⟩) k_1583 k_1585 k_43 k_114 k_1586 (by decide +kernel) ⟨Nat.le_of_ble_eq_true rfl, Nat.le_of_ble_eq_true rfl⟩ 0 11 rfl rfl (rfl) hl.1 rfl (Nat.le_of_ble_eq_true rfl) dX11_token_170 (fun r49 u H locs hw hP hD hS => ?_)
                        have pp50 := hw
                        have pp50 : r49.toInt < 0 ∨ (v39 3).toInt + l2_39.toInt < (v39 4).toInt := pp50
                        refine lv_iadd hx hb dX11_token_173 ?_
                        refine lv_topi (fun t51 et51 => ?_)
                        refine lv_bipush (v := 48) hx hb dX11_token_174 (by decide) ?_
                        refine lv_isub hx hb dX11_token_176 ?_
                        refine lv_topi (fun t52 et52 => ?_)
                        refine va_put (D := (dC, dI)) (ci := 11) (v := .int t52) (ty := tyX11 8) (C := RX11) (T := TX11) (N := 79) hx hb hts inB_11 tyX11 tyX11_ok nmX11 hown hE.1 hP hD hS 0 rfl rfl 8 (by decide) (hts _ k_1328) (fun _ h9 => h9) rfl (tyX11_ok 8 (by decide)) rfl rfl (Nat.le_of_ble_eq_true rfl) dX11_token_177 (fun H locs hP hD hS => ?_)
                        have hP : va_P (dC, dI) vwCl (YW cy y0 r (upd v39 7 t52) f39 w39 g39) H := hP
                        have hD : va_D A (YW cy y0 r (upd v39 7 t52) f39 w39 g39) := hD
                        obtain ⟨t53, et53⟩ : ∃ y : Int32, y = l2_39 + 1 := ⟨_, rfl⟩
                        have rg54 := fb_rng l2_39
                        have zt53 : t53.toInt = l2_39.toInt + 1 := by rw [et53]; exact add_i rfl (by decide) (by omega) (by omega)
                        refine lv_iinc (v := t53) (lv' := [(2, .int t53), (1, .int r11), (0, .ref y0)]) hx hb dX11_token_180 hl (k := 0) rfl (by rw [et53]; rfl) (by decide) rfl (fun ls hl => ?_)
                        refine lv_goto (tgt := 144) hx hb dX11_token_183 (by decide) ?_
                        have rg55 := fb_rng t53
                        exact ih39 t53 (upd v39 7 t52) f39 w39 g39 ⟨(YIb.upd (j := 7) (x := t52) hIv39.1 (rlo _) (rhi _)), hIv39.2⟩ hCf39 hRf39 hq0_v39 hq1_v39 hq3_v39 hq4_v39 hq5_v39 hq8_v39 hq9_v39 hq10_v39 hq13_v39 hq14_v39 hq15_v39 hq17_v39 hq18_v39 hq24_v39 hq25_v39 hq35_v39 hq36_v39 hq38_v39 hq39_v39 ⟨show (0 : Int) ≤ t53.toInt by omega, show t53.toInt ≤ (1600 : Int) by omega⟩ (by show (v39 3).toInt + t53.toInt ≤ (v39 4).toInt; omega) hs2_f39 hs3_f39 hs6_f39 (by show (2147483647 - t53.toInt).toNat < n39; omega) _ _ _ hP hD hS (lv_sub hl [0, 1, 2] rfl)
                    · skip
                      subst g43
                      refine lv_if_eq (tgt := 186) hx hb dX11_token_152 (by decide) (fun _ => ?_) (fun c0 => absurd (by decide) c0)
                      refine lv_aload_n hx hb dX11_token_186 rfl (lv_at hl 2 rfl) ?_
                      refine lv_iload_n hx hb dX11_token_187 rfl (lv_at hl 0 rfl) ?_
                      refine lv_iconst (v := 4) hx hb dX11_token_188 (by decide) ?_
                      refine lv_icmp_gt (tgt := 203) hx hb dX11_token_189 (by decide) (fun c56 => ?_) (fun c56 => ?_)
                      · skip
                        have zc56 : 4 < l2_39.toInt := by rw [fa_lt, show (4 : Int32).toInt = 4 from by decide] at c56; exact c56
                        refine lv_iconst (v := 3) hx hb dX11_token_203 (by decide) ?_
                        refine lv_goto (tgt := 208) hx hb dX11_token_204 (by decide) ?_
                        refine va_put (D := (dC, dI)) (ci := 11) (v := .int 3) (ty := tyX11 6) (C := RX11) (T := TX11) (N := 79) hx hb hts inB_11 tyX11 tyX11_ok nmX11 hown hE.1 hP hD hS 0 rfl rfl 6 (by decide) (hts _ k_1326) (fun _ h9 => h9) rfl (tyX11_ok 6 (by decide)) rfl rfl (Nat.le_of_ble_eq_true rfl) dX11_token_208 (fun H locs hP hD hS => ?_)
                        have hP : va_P (dC, dI) vwCl (YW cy y0 r (upd v39 5 3) f39 w39 g39) H := hP
                        have hD : va_D A (YW cy y0 r (upd v39 5 3) f39 w39 g39) := hD
                        refine lv_goto (tgt := 232) hx hb dX11_token_211 (by decide) ?_
                        refine lv_aload_n hx hb dX11_token_232 rfl (lv_at hl 2 rfl) ?_
                        refine va_get (D := (dC, dI)) (ci := 11) (v := .int 3) (C := RX11) (T := TX11) (N := 79) hx hb hts inB_11 hown hE.1 hP 0 rfl rfl 6 (by decide) (hts _ k_1326) (fun _ h9 => h9) rfl dX11_token_233 ?_
                        refine lv_iconst (v := 3) hx hb dX11_token_236 (by decide) ?_
                        refine lv_icmp_eq (tgt := 250) hx hb dX11_token_237 (by decide) (fun _ => ?_) (fun c0 => absurd (by decide) c0)
                        exact ret ((upd v39 5 3), f39, w39, g39) _ _ _ _ _ _ ⟨⟨(YIb.upd (j := 5) (x := 3) hIv39.1 (rlo _) (rhi _)), hIv39.2⟩, hCf39, hRf39, hq0_v39, hq1_v39, hq4_v39, hq8_v39, hq9_v39, hq10_v39, hq13_v39, hq14_v39, hq15_v39, hq17_v39, hq18_v39, hq24_v39, hq25_v39, hq35_v39, hq36_v39, hq38_v39, hq39_v39, (by have q0 : (3 : Int32).toInt = 3 := (by decide); show (v 3).toInt ≤ (v39 3).toInt; omega), (by have q0 : (3 : Int32).toInt = 3 := (by decide); show (3 : Int32).toInt = (v 5).toInt ∨ (v 3).toInt < (v39 3).toInt ∨ ¬ (3 : Int32).toInt = 59; omega), hs2_f39, hs3_f39, hs6_f39⟩ hP hD hS dX11_token_250 (Nat.le_refl _) (Nat.le_refl _)
                      · skip
                        have zc56 : ¬ (4 < l2_39.toInt) := by rw [fa_lt, show (4 : Int32).toInt = 4 from by decide] at c56; exact c56
                        refine lv_aload_n hx hb dX11_token_192 rfl (lv_at hl 2 rfl) ?_
                        refine lv_iload_n hx hb dX11_token_193 rfl (lv_at hl 0 rfl) ?_
                        refine cbVi (n := 1) (rest := [.ref y0]) hx hb hml hown hts hE hP hD hS hA (sY_X11_here_1 l dC dI cy y0 r l2_39 v39 f39 w39 g39 hIv39 hCf39 hRf39 ⟨show (0 : Int) ≤ l2_39.toInt by omega, show l2_39.toInt ≤ (1600 : Int) by omega⟩) k_1583 k_1585 k_43 k_114 k_1586 (by decide +kernel) ⟨Nat.le_of_ble_eq_true rfl, Nat.le_of_ble_eq_true rfl⟩ 0 11 rfl rfl (rfl) hl.1 rfl (Nat.le_of_ble_eq_true rfl) dX11_token_194 (fun r57 u H locs hw hP hD hS => ?_)
                        have pp58 := hw
                        have pp58 : r57.toInt < 0 ∨ (v39 3).toInt + l2_39.toInt < (v39 4).toInt := pp58
                        refine cbSi (n := 1) (rest := [.ref y0]) hx hb hml hown hts hE hP hD hS hA (sY_X11_isLetter_1 l dC dI cy y0 r r57 v39 f39 w39 g39 hIv39 hCf39 hRf39 ) k_1587 k_1588 k_114 k_1589 (by decide +kernel) ⟨Nat.le_of_ble_eq_true rfl, Nat.le_of_ble_eq_true rfl⟩ (rfl) hl.1 rfl (Nat.le_of_ble_eq_true rfl) dX11_token_197 (fun r59 u H locs hw hP hD hS => ?_)
                        rcases hw with ⟨g60, g60_0⟩ | ⟨g60⟩
                        · skip
                          subst g60
                          refine lv_if_eq (tgt := 207) hx hb dX11_token_200 (by decide) (fun c0 => absurd c0 (by decide)) (fun _ => ?_)
                          refine lv_iconst (v := 3) hx hb dX11_token_203 (by decide) ?_
                          refine lv_goto (tgt := 208) hx hb dX11_token_204 (by decide) ?_
                          refine va_put (D := (dC, dI)) (ci := 11) (v := .int 3) (ty := tyX11 6) (C := RX11) (T := TX11) (N := 79) hx hb hts inB_11 tyX11 tyX11_ok nmX11 hown hE.1 hP hD hS 0 rfl rfl 6 (by decide) (hts _ k_1326) (fun _ h9 => h9) rfl (tyX11_ok 6 (by decide)) rfl rfl (Nat.le_of_ble_eq_true rfl) dX11_token_208 (fun H locs hP hD hS => ?_)
                          have hP : va_P (dC, dI) vwCl (YW cy y0 r (upd v39 5 3) f39 w39 g39) H := hP
                          have hD : va_D A (YW cy y0 r (upd v39 5 3) f39 w39 g39) := hD
                          refine lv_goto (tgt := 232) hx hb dX11_token_211 (by decide) ?_
                          refine lv_aload_n hx hb dX11_token_232 rfl (lv_at hl 2 rfl) ?_
                          refine va_get (D := (dC, dI)) (ci := 11) (v := .int 3) (C := RX11) (T := TX11) (N := 79) hx hb hts inB_11 hown hE.1 hP 0 rfl rfl 6 (by decide) (hts _ k_1326) (fun _ h9 => h9) rfl dX11_token_233 ?_
                          refine lv_iconst (v := 3) hx hb dX11_token_236 (by decide) ?_
                          refine lv_icmp_eq (tgt := 250) hx hb dX11_token_237 (by decide) (fun _ => ?_) (fun c0 => absurd (by decide) c0)
                          exact ret ((upd v39 5 3), f39, w39, g39) _ _ _ _ _ _ ⟨⟨(YIb.upd (j := 5) (x := 3) hIv39.1 (rlo _) (rhi _)), hIv39.2⟩, hCf39, hRf39, hq0_v39, hq1_v39, hq4_v39, hq8_v39, hq9_v39, hq10_v39, hq13_v39, hq14_v39, hq15_v39, hq17_v39, hq18_v39, hq24_v39, hq25_v39, hq35_v39, hq36_v39, hq38_v39, hq39_v39, (by have q0 : (3 : Int32).toInt = 3 := (by decide); show (v 3).toInt ≤ (v39 3).toInt; omega), (by have q0 : (3 : Int32).toInt = 3 := (by decide); show (3 : Int32).toInt = (v 5).toInt ∨ (v 3).toInt < (v39 3).toInt ∨ ¬ (3 : Int32).toInt = 59; omega), hs2_f39, hs3_f39, hs6_f39⟩ hP hD hS dX11_token_250 (Nat.le_refl _) (Nat.le_refl _)
                        · skip
                          subst g60
                          refine lv_if_eq (tgt := 207) hx hb dX11_token_200 (by decide) (fun _ => ?_) (fun c0 => absurd (by decide) c0)
                          refine lv_iconst (v := 2) hx hb dX11_token_207 (by decide) ?_
                          refine va_put (D := (dC, dI)) (ci := 11) (v := .int 2) (ty := tyX11 6) (C := RX11) (T := TX11) (N := 79) hx hb hts inB_11 tyX11 tyX11_ok nmX11 hown hE.1 hP hD hS 0 rfl rfl 6 (by decide) (hts _ k_1326) (fun _ h9 => h9) rfl (tyX11_ok 6 (by decide)) rfl rfl (Nat.le_of_ble_eq_true rfl) dX11_token_208 (fun H locs hP hD hS => ?_)
                          have hP : va_P (dC, dI) vwCl (YW cy y0 r (upd v39 5 2) f39 w39 g39) H := hP
                          have hD : va_D A (YW cy y0 r (upd v39 5 2) f39 w39 g39) := hD
                          refine lv_goto (tgt := 232) hx hb dX11_token_211 (by decide) ?_
                          refine lv_aload_n hx hb dX11_token_232 rfl (lv_at hl 2 rfl) ?_
                          refine va_get (D := (dC, dI)) (ci := 11) (v := .int 2) (C := RX11) (T := TX11) (N := 79) hx hb hts inB_11 hown hE.1 hP 0 rfl rfl 6 (by decide) (hts _ k_1326) (fun _ h9 => h9) rfl dX11_token_233 ?_
                          refine lv_iconst (v := 3) hx hb dX11_token_236 (by decide) ?_
                          refine lv_icmp_eq (tgt := 250) hx hb dX11_token_237 (by decide) (fun c0 => absurd c0 (by decide)) (fun _ => ?_)
                          refine lv_aload_n hx hb dX11_token_240 rfl (lv_at hl 2 rfl) ?_
                          refine lv_dup hx hb dX11_token_241 rfl ?_
                          refine va_get (D := (dC, dI)) (ci := 11) (v := .int (v39 3)) (C := RX11) (T := TX11) (N := 79) hx hb hts inB_11 hown hE.1 hP 0 rfl rfl 4 (by decide) (hts _ k_1324) (fun _ h9 => h9) rfl dX11_token_242 ?_
                          refine tI (y := (v1 3)) hq3_v39 ?_
                          refine lv_iload_n hx hb dX11_token_245 rfl (lv_at hl 0 rfl) ?_
                          refine lv_iadd hx hb dX11_token_246 ?_
                          refine lv_topi (fun t61 et61 => ?_)
                          have rg62 := fb_rng (v1 3)
                          have rg63 := fb_rng l2_39
                          have zt61 : t61.toInt = (v1 3).toInt + l2_39.toInt := by rw [et61]; exact add_i rfl rfl (by omega) (by omega)
                          refine va_put (D := (dC, dI)) (ci := 11) (v := .int t61) (ty := tyX11 4) (C := RX11) (T := TX11) (N := 79) hx hb hts inB_11 tyX11 tyX11_ok nmX11 hown hE.1 hP hD hS 0 rfl rfl 4 (by decide) (hts _ k_1324) (fun _ h9 => h9) rfl (tyX11_ok 4 (by decide)) rfl rfl (Nat.le_of_ble_eq_true rfl) dX11_token_247 (fun H locs hP hD hS => ?_)
                          have hP : va_P (dC, dI) vwCl (YW cy y0 r (upd (upd v39 5 2) 3 t61) f39 w39 g39) H := hP
                          have hD : va_D A (YW cy y0 r (upd (upd v39 5 2) 3 t61) f39 w39 g39) := hD
                          exact ret ((upd (upd v39 5 2) 3 t61), f39, w39, g39) _ _ _ _ _ _ ⟨⟨(YIb.upd (j := 3) (x := t61) (YIb.upd (j := 5) (x := 2) hIv39.1 (rlo _) (rhi _)) (show (0 : Int) ≤ t61.toInt by omega) (show t61.toInt ≤ (1600 : Int) by omega)), hIv39.2⟩, hCf39, hRf39, hq0_v39, hq1_v39, hq4_v39, hq8_v39, hq9_v39, hq10_v39, hq13_v39, hq14_v39, hq15_v39, hq17_v39, hq18_v39, hq24_v39, hq25_v39, hq35_v39, hq36_v39, hq38_v39, hq39_v39, (by have q0 : (2 : Int32).toInt = 2 := (by decide); show (v 3).toInt ≤ t61.toInt; omega), (by have q0 : (2 : Int32).toInt = 2 := (by decide); show (2 : Int32).toInt = (v 5).toInt ∨ (v 3).toInt < t61.toInt ∨ ¬ (2 : Int32).toInt = 59; omega), hs2_f39, hs3_f39, hs6_f39⟩ hP hD hS dX11_token_250 (Nat.le_refl _) (Nat.le_refl _)
                exact lp39 _ 0 (upd (upd v1 6 (v1 3)) 7 0) f1 0 g1 ⟨(YIb.upd (j := 7) (x := 0) (YIb.upd (j := 6) (x := (v1 3)) hIv1.1 (rlo _) (rhi _)) (rlo _) (rhi _)), hIv1.2⟩ hCf1 hRf1 hq0_v1 hq1_v1 rfl hq4_v1 hq5_v1 hq8_v1 hq9_v1 hq10_v1 hq13_v1 hq14_v1 hq15_v1 hq17_v1 hq18_v1 hq24_v1 hq25_v1 hq35_v1 hq36_v1 hq38_v1 hq39_v1 ⟨by decide, by decide⟩ (by have qc0 : (0 : Int32).toInt = 0 := (by decide); have q2 : (0 : Int32).toInt = 0 := (by decide); show (v1 3).toInt + (0 : Int32).toInt ≤ (v1 4).toInt; omega) hs2_f1 hs3_f1 hs6_f1 (Nat.lt_succ_self _) _ _ _ hP hD hS (lv_sub hl [0, 1, 2] rfl)
              · skip
                subst g38
                refine lv_if_eq (tgt := 214) hx hb dX11_token_141 (by decide) (fun _ => ?_) (fun c0 => absurd (by decide) c0)
                refine lv_iconst (v := 1) hx hb dX11_token_214 (by decide) ?_
                refine lv_istore_n (lv' := [(2, .int 1), (1, .int r11), (0, .ref y0)]) hx hb dX11_token_215 rfl hl (by decide) rfl (fun ls hl => ?_)
                refine lv_aload_n hx hb dX11_token_216 rfl (lv_at hl 2 rfl) ?_
                refine lv_iload_n hx hb dX11_token_217 rfl (lv_at hl 1 rfl) ?_
                refine cbSi (n := 1) (rest := [.ref y0]) hx hb hml hown hts hE hP hD hS hA (sY_X11_isSign_1 l dC dI cy y0 r r11 (upd (upd v1 6 (v1 3)) 7 0) f1 0 g1 ⟨(YIb.upd (j := 7) (x := 0) (YIb.upd (j := 6) (x := (v1 3)) hIv1.1 (rlo _) (rhi _)) (rlo _) (rhi _)), hIv1.2⟩ hCf1 hRf1 ) k_1593 k_1594 k_114 k_1595 (by decide +kernel) ⟨Nat.le_of_ble_eq_true rfl, Nat.le_of_ble_eq_true rfl⟩ (rfl) hl.1 rfl (Nat.le_of_ble_eq_true rfl) dX11_token_218 (fun r64 u H locs hw hP hD hS => ?_)
                rcases hw with ⟨g65⟩ | ⟨g65⟩
                · skip
                  subst g65
                  refine lv_if_eq (tgt := 228) hx hb dX11_token_221 (by decide) (fun c0 => absurd c0 (by decide)) (fun _ => ?_)
                  refine lv_iload_n hx hb dX11_token_224 rfl (lv_at hl 1 rfl) ?_
                  refine lv_goto (tgt := 229) hx hb dX11_token_225 (by decide) ?_
                  refine va_put (D := (dC, dI)) (ci := 11) (v := .int r11) (ty := tyX11 6) (C := RX11) (T := TX11) (N := 79) hx hb hts inB_11 tyX11 tyX11_ok nmX11 hown hE.1 hP hD hS 0 rfl rfl 6 (by decide) (hts _ k_1326) (fun _ h9 => h9) rfl (tyX11_ok 6 (by decide)) rfl rfl (Nat.le_of_ble_eq_true rfl) dX11_token_229 (fun H locs hP hD hS => ?_)
                  have hP : va_P (dC, dI) vwCl (YW cy y0 r (upd (upd (upd v1 6 (v1 3)) 7 0) 5 r11) f1 0 g1) H := hP
                  have hD : va_D A (YW cy y0 r (upd (upd (upd v1 6 (v1 3)) 7 0) 5 r11) f1 0 g1) := hD
                  refine lv_aload_n hx hb dX11_token_232 rfl (lv_at hl 2 rfl) ?_
                  refine va_get (D := (dC, dI)) (ci := 11) (v := .int r11) (C := RX11) (T := TX11) (N := 79) hx hb hts inB_11 hown hE.1 hP 0 rfl rfl 6 (by decide) (hts _ k_1326) (fun _ h9 => h9) rfl dX11_token_233 ?_
                  refine lv_iconst (v := 3) hx hb dX11_token_236 (by decide) ?_
                  refine lv_icmp_eq (tgt := 250) hx hb dX11_token_237 (by decide) (fun c66 => ?_) (fun c66 => ?_)
                  · skip
                    have zc66 : r11.toInt = 3 := by rw [fa_eq, show (3 : Int32).toInt = 3 from by decide] at c66; exact c66
                    exact ret ((upd (upd (upd v1 6 (v1 3)) 7 0) 5 r11), f1, 0, g1) _ _ _ _ _ _ ⟨⟨(YIb.upd (j := 5) (x := r11) (YIb.upd (j := 7) (x := 0) (YIb.upd (j := 6) (x := (v1 3)) hIv1.1 (rlo _) (rhi _)) (rlo _) (rhi _)) (rlo _) (rhi _)), hIv1.2⟩, hCf1, hRf1, (show v1 0 = v 0 from hq0_v1), (show v1 1 = v 1 from hq1_v1), (show v1 4 = v 4 from hq4_v1), (show v1 8 = v 8 from hq8_v1), (show v1 9 = v 9 from hq9_v1), (show v1 10 = v 10 from hq10_v1), (show v1 13 = v 13 from hq13_v1), (show v1 14 = v 14 from hq14_v1), (show v1 15 = v 15 from hq15_v1), (show v1 17 = v 17 from hq17_v1), (show v1 18 = v 18 from hq18_v1), (show v1 24 = v 24 from hq24_v1), (show v1 25 = v 25 from hq25_v1), (show v1 35 = v 35 from hq35_v1), (show v1 36 = v 36 from hq36_v1), (show v1 38 = v 38 from hq38_v1), (show v1 39 = v 39 from hq39_v1), (by have q0 : (0 : Int32).toInt = 0 := (by decide); show (v 3).toInt ≤ (v1 3).toInt; omega), (by have q0 : (0 : Int32).toInt = 0 := (by decide); show r11.toInt = (v 5).toInt ∨ (v 3).toInt < (v1 3).toInt ∨ ¬ r11.toInt = 59; omega), hs2_f1, hs3_f1, hs6_f1⟩ hP hD hS dX11_token_250 (Nat.le_refl _) (Nat.le_refl _)
                  · skip
                    have zc66 : ¬ (r11.toInt = 3) := by rw [fa_eq, show (3 : Int32).toInt = 3 from by decide] at c66; exact c66
                    refine lv_aload_n hx hb dX11_token_240 rfl (lv_at hl 2 rfl) ?_
                    refine lv_dup hx hb dX11_token_241 rfl ?_
                    refine va_get (D := (dC, dI)) (ci := 11) (v := .int (v1 3)) (C := RX11) (T := TX11) (N := 79) hx hb hts inB_11 hown hE.1 hP 0 rfl rfl 4 (by decide) (hts _ k_1324) (fun _ h9 => h9) rfl dX11_token_242 ?_
                    refine lv_iload_n hx hb dX11_token_245 rfl (lv_at hl 0 rfl) ?_
                    refine lv_iadd hx hb dX11_token_246 ?_
                    refine lv_topi (fun t67 et67 => ?_)
                    have rg68 := fb_rng (v1 3)
                    have zt67 : t67.toInt = (v1 3).toInt + 1 := by rw [et67]; exact add_i rfl (by decide) (by omega) (by omega)
                    refine va_put (D := (dC, dI)) (ci := 11) (v := .int t67) (ty := tyX11 4) (C := RX11) (T := TX11) (N := 79) hx hb hts inB_11 tyX11 tyX11_ok nmX11 hown hE.1 hP hD hS 0 rfl rfl 4 (by decide) (hts _ k_1324) (fun _ h9 => h9) rfl (tyX11_ok 4 (by decide)) rfl rfl (Nat.le_of_ble_eq_true rfl) dX11_token_247 (fun H locs hP hD hS => ?_)
                    have hP : va_P (dC, dI) vwCl (YW cy y0 r (upd (upd (upd (upd v1 6 (v1 3)) 7 0) 5 r11) 3 t67) f1 0 g1) H := hP
                    have hD : va_D A (YW cy y0 r (upd (upd (upd (upd v1 6 (v1 3)) 7 0) 5 r11) 3 t67) f1 0 g1) := hD
                    exact ret ((upd (upd (upd (upd v1 6 (v1 3)) 7 0) 5 r11) 3 t67), f1, 0, g1) _ _ _ _ _ _ ⟨⟨(YIb.upd (j := 3) (x := t67) (YIb.upd (j := 5) (x := r11) (YIb.upd (j := 7) (x := 0) (YIb.upd (j := 6) (x := (v1 3)) hIv1.1 (rlo _) (rhi _)) (rlo _) (rhi _)) (rlo _) (rhi _)) (show (0 : Int) ≤ t67.toInt by omega) (show t67.toInt ≤ (1600 : Int) by omega)), hIv1.2⟩, hCf1, hRf1, (show v1 0 = v 0 from hq0_v1), (show v1 1 = v 1 from hq1_v1), (show v1 4 = v 4 from hq4_v1), (show v1 8 = v 8 from hq8_v1), (show v1 9 = v 9 from hq9_v1), (show v1 10 = v 10 from hq10_v1), (show v1 13 = v 13 from hq13_v1), (show v1 14 = v 14 from hq14_v1), (show v1 15 = v 15 from hq15_v1), (show v1 17 = v 17 from hq17_v1), (show v1 18 = v 18 from hq18_v1), (show v1 24 = v 24 from hq24_v1), (show v1 25 = v 25 from hq25_v1), (show v1 35 = v 35 from hq35_v1), (show v1 36 = v 36 from hq36_v1), (show v1 38 = v 38 from hq38_v1), (show v1 39 = v 39 from hq39_v1), (by have q0 : (0 : Int32).toInt = 0 := (by decide); show (v 3).toInt ≤ t67.toInt; omega), (by have q0 : (0 : Int32).toInt = 0 := (by decide); show r11.toInt = (v 5).toInt ∨ (v 3).toInt < t67.toInt ∨ ¬ r11.toInt = 59; omega), hs2_f1, hs3_f1, hs6_f1⟩ hP hD hS dX11_token_250 (Nat.le_refl _) (Nat.le_refl _)
                · skip
                  subst g65
                  refine lv_if_eq (tgt := 228) hx hb dX11_token_221 (by decide) (fun _ => ?_) (fun c0 => absurd (by decide) c0)
                  refine lv_iconst (v := 3) hx hb dX11_token_228 (by decide) ?_
                  refine va_put (D := (dC, dI)) (ci := 11) (v := .int 3) (ty := tyX11 6) (C := RX11) (T := TX11) (N := 79) hx hb hts inB_11 tyX11 tyX11_ok nmX11 hown hE.1 hP hD hS 0 rfl rfl 6 (by decide) (hts _ k_1326) (fun _ h9 => h9) rfl (tyX11_ok 6 (by decide)) rfl rfl (Nat.le_of_ble_eq_true rfl) dX11_token_229 (fun H locs hP hD hS => ?_)
                  have hP : va_P (dC, dI) vwCl (YW cy y0 r (upd (upd (upd v1 6 (v1 3)) 7 0) 5 3) f1 0 g1) H := hP
                  have hD : va_D A (YW cy y0 r (upd (upd (upd v1 6 (v1 3)) 7 0) 5 3) f1 0 g1) := hD
                  refine lv_aload_n hx hb dX11_token_232 rfl (lv_at hl 2 rfl) ?_
                  refine va_get (D := (dC, dI)) (ci := 11) (v := .int 3) (C := RX11) (T := TX11) (N := 79) hx hb hts inB_11 hown hE.1 hP 0 rfl rfl 6 (by decide) (hts _ k_1326) (fun _ h9 => h9) rfl dX11_token_233 ?_
                  refine lv_iconst (v := 3) hx hb dX11_token_236 (by decide) ?_
                  refine lv_icmp_eq (tgt := 250) hx hb dX11_token_237 (by decide) (fun _ => ?_) (fun c0 => absurd (by decide) c0)
                  exact ret ((upd (upd (upd v1 6 (v1 3)) 7 0) 5 3), f1, 0, g1) _ _ _ _ _ _ ⟨⟨(YIb.upd (j := 5) (x := 3) (YIb.upd (j := 7) (x := 0) (YIb.upd (j := 6) (x := (v1 3)) hIv1.1 (rlo _) (rhi _)) (rlo _) (rhi _)) (rlo _) (rhi _)), hIv1.2⟩, hCf1, hRf1, (show v1 0 = v 0 from hq0_v1), (show v1 1 = v 1 from hq1_v1), (show v1 4 = v 4 from hq4_v1), (show v1 8 = v 8 from hq8_v1), (show v1 9 = v 9 from hq9_v1), (show v1 10 = v 10 from hq10_v1), (show v1 13 = v 13 from hq13_v1), (show v1 14 = v 14 from hq14_v1), (show v1 15 = v 15 from hq15_v1), (show v1 17 = v 17 from hq17_v1), (show v1 18 = v 18 from hq18_v1), (show v1 24 = v 24 from hq24_v1), (show v1 25 = v 25 from hq25_v1), (show v1 35 = v 35 from hq35_v1), (show v1 36 = v 36 from hq36_v1), (show v1 38 = v 38 from hq38_v1), (show v1 39 = v 39 from hq39_v1), (by have q0 : (0 : Int32).toInt = 0 := (by decide); have q1 : (3 : Int32).toInt = 3 := (by decide); show (v 3).toInt ≤ (v1 3).toInt; omega), (by have q0 : (0 : Int32).toInt = 0 := (by decide); have q1 : (3 : Int32).toInt = 3 := (by decide); show (3 : Int32).toInt = (v 5).toInt ∨ (v 3).toInt < (v1 3).toInt ∨ ¬ (3 : Int32).toInt = 59; omega), hs2_f1, hs3_f1, hs6_f1⟩ hP hD hS dX11_token_250 (Nat.le_refl _) (Nat.le_refl _)
          · skip
            have zc13 : ¬ (0 ≤ r11.toInt) := by rw [fa_le, show (0 : Int32).toInt = 0 from by decide] at c13; exact c13
            refine lv_aload_n hx hb dX11_token_63 rfl (lv_at hl 2 rfl) ?_
            refine lv_iconst (v := 0) hx hb dX11_token_64 (by decide) ?_
            refine va_put (D := (dC, dI)) (ci := 11) (v := .int 0) (ty := tyX11 6) (C := RX11) (T := TX11) (N := 79) hx hb hts inB_11 tyX11 tyX11_ok nmX11 hown hE.1 hP hD hS 0 rfl rfl 6 (by decide) (hts _ k_1326) (fun _ h9 => h9) rfl (tyX11_ok 6 (by decide)) rfl rfl (Nat.le_of_ble_eq_true rfl) dX11_token_65 (fun H locs hP hD hS => ?_)
            have hP : va_P (dC, dI) vwCl (YW cy y0 r (upd (upd (upd v1 6 (v1 3)) 7 0) 5 0) f1 0 g1) H := hP
            have hD : va_D A (YW cy y0 r (upd (upd (upd v1 6 (v1 3)) 7 0) 5 0) f1 0 g1) := hD
            refine lv_goto (tgt := 232) hx hb dX11_token_68 (by decide) ?_
            refine lv_aload_n hx hb dX11_token_232 rfl (lv_at hl 2 rfl) ?_
            refine va_get (D := (dC, dI)) (ci := 11) (v := .int 0) (C := RX11) (T := TX11) (N := 79) hx hb hts inB_11 hown hE.1 hP 0 rfl rfl 6 (by decide) (hts _ k_1326) (fun _ h9 => h9) rfl dX11_token_233 ?_
            refine lv_iconst (v := 3) hx hb dX11_token_236 (by decide) ?_
            refine lv_icmp_eq (tgt := 250) hx hb dX11_token_237 (by decide) (fun c0 => absurd c0 (by decide)) (fun _ => ?_)
            refine lv_aload_n hx hb dX11_token_240 rfl (lv_at hl 2 rfl) ?_
            refine lv_dup hx hb dX11_token_241 rfl ?_
            refine va_get (D := (dC, dI)) (ci := 11) (v := .int (v1 3)) (C := RX11) (T := TX11) (N := 79) hx hb hts inB_11 hown hE.1 hP 0 rfl rfl 4 (by decide) (hts _ k_1324) (fun _ h9 => h9) rfl dX11_token_242 ?_
            refine lv_iload_n hx hb dX11_token_245 rfl (lv_at hl 0 rfl) ?_
            refine lv_iadd hx hb dX11_token_246 ?_
            refine lv_topi (fun t69 et69 => ?_)
            have rg70 := fb_rng (v1 3)
            have zt69 : t69.toInt = (v1 3).toInt + 0 := by rw [et69]; exact add_i rfl (by decide) (by omega) (by omega)
            refine va_put (D := (dC, dI)) (ci := 11) (v := .int t69) (ty := tyX11 4) (C := RX11) (T := TX11) (N := 79) hx hb hts inB_11 tyX11 tyX11_ok nmX11 hown hE.1 hP hD hS 0 rfl rfl 4 (by decide) (hts _ k_1324) (fun _ h9 => h9) rfl (tyX11_ok 4 (by decide)) rfl rfl (Nat.le_of_ble_eq_true rfl) dX11_token_247 (fun H locs hP hD hS => ?_)
            have hP : va_P (dC, dI) vwCl (YW cy y0 r (upd (upd (upd (upd v1 6 (v1 3)) 7 0) 5 0) 3 t69) f1 0 g1) H := hP
            have hD : va_D A (YW cy y0 r (upd (upd (upd (upd v1 6 (v1 3)) 7 0) 5 0) 3 t69) f1 0 g1) := hD
            exact ret ((upd (upd (upd (upd v1 6 (v1 3)) 7 0) 5 0) 3 t69), f1, 0, g1) _ _ _ _ _ _ ⟨⟨(YIb.upd (j := 3) (x := t69) (YIb.upd (j := 5) (x := 0) (YIb.upd (j := 7) (x := 0) (YIb.upd (j := 6) (x := (v1 3)) hIv1.1 (rlo _) (rhi _)) (rlo _) (rhi _)) (rlo _) (rhi _)) (show (0 : Int) ≤ t69.toInt by omega) (show t69.toInt ≤ (1600 : Int) by omega)), hIv1.2⟩, hCf1, hRf1, (show v1 0 = v 0 from hq0_v1), (show v1 1 = v 1 from hq1_v1), (show v1 4 = v 4 from hq4_v1), (show v1 8 = v 8 from hq8_v1), (show v1 9 = v 9 from hq9_v1), (show v1 10 = v 10 from hq10_v1), (show v1 13 = v 13 from hq13_v1), (show v1 14 = v 14 from hq14_v1), (show v1 15 = v 15 from hq15_v1), (show v1 17 = v 17 from hq17_v1), (show v1 18 = v 18 from hq18_v1), (show v1 24 = v 24 from hq24_v1), (show v1 25 = v 25 from hq25_v1), (show v1 35 = v 35 from hq35_v1), (show v1 36 = v 36 from hq36_v1), (show v1 38 = v 38 from hq38_v1), (show v1 39 = v 39 from hq39_v1), (by have q0 : (0 : Int32).toInt = 0 := (by decide); show (v 3).toInt ≤ t69.toInt; omega), (by have q0 : (0 : Int32).toInt = 0 := (by decide); show (0 : Int32).toInt = (v 5).toInt ∨ (v 3).toInt < t69.toInt ∨ ¬ (0 : Int32).toInt = 59; omega), hs2_f1, hs3_f1, hs6_f1⟩ hP hD hS dX11_token_250 (Nat.le_refl _) (Nat.le_refl _)
        · skip
          have zc10 : r8.toInt = 10 := by rw [fa_eq, show (10 : Int32).toInt = 10 from by decide] at c10; exact c10
          refine lv_aload_n hx hb dX11_token_20 rfl (lv_at hl 0 rfl) ?_
          refine lv_dup hx hb dX11_token_21 rfl ?_
          refine va_get (D := (dC, dI)) (ci := 11) (v := .int (v1 3)) (C := RX11) (T := TX11) (N := 79) hx hb hts inB_11 hown hE.1 hP 0 rfl rfl 4 (by decide) (hts _ k_1324) (fun _ h9 => h9) rfl dX11_token_22 ?_
          refine lv_iconst (v := 1) hx hb dX11_token_25 (by decide) ?_
          refine lv_iadd hx hb dX11_token_26 ?_
          refine lv_topi (fun t71 et71 => ?_)
          have rg72 := fb_rng (v1 3)
          have zt71 : t71.toInt = (v1 3).toInt + 1 := by rw [et71]; exact add_i rfl (by decide) (by omega) (by omega)
          refine va_put (D := (dC, dI)) (ci := 11) (v := .int t71) (ty := tyX11 4) (C := RX11) (T := TX11) (N := 79) hx hb hts inB_11 tyX11 tyX11_ok nmX11 hown hE.1 hP hD hS 0 rfl rfl 4 (by decide) (hts _ k_1324) (fun _ h9 => h9) rfl (tyX11_ok 4 (by decide)) rfl rfl (Nat.le_of_ble_eq_true rfl) dX11_token_27 (fun H locs hP hD hS => ?_)
          have hP : va_P (dC, dI) vwCl (YW cy y0 r (upd v1 3 t71) f1 w1 g1) H := hP
          have hD : va_D A (YW cy y0 r (upd v1 3 t71) f1 w1 g1) := hD
          refine lv_goto (tgt := 0) hx hb dX11_token_30 (by decide) ?_
          exact ih1  (upd v1 3 t71) f1 w1 g1 ⟨(YIb.upd (j := 3) (x := t71) hIv1.1 (show (0 : Int) ≤ t71.toInt by omega) (show t71.toInt ≤ (1600 : Int) by omega)), hIv1.2⟩ hCf1 hRf1 hq0_v1 hq1_v1 hq4_v1 hq5_v1 hq8_v1 hq9_v1 hq10_v1 hq13_v1 hq14_v1 hq15_v1 hq17_v1 hq18_v1 hq24_v1 hq25_v1 hq35_v1 hq36_v1 hq38_v1 hq39_v1 (by show (v 3).toInt ≤ t71.toInt; omega) hs2_f1 hs3_f1 hs6_f1 (by show (1600 - t71.toInt).toNat < n1; omega) _ _ _ hP hD hS (lv_sub hl [0] rfl)
  exact lp1 _  v f w g hIv hCf hRf rfl rfl rfl rfl rfl rfl rfl rfl rfl rfl rfl rfl rfl rfl rfl rfl rfl rfl (by show (v 3).toInt ≤ (v 3).toInt; omega) rfl rfl rfl (Nat.lt_succ_self _) _ _ _ hP hD hS (lv_sub hl [0] rfl)
set_option maxHeartbeats 4000000 in
set_option maxRecDepth 100000 in
theorem sY_X11_wrong_1 (l : Launch) (dC : Nat → ClassId) (dI : Nat → Nat → Nat) (cy : Nat → ClassId) (y0 : Nat) (r : Nat → Nat) (p1 : Int32) (v : Nat → Int32) (f : Nat → Nat → Int32) (w : Int64) (g : Nat → Int64) (hIv : YI v) (hCf : YC f) (hRf : progOK (f 4) (f 5) (v 9).toInt.toNat) (hp1 : (1 : Int) ≤ p1.toInt ∧ p1.toInt ≤ 4) : ctV l (dC, dI) cy yX11_wrong cX11_wrong 2 1 60 0 0 ((Nat → Int32) × (Nat → Nat → Int32) × (Int64) × (Nat → Int64)) [.ref y0, .int p1] (YW cy y0 r v f w g) (fun u => YI u.1 ∧ YC u.2.1 ∧ progOK (u.2.1 4) (u.2.1 5) (u.1 9).toInt.toNat ∧ u.1 0 = v 0 ∧ u.1 3 = v 3 ∧ u.1 4 = v 4 ∧ u.1 5 = v 5 ∧ u.1 8 = v 8 ∧ u.1 9 = v 9 ∧ u.1 10 = v 10 ∧ u.1 13 = v 13 ∧ u.1 14 = v 14 ∧ u.1 15 = v 15 ∧ u.1 17 = v 17 ∧ u.1 18 = v 18 ∧ u.1 24 = v 24 ∧ u.1 25 = v 25 ∧ u.1 35 = v 35 ∧ u.1 36 = v 36 ∧ u.1 38 = v 38 ∧ u.1 39 = v 39 ∧ ((v 3).toInt ≤ (u.1 3).toInt) ∧ ((u.1 5).toInt = (v 5).toInt ∨ (v 3).toInt < (u.1 3).toInt ∨ ¬ (u.1 5).toInt = 59) ∧ (0 < (u.1 1).toInt) ∧ u.2.1 2 = f 2 ∧ u.2.1 3 = f 3 ∧ u.2.1 6 = f 6) (fun u => YW cy y0 r u.1 u.2.1 u.2.2.1 u.2.2.2) := by
  refine ctV_of (by decide) (Nat.le_of_ble_eq_true rfl) (fun p e s m below meth c A ls Q hx hb hml hts hown hnm hE hP hD hA hl ret => ?_)
  have hUv : (v 35).toInt + (v 36).toInt ≤ 40 := hIv.2
  have b0_v : (0 : Int) ≤ (v 0).toInt ∧ (v 0).toInt ≤ 1600 := YIb.b hIv.1 0 (by decide)
  have b1_v : (0 : Int) ≤ (v 1).toInt ∧ (v 1).toInt ≤ 4 := YIb.b hIv.1 1 (by decide)
  have b8_v : (0 : Int) ≤ (v 8).toInt ∧ (v 8).toInt ≤ 320 := YIb.b hIv.1 8 (by decide)
  have b10_v : (0 : Int) ≤ (v 10).toInt ∧ (v 10).toInt ≤ 160 := YIb.b hIv.1 10 (by decide)
  have b13_v : (0 : Int) ≤ (v 13).toInt ∧ (v 13).toInt ≤ 31 := YIb.b hIv.1 13 (by decide)
  have b14_v : (0 : Int) ≤ (v 14).toInt ∧ (v 14).toInt ≤ 8 := YIb.b hIv.1 14 (by decide)
  have b15_v : (0 : Int) ≤ (v 15).toInt ∧ (v 15).toInt ≤ 1 := YIb.b hIv.1 15 (by decide)
  have b17_v : (0 : Int) ≤ (v 17).toInt ∧ (v 17).toInt ≤ 6 := YIb.b hIv.1 17 (by decide)
  have b18_v : (0 : Int) ≤ (v 18).toInt ∧ (v 18).toInt ≤ 6 := YIb.b hIv.1 18 (by decide)
  have hown : s.vm.findClass RX11 = some m.cls := hown
  have hS : va_S A s.heap s.heap [] := va_S.rf
  have hl : lv_has ls 2 [(0, .ref y0), (1, .int p1)] := hl
  refine lv_aload_n hx hb dX11_wrong_0 rfl (lv_at hl 0 rfl) ?_
  refine va_get (D := (dC, dI)) (ci := 11) (v := .int (v 1)) (C := RX11) (T := TX11) (N := 79) hx hb hts inB_11 hown hE.1 hP 0 rfl rfl 2 (by decide) (hts _ k_1322) (fun _ h9 => h9) rfl dX11_wrong_1 ?_
  have b1_v : 0 ≤ (v 1).toInt ∧ (v 1).toInt ≤ 4 := YIb.b hIv.1 1 (by decide)
  refine lv_if_le (tgt := 8) hx hb dX11_wrong_4 (by decide) (fun c1 => ?_) (fun c1 => ?_)
  · skip
    have zc1 : (v 1).toInt ≤ 0 := by rw [fa_le, show (0 : Int32).toInt = 0 from by decide] at c1; exact c1
    refine lv_aload_n hx hb dX11_wrong_8 rfl (lv_at hl 0 rfl) ?_
    refine lv_aload_n hx hb dX11_wrong_9 rfl (lv_at hl 0 rfl) ?_
    refine va_get (D := (dC, dI)) (ci := 11) (v := .int (v 5)) (C := RX11) (T := TX11) (N := 79) hx hb hts inB_11 hown hE.1 hP 0 rfl rfl 6 (by decide) (hts _ k_1326) (fun _ h9 => h9) rfl dX11_wrong_10 ?_
    refine lv_iconst (v := 3) hx hb dX11_wrong_13 (by decide) ?_
    refine lv_icmp_ne (tgt := 21) hx hb dX11_wrong_14 (by decide) (fun c2 => ?_) (fun c2 => ?_)
    · skip
      have zc2 : ¬ ((v 5).toInt = 3) := by rw [fa_eq, show (3 : Int32).toInt = 3 from by decide] at c2; exact c2
      refine lv_iload_n hx hb dX11_wrong_21 rfl (lv_at hl 1 rfl) ?_
      refine va_put (D := (dC, dI)) (ci := 11) (v := .int p1) (ty := tyX11 2) (C := RX11) (T := TX11) (N := 79) hx hb hts inB_11 tyX11 tyX11_ok nmX11 hown hE.1 hP hD hS 0 rfl rfl 2 (by decide) (hts _ k_1322) (fun _ h9 => h9) rfl (tyX11_ok 2 (by decide)) rfl rfl (Nat.le_of_ble_eq_true rfl) dX11_wrong_22 (fun H locs hP hD hS => ?_)
      have hP : va_P (dC, dI) vwCl (YW cy y0 r (upd v 1 p1) f w g) H := hP
      have hD : va_D A (YW cy y0 r (upd v 1 p1) f w g) := hD
      refine lv_aload_n hx hb dX11_wrong_25 rfl (lv_at hl 0 rfl) ?_
      refine lv_aload_n hx hb dX11_wrong_26 rfl (lv_at hl 0 rfl) ?_
      refine va_get (D := (dC, dI)) (ci := 11) (v := .int (v 6)) (C := RX11) (T := TX11) (N := 79) hx hb hts inB_11 hown hE.1 hP 0 rfl rfl 7 (by decide) (hts _ k_1327) (fun _ h9 => h9) rfl dX11_wrong_27 ?_
      refine va_put (D := (dC, dI)) (ci := 11) (v := .int (v 6)) (ty := tyX11 3) (C := RX11) (T := TX11) (N := 79) hx hb hts inB_11 tyX11 tyX11_ok nmX11 hown hE.1 hP hD hS 0 rfl rfl 3 (by decide) (hts _ k_1323) (fun _ h9 => h9) rfl (tyX11_ok 3 (by decide)) rfl rfl (Nat.le_of_ble_eq_true rfl) dX11_wrong_30 (fun H locs hP hD hS => ?_)
      have hP : va_P (dC, dI) vwCl (YW cy y0 r (upd (upd v 1 p1) 2 (v 6)) f w g) H := hP
      have hD : va_D A (YW cy y0 r (upd (upd v 1 p1) 2 (v 6)) f w g) := hD
      exact ret ((upd (upd v 1 p1) 2 (v 6)), f, w, g) _ _ _ _ _ _ ⟨⟨(YIb.upd (j := 2) (x := (v 6)) (YIb.upd (j := 1) (x := p1) hIv.1 (show (0 : Int) ≤ p1.toInt by omega) (show p1.toInt ≤ (4 : Int) by omega)) (rlo _) (rhi _)), hIv.2⟩, hCf, hRf, rfl, rfl, rfl, rfl, rfl, rfl, rfl, rfl, rfl, rfl, rfl, rfl, rfl, rfl, rfl, rfl, rfl, rfl, (by show (v 3).toInt ≤ (v 3).toInt; omega), (by show (v 5).toInt = (v 5).toInt ∨ (v 3).toInt < (v 3).toInt ∨ ¬ (v 5).toInt = 59; omega), (by show 0 < p1.toInt; omega), rfl, rfl, rfl⟩ hP hD hS dX11_wrong_33 (Nat.le_refl _) (Nat.le_refl _)
    · skip
      have zc2 : (v 5).toInt = 3 := by rw [fa_eq, show (3 : Int32).toInt = 3 from by decide] at c2; exact c2
      refine lv_iconst (v := 1) hx hb dX11_wrong_17 (by decide) ?_
      refine lv_goto (tgt := 22) hx hb dX11_wrong_18 (by decide) ?_
      refine va_put (D := (dC, dI)) (ci := 11) (v := .int 1) (ty := tyX11 2) (C := RX11) (T := TX11) (N := 79) hx hb hts inB_11 tyX11 tyX11_ok nmX11 hown hE.1 hP hD hS 0 rfl rfl 2 (by decide) (hts _ k_1322) (fun _ h9 => h9) rfl (tyX11_ok 2 (by decide)) rfl rfl (Nat.le_of_ble_eq_true rfl) dX11_wrong_22 (fun H locs hP hD hS => ?_)
      have hP : va_P (dC, dI) vwCl (YW cy y0 r (upd v 1 1) f w g) H := hP
      have hD : va_D A (YW cy y0 r (upd v 1 1) f w g) := hD
      refine lv_aload_n hx hb dX11_wrong_25 rfl (lv_at hl 0 rfl) ?_
      refine lv_aload_n hx hb dX11_wrong_26 rfl (lv_at hl 0 rfl) ?_
      refine va_get (D := (dC, dI)) (ci := 11) (v := .int (v 6)) (C := RX11) (T := TX11) (N := 79) hx hb hts inB_11 hown hE.1 hP 0 rfl rfl 7 (by decide) (hts _ k_1327) (fun _ h9 => h9) rfl dX11_wrong_27 ?_
      refine va_put (D := (dC, dI)) (ci := 11) (v := .int (v 6)) (ty := tyX11 3) (C := RX11) (T := TX11) (N := 79) hx hb hts inB_11 tyX11 tyX11_ok nmX11 hown hE.1 hP hD hS 0 rfl rfl 3 (by decide) (hts _ k_1323) (fun _ h9 => h9) rfl (tyX11_ok 3 (by decide)) rfl rfl (Nat.le_of_ble_eq_true rfl) dX11_wrong_30 (fun H locs hP hD hS => ?_)
      have hP : va_P (dC, dI) vwCl (YW cy y0 r (upd (upd v 1 1) 2 (v 6)) f w g) H := hP
      have hD : va_D A (YW cy y0 r (upd (upd v 1 1) 2 (v 6)) f w g) := hD
      exact ret ((upd (upd v 1 1) 2 (v 6)), f, w, g) _ _ _ _ _ _ ⟨⟨(YIb.upd (j := 2) (x := (v 6)) (YIb.upd (j := 1) (x := 1) hIv.1 (by decide) (by decide)) (rlo _) (rhi _)), hIv.2⟩, hCf, hRf, rfl, rfl, rfl, rfl, rfl, rfl, rfl, rfl, rfl, rfl, rfl, rfl, rfl, rfl, rfl, rfl, rfl, rfl, (by have q0 : (1 : Int32).toInt = 1 := (by decide); show (v 3).toInt ≤ (v 3).toInt; omega), (by have q0 : (1 : Int32).toInt = 1 := (by decide); show (v 5).toInt = (v 5).toInt ∨ (v 3).toInt < (v 3).toInt ∨ ¬ (v 5).toInt = 59; omega), (by have q0 : (1 : Int32).toInt = 1 := (by decide); show 0 < (1 : Int32).toInt; omega), rfl, rfl, rfl⟩ hP hD hS dX11_wrong_33 (Nat.le_refl _) (Nat.le_refl _)
  · skip
    have zc1 : ¬ ((v 1).toInt ≤ 0) := by rw [fa_le, show (0 : Int32).toInt = 0 from by decide] at c1; exact c1
    exact ret (v, f, w, g) _ _ _ _ _ _ ⟨hIv, hCf, hRf, rfl, rfl, rfl, rfl, rfl, rfl, rfl, rfl, rfl, rfl, rfl, rfl, rfl, rfl, rfl, rfl, rfl, rfl, (by show (v 3).toInt ≤ (v 3).toInt; omega), (by show (v 5).toInt = (v 5).toInt ∨ (v 3).toInt < (v 3).toInt ∨ ¬ (v 5).toInt = 59; omega), (by show 0 < (v 1).toInt; omega), rfl, rfl, rfl⟩ hP hD hS dX11_wrong_7 (Nat.le_refl _) (Nat.le_refl _)
set_option maxHeartbeats 4000000 in
set_option maxRecDepth 100000 in
theorem sY_X11_isWord_1 (l : Launch) (dC : Nat → ClassId) (dI : Nat → Nat → Nat) (cy : Nat → ClassId) (y0 : Nat) (r : Nat → Nat) (j1 : Int64) (v : Nat → Int32) (f : Nat → Nat → Int32) (w : Int64) (g : Nat → Int64) (hIv : YI v) (hCf : YC f) (hRf : progOK (f 4) (f 5) (v 9).toInt.toNat)  : ctI l (dC, dI) cy yX11_isWord cX11_isWord 3 .boolean 1 60 0 0 Unit [.ref y0, .long j1] (YW cy y0 r v f w g) (fun r u => ((r = 1 ∧ (v 5).toInt = 1) ∨ (r = 0))) (fun u => YW cy y0 r v f w g) := by
  refine ctI_of (by decide) (Nat.le_of_ble_eq_true rfl) (fun p e s m below meth c A ls Q hx hb hml hts hown hE hP hD hA hl ret => ?_)
  have hUv : (v 35).toInt + (v 36).toInt ≤ 40 := hIv.2
  have hown : s.vm.findClass RX11 = some m.cls := hown
  have hS : va_S A s.heap s.heap [] := va_S.rf
  have hl : lv_has ls 3 [(0, .ref y0), (1, .long j1)] := hl
  refine lv_aload_n hx hb dX11_isWord_0 rfl (lv_at hl 0 rfl) ?_
  refine va_get (D := (dC, dI)) (ci := 11) (v := .int (v 5)) (C := RX11) (T := TX11) (N := 79) hx hb hts inB_11 hown hE.1 hP 0 rfl rfl 6 (by decide) (hts _ k_1326) (fun _ h9 => h9) rfl dX11_isWord_1 ?_
  refine lv_iconst (v := 1) hx hb dX11_isWord_4 (by decide) ?_
  refine lv_icmp_ne (tgt := 21) hx hb dX11_isWord_5 (by decide) (fun c1 => ?_) (fun c1 => ?_)
  · skip
    have zc1 : ¬ ((v 5).toInt = 1) := by rw [fa_eq, show (1 : Int32).toInt = 1 from by decide] at c1; exact c1
    refine lv_iconst (v := 0) hx hb dX11_isWord_21 (by decide) ?_
    exact ret 0 () _ _ _ _ _ _ rfl (Or.inr rfl) hP hD hS dX11_isWord_22 (Nat.le_refl _) (Nat.le_refl _)
  · skip
    have zc1 : (v 5).toInt = 1 := by rw [fa_eq, show (1 : Int32).toInt = 1 from by decide] at c1; exact c1
    refine lv_aload_n hx hb dX11_isWord_8 rfl (lv_at hl 0 rfl) ?_
    refine va_get (D := (dC, dI)) (ci := 11) (v := .long w) (C := RX11) (T := TX11) (N := 79) hx hb hts inB_11 hown hE.1 hP 0 rfl rfl 9 (by decide) (hts _ k_1329) (fun _ h9 => h9) rfl dX11_isWord_9 ?_
    refine lv_lload_n hx hb dX11_isWord_12 rfl (lv_at hl 1 rfl) ?_
    refine W.lcmp hx hb dX11_isWord_13 ?_
    refine lv_topi (fun t2 et2 => ?_)
    refine lv_if_ne (tgt := 21) hx hb dX11_isWord_14 (by decide) (fun c3 => ?_) (fun c3 => ?_)
    · skip
      have zc3 : ¬ (t2.toInt = 0) := by rw [fa_eq, show (0 : Int32).toInt = 0 from by decide] at c3; exact c3
      refine lv_iconst (v := 0) hx hb dX11_isWord_21 (by decide) ?_
      exact ret 0 () _ _ _ _ _ _ rfl (Or.inr rfl) hP hD hS dX11_isWord_22 (Nat.le_refl _) (Nat.le_refl _)
    · skip
      have zc3 : t2.toInt = 0 := by rw [fa_eq, show (0 : Int32).toInt = 0 from by decide] at c3; exact c3
      refine lv_iconst (v := 1) hx hb dX11_isWord_17 (by decide) ?_
      refine lv_goto (tgt := 22) hx hb dX11_isWord_18 (by decide) ?_
      exact ret 1 () _ _ _ _ _ _ rfl (Or.inl ⟨rfl, by omega⟩) hP hD hS dX11_isWord_22 (Nat.le_refl _) (Nat.le_refl _)
set_option maxHeartbeats 4000000 in
set_option maxRecDepth 100000 in
theorem sY_X11_want_1 (l : Launch) (dC : Nat → ClassId) (dI : Nat → Nat → Nat) (cy : Nat → ClassId) (y0 : Nat) (r : Nat → Nat) (j1 : Int64) (v : Nat → Int32) (f : Nat → Nat → Int32) (w : Int64) (g : Nat → Int64) (hIv : YI v) (hCf : YC f) (hRf : progOK (f 4) (f 5) (v 9).toInt.toNat)  : ctV l (dC, dI) cy yX11_want cX11_want 3 3 103 0 0 ((Nat → Int32) × (Nat → Nat → Int32) × (Int64) × (Nat → Int64)) [.ref y0, .long j1] (YW cy y0 r v f w g) (fun u => YI u.1 ∧ YC u.2.1 ∧ progOK (u.2.1 4) (u.2.1 5) (u.1 9).toInt.toNat ∧ u.1 0 = v 0 ∧ u.1 4 = v 4 ∧ u.1 8 = v 8 ∧ u.1 9 = v 9 ∧ u.1 10 = v 10 ∧ u.1 13 = v 13 ∧ u.1 14 = v 14 ∧ u.1 15 = v 15 ∧ u.1 17 = v 17 ∧ u.1 18 = v 18 ∧ u.1 24 = v 24 ∧ u.1 25 = v 25 ∧ u.1 35 = v 35 ∧ u.1 36 = v 36 ∧ u.1 38 = v 38 ∧ u.1 39 = v 39 ∧ ((v 3).toInt ≤ (u.1 3).toInt) ∧ ((u.1 5).toInt = (v 5).toInt ∨ (v 3).toInt < (u.1 3).toInt ∨ ¬ (u.1 5).toInt = 59) ∧ u.2.1 2 = f 2 ∧ u.2.1 3 = f 3 ∧ u.2.1 6 = f 6) (fun u => YW cy y0 r u.1 u.2.1 u.2.2.1 u.2.2.2) := by
  refine ctV_of (by decide) (Nat.le_of_ble_eq_true rfl) (fun p e s m below meth c A ls Q hx hb hml hts hown hnm hE hP hD hA hl ret => ?_)
  have hUv : (v 35).toInt + (v 36).toInt ≤ 40 := hIv.2
  have b0_v : (0 : Int) ≤ (v 0).toInt ∧ (v 0).toInt ≤ 1600 := YIb.b hIv.1 0 (by decide)
  have b1_v : (0 : Int) ≤ (v 1).toInt ∧ (v 1).toInt ≤ 4 := YIb.b hIv.1 1 (by decide)
  have b8_v : (0 : Int) ≤ (v 8).toInt ∧ (v 8).toInt ≤ 320 := YIb.b hIv.1 8 (by decide)
  have b10_v : (0 : Int) ≤ (v 10).toInt ∧ (v 10).toInt ≤ 160 := YIb.b hIv.1 10 (by decide)
  have b13_v : (0 : Int) ≤ (v 13).toInt ∧ (v 13).toInt ≤ 31 := YIb.b hIv.1 13 (by decide)
  have b14_v : (0 : Int) ≤ (v 14).toInt ∧ (v 14).toInt ≤ 8 := YIb.b hIv.1 14 (by decide)
  have b15_v : (0 : Int) ≤ (v 15).toInt ∧ (v 15).toInt ≤ 1 := YIb.b hIv.1 15 (by decide)
  have b17_v : (0 : Int) ≤ (v 17).toInt ∧ (v 17).toInt ≤ 6 := YIb.b hIv.1 17 (by decide)
  have b18_v : (0 : Int) ≤ (v 18).toInt ∧ (v 18).toInt ≤ 6 := YIb.b hIv.1 18 (by decide)
  have hown : s.vm.findClass RX11 = some m.cls := hown
  have hS : va_S A s.heap s.heap [] := va_S.rf
  have hl : lv_has ls 3 [(0, .ref y0), (1, .long j1)] := hl
  refine lv_aload_n hx hb dX11_want_0 rfl (lv_at hl 0 rfl) ?_
  refine va_get (D := (dC, dI)) (ci := 11) (v := .int (v 1)) (C := RX11) (T := TX11) (N := 79) hx hb hts inB_11 hown hE.1 hP 0 rfl rfl 2 (by decide) (hts _ k_1322) (fun _ h9 => h9) rfl dX11_want_1 ?_
  have b1_v : 0 ≤ (v 1).toInt ∧ (v 1).toInt ≤ 4 := YIb.b hIv.1 1 (by decide)
  refine lv_if_le (tgt := 8) hx hb dX11_want_4 (by decide) (fun c1 => ?_) (fun c1 => ?_)
  · skip
    have zc1 : (v 1).toInt ≤ 0 := by rw [fa_le, show (0 : Int32).toInt = 0 from by decide] at c1; exact c1
    refine lv_aload_n hx hb dX11_want_8 rfl (lv_at hl 0 rfl) ?_
    refine lv_lload_n hx hb dX11_want_9 rfl (lv_at hl 1 rfl) ?_
    refine cbVi (n := 1) (rest := []) hx hb hml hown hts hE hP hD hS hA (sY_X11_isWord_1 l dC dI cy y0 r j1 v f w g hIv hCf hRf ) k_1601 k_1603 k_45 k_114 k_1604 (by decide +kernel) ⟨Nat.le_of_ble_eq_true rfl, Nat.le_of_ble_eq_true rfl⟩ 0 11 rfl rfl (rfl) hl.1 rfl (Nat.le_of_ble_eq_true rfl) dX11_want_10 (fun r2 u H locs hw hP hD hS => ?_)
    rcases hw with ⟨g3, g3_0⟩ | ⟨g3⟩
    · skip
      subst g3
      refine lv_if_ne (tgt := 24) hx hb dX11_want_13 (by decide) (fun _ => ?_) (fun c0 => absurd c0 (by decide))
      refine lv_aload_n hx hb dX11_want_24 rfl (lv_at hl 0 rfl) ?_
      refine cbVv (n := 0) (rest := []) hx hb hml hown hts hE hP hD hS hA (sY_X11_token_1 l dC dI cy y0 r  v f w g hIv hCf hRf ) k_1579 k_1581 k_42 k_114 k_1582 (by decide +kernel) ⟨Nat.le_of_ble_eq_true rfl, Nat.le_of_ble_eq_true rfl⟩ 0 11 rfl rfl (rfl) hl.1 rfl (Nat.le_of_ble_eq_true rfl) dX11_want_25 (fun u H locs hw hP hD hS => ?_)
      obtain ⟨v4, f5, w6, g7⟩ := u
      obtain ⟨hIv4, hCf5, hRf5, hk0_v4, hk1_v4, hk4_v4, hk8_v4, hk9_v4, hk10_v4, hk13_v4, hk14_v4, hk15_v4, hk17_v4, hk18_v4, hk24_v4, hk25_v4, hk35_v4, hk36_v4, hk38_v4, hk39_v4, pv8, pv9, kq10, kq11, kq12⟩ := hw
      have hP : va_P (dC, dI) vwCl (YW cy y0 r v4 f5 w6 g7) H := hP
      have hD : va_D A (YW cy y0 r v4 f5 w6 g7) := hD
      have b3_v4 : 0 ≤ (v4 3).toInt ∧ (v4 3).toInt ≤ 1600 := YIb.b hIv4.1 3 (by decide)
      have pv8 : (v 3).toInt ≤ (v4 3).toInt := pv8
      have pv9 : (v4 5).toInt = (v 5).toInt ∨ (v 3).toInt < (v4 3).toInt ∨ ¬ (v4 5).toInt = 59 := pv9
      have hs2_f5 : f5 2 = (f 2) := kq10
      have hs3_f5 : f5 3 = (f 3) := kq11
      have hs6_f5 : f5 6 = (f 6) := kq12
      have hUv4 : (v4 35).toInt + (v4 36).toInt ≤ 40 := hIv4.2
      have hq0_v4 : v4 0 = (v 0) := hk0_v4
      have zq0_v4 := congrArg Int32.toInt hq0_v4
      have hq1_v4 : v4 1 = (v 1) := hk1_v4
      have zq1_v4 := congrArg Int32.toInt hq1_v4
      have hq4_v4 : v4 4 = (v 4) := hk4_v4
      have zq4_v4 := congrArg Int32.toInt hq4_v4
      have hq8_v4 : v4 8 = (v 8) := hk8_v4
      have zq8_v4 := congrArg Int32.toInt hq8_v4
      have hq9_v4 : v4 9 = (v 9) := hk9_v4
      have zq9_v4 := congrArg Int32.toInt hq9_v4
      have hq10_v4 : v4 10 = (v 10) := hk10_v4
      have zq10_v4 := congrArg Int32.toInt hq10_v4
      have hq13_v4 : v4 13 = (v 13) := hk13_v4
      have zq13_v4 := congrArg Int32.toInt hq13_v4
      have hq14_v4 : v4 14 = (v 14) := hk14_v4
      have zq14_v4 := congrArg Int32.toInt hq14_v4
      have hq15_v4 : v4 15 = (v 15) := hk15_v4
      have zq15_v4 := congrArg Int32.toInt hq15_v4
      have hq17_v4 : v4 17 = (v 17) := hk17_v4
      have zq17_v4 := congrArg Int32.toInt hq17_v4
      have hq18_v4 : v4 18 = (v 18) := hk18_v4
      have zq18_v4 := congrArg Int32.toInt hq18_v4
      have hq24_v4 : v4 24 = (v 24) := hk24_v4
      have hq25_v4 : v4 25 = (v 25) := hk25_v4
      have hq35_v4 : v4 35 = (v 35) := hk35_v4
      have zq35_v4 := congrArg Int32.toInt hq35_v4
      have hq36_v4 : v4 36 = (v 36) := hk36_v4
      have zq36_v4 := congrArg Int32.toInt hq36_v4
      have hq38_v4 : v4 38 = (v 38) := hk38_v4
      have hq39_v4 : v4 39 = (v 39) := hk39_v4
      exact ret (v4, f5, w6, g7) _ _ _ _ _ _ ⟨hIv4, hCf5, hRf5, hk0_v4, hk4_v4, hk8_v4, hk9_v4, hk10_v4, hk13_v4, hk14_v4, hk15_v4, hk17_v4, hk18_v4, hk24_v4, hk25_v4, hk35_v4, hk36_v4, hk38_v4, hk39_v4, (by show (v 3).toInt ≤ (v4 3).toInt; omega), (by show (v4 5).toInt = (v 5).toInt ∨ (v 3).toInt < (v4 3).toInt ∨ ¬ (v4 5).toInt = 59; omega), hs2_f5, hs3_f5, hs6_f5⟩ hP hD hS dX11_want_28 (Nat.le_refl _) (Nat.le_refl _)
    · skip
      subst g3
      refine lv_if_ne (tgt := 24) hx hb dX11_want_13 (by decide) (fun c0 => absurd (by decide) c0) (fun _ => ?_)
      refine lv_aload_n hx hb dX11_want_16 rfl (lv_at hl 0 rfl) ?_
      refine lv_iconst (v := 2) hx hb dX11_want_17 (by decide) ?_
      refine cbVv (n := 1) (rest := []) hx hb hml hown hts hE hP hD hS hA (sY_X11_wrong_1 l dC dI cy y0 r 2 v f w g hIv hCf hRf ⟨by decide, by decide⟩) k_1641 k_1643 k_50 k_114 k_1644 (by decide +kernel) ⟨Nat.le_of_ble_eq_true rfl, Nat.le_of_ble_eq_true rfl⟩ 0 11 rfl rfl (rfl) hl.1 rfl (Nat.le_of_ble_eq_true rfl) dX11_want_18 (fun u H locs hw hP hD hS => ?_)
      obtain ⟨v13, f14, w15, g16⟩ := u
      obtain ⟨hIv13, hCf14, hRf14, hk0_v13, hk3_v13, hk4_v13, hk5_v13, hk8_v13, hk9_v13, hk10_v13, hk13_v13, hk14_v13, hk15_v13, hk17_v13, hk18_v13, hk24_v13, hk25_v13, hk35_v13, hk36_v13, hk38_v13, hk39_v13, pv17, pv18, pv19, kq20, kq21, kq22⟩ := hw
      have hP : va_P (dC, dI) vwCl (YW cy y0 r v13 f14 w15 g16) H := hP
      have hD : va_D A (YW cy y0 r v13 f14 w15 g16) := hD
      have b3_v13 : 0 ≤ (v13 3).toInt ∧ (v13 3).toInt ≤ 1600 := YIb.b hIv13.1 3 (by decide)
      have b1_v13 : 0 ≤ (v13 1).toInt ∧ (v13 1).toInt ≤ 4 := YIb.b hIv13.1 1 (by decide)
      have pv17 : (v 3).toInt ≤ (v13 3).toInt := pv17
      have pv18 : (v13 5).toInt = (v 5).toInt ∨ (v 3).toInt < (v13 3).toInt ∨ ¬ (v13 5).toInt = 59 := pv18
      have pv19 : 0 < (v13 1).toInt := pv19
      have hs2_f14 : f14 2 = (f 2) := kq20
      have hs3_f14 : f14 3 = (f 3) := kq21
      have hs6_f14 : f14 6 = (f 6) := kq22
      have hUv13 : (v13 35).toInt + (v13 36).toInt ≤ 40 := hIv13.2
      have hq0_v13 : v13 0 = (v 0) := hk0_v13
      have zq0_v13 := congrArg Int32.toInt hq0_v13
      have hq3_v13 : v13 3 = (v 3) := hk3_v13
      have zq3_v13 := congrArg Int32.toInt hq3_v13
      have hq4_v13 : v13 4 = (v 4) := hk4_v13
      have zq4_v13 := congrArg Int32.toInt hq4_v13
      have hq5_v13 : v13 5 = (v 5) := hk5_v13
      have zq5_v13 := congrArg Int32.toInt hq5_v13
      have hq8_v13 : v13 8 = (v 8) := hk8_v13
      have zq8_v13 := congrArg Int32.toInt hq8_v13
      have hq9_v13 : v13 9 = (v 9) := hk9_v13
      have zq9_v13 := congrArg Int32.toInt hq9_v13
      have hq10_v13 : v13 10 = (v 10) := hk10_v13
      have zq10_v13 := congrArg Int32.toInt hq10_v13
      have hq13_v13 : v13 13 = (v 13) := hk13_v13
      have zq13_v13 := congrArg Int32.toInt hq13_v13
      have hq14_v13 : v13 14 = (v 14) := hk14_v13
      have zq14_v13 := congrArg Int32.toInt hq14_v13
      have hq15_v13 : v13 15 = (v 15) := hk15_v13
      have zq15_v13 := congrArg Int32.toInt hq15_v13
      have hq17_v13 : v13 17 = (v 17) := hk17_v13
      have zq17_v13 := congrArg Int32.toInt hq17_v13
      have hq18_v13 : v13 18 = (v 18) := hk18_v13
      have zq18_v13 := congrArg Int32.toInt hq18_v13
      have hq24_v13 : v13 24 = (v 24) := hk24_v13
      have hq25_v13 : v13 25 = (v 25) := hk25_v13
      have hq35_v13 : v13 35 = (v 35) := hk35_v13
      have zq35_v13 := congrArg Int32.toInt hq35_v13
      have hq36_v13 : v13 36 = (v 36) := hk36_v13
      have zq36_v13 := congrArg Int32.toInt hq36_v13
      have hq38_v13 : v13 38 = (v 38) := hk38_v13
      have hq39_v13 : v13 39 = (v 39) := hk39_v13
      refine lv_goto (tgt := 28) hx hb dX11_want_21 (by decide) ?_
      exact ret (v13, f14, w15, g16) _ _ _ _ _ _ ⟨hIv13, hCf14, hRf14, hk0_v13, hk4_v13, hk8_v13, hk9_v13, hk10_v13, hk13_v13, hk14_v13, hk15_v13, hk17_v13, hk18_v13, hk24_v13, hk25_v13, hk35_v13, hk36_v13, hk38_v13, hk39_v13, (by show (v 3).toInt ≤ (v13 3).toInt; omega), (by show (v13 5).toInt = (v 5).toInt ∨ (v 3).toInt < (v13 3).toInt ∨ ¬ (v13 5).toInt = 59; omega), hs2_f14, hs3_f14, hs6_f14⟩ hP hD hS dX11_want_28 (Nat.le_refl _) (Nat.le_refl _)
  · skip
    have zc1 : ¬ ((v 1).toInt ≤ 0) := by rw [fa_le, show (0 : Int32).toInt = 0 from by decide] at c1; exact c1
    exact ret (v, f, w, g) _ _ _ _ _ _ ⟨hIv, hCf, hRf, rfl, rfl, rfl, rfl, rfl, rfl, rfl, rfl, rfl, rfl, rfl, rfl, rfl, rfl, rfl, rfl, (by show (v 3).toInt ≤ (v 3).toInt; omega), (by show (v 5).toInt = (v 5).toInt ∨ (v 3).toInt < (v 3).toInt ∨ ¬ (v 5).toInt = 59; omega), rfl, rfl, rfl⟩ hP hD hS dX11_want_7 (Nat.le_refl _) (Nat.le_refl _)
set_option maxHeartbeats 4000000 in
set_option maxRecDepth 100000 in
theorem sY_X11_toldNumber_1 (l : Launch) (dC : Nat → ClassId) (dI : Nat → Nat → Nat) (cy : Nat → ClassId) (y0 : Nat) (r : Nat → Nat) (p1 : Int32) (p2 : Int32) (v : Nat → Int32) (f : Nat → Nat → Int32) (w : Int64) (g : Nat → Int64) (hIv : YI v) (hCf : YC f) (hRf : progOK (f 4) (f 5) (v 9).toInt.toNat)  : ctI l (dC, dI) cy yX11_toldNumber cX11_toldNumber 4 .int 3 103 0 0 ((Nat → Int32) × (Nat → Nat → Int32) × (Int64) × (Nat → Int64)) [.ref y0, .int p1, .int p2] (YW cy y0 r v f w g) (fun r u => YI u.1 ∧ YC u.2.1 ∧ progOK (u.2.1 4) (u.2.1 5) (u.1 9).toInt.toNat ∧ u.1 0 = v 0 ∧ u.1 4 = v 4 ∧ u.1 8 = v 8 ∧ u.1 9 = v 9 ∧ u.1 10 = v 10 ∧ u.1 13 = v 13 ∧ u.1 14 = v 14 ∧ u.1 15 = v 15 ∧ u.1 17 = v 17 ∧ u.1 18 = v 18 ∧ u.1 24 = v 24 ∧ u.1 25 = v 25 ∧ u.1 35 = v 35 ∧ u.1 36 = v 36 ∧ u.1 38 = v 38 ∧ u.1 39 = v 39 ∧ ((v 3).toInt ≤ (u.1 3).toInt) ∧ ((u.1 5).toInt = (v 5).toInt ∨ (v 3).toInt < (u.1 3).toInt ∨ ¬ (u.1 5).toInt = 59) ∧ u.2.1 2 = f 2 ∧ u.2.1 3 = f 3 ∧ u.2.1 6 = f 6) (fun u => YW cy y0 r u.1 u.2.1 u.2.2.1 u.2.2.2) := by
  refine ctI_of (by decide) (Nat.le_of_ble_eq_true rfl) (fun p e s m below meth c A ls Q hx hb hml hts hown hE hP hD hA hl ret => ?_)
  have hUv : (v 35).toInt + (v 36).toInt ≤ 40 := hIv.2
  have b0_v : (0 : Int) ≤ (v 0).toInt ∧ (v 0).toInt ≤ 1600 := YIb.b hIv.1 0 (by decide)
  have b1_v : (0 : Int) ≤ (v 1).toInt ∧ (v 1).toInt ≤ 4 := YIb.b hIv.1 1 (by decide)
  have b8_v : (0 : Int) ≤ (v 8).toInt ∧ (v 8).toInt ≤ 320 := YIb.b hIv.1 8 (by decide)
  have b10_v : (0 : Int) ≤ (v 10).toInt ∧ (v 10).toInt ≤ 160 := YIb.b hIv.1 10 (by decide)
  have b13_v : (0 : Int) ≤ (v 13).toInt ∧ (v 13).toInt ≤ 31 := YIb.b hIv.1 13 (by decide)
  have b14_v : (0 : Int) ≤ (v 14).toInt ∧ (v 14).toInt ≤ 8 := YIb.b hIv.1 14 (by decide)
  have b15_v : (0 : Int) ≤ (v 15).toInt ∧ (v 15).toInt ≤ 1 := YIb.b hIv.1 15 (by decide)
  have b17_v : (0 : Int) ≤ (v 17).toInt ∧ (v 17).toInt ≤ 6 := YIb.b hIv.1 17 (by decide)
  have b18_v : (0 : Int) ≤ (v 18).toInt ∧ (v 18).toInt ≤ 6 := YIb.b hIv.1 18 (by decide)
  have hown : s.vm.findClass RX11 = some m.cls := hown
  have hS : va_S A s.heap s.heap [] := va_S.rf
  have hl : lv_has ls 4 [(0, .ref y0), (1, .int p1), (2, .int p2)] := hl
  refine lv_aload_n hx hb dX11_toldNumber_0 rfl (lv_at hl 0 rfl) ?_
  refine va_get (D := (dC, dI)) (ci := 11) (v := .int (v 1)) (C := RX11) (T := TX11) (N := 79) hx hb hts inB_11 hown hE.1 hP 0 rfl rfl 2 (by decide) (hts _ k_1322) (fun _ h9 => h9) rfl dX11_toldNumber_1 ?_
  have b1_v : 0 ≤ (v 1).toInt ∧ (v 1).toInt ≤ 4 := YIb.b hIv.1 1 (by decide)
  refine lv_if_le (tgt := 9) hx hb dX11_toldNumber_4 (by decide) (fun c1 => ?_) (fun c1 => ?_)
  · skip
    have zc1 : (v 1).toInt ≤ 0 := by rw [fa_le, show (0 : Int32).toInt = 0 from by decide] at c1; exact c1
    refine lv_aload_n hx hb dX11_toldNumber_9 rfl (lv_at hl 0 rfl) ?_
    refine va_get (D := (dC, dI)) (ci := 11) (v := .int (v 5)) (C := RX11) (T := TX11) (N := 79) hx hb hts inB_11 hown hE.1 hP 0 rfl rfl 6 (by decide) (hts _ k_1326) (fun _ h9 => h9) rfl dX11_toldNumber_10 ?_
    refine lv_iconst (v := 2) hx hb dX11_toldNumber_13 (by decide) ?_
    refine lv_icmp_eq (tgt := 25) hx hb dX11_toldNumber_14 (by decide) (fun c2 => ?_) (fun c2 => ?_)
    · skip
      have zc2 : (v 5).toInt = 2 := by rw [fa_eq, show (2 : Int32).toInt = 2 from by decide] at c2; exact c2
      refine lv_aload_n hx hb dX11_toldNumber_25 rfl (lv_at hl 0 rfl) ?_
      refine va_get (D := (dC, dI)) (ci := 11) (v := .int (v 7)) (C := RX11) (T := TX11) (N := 79) hx hb hts inB_11 hown hE.1 hP 0 rfl rfl 8 (by decide) (hts _ k_1328) (fun _ h9 => h9) rfl dX11_toldNumber_26 ?_
      refine lv_iload_n hx hb dX11_toldNumber_29 rfl (lv_at hl 1 rfl) ?_
      refine lv_icmp_lt (tgt := 41) hx hb dX11_toldNumber_30 (by decide) (fun c3 => ?_) (fun c3 => ?_)
      · skip
        have zc3 : (v 7).toInt < p1.toInt := by rw [fa_lt] at c3; exact c3
        have rg4 := fb_rng (v 7)
        have rg5 := fb_rng p1
        refine lv_aload_n hx hb dX11_toldNumber_41 rfl (lv_at hl 0 rfl) ?_
        refine lv_iconst (v := 4) hx hb dX11_toldNumber_42 (by decide) ?_
        refine cbVv (n := 1) (rest := []) hx hb hml hown hts hE hP hD hS hA (sY_X11_wrong_1 l dC dI cy y0 r 4 v f w g hIv hCf hRf ⟨by decide, by decide⟩) k_1641 k_1643 k_50 k_114 k_1644 (by decide +kernel) ⟨Nat.le_of_ble_eq_true rfl, Nat.le_of_ble_eq_true rfl⟩ 0 11 rfl rfl (rfl) hl.1 rfl (Nat.le_of_ble_eq_true rfl) dX11_toldNumber_43 (fun u H locs hw hP hD hS => ?_)
        obtain ⟨v6, f7, w8, g9⟩ := u
        obtain ⟨hIv6, hCf7, hRf7, hk0_v6, hk3_v6, hk4_v6, hk5_v6, hk8_v6, hk9_v6, hk10_v6, hk13_v6, hk14_v6, hk15_v6, hk17_v6, hk18_v6, hk24_v6, hk25_v6, hk35_v6, hk36_v6, hk38_v6, hk39_v6, pv10, pv11, pv12, kq13, kq14, kq15⟩ := hw
        have hP : va_P (dC, dI) vwCl (YW cy y0 r v6 f7 w8 g9) H := hP
        have hD : va_D A (YW cy y0 r v6 f7 w8 g9) := hD
        have b3_v6 : 0 ≤ (v6 3).toInt ∧ (v6 3).toInt ≤ 1600 := YIb.b hIv6.1 3 (by decide)
        have b1_v6 : 0 ≤ (v6 1).toInt ∧ (v6 1).toInt ≤ 4 := YIb.b hIv6.1 1 (by decide)
        have pv10 : (v 3).toInt ≤ (v6 3).toInt := pv10
        have pv11 : (v6 5).toInt = (v 5).toInt ∨ (v 3).toInt < (v6 3).toInt ∨ ¬ (v6 5).toInt = 59 := pv11
        have pv12 : 0 < (v6 1).toInt := pv12
        have hs2_f7 : f7 2 = (f 2) := kq13
        have hs3_f7 : f7 3 = (f 3) := kq14
        have hs6_f7 : f7 6 = (f 6) := kq15
        have hUv6 : (v6 35).toInt + (v6 36).toInt ≤ 40 := hIv6.2
        have hq0_v6 : v6 0 = (v 0) := hk0_v6
        have zq0_v6 := congrArg Int32.toInt hq0_v6
        have hq3_v6 : v6 3 = (v 3) := hk3_v6
        have zq3_v6 := congrArg Int32.toInt hq3_v6
        have hq4_v6 : v6 4 = (v 4) := hk4_v6
        have zq4_v6 := congrArg Int32.toInt hq4_v6
        have hq5_v6 : v6 5 = (v 5) := hk5_v6
        have zq5_v6 := congrArg Int32.toInt hq5_v6
        have hq8_v6 : v6 8 = (v 8) := hk8_v6
        have zq8_v6 := congrArg Int32.toInt hq8_v6
        have hq9_v6 : v6 9 = (v 9) := hk9_v6
        have zq9_v6 := congrArg Int32.toInt hq9_v6
        have hq10_v6 : v6 10 = (v 10) := hk10_v6
        have zq10_v6 := congrArg Int32.toInt hq10_v6
        have hq13_v6 : v6 13 = (v 13) := hk13_v6
        have zq13_v6 := congrArg Int32.toInt hq13_v6
        have hq14_v6 : v6 14 = (v 14) := hk14_v6
        have zq14_v6 := congrArg Int32.toInt hq14_v6
        have hq15_v6 : v6 15 = (v 15) := hk15_v6
        have zq15_v6 := congrArg Int32.toInt hq15_v6
        have hq17_v6 : v6 17 = (v 17) := hk17_v6
        have zq17_v6 := congrArg Int32.toInt hq17_v6
        have hq18_v6 : v6 18 = (v 18) := hk18_v6
        have zq18_v6 := congrArg Int32.toInt hq18_v6
        have hq24_v6 : v6 24 = (v 24) := hk24_v6
        have hq25_v6 : v6 25 = (v 25) := hk25_v6
        have hq35_v6 : v6 35 = (v 35) := hk35_v6
        have zq35_v6 := congrArg Int32.toInt hq35_v6
        have hq36_v6 : v6 36 = (v 36) := hk36_v6
        have zq36_v6 := congrArg Int32.toInt hq36_v6
        have hq38_v6 : v6 38 = (v 38) := hk38_v6
        have hq39_v6 : v6 39 = (v 39) := hk39_v6
        refine lv_aload_n hx hb dX11_toldNumber_46 rfl (lv_at hl 0 rfl) ?_
        refine va_get (D := (dC, dI)) (ci := 11) (v := .int (v6 7)) (C := RX11) (T := TX11) (N := 79) hx hb hts inB_11 hown hE.1 hP 0 rfl rfl 8 (by decide) (hts _ k_1328) (fun _ h9 => h9) rfl dX11_toldNumber_47 ?_
        refine lv_istore_n (lv' := [(3, .int (v6 7)), (0, .ref y0), (1, .int p1), (2, .int p2)]) hx hb dX11_toldNumber_50 rfl hl (by decide) rfl (fun ls hl => ?_)
        refine lv_aload_n hx hb dX11_toldNumber_51 rfl (lv_at hl 1 rfl) ?_
        refine va_get (D := (dC, dI)) (ci := 11) (v := .int (v6 1)) (C := RX11) (T := TX11) (N := 79) hx hb hts inB_11 hown hE.1 hP 0 rfl rfl 2 (by decide) (hts _ k_1322) (fun _ h9 => h9) rfl dX11_toldNumber_52 ?_
        have b1_v6 : 0 ≤ (v6 1).toInt ∧ (v6 1).toInt ≤ 4 := YIb.b hIv6.1 1 (by decide)
        refine lv_if_ne (tgt := 62) hx hb dX11_toldNumber_55 (by decide) (fun c16 => ?_) (fun c16 => ?_)
        · skip
          have zc16 : ¬ ((v6 1).toInt = 0) := by rw [fa_eq, show (0 : Int32).toInt = 0 from by decide] at c16; exact c16
          refine lv_iload_n hx hb dX11_toldNumber_62 rfl (lv_at hl 0 rfl) ?_
          exact ret (v6 7) (v6, f7, w8, g9) _ _ _ _ _ _ rfl ⟨hIv6, hCf7, hRf7, hk0_v6, hk4_v6, hk8_v6, hk9_v6, hk10_v6, hk13_v6, hk14_v6, hk15_v6, hk17_v6, hk18_v6, hk24_v6, hk25_v6, hk35_v6, hk36_v6, hk38_v6, hk39_v6, (by show (v 3).toInt ≤ (v6 3).toInt; omega), (by show (v6 5).toInt = (v 5).toInt ∨ (v 3).toInt < (v6 3).toInt ∨ ¬ (v6 5).toInt = 59; omega), hs2_f7, hs3_f7, hs6_f7⟩ hP hD hS dX11_toldNumber_63 (Nat.le_refl _) (Nat.le_refl _)
        · skip
          have zc16 : (v6 1).toInt = 0 := by rw [fa_eq, show (0 : Int32).toInt = 0 from by decide] at c16; exact c16
          refine lv_aload_n hx hb dX11_toldNumber_58 rfl (lv_at hl 1 rfl) ?_
          refine cbVv (n := 0) (rest := []) hx hb hml hown hts hE hP hD hS hA (sY_X11_token_1 l dC dI cy y0 r  v6 f7 w8 g9 hIv6 hCf7 hRf7 ) k_1579 k_1581 k_42 k_114 k_1582 (by decide +kernel) ⟨Nat.le_of_ble_eq_true rfl, Nat.le_of_ble_eq_true rfl⟩ 0 11 rfl rfl (rfl) hl.1 rfl (Nat.le_of_ble_eq_true rfl) dX11_toldNumber_59 (fun u H locs hw hP hD hS => ?_)
          obtain ⟨v17, f18, w19, g20⟩ := u
          obtain ⟨hIv17, hCf18, hRf18, hk0_v17, hk1_v17, hk4_v17, hk8_v17, hk9_v17, hk10_v17, hk13_v17, hk14_v17, hk15_v17, hk17_v17, hk18_v17, hk24_v17, hk25_v17, hk35_v17, hk36_v17, hk38_v17, hk39_v17, pv21, pv22, kq23, kq24, kq25⟩ := hw
          have hP : va_P (dC, dI) vwCl (YW cy y0 r v17 f18 w19 g20) H := hP
          have hD : va_D A (YW cy y0 r v17 f18 w19 g20) := hD
          have b3_v17 : 0 ≤ (v17 3).toInt ∧ (v17 3).toInt ≤ 1600 := YIb.b hIv17.1 3 (by decide)
          have pv21 : (v6 3).toInt ≤ (v17 3).toInt := pv21
          have pv22 : (v17 5).toInt = (v6 5).toInt ∨ (v6 3).toInt < (v17 3).toInt ∨ ¬ (v17 5).toInt = 59 := pv22
          have hs2_f18 : f18 2 = (f 2) := kq23.trans hs2_f7
          have hs3_f18 : f18 3 = (f 3) := kq24.trans hs3_f7
          have hs6_f18 : f18 6 = (f 6) := kq25.trans hs6_f7
          have hUv17 : (v17 35).toInt + (v17 36).toInt ≤ 40 := hIv17.2
          have hq0_v17 : v17 0 = (v 0) := hk0_v17.trans hq0_v6
          have zq0_v17 := congrArg Int32.toInt hq0_v17
          have hq1_v17 : v17 1 = (v6 1) := hk1_v17
          have zq1_v17 := congrArg Int32.toInt hq1_v17
          have hq4_v17 : v17 4 = (v 4) := hk4_v17.trans hq4_v6
          have zq4_v17 := congrArg Int32.toInt hq4_v17
          have hq8_v17 : v17 8 = (v 8) := hk8_v17.trans hq8_v6
          have zq8_v17 := congrArg Int32.toInt hq8_v17
          have hq9_v17 : v17 9 = (v 9) := hk9_v17.trans hq9_v6
          have zq9_v17 := congrArg Int32.toInt hq9_v17
          have hq10_v17 : v17 10 = (v 10) := hk10_v17.trans hq10_v6
          have zq10_v17 := congrArg Int32.toInt hq10_v17
          have hq13_v17 : v17 13 = (v 13) := hk13_v17.trans hq13_v6
          have zq13_v17 := congrArg Int32.toInt hq13_v17
          have hq14_v17 : v17 14 = (v 14) := hk14_v17.trans hq14_v6
          have zq14_v17 := congrArg Int32.toInt hq14_v17
          have hq15_v17 : v17 15 = (v 15) := hk15_v17.trans hq15_v6
          have zq15_v17 := congrArg Int32.toInt hq15_v17
          have hq17_v17 : v17 17 = (v 17) := hk17_v17.trans hq17_v6
          have zq17_v17 := congrArg Int32.toInt hq17_v17
          have hq18_v17 : v17 18 = (v 18) := hk18_v17.trans hq18_v6
          have zq18_v17 := congrArg Int32.toInt hq18_v17
          have hq24_v17 : v17 24 = (v 24) := hk24_v17.trans hq24_v6
          have hq25_v17 : v17 25 = (v 25) := hk25_v17.trans hq25_v6
          have hq35_v17 : v17 35 = (v 35) := hk35_v17.trans hq35_v6
          have zq35_v17 := congrArg Int32.toInt hq35_v17
          have hq36_v17 : v17 36 = (v 36) := hk36_v17.trans hq36_v6
          have zq36_v17 := congrArg Int32.toInt hq36_v17
          have hq38_v17 : v17 38 = (v 38) := hk38_v17.trans hq38_v6
          have hq39_v17 : v17 39 = (v 39) := hk39_v17.trans hq39_v6
          refine lv_iload_n hx hb dX11_toldNumber_62 rfl (lv_at hl 0 rfl) ?_
          exact ret (v6 7) (v17, f18, w19, g20) _ _ _ _ _ _ rfl ⟨hIv17, hCf18, hRf18, (hk0_v17.trans hk0_v6), (hk4_v17.trans hk4_v6), (hk8_v17.trans hk8_v6), (hk9_v17.trans hk9_v6), (hk10_v17.trans hk10_v6), (hk13_v17.trans hk13_v6), (hk14_v17.trans hk14_v6), (hk15_v17.trans hk15_v6), (hk17_v17.trans hk17_v6), (hk18_v17.trans hk18_v6), (hk24_v17.trans hk24_v6), (hk25_v17.trans hk25_v6), (hk35_v17.trans hk35_v6), (hk36_v17.trans hk36_v6), (hk38_v17.trans hk38_v6), (hk39_v17.trans hk39_v6), (by show (v 3).toInt ≤ (v17 3).toInt; omega), (by show (v17 5).toInt = (v 5).toInt ∨ (v 3).toInt < (v17 3).toInt ∨ ¬ (v17 5).toInt = 59; omega), hs2_f18, hs3_f18, hs6_f18⟩ hP hD hS dX11_toldNumber_63 (Nat.le_refl _) (Nat.le_refl _)
      · skip
        have zc3 : ¬ ((v 7).toInt < p1.toInt) := by rw [fa_lt] at c3; exact c3
        have rg26 := fb_rng (v 7)
        have rg27 := fb_rng p1
        refine lv_aload_n hx hb dX11_toldNumber_33 rfl (lv_at hl 0 rfl) ?_
        refine va_get (D := (dC, dI)) (ci := 11) (v := .int (v 7)) (C := RX11) (T := TX11) (N := 79) hx hb hts inB_11 hown hE.1 hP 0 rfl rfl 8 (by decide) (hts _ k_1328) (fun _ h9 => h9) rfl dX11_toldNumber_34 ?_
        refine lv_iload_n hx hb dX11_toldNumber_37 rfl (lv_at hl 2 rfl) ?_
        refine lv_icmp_le (tgt := 46) hx hb dX11_toldNumber_38 (by decide) (fun c28 => ?_) (fun c28 => ?_)
        · skip
          have zc28 : (v 7).toInt ≤ p2.toInt := by rw [fa_le] at c28; exact c28
          have rg29 := fb_rng p2
          refine lv_aload_n hx hb dX11_toldNumber_46 rfl (lv_at hl 0 rfl) ?_
          refine va_get (D := (dC, dI)) (ci := 11) (v := .int (v 7)) (C := RX11) (T := TX11) (N := 79) hx hb hts inB_11 hown hE.1 hP 0 rfl rfl 8 (by decide) (hts _ k_1328) (fun _ h9 => h9) rfl dX11_toldNumber_47 ?_
          refine lv_istore_n (lv' := [(3, .int (v 7)), (0, .ref y0), (1, .int p1), (2, .int p2)]) hx hb dX11_toldNumber_50 rfl hl (by decide) rfl (fun ls hl => ?_)
          refine lv_aload_n hx hb dX11_toldNumber_51 rfl (lv_at hl 1 rfl) ?_
          refine va_get (D := (dC, dI)) (ci := 11) (v := .int (v 1)) (C := RX11) (T := TX11) (N := 79) hx hb hts inB_11 hown hE.1 hP 0 rfl rfl 2 (by decide) (hts _ k_1322) (fun _ h9 => h9) rfl dX11_toldNumber_52 ?_
          refine lv_if_ne (tgt := 62) hx hb dX11_toldNumber_55 (by decide) (fun c30 => ?_) (fun c30 => ?_)
          · skip
            have zc30 : ¬ ((v 1).toInt = 0) := by rw [fa_eq, show (0 : Int32).toInt = 0 from by decide] at c30; exact c30
            refine lv_iload_n hx hb dX11_toldNumber_62 rfl (lv_at hl 0 rfl) ?_
            exact ret (v 7) (v, f, w, g) _ _ _ _ _ _ rfl ⟨hIv, hCf, hRf, rfl, rfl, rfl, rfl, rfl, rfl, rfl, rfl, rfl, rfl, rfl, rfl, rfl, rfl, rfl, rfl, (by show (v 3).toInt ≤ (v 3).toInt; omega), (by show (v 5).toInt = (v 5).toInt ∨ (v 3).toInt < (v 3).toInt ∨ ¬ (v 5).toInt = 59; omega), rfl, rfl, rfl⟩ hP hD hS dX11_toldNumber_63 (Nat.le_refl _) (Nat.le_refl _)
          · skip
            have zc30 : (v 1).toInt = 0 := by rw [fa_eq, show (0 : Int32).toInt = 0 from by decide] at c30; exact c30
            refine lv_aload_n hx hb dX11_toldNumber_58 rfl (lv_at hl 1 rfl) ?_
            refine cbVv (n := 0) (rest := []) hx hb hml hown hts hE hP hD hS hA (sY_X11_token_1 l dC dI cy y0 r  v f w g hIv hCf hRf ) k_1579 k_1581 k_42 k_114 k_1582 (by decide +kernel) ⟨Nat.le_of_ble_eq_true rfl, Nat.le_of_ble_eq_true rfl⟩ 0 11 rfl rfl (rfl) hl.1 rfl (Nat.le_of_ble_eq_true rfl) dX11_toldNumber_59 (fun u H locs hw hP hD hS => ?_)
            obtain ⟨v31, f32, w33, g34⟩ := u
            obtain ⟨hIv31, hCf32, hRf32, hk0_v31, hk1_v31, hk4_v31, hk8_v31, hk9_v31, hk10_v31, hk13_v31, hk14_v31, hk15_v31, hk17_v31, hk18_v31, hk24_v31, hk25_v31, hk35_v31, hk36_v31, hk38_v31, hk39_v31, pv35, pv36, kq37, kq38, kq39⟩ := hw
            have hP : va_P (dC, dI) vwCl (YW cy y0 r v31 f32 w33 g34) H := hP
            have hD : va_D A (YW cy y0 r v31 f32 w33 g34) := hD
            have b3_v31 : 0 ≤ (v31 3).toInt ∧ (v31 3).toInt ≤ 1600 := YIb.b hIv31.1 3 (by decide)
            have pv35 : (v 3).toInt ≤ (v31 3).toInt := pv35
            have pv36 : (v31 5).toInt = (v 5).toInt ∨ (v 3).toInt < (v31 3).toInt ∨ ¬ (v31 5).toInt = 59 := pv36
            have hs2_f32 : f32 2 = (f 2) := kq37
            have hs3_f32 : f32 3 = (f 3) := kq38
            have hs6_f32 : f32 6 = (f 6) := kq39
            have hUv31 : (v31 35).toInt + (v31 36).toInt ≤ 40 := hIv31.2
            have hq0_v31 : v31 0 = (v 0) := hk0_v31
            have zq0_v31 := congrArg Int32.toInt hq0_v31
            have hq1_v31 : v31 1 = (v 1) := hk1_v31
            have zq1_v31 := congrArg Int32.toInt hq1_v31
            have hq4_v31 : v31 4 = (v 4) := hk4_v31
            have zq4_v31 := congrArg Int32.toInt hq4_v31
            have hq8_v31 : v31 8 = (v 8) := hk8_v31
            have zq8_v31 := congrArg Int32.toInt hq8_v31
            have hq9_v31 : v31 9 = (v 9) := hk9_v31
            have zq9_v31 := congrArg Int32.toInt hq9_v31
            have hq10_v31 : v31 10 = (v 10) := hk10_v31
            have zq10_v31 := congrArg Int32.toInt hq10_v31
            have hq13_v31 : v31 13 = (v 13) := hk13_v31
            have zq13_v31 := congrArg Int32.toInt hq13_v31
            have hq14_v31 : v31 14 = (v 14) := hk14_v31
            have zq14_v31 := congrArg Int32.toInt hq14_v31
            have hq15_v31 : v31 15 = (v 15) := hk15_v31
            have zq15_v31 := congrArg Int32.toInt hq15_v31
            have hq17_v31 : v31 17 = (v 17) := hk17_v31
            have zq17_v31 := congrArg Int32.toInt hq17_v31
            have hq18_v31 : v31 18 = (v 18) := hk18_v31
            have zq18_v31 := congrArg Int32.toInt hq18_v31
            have hq24_v31 : v31 24 = (v 24) := hk24_v31
            have hq25_v31 : v31 25 = (v 25) := hk25_v31
            have hq35_v31 : v31 35 = (v 35) := hk35_v31
            have zq35_v31 := congrArg Int32.toInt hq35_v31
            have hq36_v31 : v31 36 = (v 36) := hk36_v31
            have zq36_v31 := congrArg Int32.toInt hq36_v31
            have hq38_v31 : v31 38 = (v 38) := hk38_v31
            have hq39_v31 : v31 39 = (v 39) := hk39_v31
            refine lv_iload_n hx hb dX11_toldNumber_62 rfl (lv_at hl 0 rfl) ?_
            exact ret (v 7) (v31, f32, w33, g34) _ _ _ _ _ _ rfl ⟨hIv31, hCf32, hRf32, hk0_v31, hk4_v31, hk8_v31, hk9_v31, hk10_v31, hk13_v31, hk14_v31, hk15_v31, hk17_v31, hk18_v31, hk24_v31, hk25_v31, hk35_v31, hk36_v31, hk38_v31, hk39_v31, (by show (v 3).toInt ≤ (v31 3).toInt; omega), (by show (v31 5).toInt = (v 5).toInt ∨ (v 3).toInt < (v31 3).toInt ∨ ¬ (v31 5).toInt = 59; omega), hs2_f32, hs3_f32, hs6_f32⟩ hP hD hS dX11_toldNumber_63 (Nat.le_refl _) (Nat.le_refl _)
        · skip
          have zc28 : ¬ ((v 7).toInt ≤ p2.toInt) := by rw [fa_le] at c28; exact c28
          have rg40 := fb_rng p2
          refine lv_aload_n hx hb dX11_toldNumber_41 rfl (lv_at hl 0 rfl) ?_
          refine lv_iconst (v := 4) hx hb dX11_toldNumber_42 (by decide) ?_
          refine cbVv (n := 1) (rest := []) hx hb hml hown hts hE hP hD hS hA (sY_X11_wrong_1 l dC dI cy y0 r 4 v f w g hIv hCf hRf ⟨by decide, by decide⟩) k_1641 k_1643 k_50 k_114 k_1644 (by decide +kernel) ⟨Nat.le_of_ble_eq_true rfl, Nat.le_of_ble_eq_true rfl⟩ 0 11 rfl rfl (rfl) hl.1 rfl (Nat.le_of_ble_eq_true rfl) dX11_toldNumber_43 (fun u H locs hw hP hD hS => ?_)
          obtain ⟨v41, f42, w43, g44⟩ := u
          obtain ⟨hIv41, hCf42, hRf42, hk0_v41, hk3_v41, hk4_v41, hk5_v41, hk8_v41, hk9_v41, hk10_v41, hk13_v41, hk14_v41, hk15_v41, hk17_v41, hk18_v41, hk24_v41, hk25_v41, hk35_v41, hk36_v41, hk38_v41, hk39_v41, pv45, pv46, pv47, kq48, kq49, kq50⟩ := hw
          have hP : va_P (dC, dI) vwCl (YW cy y0 r v41 f42 w43 g44) H := hP
          have hD : va_D A (YW cy y0 r v41 f42 w43 g44) := hD
          have b3_v41 : 0 ≤ (v41 3).toInt ∧ (v41 3).toInt ≤ 1600 := YIb.b hIv41.1 3 (by decide)
          have b1_v41 : 0 ≤ (v41 1).toInt ∧ (v41 1).toInt ≤ 4 := YIb.b hIv41.1 1 (by decide)
          have pv45 : (v 3).toInt ≤ (v41 3).toInt := pv45
          have pv46 : (v41 5).toInt = (v 5).toInt ∨ (v 3).toInt < (v41 3).toInt ∨ ¬ (v41 5).toInt = 59 := pv46
          have pv47 : 0 < (v41 1).toInt := pv47
          have hs2_f42 : f42 2 = (f 2) := kq48
          have hs3_f42 : f42 3 = (f 3) := kq49
          have hs6_f42 : f42 6 = (f 6) := kq50
          have hUv41 : (v41 35).toInt + (v41 36).toInt ≤ 40 := hIv41.2
          have hq0_v41 : v41 0 = (v 0) := hk0_v41
          have zq0_v41 := congrArg Int32.toInt hq0_v41
          have hq3_v41 : v41 3 = (v 3) := hk3_v41
          have zq3_v41 := congrArg Int32.toInt hq3_v41
          have hq4_v41 : v41 4 = (v 4) := hk4_v41
          have zq4_v41 := congrArg Int32.toInt hq4_v41
          have hq5_v41 : v41 5 = (v 5) := hk5_v41
          have zq5_v41 := congrArg Int32.toInt hq5_v41
          have hq8_v41 : v41 8 = (v 8) := hk8_v41
          have zq8_v41 := congrArg Int32.toInt hq8_v41
          have hq9_v41 : v41 9 = (v 9) := hk9_v41
          have zq9_v41 := congrArg Int32.toInt hq9_v41
          have hq10_v41 : v41 10 = (v 10) := hk10_v41
          have zq10_v41 := congrArg Int32.toInt hq10_v41
          have hq13_v41 : v41 13 = (v 13) := hk13_v41
          have zq13_v41 := congrArg Int32.toInt hq13_v41
          have hq14_v41 : v41 14 = (v 14) := hk14_v41
          have zq14_v41 := congrArg Int32.toInt hq14_v41
          have hq15_v41 : v41 15 = (v 15) := hk15_v41
          have zq15_v41 := congrArg Int32.toInt hq15_v41
          have hq17_v41 : v41 17 = (v 17) := hk17_v41
          have zq17_v41 := congrArg Int32.toInt hq17_v41
          have hq18_v41 : v41 18 = (v 18) := hk18_v41
          have zq18_v41 := congrArg Int32.toInt hq18_v41
          have hq24_v41 : v41 24 = (v 24) := hk24_v41
          have hq25_v41 : v41 25 = (v 25) := hk25_v41
          have hq35_v41 : v41 35 = (v 35) := hk35_v41
          have zq35_v41 := congrArg Int32.toInt hq35_v41
          have hq36_v41 : v41 36 = (v 36) := hk36_v41
          have zq36_v41 := congrArg Int32.toInt hq36_v41
          have hq38_v41 : v41 38 = (v 38) := hk38_v41
          have hq39_v41 : v41 39 = (v 39) := hk39_v41
          refine lv_aload_n hx hb dX11_toldNumber_46 rfl (lv_at hl 0 rfl) ?_
          refine va_get (D := (dC, dI)) (ci := 11) (v := .int (v41 7)) (C := RX11) (T := TX11) (N := 79) hx hb hts inB_11 hown hE.1 hP 0 rfl rfl 8 (by decide) (hts _ k_1328) (fun _ h9 => h9) rfl dX11_toldNumber_47 ?_
          refine lv_istore_n (lv' := [(3, .int (v41 7)), (0, .ref y0), (1, .int p1), (2, .int p2)]) hx hb dX11_toldNumber_50 rfl hl (by decide) rfl (fun ls hl => ?_)
          refine lv_aload_n hx hb dX11_toldNumber_51 rfl (lv_at hl 1 rfl) ?_
          refine va_get (D := (dC, dI)) (ci := 11) (v := .int (v41 1)) (C := RX11) (T := TX11) (N := 79) hx hb hts inB_11 hown hE.1 hP 0 rfl rfl 2 (by decide) (hts _ k_1322) (fun _ h9 => h9) rfl dX11_toldNumber_52 ?_
          have b1_v41 : 0 ≤ (v41 1).toInt ∧ (v41 1).toInt ≤ 4 := YIb.b hIv41.1 1 (by decide)
          refine lv_if_ne (tgt := 62) hx hb dX11_toldNumber_55 (by decide) (fun c51 => ?_) (fun c51 => ?_)
          · skip
            have zc51 : ¬ ((v41 1).toInt = 0) := by rw [fa_eq, show (0 : Int32).toInt = 0 from by decide] at c51; exact c51
            refine lv_iload_n hx hb dX11_toldNumber_62 rfl (lv_at hl 0 rfl) ?_
            exact ret (v41 7) (v41, f42, w43, g44) _ _ _ _ _ _ rfl ⟨hIv41, hCf42, hRf42, hk0_v41, hk4_v41, hk8_v41, hk9_v41, hk10_v41, hk13_v41, hk14_v41, hk15_v41, hk17_v41, hk18_v41, hk24_v41, hk25_v41, hk35_v41, hk36_v41, hk38_v41, hk39_v41, (by show (v 3).toInt ≤ (v41 3).toInt; omega), (by show (v41 5).toInt = (v 5).toInt ∨ (v 3).toInt < (v41 3).toInt ∨ ¬ (v41 5).toInt = 59; omega), hs2_f42, hs3_f42, hs6_f42⟩ hP hD hS dX11_toldNumber_63 (Nat.le_refl _) (Nat.le_refl _)
          · skip
            have zc51 : (v41 1).toInt = 0 := by rw [fa_eq, show (0 : Int32).toInt = 0 from by decide] at c51; exact c51
            refine lv_aload_n hx hb dX11_toldNumber_58 rfl (lv_at hl 1 rfl) ?_
            refine cbVv (n := 0) (rest := []) hx hb hml hown hts hE hP hD hS hA (sY_X11_token_1 l dC dI cy y0 r  v41 f42 w43 g44 hIv41 hCf42 hRf42 ) k_1579 k_1581 k_42 k_114 k_1582 (by decide +kernel) ⟨Nat.le_of_ble_eq_true rfl, Nat.le_of_ble_eq_true rfl⟩ 0 11 rfl rfl (rfl) hl.1 rfl (Nat.le_of_ble_eq_true rfl) dX11_toldNumber_59 (fun u H locs hw hP hD hS => ?_)
            obtain ⟨v52, f53, w54, g55⟩ := u
            obtain ⟨hIv52, hCf53, hRf53, hk0_v52, hk1_v52, hk4_v52, hk8_v52, hk9_v52, hk10_v52, hk13_v52, hk14_v52, hk15_v52, hk17_v52, hk18_v52, hk24_v52, hk25_v52, hk35_v52, hk36_v52, hk38_v52, hk39_v52, pv56, pv57, kq58, kq59, kq60⟩ := hw
            have hP : va_P (dC, dI) vwCl (YW cy y0 r v52 f53 w54 g55) H := hP
            have hD : va_D A (YW cy y0 r v52 f53 w54 g55) := hD
            have b3_v52 : 0 ≤ (v52 3).toInt ∧ (v52 3).toInt ≤ 1600 := YIb.b hIv52.1 3 (by decide)
            have pv56 : (v41 3).toInt ≤ (v52 3).toInt := pv56
            have pv57 : (v52 5).toInt = (v41 5).toInt ∨ (v41 3).toInt < (v52 3).toInt ∨ ¬ (v52 5).toInt = 59 := pv57
            have hs2_f53 : f53 2 = (f 2) := kq58.trans hs2_f42
            have hs3_f53 : f53 3 = (f 3) := kq59.trans hs3_f42
            have hs6_f53 : f53 6 = (f 6) := kq60.trans hs6_f42
            have hUv52 : (v52 35).toInt + (v52 36).toInt ≤ 40 := hIv52.2
            have hq0_v52 : v52 0 = (v 0) := hk0_v52.trans hq0_v41
            have zq0_v52 := congrArg Int32.toInt hq0_v52
            have hq1_v52 : v52 1 = (v41 1) := hk1_v52
            have zq1_v52 := congrArg Int32.toInt hq1_v52
            have hq4_v52 : v52 4 = (v 4) := hk4_v52.trans hq4_v41
            have zq4_v52 := congrArg Int32.toInt hq4_v52
            have hq8_v52 : v52 8 = (v 8) := hk8_v52.trans hq8_v41
            have zq8_v52 := congrArg Int32.toInt hq8_v52
            have hq9_v52 : v52 9 = (v 9) := hk9_v52.trans hq9_v41
            have zq9_v52 := congrArg Int32.toInt hq9_v52
            have hq10_v52 : v52 10 = (v 10) := hk10_v52.trans hq10_v41
            have zq10_v52 := congrArg Int32.toInt hq10_v52
            have hq13_v52 : v52 13 = (v 13) := hk13_v52.trans hq13_v41
            have zq13_v52 := congrArg Int32.toInt hq13_v52
            have hq14_v52 : v52 14 = (v 14) := hk14_v52.trans hq14_v41
            have zq14_v52 := congrArg Int32.toInt hq14_v52
            have hq15_v52 : v52 15 = (v 15) := hk15_v52.trans hq15_v41
            have zq15_v52 := congrArg Int32.toInt hq15_v52
            have hq17_v52 : v52 17 = (v 17) := hk17_v52.trans hq17_v41
            have zq17_v52 := congrArg Int32.toInt hq17_v52
            have hq18_v52 : v52 18 = (v 18) := hk18_v52.trans hq18_v41
            have zq18_v52 := congrArg Int32.toInt hq18_v52
            have hq24_v52 : v52 24 = (v 24) := hk24_v52.trans hq24_v41
            have hq25_v52 : v52 25 = (v 25) := hk25_v52.trans hq25_v41
            have hq35_v52 : v52 35 = (v 35) := hk35_v52.trans hq35_v41
            have zq35_v52 := congrArg Int32.toInt hq35_v52
            have hq36_v52 : v52 36 = (v 36) := hk36_v52.trans hq36_v41
            have zq36_v52 := congrArg Int32.toInt hq36_v52
            have hq38_v52 : v52 38 = (v 38) := hk38_v52.trans hq38_v41
            have hq39_v52 : v52 39 = (v 39) := hk39_v52.trans hq39_v41
            refine lv_iload_n hx hb dX11_toldNumber_62 rfl (lv_at hl 0 rfl) ?_
            exact ret (v41 7) (v52, f53, w54, g55) _ _ _ _ _ _ rfl ⟨hIv52, hCf53, hRf53, (hk0_v52.trans hk0_v41), (hk4_v52.trans hk4_v41), (hk8_v52.trans hk8_v41), (hk9_v52.trans hk9_v41), (hk10_v52.trans hk10_v41), (hk13_v52.trans hk13_v41), (hk14_v52.trans hk14_v41), (hk15_v52.trans hk15_v41), (hk17_v52.trans hk17_v41), (hk18_v52.trans hk18_v41), (hk24_v52.trans hk24_v41), (hk25_v52.trans hk25_v41), (hk35_v52.trans hk35_v41), (hk36_v52.trans hk36_v41), (hk38_v52.trans hk38_v41), (hk39_v52.trans hk39_v41), (by show (v 3).toInt ≤ (v52 3).toInt; omega), (by show (v52 5).toInt = (v 5).toInt ∨ (v 3).toInt < (v52 3).toInt ∨ ¬ (v52 5).toInt = 59; omega), hs2_f53, hs3_f53, hs6_f53⟩ hP hD hS dX11_toldNumber_63 (Nat.le_refl _) (Nat.le_refl _)
    · skip
      have zc2 : ¬ ((v 5).toInt = 2) := by rw [fa_eq, show (2 : Int32).toInt = 2 from by decide] at c2; exact c2
      refine lv_aload_n hx hb dX11_toldNumber_17 rfl (lv_at hl 0 rfl) ?_
      refine lv_iconst (v := 2) hx hb dX11_toldNumber_18 (by decide) ?_
      refine cbVv (n := 1) (rest := []) hx hb hml hown hts hE hP hD hS hA (sY_X11_wrong_1 l dC dI cy y0 r 2 v f w g hIv hCf hRf ⟨by decide, by decide⟩) k_1641 k_1643 k_50 k_114 k_1644 (by decide +kernel) ⟨Nat.le_of_ble_eq_true rfl, Nat.le_of_ble_eq_true rfl⟩ 0 11 rfl rfl (rfl) hl.1 rfl (Nat.le_of_ble_eq_true rfl) dX11_toldNumber_19 (fun u H locs hw hP hD hS => ?_)
      obtain ⟨v61, f62, w63, g64⟩ := u
      obtain ⟨hIv61, hCf62, hRf62, hk0_v61, hk3_v61, hk4_v61, hk5_v61, hk8_v61, hk9_v61, hk10_v61, hk13_v61, hk14_v61, hk15_v61, hk17_v61, hk18_v61, hk24_v61, hk25_v61, hk35_v61, hk36_v61, hk38_v61, hk39_v61, pv65, pv66, pv67, kq68, kq69, kq70⟩ := hw
      have hP : va_P (dC, dI) vwCl (YW cy y0 r v61 f62 w63 g64) H := hP
      have hD : va_D A (YW cy y0 r v61 f62 w63 g64) := hD
      have b3_v61 : 0 ≤ (v61 3).toInt ∧ (v61 3).toInt ≤ 1600 := YIb.b hIv61.1 3 (by decide)
      have b1_v61 : 0 ≤ (v61 1).toInt ∧ (v61 1).toInt ≤ 4 := YIb.b hIv61.1 1 (by decide)
      have pv65 : (v 3).toInt ≤ (v61 3).toInt := pv65
      have pv66 : (v61 5).toInt = (v 5).toInt ∨ (v 3).toInt < (v61 3).toInt ∨ ¬ (v61 5).toInt = 59 := pv66
      have pv67 : 0 < (v61 1).toInt := pv67
      have hs2_f62 : f62 2 = (f 2) := kq68
      have hs3_f62 : f62 3 = (f 3) := kq69
      have hs6_f62 : f62 6 = (f 6) := kq70
      have hUv61 : (v61 35).toInt + (v61 36).toInt ≤ 40 := hIv61.2
      have hq0_v61 : v61 0 = (v 0) := hk0_v61
      have zq0_v61 := congrArg Int32.toInt hq0_v61
      have hq3_v61 : v61 3 = (v 3) := hk3_v61
      have zq3_v61 := congrArg Int32.toInt hq3_v61
      have hq4_v61 : v61 4 = (v 4) := hk4_v61
      have zq4_v61 := congrArg Int32.toInt hq4_v61
      have hq5_v61 : v61 5 = (v 5) := hk5_v61
      have zq5_v61 := congrArg Int32.toInt hq5_v61
      have hq8_v61 : v61 8 = (v 8) := hk8_v61
      have zq8_v61 := congrArg Int32.toInt hq8_v61
      have hq9_v61 : v61 9 = (v 9) := hk9_v61
      have zq9_v61 := congrArg Int32.toInt hq9_v61
      have hq10_v61 : v61 10 = (v 10) := hk10_v61
      have zq10_v61 := congrArg Int32.toInt hq10_v61
      have hq13_v61 : v61 13 = (v 13) := hk13_v61
      have zq13_v61 := congrArg Int32.toInt hq13_v61
      have hq14_v61 : v61 14 = (v 14) := hk14_v61
      have zq14_v61 := congrArg Int32.toInt hq14_v61
      have hq15_v61 : v61 15 = (v 15) := hk15_v61
      have zq15_v61 := congrArg Int32.toInt hq15_v61
      have hq17_v61 : v61 17 = (v 17) := hk17_v61
      have zq17_v61 := congrArg Int32.toInt hq17_v61
      have hq18_v61 : v61 18 = (v 18) := hk18_v61
      have zq18_v61 := congrArg Int32.toInt hq18_v61
      have hq24_v61 : v61 24 = (v 24) := hk24_v61
      have hq25_v61 : v61 25 = (v 25) := hk25_v61
      have hq35_v61 : v61 35 = (v 35) := hk35_v61
      have zq35_v61 := congrArg Int32.toInt hq35_v61
      have hq36_v61 : v61 36 = (v 36) := hk36_v61
      have zq36_v61 := congrArg Int32.toInt hq36_v61
      have hq38_v61 : v61 38 = (v 38) := hk38_v61
      have hq39_v61 : v61 39 = (v 39) := hk39_v61
      refine lv_goto (tgt := 46) hx hb dX11_toldNumber_22 (by decide) ?_
      refine lv_aload_n hx hb dX11_toldNumber_46 rfl (lv_at hl 0 rfl) ?_
      refine va_get (D := (dC, dI)) (ci := 11) (v := .int (v61 7)) (C := RX11) (T := TX11) (N := 79) hx hb hts inB_11 hown hE.1 hP 0 rfl rfl 8 (by decide) (hts _ k_1328) (fun _ h9 => h9) rfl dX11_toldNumber_47 ?_
      refine lv_istore_n (lv' := [(3, .int (v61 7)), (0, .ref y0), (1, .int p1), (2, .int p2)]) hx hb dX11_toldNumber_50 rfl hl (by decide) rfl (fun ls hl => ?_)
      refine lv_aload_n hx hb dX11_toldNumber_51 rfl (lv_at hl 1 rfl) ?_
      refine va_get (D := (dC, dI)) (ci := 11) (v := .int (v61 1)) (C := RX11) (T := TX11) (N := 79) hx hb hts inB_11 hown hE.1 hP 0 rfl rfl 2 (by decide) (hts _ k_1322) (fun _ h9 => h9) rfl dX11_toldNumber_52 ?_
      have b1_v61 : 0 ≤ (v61 1).toInt ∧ (v61 1).toInt ≤ 4 := YIb.b hIv61.1 1 (by decide)
      refine lv_if_ne (tgt := 62) hx hb dX11_toldNumber_55 (by decide) (fun c71 => ?_) (fun c71 => ?_)
      · skip
        have zc71 : ¬ ((v61 1).toInt = 0) := by rw [fa_eq, show (0 : Int32).toInt = 0 from by decide] at c71; exact c71
        refine lv_iload_n hx hb dX11_toldNumber_62 rfl (lv_at hl 0 rfl) ?_
        exact ret (v61 7) (v61, f62, w63, g64) _ _ _ _ _ _ rfl ⟨hIv61, hCf62, hRf62, hk0_v61, hk4_v61, hk8_v61, hk9_v61, hk10_v61, hk13_v61, hk14_v61, hk15_v61, hk17_v61, hk18_v61, hk24_v61, hk25_v61, hk35_v61, hk36_v61, hk38_v61, hk39_v61, (by show (v 3).toInt ≤ (v61 3).toInt; omega), (by show (v61 5).toInt = (v 5).toInt ∨ (v 3).toInt < (v61 3).toInt ∨ ¬ (v61 5).toInt = 59; omega), hs2_f62, hs3_f62, hs6_f62⟩ hP hD hS dX11_toldNumber_63 (Nat.le_refl _) (Nat.le_refl _)
      · skip
        have zc71 : (v61 1).toInt = 0 := by rw [fa_eq, show (0 : Int32).toInt = 0 from by decide] at c71; exact c71
        refine lv_aload_n hx hb dX11_toldNumber_58 rfl (lv_at hl 1 rfl) ?_
        refine cbVv (n := 0) (rest := []) hx hb hml hown hts hE hP hD hS hA (sY_X11_token_1 l dC dI cy y0 r  v61 f62 w63 g64 hIv61 hCf62 hRf62 ) k_1579 k_1581 k_42 k_114 k_1582 (by decide +kernel) ⟨Nat.le_of_ble_eq_true rfl, Nat.le_of_ble_eq_true rfl⟩ 0 11 rfl rfl (rfl) hl.1 rfl (Nat.le_of_ble_eq_true rfl) dX11_toldNumber_59 (fun u H locs hw hP hD hS => ?_)
        obtain ⟨v72, f73, w74, g75⟩ := u
        obtain ⟨hIv72, hCf73, hRf73, hk0_v72, hk1_v72, hk4_v72, hk8_v72, hk9_v72, hk10_v72, hk13_v72, hk14_v72, hk15_v72, hk17_v72, hk18_v72, hk24_v72, hk25_v72, hk35_v72, hk36_v72, hk38_v72, hk39_v72, pv76, pv77, kq78, kq79, kq80⟩ := hw
        have hP : va_P (dC, dI) vwCl (YW cy y0 r v72 f73 w74 g75) H := hP
        have hD : va_D A (YW cy y0 r v72 f73 w74 g75) := hD
        have b3_v72 : 0 ≤ (v72 3).toInt ∧ (v72 3).toInt ≤ 1600 := YIb.b hIv72.1 3 (by decide)
        have pv76 : (v61 3).toInt ≤ (v72 3).toInt := pv76
        have pv77 : (v72 5).toInt = (v61 5).toInt ∨ (v61 3).toInt < (v72 3).toInt ∨ ¬ (v72 5).toInt = 59 := pv77
        have hs2_f73 : f73 2 = (f 2) := kq78.trans hs2_f62
        have hs3_f73 : f73 3 = (f 3) := kq79.trans hs3_f62
        have hs6_f73 : f73 6 = (f 6) := kq80.trans hs6_f62
        have hUv72 : (v72 35).toInt + (v72 36).toInt ≤ 40 := hIv72.2
        have hq0_v72 : v72 0 = (v 0) := hk0_v72.trans hq0_v61
        have zq0_v72 := congrArg Int32.toInt hq0_v72
        have hq1_v72 : v72 1 = (v61 1) := hk1_v72
        have zq1_v72 := congrArg Int32.toInt hq1_v72
        have hq4_v72 : v72 4 = (v 4) := hk4_v72.trans hq4_v61
        have zq4_v72 := congrArg Int32.toInt hq4_v72
        have hq8_v72 : v72 8 = (v 8) := hk8_v72.trans hq8_v61
        have zq8_v72 := congrArg Int32.toInt hq8_v72
        have hq9_v72 : v72 9 = (v 9) := hk9_v72.trans hq9_v61
        have zq9_v72 := congrArg Int32.toInt hq9_v72
        have hq10_v72 : v72 10 = (v 10) := hk10_v72.trans hq10_v61
        have zq10_v72 := congrArg Int32.toInt hq10_v72
        have hq13_v72 : v72 13 = (v 13) := hk13_v72.trans hq13_v61
        have zq13_v72 := congrArg Int32.toInt hq13_v72
        have hq14_v72 : v72 14 = (v 14) := hk14_v72.trans hq14_v61
        have zq14_v72 := congrArg Int32.toInt hq14_v72
        have hq15_v72 : v72 15 = (v 15) := hk15_v72.trans hq15_v61
        have zq15_v72 := congrArg Int32.toInt hq15_v72
        have hq17_v72 : v72 17 = (v 17) := hk17_v72.trans hq17_v61
        have zq17_v72 := congrArg Int32.toInt hq17_v72
        have hq18_v72 : v72 18 = (v 18) := hk18_v72.trans hq18_v61
        have zq18_v72 := congrArg Int32.toInt hq18_v72
        have hq24_v72 : v72 24 = (v 24) := hk24_v72.trans hq24_v61
        have hq25_v72 : v72 25 = (v 25) := hk25_v72.trans hq25_v61
        have hq35_v72 : v72 35 = (v 35) := hk35_v72.trans hq35_v61
        have zq35_v72 := congrArg Int32.toInt hq35_v72
        have hq36_v72 : v72 36 = (v 36) := hk36_v72.trans hq36_v61
        have zq36_v72 := congrArg Int32.toInt hq36_v72
        have hq38_v72 : v72 38 = (v 38) := hk38_v72.trans hq38_v61
        have hq39_v72 : v72 39 = (v 39) := hk39_v72.trans hq39_v61
        refine lv_iload_n hx hb dX11_toldNumber_62 rfl (lv_at hl 0 rfl) ?_
        exact ret (v61 7) (v72, f73, w74, g75) _ _ _ _ _ _ rfl ⟨hIv72, hCf73, hRf73, (hk0_v72.trans hk0_v61), (hk4_v72.trans hk4_v61), (hk8_v72.trans hk8_v61), (hk9_v72.trans hk9_v61), (hk10_v72.trans hk10_v61), (hk13_v72.trans hk13_v61), (hk14_v72.trans hk14_v61), (hk15_v72.trans hk15_v61), (hk17_v72.trans hk17_v61), (hk18_v72.trans hk18_v61), (hk24_v72.trans hk24_v61), (hk25_v72.trans hk25_v61), (hk35_v72.trans hk35_v61), (hk36_v72.trans hk36_v61), (hk38_v72.trans hk38_v61), (hk39_v72.trans hk39_v61), (by show (v 3).toInt ≤ (v72 3).toInt; omega), (by show (v72 5).toInt = (v 5).toInt ∨ (v 3).toInt < (v72 3).toInt ∨ ¬ (v72 5).toInt = 59; omega), hs2_f73, hs3_f73, hs6_f73⟩ hP hD hS dX11_toldNumber_63 (Nat.le_refl _) (Nat.le_refl _)
  · skip
    have zc1 : ¬ ((v 1).toInt ≤ 0) := by rw [fa_le, show (0 : Int32).toInt = 0 from by decide] at c1; exact c1
    refine lv_iconst (v := 0) hx hb dX11_toldNumber_7 (by decide) ?_
    exact ret 0 (v, f, w, g) _ _ _ _ _ _ rfl ⟨hIv, hCf, hRf, rfl, rfl, rfl, rfl, rfl, rfl, rfl, rfl, rfl, rfl, rfl, rfl, rfl, rfl, rfl, rfl, (by show (v 3).toInt ≤ (v 3).toInt; omega), (by show (v 5).toInt = (v 5).toInt ∨ (v 3).toInt < (v 3).toInt ∨ ¬ (v 5).toInt = 59; omega), rfl, rfl, rfl⟩ hP hD hS dX11_toldNumber_8 (Nat.le_refl _) (Nat.le_refl _)
