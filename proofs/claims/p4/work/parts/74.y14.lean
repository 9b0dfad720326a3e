set_option maxHeartbeats 4000000 in
set_option maxRecDepth 100000 in
theorem sY_X11_exchange_1 (l : Launch) (dC : Nat → ClassId) (dI : Nat → Nat → Nat) (cy : Nat → ClassId) (y0 : Nat) (r : Nat → Nat) (p1 : Int32) (v : Nat → Int32) (f : Nat → Nat → Int32) (w : Int64) (g : Nat → Int64) (hIv : YI v) (hCf : YC f) (hRf : progOK (f 4) (f 5) (v 9).toInt.toNat) (hp1 : (0 : Int) ≤ p1.toInt ∧ p1.toInt ≤ 1521) (hf0 : p1.toInt % 39 = 0) : ctV l (dC, dI) cy yX11_exchange cX11_exchange 4 1 60 0 0 ((Nat → Int32) × (Nat → Nat → Int32) × (Int64) × (Nat → Int64)) [.ref y0, .int p1] (YW cy y0 r v f w g) (fun u => u.2.1 0 = f 0 ∧ YI u.1 ∧ YC u.2.1 ∧ progOK (u.2.1 4) (u.2.1 5) (u.1 9).toInt.toNat ∧ u.1 0 = v 0 ∧ u.1 1 = v 1 ∧ u.1 2 = v 2 ∧ u.1 3 = v 3 ∧ u.1 4 = v 4 ∧ u.1 5 = v 5 ∧ u.1 8 = v 8 ∧ u.1 9 = v 9 ∧ u.1 10 = v 10 ∧ u.1 13 = v 13 ∧ u.1 14 = v 14 ∧ u.1 15 = v 15 ∧ u.1 17 = v 17 ∧ u.1 18 = v 18 ∧ u.1 24 = v 24 ∧ u.1 25 = v 25 ∧ u.1 35 = v 35 ∧ u.1 36 = v 36 ∧ u.1 38 = v 38 ∧ u.1 39 = v 39) (fun u => YW cy y0 r u.1 u.2.1 u.2.2.1 u.2.2.2) := by
  refine ctV_of (by decide) (Nat.le_of_ble_eq_true rfl) (fun p e s m below meth c A ls Q hx hb hml hts hown hnm hE hP hD hA hl ret => ?_)
  have hUv : (v 35).toInt + (v 36).toInt ≤ 40 := hIv.2
  have ha0_f : f 0 = f 0 := rfl
  have hown : s.vm.findClass RX11 = some m.cls := hown
  have hS : va_S A s.heap s.heap [] := va_S.rf
  have hl : lv_has ls 4 [(0, .ref y0), (1, .int p1)] := hl
  refine lv_iconst (v := 0) hx hb dX11_exchange_0 (by decide) ?_
  refine lv_istore_n (lv' := [(2, .int 0), (0, .ref y0), (1, .int p1)]) hx hb dX11_exchange_1 rfl hl (by decide) rfl (fun ls hl => ?_)
  have lp1 : ∀ (n1 : Nat) (l2_1 : Int32) (v1 : Nat → Int32) (f1 : Nat → Nat → Int32) (w1 : Int64) (g1 : Nat → Int64), YI v1 → YC f1 → progOK (f1 4) (f1 5) (v1 9).toInt.toNat → v1 0 = (v 0) → v1 1 = (v 1) → v1 2 = (v 2) → v1 3 = (v 3) → v1 4 = (v 4) → v1 5 = (v 5) → v1 8 = (v 8) → v1 9 = (v 9) → v1 10 = (v 10) → v1 13 = (v 13) → v1 14 = (v 14) → v1 15 = (v 15) → v1 17 = (v 17) → v1 18 = (v 18) → v1 24 = (v 24) → v1 25 = (v 25) → v1 35 = (v 35) → v1 36 = (v 36) → v1 38 = (v 38) → v1 39 = (v 39) → ((0 : Int) ≤ l2_1.toInt ∧ l2_1.toInt ≤ 2147483647) → f1 0 = f 0 → (2147483647 - l2_1.toInt).toNat < n1 → ∀ (H : Heap) (locs : List Loc) (ls : Array Slot), va_P (dC, dI) vwCl (YW cy y0 r v1 f1 w1 g1) H → va_D A (YW cy y0 r v1 f1 w1 g1) → va_S A s.heap H locs → lv_has ls 4 [(2, .int l2_1), (0, .ref y0), (1, .int p1)] → W p l e { frames := 1, cells := 0, slots := 0, locals := 60 } s m ([.ref y0, .int p1] : List Value).toArray below meth c H locs 0 0 Q (F0 m 2 ls []) := by
    intro n1
    induction n1 with
    | zero => intro l2_1 v1 f1 w1 g1 hIv1 hCf1 hRf1 hq0_v1 hq1_v1 hq2_v1 hq3_v1 hq4_v1 hq5_v1 hq8_v1 hq9_v1 hq10_v1 hq13_v1 hq14_v1 hq15_v1 hq17_v1 hq18_v1 hq24_v1 hq25_v1 hq35_v1 hq36_v1 hq38_v1 hq39_v1 hr2_1 ha0_f1 hm; exact absurd hm (Nat.not_lt_zero _)
    | succ n1 ih1 =>
      intro l2_1 v1 f1 w1 g1 hIv1 hCf1 hRf1 hq0_v1 hq1_v1 hq2_v1 hq3_v1 hq4_v1 hq5_v1 hq8_v1 hq9_v1 hq10_v1 hq13_v1 hq14_v1 hq15_v1 hq17_v1 hq18_v1 hq24_v1 hq25_v1 hq35_v1 hq36_v1 hq38_v1 hq39_v1 hr2_1 ha0_f1 hm1 H locs ls hP hD hS hl
      have hUv1 : (v1 35).toInt + (v1 36).toInt ≤ 40 := hIv1.2
      have zq3_v1 := congrArg Int32.toInt hq3_v1
      have zq4_v1 := congrArg Int32.toInt hq4_v1
      have zq5_v1 := congrArg Int32.toInt hq5_v1
      have zq9_v1 := congrArg Int32.toInt hq9_v1
      have zq35_v1 := congrArg Int32.toInt hq35_v1
      have zq36_v1 := congrArg Int32.toInt hq36_v1
      refine lv_iload_n hx hb dX11_exchange_2 rfl (lv_at hl 0 rfl) ?_
      refine lv_bipush (v := 39) hx hb dX11_exchange_3 (by decide) ?_
      refine lv_icmp_ge (tgt := 44) hx hb dX11_exchange_5 (by decide) (fun c2 => ?_) (fun c2 => ?_)
      · skip
        have zc2 : 39 ≤ l2_1.toInt := by rw [fa_le, show (39 : Int32).toInt = 39 from by decide] at c2; exact c2
        exact ret (v1, f1, w1, g1) _ _ _ _ _ _ ⟨ha0_f1, hIv1, hCf1, hRf1, (show v1 0 = v 0 from hq0_v1), (show v1 1 = v 1 from hq1_v1), (show v1 2 = v 2 from hq2_v1), (show v1 3 = v 3 from hq3_v1), (show v1 4 = v 4 from hq4_v1), (show v1 5 = v 5 from hq5_v1), (show v1 8 = v 8 from hq8_v1), (show v1 9 = v 9 from hq9_v1), (show v1 10 = v 10 from hq10_v1), (show v1 13 = v 13 from hq13_v1), (show v1 14 = v 14 from hq14_v1), (show v1 15 = v 15 from hq15_v1), (show v1 17 = v 17 from hq17_v1), (show v1 18 = v 18 from hq18_v1), (show v1 24 = v 24 from hq24_v1), (show v1 25 = v 25 from hq25_v1), (show v1 35 = v 35 from hq35_v1), (show v1 36 = v 36 from hq36_v1), (show v1 38 = v 38 from hq38_v1), (show v1 39 = v 39 from hq39_v1)⟩ hP hD hS dX11_exchange_44 (Nat.le_refl _) (Nat.le_refl _)
      · skip
        have zc2 : ¬ (39 ≤ l2_1.toInt) := by rw [fa_le, show (39 : Int32).toInt = 39 from by decide] at c2; exact c2
        refine lv_aload_n hx hb dX11_exchange_8 rfl (lv_at hl 1 rfl) ?_
        refine va_get (D := (dC, dI)) (ci := 11) (v := .ref (r 61)) (C := RX11) (T := TX11) (N := 79) hx hb hts inB_11 hown hE.1 hP 0 rfl rfl 61 (by decide) (hts _ k_1381) (fun _ h9 => h9) rfl dX11_exchange_9 ?_
        refine lv_iload_n hx hb dX11_exchange_12 rfl (lv_at hl 2 rfl) ?_
        refine lv_iload_n hx hb dX11_exchange_13 rfl (lv_at hl 0 rfl) ?_
        refine lv_iadd hx hb dX11_exchange_14 ?_
        refine lv_topi (fun t3 et3 => ?_)
        have rg4 := fb_rng p1
        have rg5 := fb_rng l2_1
        have zt3 : t3.toInt = p1.toInt + l2_1.toInt := by rw [et3]; exact add_i rfl rfl (by omega) (by omega)
        refine ldI hx hb hE hP 26 rfl (vp_in_iff.mpr ⟨by omega, by omega⟩) rfl rfl dX11_exchange_15 ?_
        refine lv_topi (fun t6 et6 => ?_)
        have zt6 : t3.toInt.toNat % 39 < 6 ∨ 12 ≤ t3.toInt.toNat % 39 ∨ (-1 ≤ t6.toInt ∧ t6.toInt ≤ 5) := by rw [et6]; exact wear_ld hCf1.2.2.1 (show t3.toInt.toNat < 1560 by omega)
        refine lv_istore_n (lv' := [(3, .int t6), (2, .int l2_1), (0, .ref y0), (1, .int p1)]) hx hb dX11_exchange_16 rfl hl (by decide) rfl (fun ls hl => ?_)
        refine lv_aload_n hx hb dX11_exchange_17 rfl (lv_at hl 2 rfl) ?_
        refine va_get (D := (dC, dI)) (ci := 11) (v := .ref (r 61)) (C := RX11) (T := TX11) (N := 79) hx hb hts inB_11 hown hE.1 hP 0 rfl rfl 61 (by decide) (hts _ k_1381) (fun _ h9 => h9) rfl dX11_exchange_18 ?_
        refine lv_iload_n hx hb dX11_exchange_21 rfl (lv_at hl 3 rfl) ?_
        refine lv_iload_n hx hb dX11_exchange_22 rfl (lv_at hl 1 rfl) ?_
        refine lv_iadd hx hb dX11_exchange_23 ?_
        refine tI (y := t3) et3.symm ?_
        refine lv_aload_n hx hb dX11_exchange_24 rfl (lv_at hl 2 rfl) ?_
        refine va_get (D := (dC, dI)) (ci := 11) (v := .ref (r 59)) (C := RX11) (T := TX11) (N := 79) hx hb hts inB_11 hown hE.1 hP 0 rfl rfl 59 (by decide) (hts _ k_1379) (fun _ h9 => h9) rfl dX11_exchange_25 ?_
        refine lv_iload_n hx hb dX11_exchange_28 rfl (lv_at hl 1 rfl) ?_
        refine ldI hx hb hE hP 24 rfl (vp_in_iff.mpr ⟨by omega, by omega⟩) rfl rfl dX11_exchange_29 ?_
        refine lv_topi (fun t7 et7 => ?_)
        have zt7 : l2_1.toInt.toNat % 39 < 6 ∨ 12 ≤ l2_1.toInt.toNat % 39 ∨ (-1 ≤ t7.toInt ∧ t7.toInt ≤ 5) := by rw [et7]; exact wear_ld hCf1.1 (show l2_1.toInt.toNat < 39 by omega)
        refine stI hx hb hE hP hD hS 26 rfl (vp_in_iff.mpr ⟨by omega, by omega⟩) rfl dX11_exchange_30 (fun H locs hP hD hS => ?_)
        obtain ⟨f8, ef8, hP, hD⟩ : ∃ fz9, fz9 = upd2 f1 25 (upd (f1 25) t3.toNatClampNeg t7) ∧ va_P (dC, dI) vwCl (YW cy y0 r v1 fz9 w1 g1) H ∧ va_D A (YW cy y0 r v1 fz9 w1 g1) := ⟨_, rfl, hP, hD⟩
        have hCf8 : YC f8 := by rw [ef8]; exact ⟨hCf1.1, hCf1.2.1, (wear_st hCf1.2.2.1 (by show t3.toInt.toNat % 39 < 6 ∨ 12 ≤ t3.toInt.toNat % 39 ∨ (-1 ≤ t7.toInt ∧ t7.toInt ≤ 5); omega)), hCf1.2.2.2.1, hCf1.2.2.2.2.1, hCf1.2.2.2.2.2⟩
        have hRf8 : progOK (f8 4) (f8 5) (v1 9).toInt.toNat := by rw [ef8]; exact hRf1
        have ha0_f8 : f8 0 = f 0 := by rw [ef8]; exact ha0_f1
        refine lv_aload_n hx hb dX11_exchange_31 rfl (lv_at hl 2 rfl) ?_
        refine va_get (D := (dC, dI)) (ci := 11) (v := .ref (r 59)) (C := RX11) (T := TX11) (N := 79) hx hb hts inB_11 hown hE.1 hP 0 rfl rfl 59 (by decide) (hts _ k_1379) (fun _ h9 => h9) rfl dX11_exchange_32 ?_
        refine lv_iload_n hx hb dX11_exchange_35 rfl (lv_at hl 1 rfl) ?_
        refine lv_iload_n hx hb dX11_exchange_36 rfl (lv_at hl 0 rfl) ?_
        refine stI hx hb hE hP hD hS 24 rfl (vp_in_iff.mpr ⟨by omega, by omega⟩) rfl dX11_exchange_37 (fun H locs hP hD hS => ?_)
        obtain ⟨f9, ef9, hP, hD⟩ : ∃ fz9, fz9 = upd2 f8 23 (upd (f8 23) l2_1.toNatClampNeg t6) ∧ va_P (dC, dI) vwCl (YW cy y0 r v1 fz9 w1 g1) H ∧ va_D A (YW cy y0 r v1 fz9 w1 g1) := ⟨_, rfl, hP, hD⟩
        have hCf9 : YC f9 := by rw [ef9]; exact ⟨(wear_st hCf8.1 (by show l2_1.toInt.toNat % 39 < 6 ∨ 12 ≤ l2_1.toInt.toNat % 39 ∨ (-1 ≤ t6.toInt ∧ t6.toInt ≤ 5); omega)), hCf8.2.1, hCf8.2.2.1, hCf8.2.2.2.1, hCf8.2.2.2.2.1, hCf8.2.2.2.2.2⟩
        have hRf9 : progOK (f9 4) (f9 5) (v1 9).toInt.toNat := by rw [ef9]; exact hRf8
        have ha0_f9 : f9 0 = f 0 := by rw [ef9]; exact ha0_f8
        obtain ⟨t10, et10⟩ : ∃ y : Int32, y = l2_1 + 1 := ⟨_, rfl⟩
        have zt10 : t10.toInt = l2_1.toInt + 1 := by rw [et10]; exact add_i rfl (by decide) (by omega) (by omega)
        refine lv_iinc (v := t10) (lv' := [(2, .int t10), (3, .int t6), (0, .ref y0), (1, .int p1)]) hx hb dX11_exchange_38 hl (k := 1) rfl (by rw [et10]; rfl) (by decide) rfl (fun ls hl => ?_)
        refine lv_goto (tgt := 2) hx hb dX11_exchange_41 (by decide) ?_
        have rg11 := fb_rng t10
        exact ih1 t10 v1 f9 w1 g1 hIv1 hCf9 hRf9 hq0_v1 hq1_v1 hq2_v1 hq3_v1 hq4_v1 hq5_v1 hq8_v1 hq9_v1 hq10_v1 hq13_v1 hq14_v1 hq15_v1 hq17_v1 hq18_v1 hq24_v1 hq25_v1 hq35_v1 hq36_v1 hq38_v1 hq39_v1 ⟨show (0 : Int) ≤ t10.toInt by omega, show t10.toInt ≤ (2147483647 : Int) by omega⟩ ha0_f9 (by show (2147483647 - t10.toInt).toNat < n1; omega) _ _ _ hP hD hS (lv_sub hl [0, 2, 3] rfl)
  exact lp1 _ 0 v f w g hIv hCf hRf rfl rfl rfl rfl rfl rfl rfl rfl rfl rfl rfl rfl rfl rfl rfl rfl rfl rfl rfl rfl ⟨by decide, by decide⟩ ha0_f (Nat.lt_succ_self _) _ _ _ hP hD hS (lv_sub hl [0, 1, 2] rfl)
set_option maxHeartbeats 4000000 in
set_option maxRecDepth 100000 in
theorem sY_X11_undo_1 (l : Launch) (dC : Nat → ClassId) (dI : Nat → Nat → Nat) (cy : Nat → ClassId) (y0 : Nat) (r : Nat → Nat)  (v : Nat → Int32) (f : Nat → Nat → Int32) (w : Int64) (g : Nat → Int64) (hIv : YI v) (hCf : YC f) (hRf : progOK (f 4) (f 5) (v 9).toInt.toNat)  : ctI l (dC, dI) cy yX11_undo cX11_undo 1 .boolean 2 83 0 0 ((Nat → Int32) × (Nat → Nat → Int32) × (Int64) × (Nat → Int64)) [.ref y0] (YW cy y0 r v f w g) (fun r u => u.2.1 0 = f 0 ∧ YI u.1 ∧ YC u.2.1 ∧ progOK (u.2.1 4) (u.2.1 5) (u.1 9).toInt.toNat ∧ u.1 0 = v 0 ∧ u.1 1 = v 1 ∧ u.1 2 = v 2 ∧ u.1 3 = v 3 ∧ u.1 4 = v 4 ∧ u.1 5 = v 5 ∧ u.1 8 = v 8 ∧ u.1 9 = v 9 ∧ u.1 10 = v 10 ∧ u.1 13 = v 13 ∧ u.1 14 = v 14 ∧ u.1 15 = v 15 ∧ u.1 17 = v 17 ∧ u.1 18 = v 18 ∧ u.1 24 = v 24 ∧ u.1 25 = v 25 ∧ u.1 38 = v 38 ∧ u.1 39 = v 39 ∧ ((r = 1) ∨ (r = 0))) (fun u => YW cy y0 r u.1 u.2.1 u.2.2.1 u.2.2.2) := by
  refine ctI_of (by decide) (Nat.le_of_ble_eq_true rfl) (fun p e s m below meth c A ls Q hx hb hml hts hown hE hP hD hA hl ret => ?_)
  have hUv : (v 35).toInt + (v 36).toInt ≤ 40 := hIv.2
  have ha0_f : f 0 = f 0 := rfl
  have hown : s.vm.findClass RX11 = some m.cls := hown
  have hS : va_S A s.heap s.heap [] := va_S.rf
  have hl : lv_has ls 1 [(0, .ref y0)] := hl
  refine lv_aload_n hx hb dX11_undo_0 rfl (lv_at hl 0 rfl) ?_
  refine va_get (D := (dC, dI)) (ci := 11) (v := .int (v 35)) (C := RX11) (T := TX11) (N := 79) hx hb hts inB_11 hown hE.1 hP 0 rfl rfl 62 (by decide) (hts _ k_1382) (fun _ h9 => h9) rfl dX11_undo_1 ?_
  have b35_v : 0 ≤ (v 35).toInt ∧ (v 35).toInt ≤ 40 := YIb.b hIv.1 35 (by decide)
  refine lv_if_ne (tgt := 9) hx hb dX11_undo_4 (by decide) (fun c1 => ?_) (fun c1 => ?_)
  · skip
    have zc1 : ¬ ((v 35).toInt = 0) := by rw [fa_eq, show (0 : Int32).toInt = 0 from by decide] at c1; exact c1
    refine lv_aload_n hx hb dX11_undo_9 rfl (lv_at hl 0 rfl) ?_
    refine lv_dup hx hb dX11_undo_10 rfl ?_
    refine va_get (D := (dC, dI)) (ci := 11) (v := .int (v 35)) (C := RX11) (T := TX11) (N := 79) hx hb hts inB_11 hown hE.1 hP 0 rfl rfl 62 (by decide) (hts _ k_1382) (fun _ h9 => h9) rfl dX11_undo_11 ?_
    refine lv_iconst (v := 1) hx hb dX11_undo_14 (by decide) ?_
    refine lv_isub hx hb dX11_undo_15 ?_
    refine lv_topi (fun t2 et2 => ?_)
    have rg3 := fb_rng (v 35)
    have zt2 : t2.toInt = (v 35).toInt - 1 := by rw [et2]; exact sub_i rfl (by decide) (by omega) (by omega)
    refine va_put (D := (dC, dI)) (ci := 11) (v := .int t2) (ty := tyX11 62) (C := RX11) (T := TX11) (N := 79) hx hb hts inB_11 tyX11 tyX11_ok nmX11 hown hE.1 hP hD hS 0 rfl rfl 62 (by decide) (hts _ k_1382) (fun _ h9 => h9) rfl (tyX11_ok 62 (by decide)) rfl rfl (Nat.le_of_ble_eq_true rfl) dX11_undo_16 (fun H locs hP hD hS => ?_)
    have hP : va_P (dC, dI) vwCl (YW cy y0 r (upd v 35 t2) f w g) H := hP
    have hD : va_D A (YW cy y0 r (upd v 35 t2) f w g) := hD
    refine lv_aload_n hx hb dX11_undo_19 rfl (lv_at hl 0 rfl) ?_
    refine lv_dup hx hb dX11_undo_20 rfl ?_
    refine va_get (D := (dC, dI)) (ci := 11) (v := .int (v 36)) (C := RX11) (T := TX11) (N := 79) hx hb hts inB_11 hown hE.1 hP 0 rfl rfl 63 (by decide) (hts _ k_1383) (fun _ h9 => h9) rfl dX11_undo_21 ?_
    have b36_v : 0 ≤ (v 36).toInt ∧ (v 36).toInt ≤ 40 := YIb.b hIv.1 36 (by decide)
    refine lv_iconst (v := 1) hx hb dX11_undo_24 (by decide) ?_
    refine lv_iadd hx hb dX11_undo_25 ?_
    refine lv_topi (fun t4 et4 => ?_)
    have rg5 := fb_rng (v 36)
    have zt4 : t4.toInt = (v 36).toInt + 1 := by rw [et4]; exact add_i rfl (by decide) (by omega) (by omega)
    refine va_put (D := (dC, dI)) (ci := 11) (v := .int t4) (ty := tyX11 63) (C := RX11) (T := TX11) (N := 79) hx hb hts inB_11 tyX11 tyX11_ok nmX11 hown hE.1 hP hD hS 0 rfl rfl 63 (by decide) (hts _ k_1383) (fun _ h9 => h9) rfl (tyX11_ok 63 (by decide)) rfl rfl (Nat.le_of_ble_eq_true rfl) dX11_undo_26 (fun H locs hP hD hS => ?_)
    have hP : va_P (dC, dI) vwCl (YW cy y0 r (upd (upd v 35 t2) 36 t4) f w g) H := hP
    have hD : va_D A (YW cy y0 r (upd (upd v 35 t2) 36 t4) f w g) := hD
    refine lv_aload_n hx hb dX11_undo_29 rfl (lv_at hl 0 rfl) ?_
    refine lv_bipush (v := 39) hx hb dX11_undo_30 (by decide) ?_
    refine lv_aload_n hx hb dX11_undo_32 rfl (lv_at hl 0 rfl) ?_
    refine va_get (D := (dC, dI)) (ci := 11) (v := .int t2) (C := RX11) (T := TX11) (N := 79) hx hb hts inB_11 hown hE.1 hP 0 rfl rfl 62 (by decide) (hts _ k_1382) (fun _ h9 => h9) rfl dX11_undo_33 ?_
    refine lv_imul hx hb dX11_undo_36 ?_
    refine lv_topi (fun t6 et6 => ?_)
    have rg7 := fb_rng t2
    have zt6 : t6.toInt = 39 * t2.toInt := by rw [et6]; exact mul_i (by decide) rfl (by omega) (by omega)
    refine cbVv (n := 1) (rest := []) hx hb hml hown hts hE hP hD hS hA (sY_X11_exchange_1 l dC dI cy y0 r t6 (upd (upd v 35 t2) 36 t4) f w g ⟨(YIb.upd (j := 36) (x := t4) (YIb.upd (j := 35) (x := t2) hIv.1 (show (0 : Int) ≤ t2.toInt by omega) (show t2.toInt ≤ (40 : Int) by omega)) (show (0 : Int) ≤ t4.toInt by omega) (show t4.toInt ≤ (40 : Int) by omega)), (by have q9 := hIv.2; show t2.toInt + t4.toInt ≤ 40; omega)⟩ hCf hRf ⟨show (0 : Int) ≤ t6.toInt by omega, show t6.toInt ≤ (1521 : Int) by omega⟩ (by show t6.toInt % 39 = 0; omega)) k_1845 k_1847 k_83 k_114 k_1848 (by decide +kernel) ⟨Nat.le_of_ble_eq_true rfl, Nat.le_of_ble_eq_true rfl⟩ 0 11 rfl rfl (rfl) hl.1 rfl (Nat.le_of_ble_eq_true rfl) dX11_undo_37 (fun u H locs hw hP hD hS => ?_)
    obtain ⟨v8, f9, w10, g11⟩ := u
    obtain ⟨ka0_f9, hIv8, hCf9, hRf9, hk0_v8, hk1_v8, hk2_v8, hk3_v8, hk4_v8, hk5_v8, hk8_v8, hk9_v8, hk10_v8, hk13_v8, hk14_v8, hk15_v8, hk17_v8, hk18_v8, hk24_v8, hk25_v8, hk35_v8, hk36_v8, hk38_v8, hk39_v8⟩ := hw
    have ha0_f9 : f9 0 = f 0 := ka0_f9.trans ha0_f
    have hP : va_P (dC, dI) vwCl (YW cy y0 r v8 f9 w10 g11) H := hP
    have hD : va_D A (YW cy y0 r v8 f9 w10 g11) := hD
    have hUv8 : (v8 35).toInt + (v8 36).toInt ≤ 40 := hIv8.2
    have hq0_v8 : v8 0 = (v 0) := hk0_v8
    have hq1_v8 : v8 1 = (v 1) := hk1_v8
    have hq2_v8 : v8 2 = (v 2) := hk2_v8
    have hq3_v8 : v8 3 = (v 3) := hk3_v8
    have zq3_v8 := congrArg Int32.toInt hq3_v8
    have hq4_v8 : v8 4 = (v 4) := hk4_v8
    have zq4_v8 := congrArg Int32.toInt hq4_v8
    have hq5_v8 : v8 5 = (v 5) := hk5_v8
    have zq5_v8 := congrArg Int32.toInt hq5_v8
    have hq8_v8 : v8 8 = (v 8) := hk8_v8
    have hq9_v8 : v8 9 = (v 9) := hk9_v8
    have zq9_v8 := congrArg Int32.toInt hq9_v8
    have hq10_v8 : v8 10 = (v 10) := hk10_v8
    have hq13_v8 : v8 13 = (v 13) := hk13_v8
    have hq14_v8 : v8 14 = (v 14) := hk14_v8
    have hq15_v8 : v8 15 = (v 15) := hk15_v8
    have hq17_v8 : v8 17 = (v 17) := hk17_v8
    have hq18_v8 : v8 18 = (v 18) := hk18_v8
    have hq24_v8 : v8 24 = (v 24) := hk24_v8
    have hq25_v8 : v8 25 = (v 25) := hk25_v8
    have hq35_v8 : v8 35 = t2 := hk35_v8
    have zq35_v8 := congrArg Int32.toInt hq35_v8
    have hq36_v8 : v8 36 = t4 := hk36_v8
    have zq36_v8 := congrArg Int32.toInt hq36_v8
    have hq38_v8 : v8 38 = (v 38) := hk38_v8
    have hq39_v8 : v8 39 = (v 39) := hk39_v8
    refine lv_iconst (v := 1) hx hb dX11_undo_40 (by decide) ?_
    exact ret 1 (v8, f9, w10, g11) _ _ _ _ _ _ rfl ⟨ha0_f9, hIv8, hCf9, hRf9, hk0_v8, hk1_v8, hk2_v8, hk3_v8, hk4_v8, hk5_v8, hk8_v8, hk9_v8, hk10_v8, hk13_v8, hk14_v8, hk15_v8, hk17_v8, hk18_v8, hk24_v8, hk25_v8, hk38_v8, hk39_v8, (Or.inl rfl)⟩ hP hD hS dX11_undo_41 (Nat.le_refl _) (Nat.le_refl _)
  · skip
    have zc1 : (v 35).toInt = 0 := by rw [fa_eq, show (0 : Int32).toInt = 0 from by decide] at c1; exact c1
    refine lv_iconst (v := 0) hx hb dX11_undo_7 (by decide) ?_
    exact ret 0 (v, f, w, g) _ _ _ _ _ _ rfl ⟨ha0_f, hIv, hCf, hRf, rfl, rfl, rfl, rfl, rfl, rfl, rfl, rfl, rfl, rfl, rfl, rfl, rfl, rfl, rfl, rfl, rfl, rfl, (Or.inr rfl)⟩ hP hD hS dX11_undo_8 (Nat.le_refl _) (Nat.le_refl _)
set_option maxHeartbeats 4000000 in
set_option maxRecDepth 100000 in
theorem sY_X11_redo_1 (l : Launch) (dC : Nat → ClassId) (dI : Nat → Nat → Nat) (cy : Nat → ClassId) (y0 : Nat) (r : Nat → Nat)  (v : Nat → Int32) (f : Nat → Nat → Int32) (w : Int64) (g : Nat → Int64) (hIv : YI v) (hCf : YC f) (hRf : progOK (f 4) (f 5) (v 9).toInt.toNat)  : ctI l (dC, dI) cy yX11_redo cX11_redo 1 .boolean 2 83 0 0 ((Nat → Int32) × (Nat → Nat → Int32) × (Int64) × (Nat → Int64)) [.ref y0] (YW cy y0 r v f w g) (fun r u => u.2.1 0 = f 0 ∧ YI u.1 ∧ YC u.2.1 ∧ progOK (u.2.1 4) (u.2.1 5) (u.1 9).toInt.toNat ∧ u.1 0 = v 0 ∧ u.1 1 = v 1 ∧ u.1 2 = v 2 ∧ u.1 3 = v 3 ∧ u.1 4 = v 4 ∧ u.1 5 = v 5 ∧ u.1 8 = v 8 ∧ u.1 9 = v 9 ∧ u.1 10 = v 10 ∧ u.1 13 = v 13 ∧ u.1 14 = v 14 ∧ u.1 15 = v 15 ∧ u.1 17 = v 17 ∧ u.1 18 = v 18 ∧ u.1 24 = v 24 ∧ u.1 25 = v 25 ∧ u.1 38 = v 38 ∧ u.1 39 = v 39 ∧ ((r = 1) ∨ (r = 0))) (fun u => YW cy y0 r u.1 u.2.1 u.2.2.1 u.2.2.2) := by
  refine ctI_of (by decide) (Nat.le_of_ble_eq_true rfl) (fun p e s m below meth c A ls Q hx hb hml hts hown hE hP hD hA hl ret => ?_)
  have hUv : (v 35).toInt + (v 36).toInt ≤ 40 := hIv.2
  have ha0_f : f 0 = f 0 := rfl
  have hown : s.vm.findClass RX11 = some m.cls := hown
  have hS : va_S A s.heap s.heap [] := va_S.rf
  have hl : lv_has ls 1 [(0, .ref y0)] := hl
  refine lv_aload_n hx hb dX11_redo_0 rfl (lv_at hl 0 rfl) ?_
  refine va_get (D := (dC, dI)) (ci := 11) (v := .int (v 36)) (C := RX11) (T := TX11) (N := 79) hx hb hts inB_11 hown hE.1 hP 0 rfl rfl 63 (by decide) (hts _ k_1383) (fun _ h9 => h9) rfl dX11_redo_1 ?_
  have b36_v : 0 ≤ (v 36).toInt ∧ (v 36).toInt ≤ 40 := YIb.b hIv.1 36 (by decide)
  refine lv_if_ne (tgt := 9) hx hb dX11_redo_4 (by decide) (fun c1 => ?_) (fun c1 => ?_)
  · skip
    have zc1 : ¬ ((v 36).toInt = 0) := by rw [fa_eq, show (0 : Int32).toInt = 0 from by decide] at c1; exact c1
    refine lv_aload_n hx hb dX11_redo_9 rfl (lv_at hl 0 rfl) ?_
    refine lv_bipush (v := 39) hx hb dX11_redo_10 (by decide) ?_
    refine lv_aload_n hx hb dX11_redo_12 rfl (lv_at hl 0 rfl) ?_
    refine va_get (D := (dC, dI)) (ci := 11) (v := .int (v 35)) (C := RX11) (T := TX11) (N := 79) hx hb hts inB_11 hown hE.1 hP 0 rfl rfl 62 (by decide) (hts _ k_1382) (fun _ h9 => h9) rfl dX11_redo_13 ?_
    have b35_v : 0 ≤ (v 35).toInt ∧ (v 35).toInt ≤ 40 := YIb.b hIv.1 35 (by decide)
    refine lv_imul hx hb dX11_redo_16 ?_
    refine lv_topi (fun t2 et2 => ?_)
    have rg3 := fb_rng (v 35)
    have zt2 : t2.toInt = 39 * (v 35).toInt := by rw [et2]; exact mul_i (by decide) rfl (by omega) (by omega)
    refine cbVv (n := 1) (rest := []) hx hb hml hown hts hE hP hD hS hA (sY_X11_exchange_1 l dC dI cy y0 r t2 v f w g hIv hCf hRf ⟨show (0 : Int) ≤ t2.toInt by omega, show t2.toInt ≤ (1521 : Int) by omega⟩ (by show t2.toInt % 39 = 0; omega)) k_1845 k_1847 k_83 k_114 k_1848 (by decide +kernel) ⟨Nat.le_of_ble_eq_true rfl, Nat.le_of_ble_eq_true rfl⟩ 0 11 rfl rfl (rfl) hl.1 rfl (Nat.le_of_ble_eq_true rfl) dX11_redo_17 (fun u H locs hw hP hD hS => ?_)
    obtain ⟨v4, f5, w6, g7⟩ := u
    obtain ⟨ka0_f5, hIv4, hCf5, hRf5, hk0_v4, hk1_v4, hk2_v4, hk3_v4, hk4_v4, hk5_v4, hk8_v4, hk9_v4, hk10_v4, hk13_v4, hk14_v4, hk15_v4, hk17_v4, hk18_v4, hk24_v4, hk25_v4, hk35_v4, hk36_v4, hk38_v4, hk39_v4⟩ := hw
    have ha0_f5 : f5 0 = f 0 := ka0_f5.trans ha0_f
    have hP : va_P (dC, dI) vwCl (YW cy y0 r v4 f5 w6 g7) H := hP
    have hD : va_D A (YW cy y0 r v4 f5 w6 g7) := hD
    have hUv4 : (v4 35).toInt + (v4 36).toInt ≤ 40 := hIv4.2
    have hq0_v4 : v4 0 = (v 0) := hk0_v4
    have hq1_v4 : v4 1 = (v 1) := hk1_v4
    have hq2_v4 : v4 2 = (v 2) := hk2_v4
    have hq3_v4 : v4 3 = (v 3) := hk3_v4
    have zq3_v4 := congrArg Int32.toInt hq3_v4
    have hq4_v4 : v4 4 = (v 4) := hk4_v4
    have zq4_v4 := congrArg Int32.toInt hq4_v4
    have hq5_v4 : v4 5 = (v 5) := hk5_v4
    have zq5_v4 := congrArg Int32.toInt hq5_v4
    have hq8_v4 : v4 8 = (v 8) := hk8_v4
    have hq9_v4 : v4 9 = (v 9) := hk9_v4
    have zq9_v4 := congrArg Int32.toInt hq9_v4
    have hq10_v4 : v4 10 = (v 10) := hk10_v4
    have hq13_v4 : v4 13 = (v 13) := hk13_v4
    have hq14_v4 : v4 14 = (v 14) := hk14_v4
    have hq15_v4 : v4 15 = (v 15) := hk15_v4
    have hq17_v4 : v4 17 = (v 17) := hk17_v4
    have hq18_v4 : v4 18 = (v 18) := hk18_v4
    have hq24_v4 : v4 24 = (v 24) := hk24_v4
    have hq25_v4 : v4 25 = (v 25) := hk25_v4
    have hq35_v4 : v4 35 = (v 35) := hk35_v4
    have zq35_v4 := congrArg Int32.toInt hq35_v4
    have hq36_v4 : v4 36 = (v 36) := hk36_v4
    have zq36_v4 := congrArg Int32.toInt hq36_v4
    have hq38_v4 : v4 38 = (v 38) := hk38_v4
    have hq39_v4 : v4 39 = (v 39) := hk39_v4
    refine lv_aload_n hx hb dX11_redo_20 rfl (lv_at hl 0 rfl) ?_
    refine lv_dup hx hb dX11_redo_21 rfl ?_
    refine va_get (D := (dC, dI)) (ci := 11) (v := .int (v4 35)) (C := RX11) (T := TX11) (N := 79) hx hb hts inB_11 hown hE.1 hP 0 rfl rfl 62 (by decide) (hts _ k_1382) (fun _ h9 => h9) rfl dX11_redo_22 ?_
    refine tI (y := (v 35)) hq35_v4 ?_
    have b35_v : 0 ≤ (v 35).toInt ∧ (v 35).toInt ≤ 40 := YIb.b hIv.1 35 (by decide)
    refine lv_iconst (v := 1) hx hb dX11_redo_25 (by decide) ?_
    refine lv_iadd hx hb dX11_redo_26 ?_
    refine lv_topi (fun t8 et8 => ?_)
    have zt8 : t8.toInt = (v 35).toInt + 1 := by rw [et8]; exact add_i rfl (by decide) (by omega) (by omega)
    refine va_put (D := (dC, dI)) (ci := 11) (v := .int t8) (ty := tyX11 62) (C := RX11) (T := TX11) (N := 79) hx hb hts inB_11 tyX11 tyX11_ok nmX11 hown hE.1 hP hD hS 0 rfl rfl 62 (by decide) (hts _ k_1382) (fun _ h9 => h9) rfl (tyX11_ok 62 (by decide)) rfl rfl (Nat.le_of_ble_eq_true rfl) dX11_redo_27 (fun H locs hP hD hS => ?_)
    have hP : va_P (dC, dI) vwCl (YW cy y0 r (upd v4 35 t8) f5 w6 g7) H := hP
    have hD : va_D A (YW cy y0 r (upd v4 35 t8) f5 w6 g7) := hD
    refine lv_aload_n hx hb dX11_redo_30 rfl (lv_at hl 0 rfl) ?_
    refine lv_dup hx hb dX11_redo_31 rfl ?_
    refine va_get (D := (dC, dI)) (ci := 11) (v := .int (v4 36)) (C := RX11) (T := TX11) (N := 79) hx hb hts inB_11 hown hE.1 hP 0 rfl rfl 63 (by decide) (hts _ k_1383) (fun _ h9 => h9) rfl dX11_redo_32 ?_
    refine tI (y := (v 36)) hq36_v4 ?_
    have b36_v : 0 ≤ (v 36).toInt ∧ (v 36).toInt ≤ 40 := YIb.b hIv.1 36 (by decide)
    refine lv_iconst (v := 1) hx hb dX11_redo_35 (by decide) ?_
    refine lv_isub hx hb dX11_redo_36 ?_
    refine lv_topi (fun t9 et9 => ?_)
    have rg10 := fb_rng (v 36)
    have zt9 : t9.toInt = (v 36).toInt - 1 := by rw [et9]; exact sub_i rfl (by decide) (by omega) (by omega)
    refine va_put (D := (dC, dI)) (ci := 11) (v := .int t9) (ty := tyX11 63) (C := RX11) (T := TX11) (N := 79) hx hb hts inB_11 tyX11 tyX11_ok nmX11 hown hE.1 hP hD hS 0 rfl rfl 63 (by decide) (hts _ k_1383) (fun _ h9 => h9) rfl (tyX11_ok 63 (by decide)) rfl rfl (Nat.le_of_ble_eq_true rfl) dX11_redo_37 (fun H locs hP hD hS => ?_)
    have hP : va_P (dC, dI) vwCl (YW cy y0 r (upd (upd v4 35 t8) 36 t9) f5 w6 g7) H := hP
    have hD : va_D A (YW cy y0 r (upd (upd v4 35 t8) 36 t9) f5 w6 g7) := hD
    refine lv_iconst (v := 1) hx hb dX11_redo_40 (by decide) ?_
    exact ret 1 ((upd (upd v4 35 t8) 36 t9), f5, w6, g7) _ _ _ _ _ _ rfl ⟨ha0_f5, ⟨(YIb.upd (j := 36) (x := t9) (YIb.upd (j := 35) (x := t8) hIv4.1 (show (0 : Int) ≤ t8.toInt by omega) (show t8.toInt ≤ (40 : Int) by omega)) (show (0 : Int) ≤ t9.toInt by omega) (show t9.toInt ≤ (40 : Int) by omega)), (by have q9 := hIv4.2; show t8.toInt + t9.toInt ≤ 40; omega)⟩, hCf5, hRf5, hk0_v4, hk1_v4, hk2_v4, hk3_v4, hk4_v4, hk5_v4, hk8_v4, hk9_v4, hk10_v4, hk13_v4, hk14_v4, hk15_v4, hk17_v4, hk18_v4, hk24_v4, hk25_v4, hk38_v4, hk39_v4, (Or.inl rfl)⟩ hP hD hS dX11_redo_41 (Nat.le_refl _) (Nat.le_refl _)
  · skip
    have zc1 : (v 36).toInt = 0 := by rw [fa_eq, show (0 : Int32).toInt = 0 from by decide] at c1; exact c1
    refine lv_iconst (v := 0) hx hb dX11_redo_7 (by decide) ?_
    exact ret 0 (v, f, w, g) _ _ _ _ _ _ rfl ⟨ha0_f, hIv, hCf, hRf, rfl, rfl, rfl, rfl, rfl, rfl, rfl, rfl, rfl, rfl, rfl, rfl, rfl, rfl, rfl, rfl, rfl, rfl, (Or.inr rfl)⟩ hP hD hS dX11_redo_8 (Nat.le_refl _) (Nat.le_refl _)
set_option maxHeartbeats 4000000 in
set_option maxRecDepth 100000 in
theorem sY_X11_will_1 (l : Launch) (dC : Nat → ClassId) (dI : Nat → Nat → Nat) (cy : Nat → ClassId) (y0 : Nat) (r : Nat → Nat) (p1 : Int32) (p2 : Int32) (p3 : Int32) (v : Nat → Int32) (f : Nat → Nat → Int32) (w : Int64) (g : Nat → Int64) (hIv : YI v) (hCf : YC f) (hRf : progOK (f 4) (f 5) (v 9).toInt.toNat)  : ctI l (dC, dI) cy yX11_will cX11_will 5 .int 8 214 0 0 ((Nat → Int32) × (Nat → Nat → Int32) × (Int64) × (Nat → Int64)) [.ref y0, .int p1, .int p2, .int p3] (YW cy y0 r v f w g) (fun r u => u.2.1 0 = f 0 ∧ YI u.1 ∧ YC u.2.1 ∧ progOK (u.2.1 4) (u.2.1 5) (u.1 9).toInt.toNat ∧ u.1 0 = v 0 ∧ u.1 1 = v 1 ∧ u.1 2 = v 2 ∧ u.1 3 = v 3 ∧ u.1 4 = v 4 ∧ u.1 5 = v 5 ∧ u.1 8 = v 8 ∧ u.1 9 = v 9 ∧ u.1 10 = v 10 ∧ u.1 13 = v 13 ∧ u.1 14 = v 14 ∧ u.1 15 = v 15 ∧ u.1 17 = v 17 ∧ u.1 18 = v 18 ∧ u.1 24 = v 24 ∧ u.1 25 = v 25 ∧ u.1 35 = v 35 ∧ u.1 36 = v 36 ∧ u.1 38 = v 38 ∧ u.1 39 = v 39) (fun u => YW cy y0 r u.1 u.2.1 u.2.2.1 u.2.2.2) := by
  refine ctI_of (by decide) (Nat.le_of_ble_eq_true rfl) (fun p e s m below meth c A ls Q hx hb hml hts hown hE hP hD hA hl ret => ?_)
  have hUv : (v 35).toInt + (v 36).toInt ≤ 40 := hIv.2
  have ha0_f : f 0 = f 0 := rfl
  have hown : s.vm.findClass RX11 = some m.cls := hown
  have hS : va_S A s.heap s.heap [] := va_S.rf
  have hl : lv_has ls 5 [(0, .ref y0), (1, .int p1), (2, .int p2), (3, .int p3)] := hl
  refine lv_aload_n hx hb dX11_will_0 rfl (lv_at hl 0 rfl) ?_
  refine lv_iload_n hx hb dX11_will_1 rfl (lv_at hl 1 rfl) ?_
  refine cbVi (n := 1) (rest := []) hx hb hml hown hts hE hP hD hS hA (sY_X11_isMan_1 l dC dI cy y0 r p1 v f w g hIv hCf hRf ) k_1732 k_1734 k_70 k_114 k_1735 (by decide +kernel) ⟨Nat.le_of_ble_eq_true rfl, Nat.le_of_ble_eq_true rfl⟩ 0 11 rfl rfl (rfl) hl.1 rfl (Nat.le_of_ble_eq_true rfl) dX11_will_2 (fun r1 u H locs hw hP hD hS => ?_)
  rcases hw with ⟨g2, g2_0, g2_1, g2_2⟩ | ⟨g2⟩
  · skip
    subst g2
    refine lv_if_eq (tgt := 27) hx hb dX11_will_5 (by decide) (fun c0 => absurd c0 (by decide)) (fun _ => ?_)
    refine lv_iload_n hx hb dX11_will_8 rfl (lv_at hl 2 rfl) ?_
    refine lv_iconst (v := 0) hx hb dX11_will_9 (by decide) ?_
    refine lv_bipush (v := 60) hx hb dX11_will_10 (by decide) ?_
    have lt3 : (0 : Int32).toInt = 0 := by decide
    have lt4 : (60 : Int32).toInt = 60 := by decide
    refine cbSi (n := 3) (rest := []) hx hb hml hown hts hE hP hD hS hA (sY_X11_isIn_1 l dC dI cy y0 r p2 0 60 v f w g hIv hCf hRf ) k_1736 k_1737 k_114 k_1738 (by decide +kernel) ⟨Nat.le_of_ble_eq_true rfl, Nat.le_of_ble_eq_true rfl⟩ (rfl) hl.1 rfl (Nat.le_of_ble_eq_true rfl) dX11_will_12 (fun r5 u H locs hw hP hD hS => ?_)
    rcases hw with ⟨g6, g6_0, g6_1⟩ | ⟨g6⟩
    · skip
      subst g6
      refine lv_if_eq (tgt := 27) hx hb dX11_will_15 (by decide) (fun c0 => absurd c0 (by decide)) (fun _ => ?_)
      refine lv_iload_n hx hb dX11_will_18 rfl (lv_at hl 3 rfl) ?_
      refine lv_iconst (v := 0) hx hb dX11_will_19 (by decide) ?_
      refine lv_iconst (v := 1) hx hb dX11_will_20 (by decide) ?_
      have lt7 : (1 : Int32).toInt = 1 := by decide
      refine cbSi (n := 3) (rest := []) hx hb hml hown hts hE hP hD hS hA (sY_X11_isIn_1 l dC dI cy y0 r p3 0 1 v f w g hIv hCf hRf ) k_1736 k_1737 k_114 k_1738 (by decide +kernel) ⟨Nat.le_of_ble_eq_true rfl, Nat.le_of_ble_eq_true rfl⟩ (rfl) hl.1 rfl (Nat.le_of_ble_eq_true rfl) dX11_will_21 (fun r8 u H locs hw hP hD hS => ?_)
      rcases hw with ⟨g9, g9_0, g9_1⟩ | ⟨g9⟩
      · skip
        subst g9
        refine lv_if_ne (tgt := 30) hx hb dX11_will_24 (by decide) (fun _ => ?_) (fun c0 => absurd c0 (by decide))
        refine lv_aload_n hx hb dX11_will_30 rfl (lv_at hl 0 rfl) ?_
        refine cbVv (n := 0) (rest := []) hx hb hml hown hts hE hP hD hS hA (sY_X11_fill_1 l dC dI cy y0 r  v f w g hIv hCf hRf ) k_1739 k_1741 k_71 k_114 k_1742 (by decide +kernel) ⟨Nat.le_of_ble_eq_true rfl, Nat.le_of_ble_eq_true rfl⟩ 0 11 rfl rfl (rfl) hl.1 rfl (Nat.le_of_ble_eq_true rfl) dX11_will_31 (fun u H locs hw hP hD hS => ?_)
        obtain ⟨v10, f11, w12, g13⟩ := u
        obtain ⟨ka0_f11, hIv10, hCf11, hRf11, hk0_v10, hk1_v10, hk2_v10, hk3_v10, hk4_v10, hk5_v10, hk8_v10, hk9_v10, hk10_v10, hk13_v10, hk14_v10, hk15_v10, hk17_v10, hk18_v10, hk24_v10, hk25_v10, hk35_v10, hk36_v10, hk38_v10, hk39_v10⟩ := hw
        have ha0_f11 : f11 0 = f 0 := ka0_f11.trans ha0_f
        have hP : va_P (dC, dI) vwCl (YW cy y0 r v10 f11 w12 g13) H := hP
        have hD : va_D A (YW cy y0 r v10 f11 w12 g13) := hD
        have hUv10 : (v10 35).toInt + (v10 36).toInt ≤ 40 := hIv10.2
        have hq0_v10 : v10 0 = (v 0) := hk0_v10
        have hq1_v10 : v10 1 = (v 1) := hk1_v10
        have hq2_v10 : v10 2 = (v 2) := hk2_v10
        have hq3_v10 : v10 3 = (v 3) := hk3_v10
        have zq3_v10 := congrArg Int32.toInt hq3_v10
        have hq4_v10 : v10 4 = (v 4) := hk4_v10
        have zq4_v10 := congrArg Int32.toInt hq4_v10
        have hq5_v10 : v10 5 = (v 5) := hk5_v10
        have zq5_v10 := congrArg Int32.toInt hq5_v10
        have hq8_v10 : v10 8 = (v 8) := hk8_v10
        have hq9_v10 : v10 9 = (v 9) := hk9_v10
        have zq9_v10 := congrArg Int32.toInt hq9_v10
        have hq10_v10 : v10 10 = (v 10) := hk10_v10
        have hq13_v10 : v10 13 = (v 13) := hk13_v10
        have hq14_v10 : v10 14 = (v 14) := hk14_v10
        have hq15_v10 : v10 15 = (v 15) := hk15_v10
        have hq17_v10 : v10 17 = (v 17) := hk17_v10
        have hq18_v10 : v10 18 = (v 18) := hk18_v10
        have hq24_v10 : v10 24 = (v 24) := hk24_v10
        have hq25_v10 : v10 25 = (v 25) := hk25_v10
        have hq35_v10 : v10 35 = (v 35) := hk35_v10
        have zq35_v10 := congrArg Int32.toInt hq35_v10
        have hq36_v10 : v10 36 = (v 36) := hk36_v10
        have zq36_v10 := congrArg Int32.toInt hq36_v10
        have hq38_v10 : v10 38 = (v 38) := hk38_v10
        have hq39_v10 : v10 39 = (v 39) := hk39_v10
        refine lv_iconst (v := 0) hx hb dX11_will_34 (by decide) ?_
        refine lv_istore (lv' := [(4, .int 0), (0, .ref y0), (1, .int p1), (2, .int p2), (3, .int p3)]) hx hb dX11_will_35 hl (by decide) rfl (fun ls hl => ?_)
        have lp14 : ∀ (n14 : Nat) (l4_14 : Int32) (v14 : Nat → Int32) (f14 : Nat → Nat → Int32) (w14 : Int64) (g14 : Nat → Int64), YI v14 → YC f14 → progOK (f14 4) (f14 5) (v14 9).toInt.toNat → v14 0 = (v 0) → v14 1 = (v 1) → v14 2 = (v 2) → v14 3 = (v 3) → v14 4 = (v 4) → v14 5 = (v 5) → v14 8 = (v 8) → v14 9 = (v 9) → v14 10 = (v 10) → v14 13 = (v 13) → v14 14 = (v 14) → v14 15 = (v 15) → v14 17 = (v 17) → v14 18 = (v 18) → v14 24 = (v 24) → v14 25 = (v 25) → v14 35 = (v 35) → v14 36 = (v 36) → v14 38 = (v 38) → v14 39 = (v 39) → ((0 : Int) ≤ l4_14.toInt ∧ l4_14.toInt ≤ 2147483647) → f14 0 = f 0 → (2147483647 - l4_14.toInt).toNat < n14 → ∀ (H : Heap) (locs : List Loc) (ls : Array Slot), va_P (dC, dI) vwCl (YW cy y0 r v14 f14 w14 g14) H → va_D A (YW cy y0 r v14 f14 w14 g14) → va_S A s.heap H locs → lv_has ls 5 [(4, .int l4_14), (0, .ref y0), (1, .int p1), (2, .int p2), (3, .int p3)] → W p l e { frames := 8, cells := 0, slots := 0, locals := 214 } s m ([.ref y0, .int p1, .int p2, .int p3] : List Value).toArray below meth c H locs 0 0 Q (F0 m 37 ls []) := by
          intro n14
          induction n14 with
          | zero => intro l4_14 v14 f14 w14 g14 hIv14 hCf14 hRf14 hq0_v14 hq1_v14 hq2_v14 hq3_v14 hq4_v14 hq5_v14 hq8_v14 hq9_v14 hq10_v14 hq13_v14 hq14_v14 hq15_v14 hq17_v14 hq18_v14 hq24_v14 hq25_v14 hq35_v14 hq36_v14 hq38_v14 hq39_v14 hr4_14 ha0_f14 hm; exact absurd hm (Nat.not_lt_zero _)
          | succ n14 ih14 =>
            intro l4_14 v14 f14 w14 g14 hIv14 hCf14 hRf14 hq0_v14 hq1_v14 hq2_v14 hq3_v14 hq4_v14 hq5_v14 hq8_v14 hq9_v14 hq10_v14 hq13_v14 hq14_v14 hq15_v14 hq17_v14 hq18_v14 hq24_v14 hq25_v14 hq35_v14 hq36_v14 hq38_v14 hq39_v14 hr4_14 ha0_f14 hm14 H locs ls hP hD hS hl
            have hUv14 : (v14 35).toInt + (v14 36).toInt ≤ 40 := hIv14.2
            have zq3_v14 := congrArg Int32.toInt hq3_v14
            have zq4_v14 := congrArg Int32.toInt hq4_v14
            have zq5_v14 := congrArg Int32.toInt hq5_v14
            have zq9_v14 := congrArg Int32.toInt hq9_v14
            have zq35_v14 := congrArg Int32.toInt hq35_v14
            have zq36_v14 := congrArg Int32.toInt hq36_v14
            refine lv_iload hx hb dX11_will_37 (lv_at hl 0 rfl) ?_
            refine lv_iload_n hx hb dX11_will_39 rfl (lv_at hl 3 rfl) ?_
            refine lv_icmp_ge (tgt := 71) hx hb dX11_will_40 (by decide) (fun c15 => ?_) (fun c15 => ?_)
            · skip
              have zc15 : p2.toInt ≤ l4_14.toInt := by rw [fa_le] at c15; exact c15
              have rg16 := fb_rng l4_14
              have rg17 := fb_rng p2
              refine lv_aload_n hx hb dX11_will_71 rfl (lv_at hl 1 rfl) ?_
              refine va_get (D := (dC, dI)) (ci := 11) (v := .ref (r 60)) (C := RX11) (T := TX11) (N := 79) hx hb hts inB_11 hown hE.1 hP 0 rfl rfl 60 (by decide) (hts _ k_1380) (fun _ h9 => h9) rfl dX11_will_72 ?_
              refine lv_bipush (v := 6) hx hb dX11_will_75 (by decide) ?_
              refine lv_iload_n hx hb dX11_will_77 rfl (lv_at hl 2 rfl) ?_
              refine lv_iadd hx hb dX11_will_78 ?_
              refine lv_topi (fun t18 et18 => ?_)
              have rg19 := fb_rng p1
              have zt18 : t18.toInt = 6 + p1.toInt := by rw [et18]; exact add_i (by decide) rfl (by omega) (by omega)
              refine ldI hx hb hE hP 25 rfl (vp_in_iff.mpr ⟨by omega, by omega⟩) rfl rfl dX11_will_79 ?_
              refine lv_topi (fun t20 et20 => ?_)
              have zt20 : t18.toInt.toNat % 39 < 6 ∨ 12 ≤ t18.toInt.toNat % 39 ∨ (-1 ≤ t20.toInt ∧ t20.toInt ≤ 5) := by rw [et20]; exact wear_ld hCf14.2.1 (show t18.toInt.toNat < 39 by omega)
              exact ret t20 (v14, f14, w14, g14) _ _ _ _ _ _ rfl ⟨ha0_f14, hIv14, hCf14, hRf14, hq0_v14, hq1_v14, hq2_v14, hq3_v14, hq4_v14, hq5_v14, hq8_v14, hq9_v14, hq10_v14, hq13_v14, hq14_v14, hq15_v14, hq17_v14, hq18_v14, hq24_v14, hq25_v14, hq35_v14, hq36_v14, hq38_v14, hq39_v14⟩ hP hD hS dX11_will_80 (Nat.le_refl _) (Nat.le_refl _)
            · skip
              have zc15 : ¬ (p2.toInt ≤ l4_14.toInt) := by rw [fa_le] at c15; exact c15
              have rg21 := fb_rng l4_14
              have rg22 := fb_rng p2
              refine lv_aload_n hx hb dX11_will_43 rfl (lv_at hl 1 rfl) ?_
              refine lv_iload_n hx hb dX11_will_44 rfl (lv_at hl 4 rfl) ?_
              refine lv_iconst (v := 1) hx hb dX11_will_45 (by decide) ?_
              refine lv_icmp_ne (tgt := 60) hx hb dX11_will_46 (by decide) (fun c23 => ?_) (fun c23 => ?_)
              · skip
                have zc23 : ¬ (p3.toInt = 1) := by rw [fa_eq, show (1 : Int32).toInt = 1 from by decide] at c23; exact c23
                refine lv_iconst (v := 0) hx hb dX11_will_60 (by decide) ?_
                refine cbVi (n := 1) (rest := []) hx hb hml hown hts hE hP hD hS hA (sY_X11_goDay_1 l dC dI cy y0 r 0 v14 f14 w14 g14 hIv14 hCf14 hRf14 ) k_1795 k_1797 k_79 k_114 k_1798 (by decide +kernel) ⟨Nat.le_of_ble_eq_true rfl, Nat.le_of_ble_eq_true rfl⟩ 0 11 rfl rfl (rfl) hl.1 rfl (Nat.le_of_ble_eq_true rfl) dX11_will_61 (fun r24 u H locs hw hP hD hS => ?_)
                obtain ⟨v25, f26, w27, g28⟩ := u
                obtain ⟨ka0_f26, hIv25, hCf26, hRf26, hk0_v25, hk1_v25, hk2_v25, hk3_v25, hk4_v25, hk5_v25, hk8_v25, hk9_v25, hk10_v25, hk13_v25, hk14_v25, hk15_v25, hk17_v25, hk18_v25, hk24_v25, hk25_v25, hk35_v25, hk36_v25, hk38_v25, hk39_v25⟩ := hw
                have ha0_f26 : f26 0 = f 0 := ka0_f26.trans ha0_f14
                have hP : va_P (dC, dI) vwCl (YW cy y0 r v25 f26 w27 g28) H := hP
                have hD : va_D A (YW cy y0 r v25 f26 w27 g28) := hD
                have hUv25 : (v25 35).toInt + (v25 36).toInt ≤ 40 := hIv25.2
                have hq0_v25 : v25 0 = (v 0) := hk0_v25.trans hq0_v14
                have hq1_v25 : v25 1 = (v 1) := hk1_v25.trans hq1_v14
                have hq2_v25 : v25 2 = (v 2) := hk2_v25.trans hq2_v14
                have hq3_v25 : v25 3 = (v 3) := hk3_v25.trans hq3_v14
                have zq3_v25 := congrArg Int32.toInt hq3_v25
                have hq4_v25 : v25 4 = (v 4) := hk4_v25.trans hq4_v14
                have zq4_v25 := congrArg Int32.toInt hq4_v25
                have hq5_v25 : v25 5 = (v 5) := hk5_v25.trans hq5_v14
                have zq5_v25 := congrArg Int32.toInt hq5_v25
                have hq8_v25 : v25 8 = (v 8) := hk8_v25.trans hq8_v14
                have hq9_v25 : v25 9 = (v 9) := hk9_v25.trans hq9_v14
                have zq9_v25 := congrArg Int32.toInt hq9_v25
                have hq10_v25 : v25 10 = (v 10) := hk10_v25.trans hq10_v14
                have hq13_v25 : v25 13 = (v 13) := hk13_v25.trans hq13_v14
                have hq14_v25 : v25 14 = (v 14) := hk14_v25.trans hq14_v14
                have hq15_v25 : v25 15 = (v 15) := hk15_v25.trans hq15_v14
                have hq17_v25 : v25 17 = (v 17) := hk17_v25.trans hq17_v14
                have hq18_v25 : v25 18 = (v 18) := hk18_v25.trans hq18_v14
                have hq24_v25 : v25 24 = (v 24) := hk24_v25.trans hq24_v14
                have hq25_v25 : v25 25 = (v 25) := hk25_v25.trans hq25_v14
                have hq35_v25 : v25 35 = (v 35) := hk35_v25.trans hq35_v14
                have zq35_v25 := congrArg Int32.toInt hq35_v25
                have hq36_v25 : v25 36 = (v 36) := hk36_v25.trans hq36_v14
                have zq36_v25 := congrArg Int32.toInt hq36_v25
                have hq38_v25 : v25 38 = (v 38) := hk38_v25.trans hq38_v14
                have hq39_v25 : v25 39 = (v 39) := hk39_v25.trans hq39_v14
                refine lv_pop hx hb dX11_will_64 rfl ?_
                obtain ⟨t29, et29⟩ : ∃ y : Int32, y = l4_14 + 1 := ⟨_, rfl⟩
                have zt29 : t29.toInt = l4_14.toInt + 1 := by rw [et29]; exact add_i rfl (by decide) (by omega) (by omega)
                refine lv_iinc (v := t29) (lv' := [(4, .int t29), (0, .ref y0), (1, .int p1), (2, .int p2), (3, .int p3)]) hx hb dX11_will_65 hl (k := 0) rfl (by rw [et29]; rfl) (by decide) rfl (fun ls hl => ?_)
                refine lv_goto (tgt := 37) hx hb dX11_will_68 (by decide) ?_
                have rg30 := fb_rng t29
                exact ih14 t29 v25 f26 w27 g28 hIv25 hCf26 hRf26 hq0_v25 hq1_v25 hq2_v25 hq3_v25 hq4_v25 hq5_v25 hq8_v25 hq9_v25 hq10_v25 hq13_v25 hq14_v25 hq15_v25 hq17_v25 hq18_v25 hq24_v25 hq25_v25 hq35_v25 hq36_v25 hq38_v25 hq39_v25 ⟨show (0 : Int) ≤ t29.toInt by omega, show t29.toInt ≤ (2147483647 : Int) by omega⟩ ha0_f26 (by show (2147483647 - t29.toInt).toNat < n14; omega) _ _ _ hP hD hS (lv_sub hl [0, 1, 2, 3, 4] rfl)
              · skip
                have zc23 : p3.toInt = 1 := by rw [fa_eq, show (1 : Int32).toInt = 1 from by decide] at c23; exact c23
                refine lv_aload_n hx hb dX11_will_49 rfl (lv_at hl 1 rfl) ?_
                refine cbVi (n := 0) (rest := [.ref y0]) hx hb hml hown hts hE hP hD hS hA (sY_X11_drawRain_1 l dC dI cy y0 r  v14 f14 w14 g14 hIv14 hCf14 hRf14 ) k_1791 k_1793 k_78 k_114 k_1794 (by decide +kernel) ⟨Nat.le_of_ble_eq_true rfl, Nat.le_of_ble_eq_true rfl⟩ 0 11 rfl rfl (rfl) hl.1 rfl (Nat.le_of_ble_eq_true rfl) dX11_will_50 (fun r31 u H locs hw hP hD hS => ?_)
                obtain ⟨v32, f33, w34, g35⟩ := u
                obtain ⟨ka0_f33, hIv32, hCf33, hRf33, hk0_v32, hk1_v32, hk2_v32, hk3_v32, hk4_v32, hk5_v32, hk8_v32, hk9_v32, hk10_v32, hk13_v32, hk14_v32, hk15_v32, hk17_v32, hk18_v32, hk24_v32, hk25_v32, hk35_v32, hk36_v32, hk38_v32, hk39_v32, hw⟩ := hw
                have ha0_f33 : f33 0 = f 0 := ka0_f33.trans ha0_f14
                have hP : va_P (dC, dI) vwCl (YW cy y0 r v32 f33 w34 g35) H := hP
                have hD : va_D A (YW cy y0 r v32 f33 w34 g35) := hD
                have hUv32 : (v32 35).toInt + (v32 36).toInt ≤ 40 := hIv32.2
                have hq0_v32 : v32 0 = (v 0) := hk0_v32.trans hq0_v14
                have hq1_v32 : v32 1 = (v 1) := hk1_v32.trans hq1_v14
                have hq2_v32 : v32 2 = (v 2) := hk2_v32.trans hq2_v14
                have hq3_v32 : v32 3 = (v 3) := hk3_v32.trans hq3_v14
                have zq3_v32 := congrArg Int32.toInt hq3_v32
                have hq4_v32 : v32 4 = (v 4) := hk4_v32.trans hq4_v14
                have zq4_v32 := congrArg Int32.toInt hq4_v32
                have hq5_v32 : v32 5 = (v 5) := hk5_v32.trans hq5_v14
                have zq5_v32 := congrArg Int32.toInt hq5_v32
                have hq8_v32 : v32 8 = (v 8) := hk8_v32.trans hq8_v14
                have hq9_v32 : v32 9 = (v 9) := hk9_v32.trans hq9_v14
                have zq9_v32 := congrArg Int32.toInt hq9_v32
                have hq10_v32 : v32 10 = (v 10) := hk10_v32.trans hq10_v14
                have hq13_v32 : v32 13 = (v 13) := hk13_v32.trans hq13_v14
                have hq14_v32 : v32 14 = (v 14) := hk14_v32.trans hq14_v14
                have hq15_v32 : v32 15 = (v 15) := hk15_v32.trans hq15_v14
                have hq17_v32 : v32 17 = (v 17) := hk17_v32.trans hq17_v14
                have hq18_v32 : v32 18 = (v 18) := hk18_v32.trans hq18_v14
                have hq24_v32 : v32 24 = (v 24) := hk24_v32.trans hq24_v14
                have hq25_v32 : v32 25 = (v 25) := hk25_v32.trans hq25_v14
                have hq35_v32 : v32 35 = (v 35) := hk35_v32.trans hq35_v14
                have zq35_v32 := congrArg Int32.toInt hq35_v32
                have hq36_v32 : v32 36 = (v 36) := hk36_v32.trans hq36_v14
                have zq36_v32 := congrArg Int32.toInt hq36_v32
                have hq38_v32 : v32 38 = (v 38) := hk38_v32.trans hq38_v14
                have hq39_v32 : v32 39 = (v 39) := hk39_v32.trans hq39_v14
                rcases hw with ⟨g36⟩ | ⟨g36⟩
                · skip
                  subst g36
                  refine lv_if_eq (tgt := 60) hx hb dX11_will_53 (by decide) (fun c0 => absurd c0 (by decide)) (fun _ => ?_)
                  refine lv_iconst (v := 1) hx hb dX11_will_56 (by decide) ?_
                  refine lv_goto (tgt := 61) hx hb dX11_will_57 (by decide) ?_
                  refine cbVi (n := 1) (rest := []) hx hb hml hown hts hE hP hD hS hA (sY_X11_goDay_1 l dC dI cy y0 r 1 v32 f33 w34 g35 hIv32 hCf33 hRf33 ) k_1795 k_1797 k_79 k_114 k_1798 (by decide +kernel) ⟨Nat.le_of_ble_eq_true rfl, Nat.le_of_ble_eq_true rfl⟩ 0 11 rfl rfl (rfl) hl.1 rfl (Nat.le_of_ble_eq_true rfl) dX11_will_61 (fun r37 u H locs hw hP hD hS => ?_)
                  obtain ⟨v38, f39, w40, g41⟩ := u
                  obtain ⟨ka0_f39, hIv38, hCf39, hRf39, hk0_v38, hk1_v38, hk2_v38, hk3_v38, hk4_v38, hk5_v38, hk8_v38, hk9_v38, hk10_v38, hk13_v38, hk14_v38, hk15_v38, hk17_v38, hk18_v38, hk24_v38, hk25_v38, hk35_v38, hk36_v38, hk38_v38, hk39_v38⟩ := hw
                  have ha0_f39 : f39 0 = f 0 := ka0_f39.trans ha0_f33
                  have hP : va_P (dC, dI) vwCl (YW cy y0 r v38 f39 w40 g41) H := hP
                  have hD : va_D A (YW cy y0 r v38 f39 w40 g41) := hD
                  have hUv38 : (v38 35).toInt + (v38 36).toInt ≤ 40 := hIv38.2
                  have hq0_v38 : v38 0 = (v 0) := hk0_v38.trans hq0_v32
                  have hq1_v38 : v38 1 = (v 1) := hk1_v38.trans hq1_v32
                  have hq2_v38 : v38 2 = (v 2) := hk2_v38.trans hq2_v32
                  have hq3_v38 : v38 3 = (v 3) := hk3_v38.trans hq3_v32
                  have zq3_v38 := congrArg Int32.toInt hq3_v38
                  have hq4_v38 : v38 4 = (v 4) := hk4_v38.trans hq4_v32
                  have zq4_v38 := congrArg Int32.toInt hq4_v38
                  have hq5_v38 : v38 5 = (v 5) := hk5_v38.trans hq5_v32
                  have zq5_v38 := congrArg Int32.toInt hq5_v38
                  have hq8_v38 : v38 8 = (v 8) := hk8_v38.trans hq8_v32
                  have hq9_v38 : v38 9 = (v 9) := hk9_v38.trans hq9_v32
                  have zq9_v38 := congrArg Int32.toInt hq9_v38
                  have hq10_v38 : v38 10 = (v 10) := hk10_v38.trans hq10_v32
                  have hq13_v38 : v38 13 = (v 13) := hk13_v38.trans hq13_v32
                  have hq14_v38 : v38 14 = (v 14) := hk14_v38.trans hq14_v32
                  have hq15_v38 : v38 15 = (v 15) := hk15_v38.trans hq15_v32
                  have hq17_v38 : v38 17 = (v 17) := hk17_v38.trans hq17_v32
                  have hq18_v38 : v38 18 = (v 18) := hk18_v38.trans hq18_v32
                  have hq24_v38 : v38 24 = (v 24) := hk24_v38.trans hq24_v32
                  have hq25_v38 : v38 25 = (v 25) := hk25_v38.trans hq25_v32
                  have hq35_v38 : v38 35 = (v 35) := hk35_v38.trans hq35_v32
                  have zq35_v38 := congrArg Int32.toInt hq35_v38
                  have hq36_v38 : v38 36 = (v 36) := hk36_v38.trans hq36_v32
                  have zq36_v38 := congrArg Int32.toInt hq36_v38
                  have hq38_v38 : v38 38 = (v 38) := hk38_v38.trans hq38_v32
                  have hq39_v38 : v38 39 = (v 39) := hk39_v38.trans hq39_v32
                  refine lv_pop hx hb dX11_will_64 rfl ?_
                  obtain ⟨t42, et42⟩ : ∃ y : Int32, y = l4_14 + 1 := ⟨_, rfl⟩
                  have zt42 : t42.toInt = l4_14.toInt + 1 := by rw [et42]; exact add_i rfl (by decide) (by omega) (by omega)
                  refine lv_iinc (v := t42) (lv' := [(4, .int t42), (0, .ref y0), (1, .int p1), (2, .int p2), (3, .int p3)]) hx hb dX11_will_65 hl (k := 0) rfl (by rw [et42]; rfl) (by decide) rfl (fun ls hl => ?_)
                  refine lv_goto (tgt := 37) hx hb dX11_will_68 (by decide) ?_
                  have rg43 := fb_rng t42
                  exact ih14 t42 v38 f39 w40 g41 hIv38 hCf39 hRf39 hq0_v38 hq1_v38 hq2_v38 hq3_v38 hq4_v38 hq5_v38 hq8_v38 hq9_v38 hq10_v38 hq13_v38 hq14_v38 hq15_v38 hq17_v38 hq18_v38 hq24_v38 hq25_v38 hq35_v38 hq36_v38 hq38_v38 hq39_v38 ⟨show (0 : Int) ≤ t42.toInt by omega, show t42.toInt ≤ (2147483647 : Int) by omega⟩ ha0_f39 (by show (2147483647 - t42.toInt).toNat < n14; omega) _ _ _ hP hD hS (lv_sub hl [0, 1, 2, 3, 4] rfl)
                · skip
                  subst g36
                  refine lv_if_eq (tgt := 60) hx hb dX11_will_53 (by decide) (fun _ => ?_) (fun c0 => absurd (by decide) c0)
                  refine lv_iconst (v := 0) hx hb dX11_will_60 (by decide) ?_
                  refine cbVi (n := 1) (rest := []) hx hb hml hown hts hE hP hD hS hA (sY_X11_goDay_1 l dC dI cy y0 r 0 v32 f33 w34 g35 hIv32 hCf33 hRf33 ) k_1795 k_1797 k_79 k_114 k_1798 (by decide +kernel) ⟨Nat.le_of_ble_eq_true rfl, Nat.le_of_ble_eq_true rfl⟩ 0 11 rfl rfl (rfl) hl.1 rfl (Nat.le_of_ble_eq_true rfl) dX11_will_61 (fun r44 u H locs hw hP hD hS => ?_)
                  obtain ⟨v45, f46, w47, g48⟩ := u
                  obtain ⟨ka0_f46, hIv45, hCf46, hRf46, hk0_v45, hk1_v45, hk2_v45, hk3_v45, hk4_v45, hk5_v45, hk8_v45, hk9_v45, hk10_v45, hk13_v45, hk14_v45, hk15_v45, hk17_v45, hk18_v45, hk24_v45, hk25_v45, hk35_v45, hk36_v45, hk38_v45, hk39_v45⟩ := hw
                  have ha0_f46 : f46 0 = f 0 := ka0_f46.trans ha0_f33
                  have hP : va_P (dC, dI) vwCl (YW cy y0 r v45 f46 w47 g48) H := hP
                  have hD : va_D A (YW cy y0 r v45 f46 w47 g48) := hD
                  have hUv45 : (v45 35).toInt + (v45 36).toInt ≤ 40 := hIv45.2
                  have hq0_v45 : v45 0 = (v 0) := hk0_v45.trans hq0_v32
                  have hq1_v45 : v45 1 = (v 1) := hk1_v45.trans hq1_v32
                  have hq2_v45 : v45 2 = (v 2) := hk2_v45.trans hq2_v32
                  have hq3_v45 : v45 3 = (v 3) := hk3_v45.trans hq3_v32
                  have zq3_v45 := congrArg Int32.toInt hq3_v45
                  have hq4_v45 : v45 4 = (v 4) := hk4_v45.trans hq4_v32
                  have zq4_v45 := congrArg Int32.toInt hq4_v45
                  have hq5_v45 : v45 5 = (v 5) := hk5_v45.trans hq5_v32
                  have zq5_v45 := congrArg Int32.toInt hq5_v45
                  have hq8_v45 : v45 8 = (v 8) := hk8_v45.trans hq8_v32
                  have hq9_v45 : v45 9 = (v 9) := hk9_v45.trans hq9_v32
                  have zq9_v45 := congrArg Int32.toInt hq9_v45
                  have hq10_v45 : v45 10 = (v 10) := hk10_v45.trans hq10_v32
                  have hq13_v45 : v45 13 = (v 13) := hk13_v45.trans hq13_v32
                  have hq14_v45 : v45 14 = (v 14) := hk14_v45.trans hq14_v32
                  have hq15_v45 : v45 15 = (v 15) := hk15_v45.trans hq15_v32
                  have hq17_v45 : v45 17 = (v 17) := hk17_v45.trans hq17_v32
                  have hq18_v45 : v45 18 = (v 18) := hk18_v45.trans hq18_v32
                  have hq24_v45 : v45 24 = (v 24) := hk24_v45.trans hq24_v32
                  have hq25_v45 : v45 25 = (v 25) := hk25_v45.trans hq25_v32
                  have hq35_v45 : v45 35 = (v 35) := hk35_v45.trans hq35_v32
                  have zq35_v45 := congrArg Int32.toInt hq35_v45
                  have hq36_v45 : v45 36 = (v 36) := hk36_v45.trans hq36_v32
                  have zq36_v45 := congrArg Int32.toInt hq36_v45
                  have hq38_v45 : v45 38 = (v 38) := hk38_v45.trans hq38_v32
                  have hq39_v45 : v45 39 = (v 39) := hk39_v45.trans hq39_v32
                  refine lv_pop hx hb dX11_will_64 rfl ?_
                  obtain ⟨t49, et49⟩ : ∃ y : Int32, y = l4_14 + 1 := ⟨_, rfl⟩
                  have zt49 : t49.toInt = l4_14.toInt + 1 := by rw [et49]; exact add_i rfl (by decide) (by omega) (by omega)
                  refine lv_iinc (v := t49) (lv' := [(4, .int t49), (0, .ref y0), (1, .int p1), (2, .int p2), (3, .int p3)]) hx hb dX11_will_65 hl (k := 0) rfl (by rw [et49]; rfl) (by decide) rfl (fun ls hl => ?_)
                  refine lv_goto (tgt := 37) hx hb dX11_will_68 (by decide) ?_
                  have rg50 := fb_rng t49
                  exact ih14 t49 v45 f46 w47 g48 hIv45 hCf46 hRf46 hq0_v45 hq1_v45 hq2_v45 hq3_v45 hq4_v45 hq5_v45 hq8_v45 hq9_v45 hq10_v45 hq13_v45 hq14_v45 hq15_v45 hq17_v45 hq18_v45 hq24_v45 hq25_v45 hq35_v45 hq36_v45 hq38_v45 hq39_v45 ⟨show (0 : Int) ≤ t49.toInt by omega, show t49.toInt ≤ (2147483647 : Int) by omega⟩ ha0_f46 (by show (2147483647 - t49.toInt).toNat < n14; omega) _ _ _ hP hD hS (lv_sub hl [0, 1, 2, 3, 4] rfl)
        exact lp14 _ 0 v10 f11 w12 g13 hIv10 hCf11 hRf11 hq0_v10 hq1_v10 hq2_v10 hq3_v10 hq4_v10 hq5_v10 hq8_v10 hq9_v10 hq10_v10 hq13_v10 hq14_v10 hq15_v10 hq17_v10 hq18_v10 hq24_v10 hq25_v10 hq35_v10 hq36_v10 hq38_v10 hq39_v10 ⟨by decide, by decide⟩ ha0_f11 (Nat.lt_succ_self _) _ _ _ hP hD hS (lv_sub hl [0, 1, 2, 3, 4] rfl)
      · skip
        subst g9
        refine lv_if_ne (tgt := 30) hx hb dX11_will_24 (by decide) (fun c0 => absurd (by decide) c0) (fun _ => ?_)
        refine lv_bipush (v := (-2)) hx hb dX11_will_27 (by decide) ?_
        exact ret (-2) (v, f, w, g) _ _ _ _ _ _ rfl ⟨ha0_f, hIv, hCf, hRf, rfl, rfl, rfl, rfl, rfl, rfl, rfl, rfl, rfl, rfl, rfl, rfl, rfl, rfl, rfl, rfl, rfl, rfl, rfl, rfl⟩ hP hD hS dX11_will_29 (Nat.le_refl _) (Nat.le_refl _)
    · skip
      subst g6
      refine lv_if_eq (tgt := 27) hx hb dX11_will_15 (by decide) (fun _ => ?_) (fun c0 => absurd (by decide) c0)
      refine lv_bipush (v := (-2)) hx hb dX11_will_27 (by decide) ?_
      exact ret (-2) (v, f, w, g) _ _ _ _ _ _ rfl ⟨ha0_f, hIv, hCf, hRf, rfl, rfl, rfl, rfl, rfl, rfl, rfl, rfl, rfl, rfl, rfl, rfl, rfl, rfl, rfl, rfl, rfl, rfl, rfl, rfl⟩ hP hD hS dX11_will_29 (Nat.le_refl _) (Nat.le_refl _)
  · skip
    subst g2
    refine lv_if_eq (tgt := 27) hx hb dX11_will_5 (by decide) (fun _ => ?_) (fun c0 => absurd (by decide) c0)
    refine lv_bipush (v := (-2)) hx hb dX11_will_27 (by decide) ?_
    exact ret (-2) (v, f, w, g) _ _ _ _ _ _ rfl ⟨ha0_f, hIv, hCf, hRf, rfl, rfl, rfl, rfl, rfl, rfl, rfl, rfl, rfl, rfl, rfl, rfl, rfl, rfl, rfl, rfl, rfl, rfl, rfl, rfl⟩ hP hD hS dX11_will_29 (Nat.le_refl _) (Nat.le_refl _)
set_option maxHeartbeats 4000000 in
set_option maxRecDepth 100000 in
theorem sY_X11_out_1 (l : Launch) (dC : Nat → ClassId) (dI : Nat → Nat → Nat) (cy : Nat → ClassId) (y0 : Nat) (r : Nat → Nat) (p1 : Int32) (v : Nat → Int32) (f : Nat → Nat → Int32) (w : Int64) (g : Nat → Int64) (hIv : YI v) (hCf : YC f) (hRf : progOK (f 4) (f 5) (v 9).toInt.toNat)  : ctI l (dC, dI) cy yX11_out cX11_out 3 .int 8 214 0 0 ((Nat → Int32) × (Nat → Nat → Int32) × (Int64) × (Nat → Int64)) [.ref y0, .int p1] (YW cy y0 r v f w g) (fun r u => u.2.1 0 = f 0 ∧ YI u.1 ∧ YC u.2.1 ∧ progOK (u.2.1 4) (u.2.1 5) (u.1 9).toInt.toNat ∧ u.1 0 = v 0 ∧ u.1 1 = v 1 ∧ u.1 2 = v 2 ∧ u.1 3 = v 3 ∧ u.1 4 = v 4 ∧ u.1 5 = v 5 ∧ u.1 8 = v 8 ∧ u.1 9 = v 9 ∧ u.1 10 = v 10 ∧ u.1 13 = v 13 ∧ u.1 14 = v 14 ∧ u.1 15 = v 15 ∧ u.1 17 = v 17 ∧ u.1 18 = v 18 ∧ u.1 24 = v 24 ∧ u.1 25 = v 25 ∧ u.1 35 = v 35 ∧ u.1 36 = v 36 ∧ u.1 38 = v 38 ∧ u.1 39 = v 39) (fun u => YW cy y0 r u.1 u.2.1 u.2.2.1 u.2.2.2) := by
  refine ctI_of (by decide) (Nat.le_of_ble_eq_true rfl) (fun p e s m below meth c A ls Q hx hb hml hts hown hE hP hD hA hl ret => ?_)
  have hUv : (v 35).toInt + (v 36).toInt ≤ 40 := hIv.2
  have ha0_f : f 0 = f 0 := rfl
  have hown : s.vm.findClass RX11 = some m.cls := hown
  have hS : va_S A s.heap s.heap [] := va_S.rf
  have hl : lv_has ls 3 [(0, .ref y0), (1, .int p1)] := hl
  refine lv_aload_n hx hb dX11_out_0 rfl (lv_at hl 0 rfl) ?_
  refine lv_iload_n hx hb dX11_out_1 rfl (lv_at hl 1 rfl) ?_
  refine cbVi (n := 1) (rest := []) hx hb hml hown hts hE hP hD hS hA (sY_X11_isMan_1 l dC dI cy y0 r p1 v f w g hIv hCf hRf ) k_1732 k_1734 k_70 k_114 k_1735 (by decide +kernel) ⟨Nat.le_of_ble_eq_true rfl, Nat.le_of_ble_eq_true rfl⟩ 0 11 rfl rfl (rfl) hl.1 rfl (Nat.le_of_ble_eq_true rfl) dX11_out_2 (fun r1 u H locs hw hP hD hS => ?_)
  rcases hw with ⟨g2, g2_0, g2_1, g2_2⟩ | ⟨g2⟩
  · skip
    subst g2
    refine lv_if_ne (tgt := 10) hx hb dX11_out_5 (by decide) (fun _ => ?_) (fun c0 => absurd c0 (by decide))
    refine lv_aload_n hx hb dX11_out_10 rfl (lv_at hl 0 rfl) ?_
    refine cbVv (n := 0) (rest := []) hx hb hml hown hts hE hP hD hS hA (sY_X11_fill_1 l dC dI cy y0 r  v f w g hIv hCf hRf ) k_1739 k_1741 k_71 k_114 k_1742 (by decide +kernel) ⟨Nat.le_of_ble_eq_true rfl, Nat.le_of_ble_eq_true rfl⟩ 0 11 rfl rfl (rfl) hl.1 rfl (Nat.le_of_ble_eq_true rfl) dX11_out_11 (fun u H locs hw hP hD hS => ?_)
    obtain ⟨v3, f4, w5, g6⟩ := u
    obtain ⟨ka0_f4, hIv3, hCf4, hRf4, hk0_v3, hk1_v3, hk2_v3, hk3_v3, hk4_v3, hk5_v3, hk8_v3, hk9_v3, hk10_v3, hk13_v3, hk14_v3, hk15_v3, hk17_v3, hk18_v3, hk24_v3, hk25_v3, hk35_v3, hk36_v3, hk38_v3, hk39_v3⟩ := hw
    have ha0_f4 : f4 0 = f 0 := ka0_f4.trans ha0_f
    have hP : va_P (dC, dI) vwCl (YW cy y0 r v3 f4 w5 g6) H := hP
    have hD : va_D A (YW cy y0 r v3 f4 w5 g6) := hD
    have hUv3 : (v3 35).toInt + (v3 36).toInt ≤ 40 := hIv3.2
    have hq0_v3 : v3 0 = (v 0) := hk0_v3
    have hq1_v3 : v3 1 = (v 1) := hk1_v3
    have hq2_v3 : v3 2 = (v 2) := hk2_v3
    have hq3_v3 : v3 3 = (v 3) := hk3_v3
    have zq3_v3 := congrArg Int32.toInt hq3_v3
    have hq4_v3 : v3 4 = (v 4) := hk4_v3
    have zq4_v3 := congrArg Int32.toInt hq4_v3
    have hq5_v3 : v3 5 = (v 5) := hk5_v3
    have zq5_v3 := congrArg Int32.toInt hq5_v3
    have hq8_v3 : v3 8 = (v 8) := hk8_v3
    have hq9_v3 : v3 9 = (v 9) := hk9_v3
    have zq9_v3 := congrArg Int32.toInt hq9_v3
    have hq10_v3 : v3 10 = (v 10) := hk10_v3
    have hq13_v3 : v3 13 = (v 13) := hk13_v3
    have hq14_v3 : v3 14 = (v 14) := hk14_v3
    have hq15_v3 : v3 15 = (v 15) := hk15_v3
    have hq17_v3 : v3 17 = (v 17) := hk17_v3
    have hq18_v3 : v3 18 = (v 18) := hk18_v3
    have hq24_v3 : v3 24 = (v 24) := hk24_v3
    have hq25_v3 : v3 25 = (v 25) := hk25_v3
    have hq35_v3 : v3 35 = (v 35) := hk35_v3
    have zq35_v3 := congrArg Int32.toInt hq35_v3
    have hq36_v3 : v3 36 = (v 36) := hk36_v3
    have zq36_v3 := congrArg Int32.toInt hq36_v3
    have hq38_v3 : v3 38 = (v 38) := hk38_v3
    have hq39_v3 : v3 39 = (v 39) := hk39_v3
    refine lv_iconst (v := 0) hx hb dX11_out_14 (by decide) ?_
    refine lv_istore_n (lv' := [(2, .int 0), (0, .ref y0), (1, .int p1)]) hx hb dX11_out_15 rfl hl (by decide) rfl (fun ls hl => ?_)
    have lp7 : ∀ (n7 : Nat) (l2_7 : Int32) (v7 : Nat → Int32) (f7 : Nat → Nat → Int32) (w7 : Int64) (g7 : Nat → Int64), YI v7 → YC f7 → progOK (f7 4) (f7 5) (v7 9).toInt.toNat → v7 0 = (v 0) → v7 1 = (v 1) → v7 2 = (v 2) → v7 3 = (v 3) → v7 4 = (v 4) → v7 5 = (v 5) → v7 8 = (v 8) → v7 9 = (v 9) → v7 10 = (v 10) → v7 13 = (v 13) → v7 14 = (v 14) → v7 15 = (v 15) → v7 17 = (v 17) → v7 18 = (v 18) → v7 24 = (v 24) → v7 25 = (v 25) → v7 35 = (v 35) → v7 36 = (v 36) → v7 38 = (v 38) → v7 39 = (v 39) → ((0 : Int) ≤ l2_7.toInt ∧ l2_7.toInt ≤ 2147483647) → f7 0 = f 0 → (2147483647 - l2_7.toInt).toNat < n7 → ∀ (H : Heap) (locs : List Loc) (ls : Array Slot), va_P (dC, dI) vwCl (YW cy y0 r v7 f7 w7 g7) H → va_D A (YW cy y0 r v7 f7 w7 g7) → va_S A s.heap H locs → lv_has ls 3 [(2, .int l2_7), (0, .ref y0), (1, .int p1)] → W p l e { frames := 8, cells := 0, slots := 0, locals := 214 } s m ([.ref y0, .int p1] : List Value).toArray below meth c H locs 0 0 Q (F0 m 16 ls []) := by
      intro n7
      induction n7 with
      | zero => intro l2_7 v7 f7 w7 g7 hIv7 hCf7 hRf7 hq0_v7 hq1_v7 hq2_v7 hq3_v7 hq4_v7 hq5_v7 hq8_v7 hq9_v7 hq10_v7 hq13_v7 hq14_v7 hq15_v7 hq17_v7 hq18_v7 hq24_v7 hq25_v7 hq35_v7 hq36_v7 hq38_v7 hq39_v7 hr2_7 ha0_f7 hm; exact absurd hm (Nat.not_lt_zero _)
      | succ n7 ih7 =>
        intro l2_7 v7 f7 w7 g7 hIv7 hCf7 hRf7 hq0_v7 hq1_v7 hq2_v7 hq3_v7 hq4_v7 hq5_v7 hq8_v7 hq9_v7 hq10_v7 hq13_v7 hq14_v7 hq15_v7 hq17_v7 hq18_v7 hq24_v7 hq25_v7 hq35_v7 hq36_v7 hq38_v7 hq39_v7 hr2_7 ha0_f7 hm7 H locs ls hP hD hS hl
        have hUv7 : (v7 35).toInt + (v7 36).toInt ≤ 40 := hIv7.2
        have zq3_v7 := congrArg Int32.toInt hq3_v7
        have zq4_v7 := congrArg Int32.toInt hq4_v7
        have zq5_v7 := congrArg Int32.toInt hq5_v7
        have zq9_v7 := congrArg Int32.toInt hq9_v7
        have zq35_v7 := congrArg Int32.toInt hq35_v7
        have zq36_v7 := congrArg Int32.toInt hq36_v7
        refine lv_iload_n hx hb dX11_out_16 rfl (lv_at hl 0 rfl) ?_
        refine lv_bipush (v := 60) hx hb dX11_out_17 (by decide) ?_
        refine lv_icmp_gt (tgt := 48) hx hb dX11_out_19 (by decide) (fun c8 => ?_) (fun c8 => ?_)
        · skip
          have zc8 : 60 < l2_7.toInt := by rw [fa_lt, show (60 : Int32).toInt = 60 from by decide] at c8; exact c8
          refine lv_iconst (v := (-1)) hx hb dX11_out_48 (by decide) ?_
          exact ret (-1) (v7, f7, w7, g7) _ _ _ _ _ _ rfl ⟨ha0_f7, hIv7, hCf7, hRf7, hq0_v7, hq1_v7, hq2_v7, hq3_v7, hq4_v7, hq5_v7, hq8_v7, hq9_v7, hq10_v7, hq13_v7, hq14_v7, hq15_v7, hq17_v7, hq18_v7, hq24_v7, hq25_v7, hq35_v7, hq36_v7, hq38_v7, hq39_v7⟩ hP hD hS dX11_out_49 (Nat.le_refl _) (Nat.le_refl _)
        · skip
          have zc8 : ¬ (60 < l2_7.toInt) := by rw [fa_lt, show (60 : Int32).toInt = 60 from by decide] at c8; exact c8
          refine lv_aload_n hx hb dX11_out_22 rfl (lv_at hl 1 rfl) ?_
          refine va_get (D := (dC, dI)) (ci := 11) (v := .ref (r 60)) (C := RX11) (T := TX11) (N := 79) hx hb hts inB_11 hown hE.1 hP 0 rfl rfl 60 (by decide) (hts _ k_1380) (fun _ h9 => h9) rfl dX11_out_23 ?_
          refine lv_bipush (v := 6) hx hb dX11_out_26 (by decide) ?_
          refine lv_iload_n hx hb dX11_out_28 rfl (lv_at hl 2 rfl) ?_
          refine lv_iadd hx hb dX11_out_29 ?_
          refine lv_topi (fun t9 et9 => ?_)
          have rg10 := fb_rng p1
          have zt9 : t9.toInt = 6 + p1.toInt := by rw [et9]; exact add_i (by decide) rfl (by omega) (by omega)
          refine ldI hx hb hE hP 25 rfl (vp_in_iff.mpr ⟨by omega, by omega⟩) rfl rfl dX11_out_30 ?_
          refine lv_topi (fun t11 et11 => ?_)
          have zt11 : t9.toInt.toNat % 39 < 6 ∨ 12 ≤ t9.toInt.toNat % 39 ∨ (-1 ≤ t11.toInt ∧ t11.toInt ≤ 5) := by rw [et11]; exact wear_ld hCf7.2.1 (show t9.toInt.toNat < 39 by omega)
          refine lv_if_ge (tgt := 36) hx hb dX11_out_31 (by decide) (fun c12 => ?_) (fun c12 => ?_)
          · skip
            have zc12 : 0 ≤ t11.toInt := by rw [fa_le, show (0 : Int32).toInt = 0 from by decide] at c12; exact c12
            refine lv_aload_n hx hb dX11_out_36 rfl (lv_at hl 1 rfl) ?_
            refine lv_iconst (v := 0) hx hb dX11_out_37 (by decide) ?_
            refine cbVi (n := 1) (rest := []) hx hb hml hown hts hE hP hD hS hA (sY_X11_goDay_1 l dC dI cy y0 r 0 v7 f7 w7 g7 hIv7 hCf7 hRf7 ) k_1795 k_1797 k_79 k_114 k_1798 (by decide +kernel) ⟨Nat.le_of_ble_eq_true rfl, Nat.le_of_ble_eq_true rfl⟩ 0 11 rfl rfl (rfl) hl.1 rfl (Nat.le_of_ble_eq_true rfl) dX11_out_38 (fun r13 u H locs hw hP hD hS => ?_)
            obtain ⟨v14, f15, w16, g17⟩ := u
            obtain ⟨ka0_f15, hIv14, hCf15, hRf15, hk0_v14, hk1_v14, hk2_v14, hk3_v14, hk4_v14, hk5_v14, hk8_v14, hk9_v14, hk10_v14, hk13_v14, hk14_v14, hk15_v14, hk17_v14, hk18_v14, hk24_v14, hk25_v14, hk35_v14, hk36_v14, hk38_v14, hk39_v14⟩ := hw
            have ha0_f15 : f15 0 = f 0 := ka0_f15.trans ha0_f7
            have hP : va_P (dC, dI) vwCl (YW cy y0 r v14 f15 w16 g17) H := hP
            have hD : va_D A (YW cy y0 r v14 f15 w16 g17) := hD
            have hUv14 : (v14 35).toInt + (v14 36).toInt ≤ 40 := hIv14.2
            have hq0_v14 : v14 0 = (v 0) := hk0_v14.trans hq0_v7
            have hq1_v14 : v14 1 = (v 1) := hk1_v14.trans hq1_v7
            have hq2_v14 : v14 2 = (v 2) := hk2_v14.trans hq2_v7
            have hq3_v14 : v14 3 = (v 3) := hk3_v14.trans hq3_v7
            have zq3_v14 := congrArg Int32.toInt hq3_v14
            have hq4_v14 : v14 4 = (v 4) := hk4_v14.trans hq4_v7
            have zq4_v14 := congrArg Int32.toInt hq4_v14
            have hq5_v14 : v14 5 = (v 5) := hk5_v14.trans hq5_v7
            have zq5_v14 := congrArg Int32.toInt hq5_v14
            have hq8_v14 : v14 8 = (v 8) := hk8_v14.trans hq8_v7
            have hq9_v14 : v14 9 = (v 9) := hk9_v14.trans hq9_v7
            have zq9_v14 := congrArg Int32.toInt hq9_v14
            have hq10_v14 : v14 10 = (v 10) := hk10_v14.trans hq10_v7
            have hq13_v14 : v14 13 = (v 13) := hk13_v14.trans hq13_v7
            have hq14_v14 : v14 14 = (v 14) := hk14_v14.trans hq14_v7
            have hq15_v14 : v14 15 = (v 15) := hk15_v14.trans hq15_v7
            have hq17_v14 : v14 17 = (v 17) := hk17_v14.trans hq17_v7
            have hq18_v14 : v14 18 = (v 18) := hk18_v14.trans hq18_v7
            have hq24_v14 : v14 24 = (v 24) := hk24_v14.trans hq24_v7
            have hq25_v14 : v14 25 = (v 25) := hk25_v14.trans hq25_v7
            have hq35_v14 : v14 35 = (v 35) := hk35_v14.trans hq35_v7
            have zq35_v14 := congrArg Int32.toInt hq35_v14
            have hq36_v14 : v14 36 = (v 36) := hk36_v14.trans hq36_v7
            have zq36_v14 := congrArg Int32.toInt hq36_v14
            have hq38_v14 : v14 38 = (v 38) := hk38_v14.trans hq38_v7
            have hq39_v14 : v14 39 = (v 39) := hk39_v14.trans hq39_v7
            refine lv_pop hx hb dX11_out_41 rfl ?_
            obtain ⟨t18, et18⟩ : ∃ y : Int32, y = l2_7 + 1 := ⟨_, rfl⟩
            have rg19 := fb_rng l2_7
            have zt18 : t18.toInt = l2_7.toInt + 1 := by rw [et18]; exact add_i rfl (by decide) (by omega) (by omega)
            refine lv_iinc (v := t18) (lv' := [(2, .int t18), (0, .ref y0), (1, .int p1)]) hx hb dX11_out_42 hl (k := 0) rfl (by rw [et18]; rfl) (by decide) rfl (fun ls hl => ?_)
            refine lv_goto (tgt := 16) hx hb dX11_out_45 (by decide) ?_
            have rg20 := fb_rng t18
            exact ih7 t18 v14 f15 w16 g17 hIv14 hCf15 hRf15 hq0_v14 hq1_v14 hq2_v14 hq3_v14 hq4_v14 hq5_v14 hq8_v14 hq9_v14 hq10_v14 hq13_v14 hq14_v14 hq15_v14 hq17_v14 hq18_v14 hq24_v14 hq25_v14 hq35_v14 hq36_v14 hq38_v14 hq39_v14 ⟨show (0 : Int) ≤ t18.toInt by omega, show t18.toInt ≤ (2147483647 : Int) by omega⟩ ha0_f15 (by show (2147483647 - t18.toInt).toNat < n7; omega) _ _ _ hP hD hS (lv_sub hl [0, 1, 2] rfl)
          · skip
            have zc12 : ¬ (0 ≤ t11.toInt) := by rw [fa_le, show (0 : Int32).toInt = 0 from by decide] at c12; exact c12
            refine lv_iload_n hx hb dX11_out_34 rfl (lv_at hl 0 rfl) ?_
            exact ret l2_7 (v7, f7, w7, g7) _ _ _ _ _ _ rfl ⟨ha0_f7, hIv7, hCf7, hRf7, hq0_v7, hq1_v7, hq2_v7, hq3_v7, hq4_v7, hq5_v7, hq8_v7, hq9_v7, hq10_v7, hq13_v7, hq14_v7, hq15_v7, hq17_v7, hq18_v7, hq24_v7, hq25_v7, hq35_v7, hq36_v7, hq38_v7, hq39_v7⟩ hP hD hS dX11_out_35 (Nat.le_refl _) (Nat.le_refl _)
    exact lp7 _ 0 v3 f4 w5 g6 hIv3 hCf4 hRf4 hq0_v3 hq1_v3 hq2_v3 hq3_v3 hq4_v3 hq5_v3 hq8_v3 hq9_v3 hq10_v3 hq13_v3 hq14_v3 hq15_v3 hq17_v3 hq18_v3 hq24_v3 hq25_v3 hq35_v3 hq36_v3 hq38_v3 hq39_v3 ⟨by decide, by decide⟩ ha0_f4 (Nat.lt_succ_self _) _ _ _ hP hD hS (lv_sub hl [0, 1, 2] rfl)
  · skip
    subst g2
    refine lv_if_ne (tgt := 10) hx hb dX11_out_5 (by decide) (fun c0 => absurd (by decide) c0) (fun _ => ?_)
    refine lv_iconst (v := (-1)) hx hb dX11_out_8 (by decide) ?_
    exact ret (-1) (v, f, w, g) _ _ _ _ _ _ rfl ⟨ha0_f, hIv, hCf, hRf, rfl, rfl, rfl, rfl, rfl, rfl, rfl, rfl, rfl, rfl, rfl, rfl, rfl, rfl, rfl, rfl, rfl, rfl, rfl, rfl⟩ hP hD hS dX11_out_9 (Nat.le_refl _) (Nat.le_refl _)
set_option maxHeartbeats 4000000 in
set_option maxRecDepth 100000 in
theorem sY_X11_fitted_1 (l : Launch) (dC : Nat → ClassId) (dI : Nat → Nat → Nat) (cy : Nat → ClassId) (y0 : Nat) (r : Nat → Nat)  (v : Nat → Int32) (f : Nat → Nat → Int32) (w : Int64) (g : Nat → Int64) (hIv : YI v) (hCf : YC f) (hRf : progOK (f 4) (f 5) (v 9).toInt.toNat)  : ctI l (dC, dI) cy yX11_fitted cX11_fitted 1 .int 7 191 0 0 ((Nat → Int32) × (Nat → Nat → Int32) × (Int64) × (Nat → Int64)) [.ref y0] (YW cy y0 r v f w g) (fun r u => u.2.1 0 = f 0 ∧ YI u.1 ∧ YC u.2.1 ∧ progOK (u.2.1 4) (u.2.1 5) (u.1 9).toInt.toNat ∧ u.1 0 = v 0 ∧ u.1 1 = v 1 ∧ u.1 2 = v 2 ∧ u.1 3 = v 3 ∧ u.1 4 = v 4 ∧ u.1 5 = v 5 ∧ u.1 8 = v 8 ∧ u.1 9 = v 9 ∧ u.1 10 = v 10 ∧ u.1 13 = v 13 ∧ u.1 14 = v 14 ∧ u.1 15 = v 15 ∧ u.1 17 = v 17 ∧ u.1 18 = v 18 ∧ u.1 24 = v 24 ∧ u.1 25 = v 25 ∧ u.1 35 = v 35 ∧ u.1 36 = v 36 ∧ u.1 38 = v 38 ∧ u.1 39 = v 39) (fun u => YW cy y0 r u.1 u.2.1 u.2.2.1 u.2.2.2) := by
  refine ctI_of (by decide) (Nat.le_of_ble_eq_true rfl) (fun p e s m below meth c A ls Q hx hb hml hts hown hE hP hD hA hl ret => ?_)
  have hUv : (v 35).toInt + (v 36).toInt ≤ 40 := hIv.2
  have ha0_f : f 0 = f 0 := rfl
  have hown : s.vm.findClass RX11 = some m.cls := hown
  have hS : va_S A s.heap s.heap [] := va_S.rf
  have hl : lv_has ls 1 [(0, .ref y0)] := hl
  refine lv_aload_n hx hb dX11_fitted_0 rfl (lv_at hl 0 rfl) ?_
  refine cbVv (n := 0) (rest := []) hx hb hml hown hts hE hP hD hS hA (sY_X11_fill_1 l dC dI cy y0 r  v f w g hIv hCf hRf ) k_1739 k_1741 k_71 k_114 k_1742 (by decide +kernel) ⟨Nat.le_of_ble_eq_true rfl, Nat.le_of_ble_eq_true rfl⟩ 0 11 rfl rfl (rfl) hl.1 rfl (Nat.le_of_ble_eq_true rfl) dX11_fitted_1 (fun u H locs hw hP hD hS => ?_)
  obtain ⟨v1, f2, w3, g4⟩ := u
  obtain ⟨ka0_f2, hIv1, hCf2, hRf2, hk0_v1, hk1_v1, hk2_v1, hk3_v1, hk4_v1, hk5_v1, hk8_v1, hk9_v1, hk10_v1, hk13_v1, hk14_v1, hk15_v1, hk17_v1, hk18_v1, hk24_v1, hk25_v1, hk35_v1, hk36_v1, hk38_v1, hk39_v1⟩ := hw
  have ha0_f2 : f2 0 = f 0 := ka0_f2.trans ha0_f
  have hP : va_P (dC, dI) vwCl (YW cy y0 r v1 f2 w3 g4) H := hP
  have hD : va_D A (YW cy y0 r v1 f2 w3 g4) := hD
  have hUv1 : (v1 35).toInt + (v1 36).toInt ≤ 40 := hIv1.2
  have hq0_v1 : v1 0 = (v 0) := hk0_v1
  have hq1_v1 : v1 1 = (v 1) := hk1_v1
  have hq2_v1 : v1 2 = (v 2) := hk2_v1
  have hq3_v1 : v1 3 = (v 3) := hk3_v1
  have zq3_v1 := congrArg Int32.toInt hq3_v1
  have hq4_v1 : v1 4 = (v 4) := hk4_v1
  have zq4_v1 := congrArg Int32.toInt hq4_v1
  have hq5_v1 : v1 5 = (v 5) := hk5_v1
  have zq5_v1 := congrArg Int32.toInt hq5_v1
  have hq8_v1 : v1 8 = (v 8) := hk8_v1
  have hq9_v1 : v1 9 = (v 9) := hk9_v1
  have zq9_v1 := congrArg Int32.toInt hq9_v1
  have hq10_v1 : v1 10 = (v 10) := hk10_v1
  have hq13_v1 : v1 13 = (v 13) := hk13_v1
  have hq14_v1 : v1 14 = (v 14) := hk14_v1
  have hq15_v1 : v1 15 = (v 15) := hk15_v1
  have hq17_v1 : v1 17 = (v 17) := hk17_v1
  have hq18_v1 : v1 18 = (v 18) := hk18_v1
  have hq24_v1 : v1 24 = (v 24) := hk24_v1
  have hq25_v1 : v1 25 = (v 25) := hk25_v1
  have hq35_v1 : v1 35 = (v 35) := hk35_v1
  have zq35_v1 := congrArg Int32.toInt hq35_v1
  have hq36_v1 : v1 36 = (v 36) := hk36_v1
  have zq36_v1 := congrArg Int32.toInt hq36_v1
  have hq38_v1 : v1 38 = (v 38) := hk38_v1
  have hq39_v1 : v1 39 = (v 39) := hk39_v1
  refine lv_aload_n hx hb dX11_fitted_4 rfl (lv_at hl 0 rfl) ?_
  refine cbVi (n := 0) (rest := []) hx hb hml hown hts hE hP hD hS hA (sY_X11_fittedOnes_1 l dC dI cy y0 r  v1 f2 w3 g4 hIv1 hCf2 hRf2 ) k_1809 k_1811 k_81 k_114 k_1812 (by decide +kernel) ⟨Nat.le_of_ble_eq_true rfl, Nat.le_of_ble_eq_true rfl⟩ 0 11 rfl rfl (rfl) hl.1 rfl (Nat.le_of_ble_eq_true rfl) dX11_fitted_5 (fun r5 u H locs hw hP hD hS => ?_)
  obtain ⟨v6, f7, w8, g9⟩ := u
  obtain ⟨ka0_f7, hIv6, hCf7, hRf7, hk0_v6, hk1_v6, hk2_v6, hk3_v6, hk4_v6, hk5_v6, hk8_v6, hk9_v6, hk10_v6, hk13_v6, hk14_v6, hk15_v6, hk17_v6, hk18_v6, hk24_v6, hk25_v6, hk35_v6, hk36_v6, hk38_v6, hk39_v6⟩ := hw
  have ha0_f7 : f7 0 = f 0 := ka0_f7.trans ha0_f2
  have hP : va_P (dC, dI) vwCl (YW cy y0 r v6 f7 w8 g9) H := hP
  have hD : va_D A (YW cy y0 r v6 f7 w8 g9) := hD
  have hUv6 : (v6 35).toInt + (v6 36).toInt ≤ 40 := hIv6.2
  have hq0_v6 : v6 0 = (v 0) := hk0_v6.trans hq0_v1
  have hq1_v6 : v6 1 = (v 1) := hk1_v6.trans hq1_v1
  have hq2_v6 : v6 2 = (v 2) := hk2_v6.trans hq2_v1
  have hq3_v6 : v6 3 = (v 3) := hk3_v6.trans hq3_v1
  have zq3_v6 := congrArg Int32.toInt hq3_v6
  have hq4_v6 : v6 4 = (v 4) := hk4_v6.trans hq4_v1
  have zq4_v6 := congrArg Int32.toInt hq4_v6
  have hq5_v6 : v6 5 = (v 5) := hk5_v6.trans hq5_v1
  have zq5_v6 := congrArg Int32.toInt hq5_v6
  have hq8_v6 : v6 8 = (v 8) := hk8_v6.trans hq8_v1
  have hq9_v6 : v6 9 = (v 9) := hk9_v6.trans hq9_v1
  have zq9_v6 := congrArg Int32.toInt hq9_v6
  have hq10_v6 : v6 10 = (v 10) := hk10_v6.trans hq10_v1
  have hq13_v6 : v6 13 = (v 13) := hk13_v6.trans hq13_v1
  have hq14_v6 : v6 14 = (v 14) := hk14_v6.trans hq14_v1
  have hq15_v6 : v6 15 = (v 15) := hk15_v6.trans hq15_v1
  have hq17_v6 : v6 17 = (v 17) := hk17_v6.trans hq17_v1
  have hq18_v6 : v6 18 = (v 18) := hk18_v6.trans hq18_v1
  have hq24_v6 : v6 24 = (v 24) := hk24_v6.trans hq24_v1
  have hq25_v6 : v6 25 = (v 25) := hk25_v6.trans hq25_v1
  have hq35_v6 : v6 35 = (v 35) := hk35_v6.trans hq35_v1
  have zq35_v6 := congrArg Int32.toInt hq35_v6
  have hq36_v6 : v6 36 = (v 36) := hk36_v6.trans hq36_v1
  have zq36_v6 := congrArg Int32.toInt hq36_v6
  have hq38_v6 : v6 38 = (v 38) := hk38_v6.trans hq38_v1
  have hq39_v6 : v6 39 = (v 39) := hk39_v6.trans hq39_v1
  exact ret r5 (v6, f7, w8, g9) _ _ _ _ _ _ rfl ⟨ha0_f7, hIv6, hCf7, hRf7, (hk0_v6.trans hk0_v1), (hk1_v6.trans hk1_v1), (hk2_v6.trans hk2_v1), (hk3_v6.trans hk3_v1), (hk4_v6.trans hk4_v1), (hk5_v6.trans hk5_v1), (hk8_v6.trans hk8_v1), (hk9_v6.trans hk9_v1), (hk10_v6.trans hk10_v1), (hk13_v6.trans hk13_v1), (hk14_v6.trans hk14_v1), (hk15_v6.trans hk15_v1), (hk17_v6.trans hk17_v1), (hk18_v6.trans hk18_v1), (hk24_v6.trans hk24_v1), (hk25_v6.trans hk25_v1), (hk35_v6.trans hk35_v1), (hk36_v6.trans hk36_v1), (hk38_v6.trans hk38_v1), (hk39_v6.trans hk39_v1)⟩ hP hD hS dX11_fitted_8 (Nat.le_refl _) (Nat.le_refl _)
set_option maxHeartbeats 4000000 in
set_option maxRecDepth 100000 in
theorem sY_X11_layIlls_1 (l : Launch) (dC : Nat → ClassId) (dI : Nat → Nat → Nat) (cy : Nat → ClassId) (y0 : Nat) (r : Nat → Nat)  (v : Nat → Int32) (f : Nat → Nat → Int32) (w : Int64) (g : Nat → Int64) (hIv : YI v) (hCf : YC f) (hRf : progOK (f 4) (f 5) (v 9).toInt.toNat)  : ctV l (dC, dI) cy yX11_layIlls cX11_layIlls 3 4 126 0 0 ((Nat → Int32) × (Nat → Nat → Int32) × (Int64) × (Nat → Int64)) [.ref y0] (YW cy y0 r v f w g) (fun u => u.2.1 0 = f 0 ∧ YI u.1 ∧ YC u.2.1 ∧ progOK (u.2.1 4) (u.2.1 5) (u.1 9).toInt.toNat ∧ u.1 0 = v 0 ∧ u.1 1 = v 1 ∧ u.1 2 = v 2 ∧ u.1 3 = v 3 ∧ u.1 4 = v 4 ∧ u.1 5 = v 5 ∧ u.1 8 = v 8 ∧ u.1 9 = v 9 ∧ u.1 10 = v 10 ∧ u.1 13 = v 13 ∧ u.1 14 = v 14 ∧ u.1 15 = v 15 ∧ u.1 17 = v 17 ∧ u.1 18 = v 18 ∧ u.1 24 = v 24 ∧ u.1 25 = v 25 ∧ u.1 35 = v 35 ∧ u.1 36 = v 36 ∧ u.1 38 = v 38 ∧ u.1 39 = v 39) (fun u => YW cy y0 r u.1 u.2.1 u.2.2.1 u.2.2.2) := by
  refine ctV_of (by decide) (Nat.le_of_ble_eq_true rfl) (fun p e s m below meth c A ls Q hx hb hml hts hown hnm hE hP hD hA hl ret => ?_)
  have hUv : (v 35).toInt + (v 36).toInt ≤ 40 := hIv.2
  have ha0_f : f 0 = f 0 := rfl
  have hown : s.vm.findClass RX11 = some m.cls := hown
  have hS : va_S A s.heap s.heap [] := va_S.rf
  have hl : lv_has ls 3 [(0, .ref y0)] := hl
  refine lv_aload_n hx hb dX11_layIlls_0 rfl (lv_at hl 0 rfl) ?_
  refine cbVv (n := 0) (rest := []) hx hb hml hown hts hE hP hD hS hA (sY_X11_fill_1 l dC dI cy y0 r  v f w g hIv hCf hRf ) k_1739 k_1741 k_71 k_114 k_1742 (by decide +kernel) ⟨Nat.le_of_ble_eq_true rfl, Nat.le_of_ble_eq_true rfl⟩ 0 11 rfl rfl (rfl) hl.1 rfl (Nat.le_of_ble_eq_true rfl) dX11_layIlls_1 (fun u H locs hw hP hD hS => ?_)
  obtain ⟨v1, f2, w3, g4⟩ := u
  obtain ⟨ka0_f2, hIv1, hCf2, hRf2, hk0_v1, hk1_v1, hk2_v1, hk3_v1, hk4_v1, hk5_v1, hk8_v1, hk9_v1, hk10_v1, hk13_v1, hk14_v1, hk15_v1, hk17_v1, hk18_v1, hk24_v1, hk25_v1, hk35_v1, hk36_v1, hk38_v1, hk39_v1⟩ := hw
  have ha0_f2 : f2 0 = f 0 := ka0_f2.trans ha0_f
  have hP : va_P (dC, dI) vwCl (YW cy y0 r v1 f2 w3 g4) H := hP
  have hD : va_D A (YW cy y0 r v1 f2 w3 g4) := hD
  have hUv1 : (v1 35).toInt + (v1 36).toInt ≤ 40 := hIv1.2
  have hq0_v1 : v1 0 = (v 0) := hk0_v1
  have hq1_v1 : v1 1 = (v 1) := hk1_v1
  have hq2_v1 : v1 2 = (v 2) := hk2_v1
  have hq3_v1 : v1 3 = (v 3) := hk3_v1
  have zq3_v1 := congrArg Int32.toInt hq3_v1
  have hq4_v1 : v1 4 = (v 4) := hk4_v1
  have zq4_v1 := congrArg Int32.toInt hq4_v1
  have hq5_v1 : v1 5 = (v 5) := hk5_v1
  have zq5_v1 := congrArg Int32.toInt hq5_v1
  have hq8_v1 : v1 8 = (v 8) := hk8_v1
  have hq9_v1 : v1 9 = (v 9) := hk9_v1
  have zq9_v1 := congrArg Int32.toInt hq9_v1
  have hq10_v1 : v1 10 = (v 10) := hk10_v1
  have hq13_v1 : v1 13 = (v 13) := hk13_v1
  have hq14_v1 : v1 14 = (v 14) := hk14_v1
  have hq15_v1 : v1 15 = (v 15) := hk15_v1
  have hq17_v1 : v1 17 = (v 17) := hk17_v1
  have hq18_v1 : v1 18 = (v 18) := hk18_v1
  have hq24_v1 : v1 24 = (v 24) := hk24_v1
  have hq25_v1 : v1 25 = (v 25) := hk25_v1
  have hq35_v1 : v1 35 = (v 35) := hk35_v1
  have zq35_v1 := congrArg Int32.toInt hq35_v1
  have hq36_v1 : v1 36 = (v 36) := hk36_v1
  have zq36_v1 := congrArg Int32.toInt hq36_v1
  have hq38_v1 : v1 38 = (v 38) := hk38_v1
  have hq39_v1 : v1 39 = (v 39) := hk39_v1
  refine lv_iconst (v := 0) hx hb dX11_layIlls_4 (by decide) ?_
  refine lv_istore_n (lv' := [(1, .int 0), (0, .ref y0)]) hx hb dX11_layIlls_5 rfl hl (by decide) rfl (fun ls hl => ?_)
  have lp5 : ∀ (n5 : Nat) (l1_5 : Int32) (v5 : Nat → Int32) (f5 : Nat → Nat → Int32) (w5 : Int64) (g5 : Nat → Int64), YI v5 → YC f5 → progOK (f5 4) (f5 5) (v5 9).toInt.toNat → v5 0 = (v 0) → v5 1 = (v 1) → v5 2 = (v 2) → v5 3 = (v 3) → v5 4 = (v 4) → v5 5 = (v 5) → v5 8 = (v 8) → v5 9 = (v 9) → v5 10 = (v 10) → v5 13 = (v 13) → v5 14 = (v 14) → v5 15 = (v 15) → v5 17 = (v 17) → v5 18 = (v 18) → v5 24 = (v 24) → v5 25 = (v 25) → v5 35 = (v 35) → v5 36 = (v 36) → v5 38 = (v 38) → v5 39 = (v 39) → ((0 : Int) ≤ l1_5.toInt ∧ l1_5.toInt ≤ 2147483647) → f5 0 = f 0 → (2147483647 - l1_5.toInt).toNat < n5 → ∀ (H : Heap) (locs : List Loc) (ls : Array Slot), va_P (dC, dI) vwCl (YW cy y0 r v5 f5 w5 g5) H → va_D A (YW cy y0 r v5 f5 w5 g5) → va_S A s.heap H locs → lv_has ls 3 [(1, .int l1_5), (0, .ref y0)] → W p l e { frames := 4, cells := 0, slots := 0, locals := 126 } s m ([.ref y0] : List Value).toArray below meth c H locs 0 0 Q (F0 m 6 ls []) := by
    intro n5
    induction n5 with
    | zero => intro l1_5 v5 f5 w5 g5 hIv5 hCf5 hRf5 hq0_v5 hq1_v5 hq2_v5 hq3_v5 hq4_v5 hq5_v5 hq8_v5 hq9_v5 hq10_v5 hq13_v5 hq14_v5 hq15_v5 hq17_v5 hq18_v5 hq24_v5 hq25_v5 hq35_v5 hq36_v5 hq38_v5 hq39_v5 hr1_5 ha0_f5 hm; exact absurd hm (Nat.not_lt_zero _)
    | succ n5 ih5 =>
      intro l1_5 v5 f5 w5 g5 hIv5 hCf5 hRf5 hq0_v5 hq1_v5 hq2_v5 hq3_v5 hq4_v5 hq5_v5 hq8_v5 hq9_v5 hq10_v5 hq13_v5 hq14_v5 hq15_v5 hq17_v5 hq18_v5 hq24_v5 hq25_v5 hq35_v5 hq36_v5 hq38_v5 hq39_v5 hr1_5 ha0_f5 hm5 H locs ls hP hD hS hl
      have hUv5 : (v5 35).toInt + (v5 36).toInt ≤ 40 := hIv5.2
      have zq3_v5 := congrArg Int32.toInt hq3_v5
      have zq4_v5 := congrArg Int32.toInt hq4_v5
      have zq5_v5 := congrArg Int32.toInt hq5_v5
      have zq9_v5 := congrArg Int32.toInt hq9_v5
      have zq35_v5 := congrArg Int32.toInt hq35_v5
      have zq36_v5 := congrArg Int32.toInt hq36_v5
      refine lv_iload_n hx hb dX11_layIlls_6 rfl (lv_at hl 0 rfl) ?_
      refine lv_aload_n hx hb dX11_layIlls_7 rfl (lv_at hl 1 rfl) ?_
      refine va_get (D := (dC, dI)) (ci := 11) (v := .int (v5 24)) (C := RX11) (T := TX11) (N := 79) hx hb hts inB_11 hown hE.1 hP 0 rfl rfl 48 (by decide) (hts _ k_1368) (fun _ h9 => h9) rfl dX11_layIlls_8 ?_
      refine tI (y := (v 24)) hq24_v5 ?_
      have b24_v : 0 ≤ (v 24).toInt ∧ (v 24).toInt ≤ 6 := YIb.b hIv.1 24 (by decide)
      refine lv_icmp_ge (tgt := 53) hx hb dX11_layIlls_11 (by decide) (fun c6 => ?_) (fun c6 => ?_)
      · skip
        have zc6 : (v 24).toInt ≤ l1_5.toInt := by rw [fa_le] at c6; exact c6
        have rg7 := fb_rng l1_5
        have rg8 := fb_rng (v 24)
        exact ret (v5, f5, w5, g5) _ _ _ _ _ _ ⟨ha0_f5, hIv5, hCf5, hRf5, hq0_v5, hq1_v5, hq2_v5, hq3_v5, hq4_v5, hq5_v5, hq8_v5, hq9_v5, hq10_v5, hq13_v5, hq14_v5, hq15_v5, hq17_v5, hq18_v5, hq24_v5, hq25_v5, hq35_v5, hq36_v5, hq38_v5, hq39_v5⟩ hP hD hS dX11_layIlls_53 (Nat.le_refl _) (Nat.le_refl _)
      · skip
        have zc6 : ¬ ((v 24).toInt ≤ l1_5.toInt) := by rw [fa_le] at c6; exact c6
        have rg9 := fb_rng l1_5
        have rg10 := fb_rng (v 24)
        refine lv_iconst (v := 0) hx hb dX11_layIlls_14 (by decide) ?_
        refine lv_istore_n (lv' := [(2, .int 0), (1, .int l1_5), (0, .ref y0)]) hx hb dX11_layIlls_15 rfl hl (by decide) rfl (fun ls hl => ?_)
        have lp11 : ∀ (n11 : Nat) (l2_11 : Int32) (v11 : Nat → Int32) (f11 : Nat → Nat → Int32) (w11 : Int64) (g11 : Nat → Int64), YI v11 → YC f11 → progOK (f11 4) (f11 5) (v11 9).toInt.toNat → v11 0 = (v 0) → v11 1 = (v 1) → v11 2 = (v 2) → v11 3 = (v 3) → v11 4 = (v 4) → v11 5 = (v 5) → v11 8 = (v 8) → v11 9 = (v 9) → v11 10 = (v 10) → v11 13 = (v 13) → v11 14 = (v 14) → v11 15 = (v 15) → v11 17 = (v 17) → v11 18 = (v 18) → v11 24 = (v 24) → v11 25 = (v 25) → v11 35 = (v 35) → v11 36 = (v 36) → v11 38 = (v 38) → v11 39 = (v 39) → ((0 : Int) ≤ l2_11.toInt ∧ l2_11.toInt ≤ 2147483647) → f11 0 = f 0 → (2147483647 - l2_11.toInt).toNat < n11 → ∀ (H : Heap) (locs : List Loc) (ls : Array Slot), va_P (dC, dI) vwCl (YW cy y0 r v11 f11 w11 g11) H → va_D A (YW cy y0 r v11 f11 w11 g11) → va_S A s.heap H locs → lv_has ls 3 [(2, .int l2_11), (1, .int l1_5), (0, .ref y0)] → W p l e { frames := 4, cells := 0, slots := 0, locals := 126 } s m ([.ref y0] : List Value).toArray below meth c H locs 0 0 Q (F0 m 16 ls []) := by
          intro n11
          induction n11 with
          | zero => intro l2_11 v11 f11 w11 g11 hIv11 hCf11 hRf11 hq0_v11 hq1_v11 hq2_v11 hq3_v11 hq4_v11 hq5_v11 hq8_v11 hq9_v11 hq10_v11 hq13_v11 hq14_v11 hq15_v11 hq17_v11 hq18_v11 hq24_v11 hq25_v11 hq35_v11 hq36_v11 hq38_v11 hq39_v11 hr2_11 ha0_f11 hm; exact absurd hm (Nat.not_lt_zero _)
          | succ n11 ih11 =>
            intro l2_11 v11 f11 w11 g11 hIv11 hCf11 hRf11 hq0_v11 hq1_v11 hq2_v11 hq3_v11 hq4_v11 hq5_v11 hq8_v11 hq9_v11 hq10_v11 hq13_v11 hq14_v11 hq15_v11 hq17_v11 hq18_v11 hq24_v11 hq25_v11 hq35_v11 hq36_v11 hq38_v11 hq39_v11 hr2_11 ha0_f11 hm11 H locs ls hP hD hS hl
            have hUv11 : (v11 35).toInt + (v11 36).toInt ≤ 40 := hIv11.2
            have zq3_v11 := congrArg Int32.toInt hq3_v11
            have zq4_v11 := congrArg Int32.toInt hq4_v11
            have zq5_v11 := congrArg Int32.toInt hq5_v11
            have zq9_v11 := congrArg Int32.toInt hq9_v11
            have zq35_v11 := congrArg Int32.toInt hq35_v11
            have zq36_v11 := congrArg Int32.toInt hq36_v11
            refine lv_iload_n hx hb dX11_layIlls_16 rfl (lv_at hl 0 rfl) ?_
            refine lv_aload_n hx hb dX11_layIlls_17 rfl (lv_at hl 2 rfl) ?_
            refine va_get (D := (dC, dI)) (ci := 11) (v := .int (v11 25)) (C := RX11) (T := TX11) (N := 79) hx hb hts inB_11 hown hE.1 hP 0 rfl rfl 49 (by decide) (hts _ k_1369) (fun _ h9 => h9) rfl dX11_layIlls_18 ?_
            refine tI (y := (v 25)) hq25_v11 ?_
            have b25_v : 0 ≤ (v 25).toInt ∧ (v 25).toInt ≤ 6 := YIb.b hIv.1 25 (by decide)
            refine lv_icmp_ge (tgt := 47) hx hb dX11_layIlls_21 (by decide) (fun c12 => ?_) (fun c12 => ?_)
            · skip
              have zc12 : (v 25).toInt ≤ l2_11.toInt := by rw [fa_le] at c12; exact c12
              have rg13 := fb_rng l2_11
              have rg14 := fb_rng (v 25)
              obtain ⟨t15, et15⟩ : ∃ y : Int32, y = l1_5 + 1 := ⟨_, rfl⟩
              have zt15 : t15.toInt = l1_5.toInt + 1 := by rw [et15]; exact add_i rfl (by decide) (by omega) (by omega)
              refine lv_iinc (v := t15) (lv' := [(1, .int t15), (2, .int l2_11), (0, .ref y0)]) hx hb dX11_layIlls_47 hl (k := 1) rfl (by rw [et15]; rfl) (by decide) rfl (fun ls hl => ?_)
              refine lv_goto (tgt := 6) hx hb dX11_layIlls_50 (by decide) ?_
              have rg16 := fb_rng t15
              exact ih5 t15 v11 f11 w11 g11 hIv11 hCf11 hRf11 hq0_v11 hq1_v11 hq2_v11 hq3_v11 hq4_v11 hq5_v11 hq8_v11 hq9_v11 hq10_v11 hq13_v11 hq14_v11 hq15_v11 hq17_v11 hq18_v11 hq24_v11 hq25_v11 hq35_v11 hq36_v11 hq38_v11 hq39_v11 ⟨show (0 : Int) ≤ t15.toInt by omega, show t15.toInt ≤ (2147483647 : Int) by omega⟩ ha0_f11 (by show (2147483647 - t15.toInt).toNat < n5; omega) _ _ _ hP hD hS (lv_sub hl [0, 2] rfl)
            · skip
              have zc12 : ¬ ((v 25).toInt ≤ l2_11.toInt) := by rw [fa_le] at c12; exact c12
              have rg17 := fb_rng l2_11
              have rg18 := fb_rng (v 25)
              refine lv_aload_n hx hb dX11_layIlls_24 rfl (lv_at hl 2 rfl) ?_
              refine va_get (D := (dC, dI)) (ci := 11) (v := .ref (r 66)) (C := RX11) (T := TX11) (N := 79) hx hb hts inB_11 hown hE.1 hP 0 rfl rfl 66 (by decide) (hts _ k_1386) (fun _ h9 => h9) rfl dX11_layIlls_25 ?_
              refine lv_bipush (v := 6) hx hb dX11_layIlls_28 (by decide) ?_
              refine lv_iload_n hx hb dX11_layIlls_30 rfl (lv_at hl 1 rfl) ?_
              refine lv_imul hx hb dX11_layIlls_31 ?_
              refine lv_topi (fun t19 et19 => ?_)
              have zt19 : t19.toInt = 6 * l1_5.toInt := by rw [et19]; exact mul_i (by decide) rfl (by omega) (by omega)
              refine lv_iload_n hx hb dX11_layIlls_32 rfl (lv_at hl 0 rfl) ?_
              refine lv_iadd hx hb dX11_layIlls_33 ?_
              refine lv_topi (fun t20 et20 => ?_)
              have rg21 := fb_rng t19
              have zt20 : t20.toInt = t19.toInt + l2_11.toInt := by rw [et20]; exact add_i rfl rfl (by omega) (by omega)
              refine lv_aload_n hx hb dX11_layIlls_34 rfl (lv_at hl 2 rfl) ?_
              refine lv_iload_n hx hb dX11_layIlls_35 rfl (lv_at hl 1 rfl) ?_
              refine lv_iload_n hx hb dX11_layIlls_36 rfl (lv_at hl 0 rfl) ?_
              refine cbVi (n := 2) (rest := [.int t20, .ref (r 66)]) hx hb hml hown hts hE hP hD hS hA (sY_X11_misfitOf_1 l dC dI cy y0 r l1_5 l2_11 v11 f11 w11 g11 hIv11 hCf11 hRf11 ⟨show (0 : Int) ≤ l1_5.toInt by omega, show l1_5.toInt ≤ (5 : Int) by omega⟩ ⟨show (0 : Int) ≤ l2_11.toInt by omega, show l2_11.toInt ≤ (5 : Int) by omega⟩) k_1751 k_1753 k_74 k_114 k_1754 (by decide +kernel) ⟨Nat.le_of_ble_eq_true rfl, Nat.le_of_ble_eq_true rfl⟩ 0 11 rfl rfl (rfl) hl.1 rfl (Nat.le_of_ble_eq_true rfl) dX11_layIlls_37 (fun r22 u H locs hw hP hD hS => ?_)
              obtain ⟨v23, f24, w25, g26⟩ := u
              obtain ⟨ka0_f24, hIv23, hCf24, hRf24, hk0_v23, hk1_v23, hk2_v23, hk3_v23, hk4_v23, hk5_v23, hk8_v23, hk9_v23, hk10_v23, hk13_v23, hk14_v23, hk15_v23, hk17_v23, hk18_v23, hk24_v23, hk25_v23, hk35_v23, hk36_v23, hk38_v23, hk39_v23⟩ := hw
              have ha0_f24 : f24 0 = f 0 := ka0_f24.trans ha0_f11
              have hP : va_P (dC, dI) vwCl (YW cy y0 r v23 f24 w25 g26) H := hP
              have hD : va_D A (YW cy y0 r v23 f24 w25 g26) := hD
              have hUv23 : (v23 35).toInt + (v23 36).toInt ≤ 40 := hIv23.2
              have hq0_v23 : v23 0 = (v 0) := hk0_v23.trans hq0_v11
              have hq1_v23 : v23 1 = (v 1) := hk1_v23.trans hq1_v11
              have hq2_v23 : v23 2 = (v 2) := hk2_v23.trans hq2_v11
              have hq3_v23 : v23 3 = (v 3) := hk3_v23.trans hq3_v11
              have zq3_v23 := congrArg Int32.toInt hq3_v23
              have hq4_v23 : v23 4 = (v 4) := hk4_v23.trans hq4_v11
              have zq4_v23 := congrArg Int32.toInt hq4_v23
              have hq5_v23 : v23 5 = (v 5) := hk5_v23.trans hq5_v11
              have zq5_v23 := congrArg Int32.toInt hq5_v23
              have hq8_v23 : v23 8 = (v 8) := hk8_v23.trans hq8_v11
              have hq9_v23 : v23 9 = (v 9) := hk9_v23.trans hq9_v11
              have zq9_v23 := congrArg Int32.toInt hq9_v23
              have hq10_v23 : v23 10 = (v 10) := hk10_v23.trans hq10_v11
              have hq13_v23 : v23 13 = (v 13) := hk13_v23.trans hq13_v11
              have hq14_v23 : v23 14 = (v 14) := hk14_v23.trans hq14_v11
              have hq15_v23 : v23 15 = (v 15) := hk15_v23.trans hq15_v11
              have hq17_v23 : v23 17 = (v 17) := hk17_v23.trans hq17_v11
              have hq18_v23 : v23 18 = (v 18) := hk18_v23.trans hq18_v11
              have hq24_v23 : v23 24 = (v 24) := hk24_v23.trans hq24_v11
              have hq25_v23 : v23 25 = (v 25) := hk25_v23.trans hq25_v11
              have hq35_v23 : v23 35 = (v 35) := hk35_v23.trans hq35_v11
              have zq35_v23 := congrArg Int32.toInt hq35_v23
              have hq36_v23 : v23 36 = (v 36) := hk36_v23.trans hq36_v11
              have zq36_v23 := congrArg Int32.toInt hq36_v23
              have hq38_v23 : v23 38 = (v 38) := hk38_v23.trans hq38_v11
              have hq39_v23 : v23 39 = (v 39) := hk39_v23.trans hq39_v11
              refine stI hx hb hE hP hD hS 29 rfl (vp_in_iff.mpr ⟨by omega, by omega⟩) rfl dX11_layIlls_40 (fun H locs hP hD hS => ?_)
              obtain ⟨f27, ef27, hP, hD⟩ : ∃ fz9, fz9 = upd2 f24 28 (upd (f24 28) t20.toNatClampNeg r22) ∧ va_P (dC, dI) vwCl (YW cy y0 r v23 fz9 w25 g26) H ∧ va_D A (YW cy y0 r v23 fz9 w25 g26) := ⟨_, rfl, hP, hD⟩
              have hCf27 : YC f27 := by rw [ef27]; exact hCf24
              have hRf27 : progOK (f27 4) (f27 5) (v23 9).toInt.toNat := by rw [ef27]; exact hRf24
              have ha0_f27 : f27 0 = f 0 := by rw [ef27]; exact ha0_f24
              obtain ⟨t28, et28⟩ : ∃ y : Int32, y = l2_11 + 1 := ⟨_, rfl⟩
              have zt28 : t28.toInt = l2_11.toInt + 1 := by rw [et28]; exact add_i rfl (by decide) (by omega) (by omega)
              refine lv_iinc (v := t28) (lv' := [(2, .int t28), (1, .int l1_5), (0, .ref y0)]) hx hb dX11_layIlls_41 hl (k := 0) rfl (by rw [et28]; rfl) (by decide) rfl (fun ls hl => ?_)
              refine lv_goto (tgt := 16) hx hb dX11_layIlls_44 (by decide) ?_
              have rg29 := fb_rng t28
              exact ih11 t28 v23 f27 w25 g26 hIv23 hCf27 hRf27 hq0_v23 hq1_v23 hq2_v23 hq3_v23 hq4_v23 hq5_v23 hq8_v23 hq9_v23 hq10_v23 hq13_v23 hq14_v23 hq15_v23 hq17_v23 hq18_v23 hq24_v23 hq25_v23 hq35_v23 hq36_v23 hq38_v23 hq39_v23 ⟨show (0 : Int) ≤ t28.toInt by omega, show t28.toInt ≤ (2147483647 : Int) by omega⟩ ha0_f27 (by show (2147483647 - t28.toInt).toNat < n11; omega) _ _ _ hP hD hS (lv_sub hl [0, 1, 2] rfl)
        exact lp11 _ 0 v5 f5 w5 g5 hIv5 hCf5 hRf5 hq0_v5 hq1_v5 hq2_v5 hq3_v5 hq4_v5 hq5_v5 hq8_v5 hq9_v5 hq10_v5 hq13_v5 hq14_v5 hq15_v5 hq17_v5 hq18_v5 hq24_v5 hq25_v5 hq35_v5 hq36_v5 hq38_v5 hq39_v5 ⟨by decide, by decide⟩ ha0_f5 (Nat.lt_succ_self _) _ _ _ hP hD hS (lv_sub hl [0, 1, 2] rfl)
  exact lp5 _ 0 v1 f2 w3 g4 hIv1 hCf2 hRf2 hq0_v1 hq1_v1 hq2_v1 hq3_v1 hq4_v1 hq5_v1 hq8_v1 hq9_v1 hq10_v1 hq13_v1 hq14_v1 hq15_v1 hq17_v1 hq18_v1 hq24_v1 hq25_v1 hq35_v1 hq36_v1 hq38_v1 hq39_v1 ⟨by decide, by decide⟩ ha0_f2 (Nat.lt_succ_self _) _ _ _ hP hD hS (lv_sub hl [0, 1] rfl)
set_option maxHeartbeats 4000000 in
set_option maxRecDepth 100000 in
theorem sY_X11_power_1 (l : Launch) (dC : Nat → ClassId) (dI : Nat → Nat → Nat) (cy : Nat → ClassId) (y0 : Nat) (r : Nat → Nat) (p0 : Int32) (p1 : Int32) (v : Nat → Int32) (f : Nat → Nat → Int32) (w : Int64) (g : Nat → Int64) (hIv : YI v) (hCf : YC f) (hRf : progOK (f 4) (f 5) (v 9).toInt.toNat)  : ctI l (dC, dI) cy yX11_power cX11_power 4 .int 1 60 0 0 Unit [.int p0, .int p1] (YW cy y0 r v f w g) (fun r u => True) (fun u => YW cy y0 r v f w g) := by
  refine ctI_of (by decide) (Nat.le_of_ble_eq_true rfl) (fun p e s m below meth c A ls Q hx hb hml hts hown hE hP hD hA hl ret => ?_)
  have hUv : (v 35).toInt + (v 36).toInt ≤ 40 := hIv.2
  have hown : s.vm.findClass RX11 = some m.cls := hown
  have hS : va_S A s.heap s.heap [] := va_S.rf
  have hl : lv_has ls 4 [(0, .int p0), (1, .int p1)] := hl
  refine lv_iconst (v := 1) hx hb dX11_power_0 (by decide) ?_
  refine lv_istore_n (lv' := [(2, .int 1), (0, .int p0), (1, .int p1)]) hx hb dX11_power_1 rfl hl (by decide) rfl (fun ls hl => ?_)
  refine lv_iconst (v := 0) hx hb dX11_power_2 (by decide) ?_
  refine lv_istore_n (lv' := [(3, .int 0), (2, .int 1), (0, .int p0), (1, .int p1)]) hx hb dX11_power_3 rfl hl (by decide) rfl (fun ls hl => ?_)
  have lp1 : ∀ (n1 : Nat) (l2_1 : Int32) (l3_1 : Int32), ((0 : Int) ≤ l3_1.toInt ∧ l3_1.toInt ≤ 2147483647) → (2147483647 - l3_1.toInt).toNat < n1 → ∀ (H : Heap) (locs : List Loc) (ls : Array Slot), va_P (dC, dI) vwCl (YW cy y0 r v f w g) H → va_D A (YW cy y0 r v f w g) → va_S A s.heap H locs → lv_has ls 4 [(3, .int l3_1), (2, .int l2_1), (0, .int p0), (1, .int p1)] → W p l e { frames := 1, cells := 0, slots := 0, locals := 60 } s m ([.int p0, .int p1] : List Value).toArray below meth c H locs 0 0 Q (F0 m 4 ls []) := by
    intro n1
    induction n1 with
    | zero => intro l2_1 l3_1 hr3_1 hm; exact absurd hm (Nat.not_lt_zero _)
    | succ n1 ih1 =>
      intro l2_1 l3_1 hr3_1 hm1 H locs ls hP hD hS hl
      refine lv_iload_n hx hb dX11_power_4 rfl (lv_at hl 0 rfl) ?_
      refine lv_iload_n hx hb dX11_power_5 rfl (lv_at hl 3 rfl) ?_
      refine lv_icmp_ge (tgt := 19) hx hb dX11_power_6 (by decide) (fun c2 => ?_) (fun c2 => ?_)
      · skip
        have zc2 : p1.toInt ≤ l3_1.toInt := by rw [fa_le] at c2; exact c2
        have rg3 := fb_rng l3_1
        have rg4 := fb_rng p1
        refine lv_iload_n hx hb dX11_power_19 rfl (lv_at hl 1 rfl) ?_
        exact ret l2_1 () _ _ _ _ _ _ rfl trivial hP hD hS dX11_power_20 (Nat.le_refl _) (Nat.le_refl _)
      · skip
        have zc2 : ¬ (p1.toInt ≤ l3_1.toInt) := by rw [fa_le] at c2; exact c2
        have rg5 := fb_rng l3_1
        have rg6 := fb_rng p1
        refine lv_iload_n hx hb dX11_power_9 rfl (lv_at hl 1 rfl) ?_
        refine lv_iload_n hx hb dX11_power_10 rfl (lv_at hl 2 rfl) ?_
        refine lv_imul hx hb dX11_power_11 ?_
        refine lv_topi (fun t7 et7 => ?_)
        refine lv_istore_n (lv' := [(2, .int t7), (3, .int l3_1), (0, .int p0), (1, .int p1)]) hx hb dX11_power_12 rfl hl (by decide) rfl (fun ls hl => ?_)
        obtain ⟨t8, et8⟩ : ∃ y : Int32, y = l3_1 + 1 := ⟨_, rfl⟩
        have zt8 : t8.toInt = l3_1.toInt + 1 := by rw [et8]; exact add_i rfl (by decide) (by omega) (by omega)
        refine lv_iinc (v := t8) (lv' := [(3, .int t8), (2, .int t7), (0, .int p0), (1, .int p1)]) hx hb dX11_power_13 hl (k := 1) rfl (by rw [et8]; rfl) (by decide) rfl (fun ls hl => ?_)
        refine lv_goto (tgt := 4) hx hb dX11_power_16 (by decide) ?_
        have rg9 := fb_rng t8
        exact ih1 t7 t8 ⟨show (0 : Int) ≤ t8.toInt by omega, show t8.toInt ≤ (2147483647 : Int) by omega⟩ (by show (2147483647 - t8.toInt).toNat < n1; omega) _ _ _ hP hD hS (lv_sub hl [0, 1, 2, 3] rfl)
  exact lp1 _ 1 0 ⟨by decide, by decide⟩ (Nat.lt_succ_self _) _ _ _ hP hD hS (lv_sub hl [0, 1, 2, 3] rfl)
set_option maxHeartbeats 4000000 in
set_option maxRecDepth 100000 in
theorem sY_X11_layDress_1 (l : Launch) (dC : Nat → ClassId) (dI : Nat → Nat → Nat) (cy : Nat → ClassId) (y0 : Nat) (r : Nat → Nat) (p1 : Int32) (v : Nat → Int32) (f : Nat → Nat → Int32) (w : Int64) (g : Nat → Int64) (hIv : YI v) (hCf : YC f) (hRf : progOK (f 4) (f 5) (v 9).toInt.toNat) (hp1 : (0 : Int) ≤ p1.toInt ∧ p1.toInt ≤ 2147483647) : ctI l (dC, dI) cy yX11_layDress cX11_layDress 7 .int 1 60 0 0 ((Nat → Int32) × (Nat → Nat → Int32) × (Int64) × (Nat → Int64)) [.ref y0, .int p1] (YW cy y0 r v f w g) (fun r u => u.2.1 0 = f 0 ∧ YI u.1 ∧ YC u.2.1 ∧ progOK (u.2.1 4) (u.2.1 5) (u.1 9).toInt.toNat ∧ u.1 0 = v 0 ∧ u.1 1 = v 1 ∧ u.1 2 = v 2 ∧ u.1 3 = v 3 ∧ u.1 4 = v 4 ∧ u.1 5 = v 5 ∧ u.1 8 = v 8 ∧ u.1 9 = v 9 ∧ u.1 10 = v 10 ∧ u.1 13 = v 13 ∧ u.1 14 = v 14 ∧ u.1 15 = v 15 ∧ u.1 17 = v 17 ∧ u.1 18 = v 18 ∧ u.1 24 = v 24 ∧ u.1 25 = v 25 ∧ u.1 35 = v 35 ∧ u.1 36 = v 36 ∧ u.1 38 = v 38 ∧ u.1 39 = v 39) (fun u => YW cy y0 r u.1 u.2.1 u.2.2.1 u.2.2.2) := by
  refine ctI_of (by decide) (Nat.le_of_ble_eq_true rfl) (fun p e s m below meth c A ls Q hx hb hml hts hown hE hP hD hA hl ret => ?_)
  have hUv : (v 35).toInt + (v 36).toInt ≤ 40 := hIv.2
  have ha0_f : f 0 = f 0 := rfl
  have hown : s.vm.findClass RX11 = some m.cls := hown
  have hS : va_S A s.heap s.heap [] := va_S.rf
  have hl : lv_has ls 7 [(0, .ref y0), (1, .int p1)] := hl
  refine lv_iload_n hx hb dX11_layDress_0 rfl (lv_at hl 1 rfl) ?_
  refine lv_istore_n (lv' := [(2, .int p1), (0, .ref y0), (1, .int p1)]) hx hb dX11_layDress_1 rfl hl (by decide) rfl (fun ls hl => ?_)
  refine lv_iconst (v := 0) hx hb dX11_layDress_2 (by decide) ?_
  refine lv_istore_n (lv' := [(3, .int 0), (2, .int p1), (0, .ref y0), (1, .int p1)]) hx hb dX11_layDress_3 rfl hl (by decide) rfl (fun ls hl => ?_)
  refine lv_iconst (v := 0) hx hb dX11_layDress_4 (by decide) ?_
  refine lv_istore (lv' := [(4, .int 0), (3, .int 0), (2, .int p1), (0, .ref y0), (1, .int p1)]) hx hb dX11_layDress_5 hl (by decide) rfl (fun ls hl => ?_)
  refine lv_aload_n hx hb dX11_layDress_7 rfl (lv_at hl 3 rfl) ?_
  refine va_get (D := (dC, dI)) (ci := 11) (v := .int (v 24)) (C := RX11) (T := TX11) (N := 79) hx hb hts inB_11 hown hE.1 hP 0 rfl rfl 48 (by decide) (hts _ k_1368) (fun _ h9 => h9) rfl dX11_layDress_8 ?_
  have b24_v : 0 ≤ (v 24).toInt ∧ (v 24).toInt ≤ 6 := YIb.b hIv.1 24 (by decide)
  refine lv_iconst (v := 1) hx hb dX11_layDress_11 (by decide) ?_
  refine lv_isub hx hb dX11_layDress_12 ?_
  refine lv_topi (fun t1 et1 => ?_)
  have rg2 := fb_rng (v 24)
  have zt1 : t1.toInt = (v 24).toInt - 1 := by rw [et1]; exact sub_i rfl (by decide) (by omega) (by omega)
  refine lv_istore (lv' := [(5, .int t1), (4, .int 0), (3, .int 0), (2, .int p1), (0, .ref y0), (1, .int p1)]) hx hb dX11_layDress_13 hl (by decide) rfl (fun ls hl => ?_)
  have lp3 : ∀ (n3 : Nat) (l2_3 : Int32) (l3_3 : Int32) (l4_3 : Int32) (l5_3 : Int32) (v3 : Nat → Int32) (f3 : Nat → Nat → Int32) (w3 : Int64) (g3 : Nat → Int64), YI v3 → YC f3 → progOK (f3 4) (f3 5) (v3 9).toInt.toNat → v3 0 = (v 0) → v3 1 = (v 1) → v3 2 = (v 2) → v3 3 = (v 3) → v3 4 = (v 4) → v3 5 = (v 5) → v3 8 = (v 8) → v3 9 = (v 9) → v3 10 = (v 10) → v3 13 = (v 13) → v3 14 = (v 14) → v3 15 = (v 15) → v3 17 = (v 17) → v3 18 = (v 18) → v3 24 = (v 24) → v3 25 = (v 25) → v3 35 = (v 35) → v3 36 = (v 36) → v3 38 = (v 38) → v3 39 = (v 39) → ((0 : Int) ≤ l2_3.toInt ∧ l2_3.toInt ≤ 2147483647) → ((-2147483648 : Int) ≤ l5_3.toInt ∧ l5_3.toInt ≤ 5) → f3 0 = f 0 → (l5_3.toInt + 2147483648).toNat < n3 → ∀ (H : Heap) (locs : List Loc) (ls : Array Slot), va_P (dC, dI) vwCl (YW cy y0 r v3 f3 w3 g3) H → va_D A (YW cy y0 r v3 f3 w3 g3) → va_S A s.heap H locs → lv_has ls 7 [(5, .int l5_3), (4, .int l4_3), (3, .int l3_3), (2, .int l2_3), (0, .ref y0), (1, .int p1)] → W p l e { frames := 1, cells := 0, slots := 0, locals := 60 } s m ([.ref y0, .int p1] : List Value).toArray below meth c H locs 0 0 Q (F0 m 15 ls []) := by
    intro n3
    induction n3 with
    | zero => intro l2_3 l3_3 l4_3 l5_3 v3 f3 w3 g3 hIv3 hCf3 hRf3 hq0_v3 hq1_v3 hq2_v3 hq3_v3 hq4_v3 hq5_v3 hq8_v3 hq9_v3 hq10_v3 hq13_v3 hq14_v3 hq15_v3 hq17_v3 hq18_v3 hq24_v3 hq25_v3 hq35_v3 hq36_v3 hq38_v3 hq39_v3 hr2_3 hr5_3 ha0_f3 hm; exact absurd hm (Nat.not_lt_zero _)
    | succ n3 ih3 =>
      intro l2_3 l3_3 l4_3 l5_3 v3 f3 w3 g3 hIv3 hCf3 hRf3 hq0_v3 hq1_v3 hq2_v3 hq3_v3 hq4_v3 hq5_v3 hq8_v3 hq9_v3 hq10_v3 hq13_v3 hq14_v3 hq15_v3 hq17_v3 hq18_v3 hq24_v3 hq25_v3 hq35_v3 hq36_v3 hq38_v3 hq39_v3 hr2_3 hr5_3 ha0_f3 hm3 H locs ls hP hD hS hl
      have hUv3 : (v3 35).toInt + (v3 36).toInt ≤ 40 := hIv3.2
      have zq3_v3 := congrArg Int32.toInt hq3_v3
      have zq4_v3 := congrArg Int32.toInt hq4_v3
      have zq5_v3 := congrArg Int32.toInt hq5_v3
      have zq9_v3 := congrArg Int32.toInt hq9_v3
      have zq35_v3 := congrArg Int32.toInt hq35_v3
      have zq36_v3 := congrArg Int32.toInt hq36_v3
      refine lv_iload hx hb dX11_layDress_15 (lv_at hl 0 rfl) ?_
      refine lv_if_lt (tgt := 121) hx hb dX11_layDress_17 (by decide) (fun c4 => ?_) (fun c4 => ?_)
      · skip
        have zc4 : l5_3.toInt < 0 := by rw [fa_lt, show (0 : Int32).toInt = 0 from by decide] at c4; exact c4
        refine lv_iload hx hb dX11_layDress_121 (lv_at hl 1 rfl) ?_
        exact ret l4_3 (v3, f3, w3, g3) _ _ _ _ _ _ rfl ⟨ha0_f3, hIv3, hCf3, hRf3, (show v3 0 = v 0 from hq0_v3), (show v3 1 = v 1 from hq1_v3), (show v3 2 = v 2 from hq2_v3), (show v3 3 = v 3 from hq3_v3), (show v3 4 = v 4 from hq4_v3), (show v3 5 = v 5 from hq5_v3), (show v3 8 = v 8 from hq8_v3), (show v3 9 = v 9 from hq9_v3), (show v3 10 = v 10 from hq10_v3), (show v3 13 = v 13 from hq13_v3), (show v3 14 = v 14 from hq14_v3), (show v3 15 = v 15 from hq15_v3), (show v3 17 = v 17 from hq17_v3), (show v3 18 = v 18 from hq18_v3), (show v3 24 = v 24 from hq24_v3), (show v3 25 = v 25 from hq25_v3), (show v3 35 = v 35 from hq35_v3), (show v3 36 = v 36 from hq36_v3), (show v3 38 = v 38 from hq38_v3), (show v3 39 = v 39 from hq39_v3)⟩ hP hD hS dX11_layDress_123 (Nat.le_refl _) (Nat.le_refl _)
      · skip
        have zc4 : ¬ (l5_3.toInt < 0) := by rw [fa_lt, show (0 : Int32).toInt = 0 from by decide] at c4; exact c4
        refine lv_iload_n hx hb dX11_layDress_20 rfl (lv_at hl 3 rfl) ?_
        refine lv_aload_n hx hb dX11_layDress_21 rfl (lv_at hl 4 rfl) ?_
        refine va_get (D := (dC, dI)) (ci := 11) (v := .int (v3 25)) (C := RX11) (T := TX11) (N := 79) hx hb hts inB_11 hown hE.1 hP 0 rfl rfl 49 (by decide) (hts _ k_1369) (fun _ h9 => h9) rfl dX11_layDress_22 ?_
        refine tI (y := (v 25)) hq25_v3 ?_
        have b25_v : 0 ≤ (v 25).toInt ∧ (v 25).toInt ≤ 6 := YIb.b hIv.1 25 (by decide)
        refine lv_iconst (v := 1) hx hb dX11_layDress_25 (by decide) ?_
        refine lv_iadd hx hb dX11_layDress_26 ?_
        refine lv_topi (fun t5 et5 => ?_)
        have rg6 := fb_rng (v 25)
        have zt5 : t5.toInt = (v 25).toInt + 1 := by rw [et5]; exact add_i rfl (by decide) (by omega) (by omega)
        refine lv_irem hx hb dX11_layDress_27 (ne0 (by omega)) ?_
        refine lv_topi (fun t7 et7 => ?_)
        have zt7 : 0 ≤ t7.toInt ∧ t7.toInt < t5.toInt := by rw [et7]; exact rem_rng (zx := l2_3.toInt) (zy := t5.toInt) rfl rfl (by omega) (by omega)
        refine lv_istore (lv' := [(6, .int t7), (5, .int l5_3), (4, .int l4_3), (3, .int l3_3), (2, .int l2_3), (0, .ref y0), (1, .int p1)]) hx hb dX11_layDress_28 hl (by decide) rfl (fun ls hl => ?_)
        refine lv_iload_n hx hb dX11_layDress_30 rfl (lv_at hl 4 rfl) ?_
        refine lv_aload_n hx hb dX11_layDress_31 rfl (lv_at hl 5 rfl) ?_
        refine va_get (D := (dC, dI)) (ci := 11) (v := .int (v3 25)) (C := RX11) (T := TX11) (N := 79) hx hb hts inB_11 hown hE.1 hP 0 rfl rfl 49 (by decide) (hts _ k_1369) (fun _ h9 => h9) rfl dX11_layDress_32 ?_
        refine tI (y := (v 25)) hq25_v3 ?_
        refine lv_iconst (v := 1) hx hb dX11_layDress_35 (by decide) ?_
        refine lv_iadd hx hb dX11_layDress_36 ?_
        refine tI (y := t5) et5.symm ?_
        refine lv_idiv hx hb dX11_layDress_37 (ne0 (by omega)) ?_
        refine lv_topi (fun t8 et8 => ?_)
        have zt8 : 0 ≤ t8.toInt ∧ t8.toInt ≤ l2_3.toInt := by rw [et8]; exact div_rng (zx := l2_3.toInt) (zy := t5.toInt) rfl rfl (by omega) (by omega)
        refine lv_istore_n (lv' := [(2, .int t8), (6, .int t7), (5, .int l5_3), (4, .int l4_3), (3, .int l3_3), (0, .ref y0), (1, .int p1)]) hx hb dX11_layDress_38 rfl hl (by decide) rfl (fun ls hl => ?_)
        refine lv_aload_n hx hb dX11_layDress_39 rfl (lv_at hl 5 rfl) ?_
        refine va_get (D := (dC, dI)) (ci := 11) (v := .ref (r 65)) (C := RX11) (T := TX11) (N := 79) hx hb hts inB_11 hown hE.1 hP 0 rfl rfl 65 (by decide) (hts _ k_1385) (fun _ h9 => h9) rfl dX11_layDress_40 ?_
        refine lv_iload hx hb dX11_layDress_43 (lv_at hl 2 rfl) ?_
        refine lv_iload hx hb dX11_layDress_45 (lv_at hl 1 rfl) ?_
        refine lv_aload_n hx hb dX11_layDress_47 rfl (lv_at hl 5 rfl) ?_
        refine va_get (D := (dC, dI)) (ci := 11) (v := .int (v3 25)) (C := RX11) (T := TX11) (N := 79) hx hb hts inB_11 hown hE.1 hP 0 rfl rfl 49 (by decide) (hts _ k_1369) (fun _ h9 => h9) rfl dX11_layDress_48 ?_
        refine tI (y := (v 25)) hq25_v3 ?_
        refine lv_icmp_ne (tgt := 58) hx hb dX11_layDress_51 (by decide) (fun c9 => ?_) (fun c9 => ?_)
        · skip
          have zc9 : ¬ (t7.toInt = (v 25).toInt) := by rw [fa_eq] at c9; exact c9
          have rg10 := fb_rng t7
          refine lv_iload hx hb dX11_layDress_58 (lv_at hl 1 rfl) ?_
          refine stI hx hb hE hP hD hS 28 rfl (vp_in_iff.mpr ⟨by omega, by omega⟩) rfl dX11_layDress_60 (fun H locs hP hD hS => ?_)
          obtain ⟨f11, ef11, hP, hD⟩ : ∃ fz9, fz9 = upd2 f3 27 (upd (f3 27) l5_3.toNatClampNeg t7) ∧ va_P (dC, dI) vwCl (YW cy y0 r v3 fz9 w3 g3) H ∧ va_D A (YW cy y0 r v3 fz9 w3 g3) := ⟨_, rfl, hP, hD⟩
          have hCf11 : YC f11 := by rw [ef11]; exact ⟨hCf3.1, hCf3.2.1, hCf3.2.2.1, (rng_st hCf3.2.2.2.1 (by show -1 ≤ t7.toInt ∧ t7.toInt ≤ 5; omega)), hCf3.2.2.2.2.1, hCf3.2.2.2.2.2⟩
          have hRf11 : progOK (f11 4) (f11 5) (v3 9).toInt.toNat := by rw [ef11]; exact hRf3
          have ha0_f11 : f11 0 = f 0 := by rw [ef11]; exact ha0_f3
          refine lv_iload hx hb dX11_layDress_61 (lv_at hl 1 rfl) ?_
          refine lv_aload_n hx hb dX11_layDress_63 rfl (lv_at hl 5 rfl) ?_
          refine va_get (D := (dC, dI)) (ci := 11) (v := .int (v3 25)) (C := RX11) (T := TX11) (N := 79) hx hb hts inB_11 hown hE.1 hP 0 rfl rfl 49 (by decide) (hts _ k_1369) (fun _ h9 => h9) rfl dX11_layDress_64 ?_
          refine tI (y := (v 25)) hq25_v3 ?_
          refine lv_icmp_ne (tgt := 73) hx hb dX11_layDress_67 (by decide) (fun c12 => ?_) (fun c12 => ?_)
          · skip
            have zc12 : ¬ (t7.toInt = (v 25).toInt) := by rw [fa_eq] at c12; exact c12
            refine lv_iload_n hx hb dX11_layDress_73 rfl (lv_at hl 4 rfl) ?_
            refine lv_iload hx hb dX11_layDress_74 (lv_at hl 1 rfl) ?_
            refine lv_ishr hx hb dX11_layDress_76 ?_
            refine lv_topi (fun t13 et13 => ?_)
            refine lv_iconst (v := 1) hx hb dX11_layDress_77 (by decide) ?_
            refine lv_iand hx hb dX11_layDress_78 ?_
            refine lv_topi (fun t14 et14 => ?_)
            have zt14 : 0 ≤ t14.toInt ∧ t14.toInt < 2 := by rw [et14]; exact and_rng _ (k := 1) (by decide) (by decide)
            refine lv_iconst (v := 1) hx hb dX11_layDress_79 (by decide) ?_
            refine lv_icmp_eq (tgt := 103) hx hb dX11_layDress_80 (by decide) (fun c15 => ?_) (fun c15 => ?_)
            · skip
              have zc15 : t14.toInt = 1 := by rw [fa_eq, show (1 : Int32).toInt = 1 from by decide] at c15; exact c15
              refine lv_iconst (v := (-1)) hx hb dX11_layDress_103 (by decide) ?_
              exact ret (-1) (v3, f11, w3, g3) _ _ _ _ _ _ rfl ⟨ha0_f11, hIv3, hCf11, hRf11, (show v3 0 = v 0 from hq0_v3), (show v3 1 = v 1 from hq1_v3), (show v3 2 = v 2 from hq2_v3), (show v3 3 = v 3 from hq3_v3), (show v3 4 = v 4 from hq4_v3), (show v3 5 = v 5 from hq5_v3), (show v3 8 = v 8 from hq8_v3), (show v3 9 = v 9 from hq9_v3), (show v3 10 = v 10 from hq10_v3), (show v3 13 = v 13 from hq13_v3), (show v3 14 = v 14 from hq14_v3), (show v3 15 = v 15 from hq15_v3), (show v3 17 = v 17 from hq17_v3), (show v3 18 = v 18 from hq18_v3), (show v3 24 = v 24 from hq24_v3), (show v3 25 = v 25 from hq25_v3), (show v3 35 = v 35 from hq35_v3), (show v3 36 = v 36 from hq36_v3), (show v3 38 = v 38 from hq38_v3), (show v3 39 = v 39 from hq39_v3)⟩ hP hD hS dX11_layDress_104 (Nat.le_refl _) (Nat.le_refl _)
            · skip
              have zc15 : ¬ (t14.toInt = 1) := by rw [fa_eq, show (1 : Int32).toInt = 1 from by decide] at c15; exact c15
              refine lv_aload_n hx hb dX11_layDress_83 rfl (lv_at hl 5 rfl) ?_
              refine va_get (D := (dC, dI)) (ci := 11) (v := .ref (r 66)) (C := RX11) (T := TX11) (N := 79) hx hb hts inB_11 hown hE.1 hP 0 rfl rfl 66 (by decide) (hts _ k_1386) (fun _ h9 => h9) rfl dX11_layDress_84 ?_
              refine lv_bipush (v := 6) hx hb dX11_layDress_87 (by decide) ?_
              refine lv_iload hx hb dX11_layDress_89 (lv_at hl 2 rfl) ?_
              refine lv_imul hx hb dX11_layDress_91 ?_
              refine lv_topi (fun t16 et16 => ?_)
              have rg17 := fb_rng l5_3
              have zt16 : t16.toInt = 6 * l5_3.toInt := by rw [et16]; exact mul_i (by decide) rfl (by omega) (by omega)
              refine lv_iload hx hb dX11_layDress_92 (lv_at hl 1 rfl) ?_
              refine lv_iadd hx hb dX11_layDress_94 ?_
              refine lv_topi (fun t18 et18 => ?_)
              have rg19 := fb_rng t16
              have zt18 : t18.toInt = t16.toInt + t7.toInt := by rw [et18]; exact add_i rfl rfl (by omega) (by omega)
              refine ldI hx hb hE hP 29 rfl (vp_in_iff.mpr ⟨by omega, by omega⟩) rfl rfl dX11_layDress_95 ?_
              refine lv_topi (fun t20 et20 => ?_)
              refine lv_aload_n hx hb dX11_layDress_96 rfl (lv_at hl 5 rfl) ?_
              refine va_get (D := (dC, dI)) (ci := 11) (v := .int (v3 26)) (C := RX11) (T := TX11) (N := 79) hx hb hts inB_11 hown hE.1 hP 0 rfl rfl 50 (by decide) (hts _ k_1370) (fun _ h9 => h9) rfl dX11_layDress_97 ?_
              refine lv_icmp_le (tgt := 105) hx hb dX11_layDress_100 (by decide) (fun c21 => ?_) (fun c21 => ?_)
              · skip
                have zc21 : t20.toInt ≤ (v3 26).toInt := by rw [fa_le] at c21; exact c21
                have rg22 := fb_rng t20
                have rg23 := fb_rng (v3 26)
                refine lv_iload_n hx hb dX11_layDress_105 rfl (lv_at hl 4 rfl) ?_
                refine lv_iconst (v := 1) hx hb dX11_layDress_106 (by decide) ?_
                refine lv_iload hx hb dX11_layDress_107 (lv_at hl 1 rfl) ?_
                refine lv_ishl hx hb dX11_layDress_109 ?_
                refine lv_topi (fun t24 et24 => ?_)
                have zt24 : 1 ≤ t24.toInt ∧ t24.toInt ≤ 64 := by rw [et24]; exact shl1_rng6 (by omega) (by omega)
                refine lv_ior hx hb dX11_layDress_110 ?_
                refine lv_topi (fun t25 et25 => ?_)
                refine lv_istore_n (lv' := [(3, .int t25), (2, .int t8), (6, .int t7), (5, .int l5_3), (4, .int l4_3), (0, .ref y0), (1, .int p1)]) hx hb dX11_layDress_111 rfl hl (by decide) rfl (fun ls hl => ?_)
                obtain ⟨t26, et26⟩ : ∃ y : Int32, y = l4_3 + 1 := ⟨_, rfl⟩
                refine lv_iinc (v := t26) (lv' := [(4, .int t26), (3, .int t25), (2, .int t8), (6, .int t7), (5, .int l5_3), (0, .ref y0), (1, .int p1)]) hx hb dX11_layDress_112 hl (k := 4) rfl (by rw [et26]; rfl) (by decide) rfl (fun ls hl => ?_)
                obtain ⟨t27, et27⟩ : ∃ y : Int32, y = l5_3 + (-1) := ⟨_, rfl⟩
                have zt27 : t27.toInt = l5_3.toInt + (-1) := by rw [et27]; exact add_i rfl (by decide) (by omega) (by omega)
                refine lv_iinc (v := t27) (lv' := [(5, .int t27), (4, .int t26), (3, .int t25), (2, .int t8), (6, .int t7), (0, .ref y0), (1, .int p1)]) hx hb dX11_layDress_115 hl (k := 4) rfl (by rw [et27]; rfl) (by decide) rfl (fun ls hl => ?_)
                refine lv_goto (tgt := 15) hx hb dX11_layDress_118 (by decide) ?_
                have rg28 := fb_rng t8
                have rg29 := fb_rng t27
                exact ih3 t8 t25 t26 t27 v3 f11 w3 g3 hIv3 hCf11 hRf11 hq0_v3 hq1_v3 hq2_v3 hq3_v3 hq4_v3 hq5_v3 hq8_v3 hq9_v3 hq10_v3 hq13_v3 hq14_v3 hq15_v3 hq17_v3 hq18_v3 hq24_v3 hq25_v3 hq35_v3 hq36_v3 hq38_v3 hq39_v3 ⟨show (0 : Int) ≤ t8.toInt by omega, show t8.toInt ≤ (2147483647 : Int) by omega⟩ ⟨show (-2147483648 : Int) ≤ t27.toInt by omega, show t27.toInt ≤ (5 : Int) by omega⟩ ha0_f11 (by show (t27.toInt + 2147483648).toNat < n3; omega) _ _ _ hP hD hS (lv_sub hl [0, 1, 2, 3, 5, 6] rfl)
              · skip
                have zc21 : ¬ (t20.toInt ≤ (v3 26).toInt) := by rw [fa_le] at c21; exact c21
                have rg30 := fb_rng t20
                have rg31 := fb_rng (v3 26)
                refine lv_iconst (v := (-1)) hx hb dX11_layDress_103 (by decide) ?_
                exact ret (-1) (v3, f11, w3, g3) _ _ _ _ _ _ rfl ⟨ha0_f11, hIv3, hCf11, hRf11, (show v3 0 = v 0 from hq0_v3), (show v3 1 = v 1 from hq1_v3), (show v3 2 = v 2 from hq2_v3), (show v3 3 = v 3 from hq3_v3), (show v3 4 = v 4 from hq4_v3), (show v3 5 = v 5 from hq5_v3), (show v3 8 = v 8 from hq8_v3), (show v3 9 = v 9 from hq9_v3), (show v3 10 = v 10 from hq10_v3), (show v3 13 = v 13 from hq13_v3), (show v3 14 = v 14 from hq14_v3), (show v3 15 = v 15 from hq15_v3), (show v3 17 = v 17 from hq17_v3), (show v3 18 = v 18 from hq18_v3), (show v3 24 = v 24 from hq24_v3), (show v3 25 = v 25 from hq25_v3), (show v3 35 = v 35 from hq35_v3), (show v3 36 = v 36 from hq36_v3), (show v3 38 = v 38 from hq38_v3), (show v3 39 = v 39 from hq39_v3)⟩ hP hD hS dX11_layDress_104 (Nat.le_refl _) (Nat.le_refl _)
          · skip
            have zc12 : t7.toInt = (v 25).toInt := by rw [fa_eq] at c12; exact c12
            refine lv_goto (tgt := 115) hx hb dX11_layDress_70 (by decide) ?_
            obtain ⟨t32, et32⟩ : ∃ y : Int32, y = l5_3 + (-1) := ⟨_, rfl⟩
            have rg33 := fb_rng l5_3
            have zt32 : t32.toInt = l5_3.toInt + (-1) := by rw [et32]; exact add_i rfl (by decide) (by omega) (by omega)
            refine lv_iinc (v := t32) (lv' := [(5, .int t32), (2, .int t8), (6, .int t7), (4, .int l4_3), (3, .int l3_3), (0, .ref y0), (1, .int p1)]) hx hb dX11_layDress_115 hl (k := 2) rfl (by rw [et32]; rfl) (by decide) rfl (fun ls hl => ?_)
            refine lv_goto (tgt := 15) hx hb dX11_layDress_118 (by decide) ?_
            have rg34 := fb_rng t8
            have rg35 := fb_rng t32
            exact ih3 t8 l3_3 l4_3 t32 v3 f11 w3 g3 hIv3 hCf11 hRf11 hq0_v3 hq1_v3 hq2_v3 hq3_v3 hq4_v3 hq5_v3 hq8_v3 hq9_v3 hq10_v3 hq13_v3 hq14_v3 hq15_v3 hq17_v3 hq18_v3 hq24_v3 hq25_v3 hq35_v3 hq36_v3 hq38_v3 hq39_v3 ⟨show (0 : Int) ≤ t8.toInt by omega, show t8.toInt ≤ (2147483647 : Int) by omega⟩ ⟨show (-2147483648 : Int) ≤ t32.toInt by omega, show t32.toInt ≤ (5 : Int) by omega⟩ ha0_f11 (by show (t32.toInt + 2147483648).toNat < n3; omega) _ _ _ hP hD hS (lv_sub hl [0, 3, 4, 1, 5, 6] rfl)
        · skip
          have zc9 : t7.toInt = (v 25).toInt := by rw [fa_eq] at c9; exact c9
          have rg36 := fb_rng t7
          refine lv_iconst (v := (-1)) hx hb dX11_layDress_54 (by decide) ?_
          refine lv_goto (tgt := 60) hx hb dX11_layDress_55 (by decide) ?_
          refine stI hx hb hE hP hD hS 28 rfl (vp_in_iff.mpr ⟨by omega, by omega⟩) rfl dX11_layDress_60 (fun H locs hP hD hS => ?_)
          obtain ⟨f37, ef37, hP, hD⟩ : ∃ fz9, fz9 = upd2 f3 27 (upd (f3 27) l5_3.toNatClampNeg (-1)) ∧ va_P (dC, dI) vwCl (YW cy y0 r v3 fz9 w3 g3) H ∧ va_D A (YW cy y0 r v3 fz9 w3 g3) := ⟨_, rfl, hP, hD⟩
          have hCf37 : YC f37 := by rw [ef37]; exact ⟨hCf3.1, hCf3.2.1, hCf3.2.2.1, (rng_st hCf3.2.2.2.1 (by have q9 : ((-1) : Int32).toInt = -1 := (by decide); show -1 ≤ ((-1) : Int32).toInt ∧ ((-1) : Int32).toInt ≤ 5; omega)), hCf3.2.2.2.2.1, hCf3.2.2.2.2.2⟩
          have hRf37 : progOK (f37 4) (f37 5) (v3 9).toInt.toNat := by rw [ef37]; exact hRf3
          have ha0_f37 : f37 0 = f 0 := by rw [ef37]; exact ha0_f3
          refine lv_iload hx hb dX11_layDress_61 (lv_at hl 1 rfl) ?_
          refine lv_aload_n hx hb dX11_layDress_63 rfl (lv_at hl 5 rfl) ?_
          refine va_get (D := (dC, dI)) (ci := 11) (v := .int (v3 25)) (C := RX11) (T := TX11) (N := 79) hx hb hts inB_11 hown hE.1 hP 0 rfl rfl 49 (by decide) (hts _ k_1369) (fun _ h9 => h9) rfl dX11_layDress_64 ?_
          refine tI (y := (v 25)) hq25_v3 ?_
          refine lv_icmp_ne (tgt := 73) hx hb dX11_layDress_67 (by decide) (fun c38 => ?_) (fun c38 => ?_)
          · skip
            have zc38 : ¬ (t7.toInt = (v 25).toInt) := by rw [fa_eq] at c38; exact c38
            refine lv_iload_n hx hb dX11_layDress_73 rfl (lv_at hl 4 rfl) ?_
            refine lv_iload hx hb dX11_layDress_74 (lv_at hl 1 rfl) ?_
            refine lv_ishr hx hb dX11_layDress_76 ?_
            refine lv_topi (fun t39 et39 => ?_)
            refine lv_iconst (v := 1) hx hb dX11_layDress_77 (by decide) ?_
            refine lv_iand hx hb dX11_layDress_78 ?_
            refine lv_topi (fun t40 et40 => ?_)
            have zt40 : 0 ≤ t40.toInt ∧ t40.toInt < 2 := by rw [et40]; exact and_rng _ (k := 1) (by decide) (by decide)
            refine lv_iconst (v := 1) hx hb dX11_layDress_79 (by decide) ?_
            refine lv_icmp_eq (tgt := 103) hx hb dX11_layDress_80 (by decide) (fun c41 => ?_) (fun c41 => ?_)
            · skip
              have zc41 : t40.toInt = 1 := by rw [fa_eq, show (1 : Int32).toInt = 1 from by decide] at c41; exact c41
              refine lv_iconst (v := (-1)) hx hb dX11_layDress_103 (by decide) ?_
              exact ret (-1) (v3, f37, w3, g3) _ _ _ _ _ _ rfl ⟨ha0_f37, hIv3, hCf37, hRf37, (show v3 0 = v 0 from hq0_v3), (show v3 1 = v 1 from hq1_v3), (show v3 2 = v 2 from hq2_v3), (show v3 3 = v 3 from hq3_v3), (show v3 4 = v 4 from hq4_v3), (show v3 5 = v 5 from hq5_v3), (show v3 8 = v 8 from hq8_v3), (show v3 9 = v 9 from hq9_v3), (show v3 10 = v 10 from hq10_v3), (show v3 13 = v 13 from hq13_v3), (show v3 14 = v 14 from hq14_v3), (show v3 15 = v 15 from hq15_v3), (show v3 17 = v 17 from hq17_v3), (show v3 18 = v 18 from hq18_v3), (show v3 24 = v 24 from hq24_v3), (show v3 25 = v 25 from hq25_v3), (show v3 35 = v 35 from hq35_v3), (show v3 36 = v 36 from hq36_v3), (show v3 38 = v 38 from hq38_v3), (show v3 39 = v 39 from hq39_v3)⟩ hP hD hS dX11_layDress_104 (Nat.le_refl _) (Nat.le_refl _)
            · skip
              have zc41 : ¬ (t40.toInt = 1) := by rw [fa_eq, show (1 : Int32).toInt = 1 from by decide] at c41; exact c41
              refine lv_aload_n hx hb dX11_layDress_83 rfl (lv_at hl 5 rfl) ?_
              refine va_get (D := (dC, dI)) (ci := 11) (v := .ref (r 66)) (C := RX11) (T := TX11) (N := 79) hx hb hts inB_11 hown hE.1 hP 0 rfl rfl 66 (by decide) (hts _ k_1386) (fun _ h9 => h9) rfl dX11_layDress_84 ?_
              refine lv_bipush (v := 6) hx hb dX11_layDress_87 (by decide) ?_
              refine lv_iload hx hb dX11_layDress_89 (lv_at hl 2 rfl) ?_
              refine lv_imul hx hb dX11_layDress_91 ?_
              refine lv_topi (fun t42 et42 => ?_)
              have rg43 := fb_rng l5_3
              have zt42 : t42.toInt = 6 * l5_3.toInt := by rw [et42]; exact mul_i (by decide) rfl (by omega) (by omega)
              refine lv_iload hx hb dX11_layDress_92 (lv_at hl 1 rfl) ?_
              refine lv_iadd hx hb dX11_layDress_94 ?_
              refine lv_topi (fun t44 et44 => ?_)
              have rg45 := fb_rng t42
              have zt44 : t44.toInt = t42.toInt + t7.toInt := by rw [et44]; exact add_i rfl rfl (by omega) (by omega)
              refine ldI hx hb hE hP 29 rfl (vp_in_iff.mpr ⟨by omega, by omega⟩) rfl rfl dX11_layDress_95 ?_
              refine lv_topi (fun t46 et46 => ?_)
              refine lv_aload_n hx hb dX11_layDress_96 rfl (lv_at hl 5 rfl) ?_
              refine va_get (D := (dC, dI)) (ci := 11) (v := .int (v3 26)) (C := RX11) (T := TX11) (N := 79) hx hb hts inB_11 hown hE.1 hP 0 rfl rfl 50 (by decide) (hts _ k_1370) (fun _ h9 => h9) rfl dX11_layDress_97 ?_
              refine lv_icmp_le (tgt := 105) hx hb dX11_layDress_100 (by decide) (fun c47 => ?_) (fun c47 => ?_)
              · skip
                have zc47 : t46.toInt ≤ (v3 26).toInt := by rw [fa_le] at c47; exact c47
                have rg48 := fb_rng t46
                have rg49 := fb_rng (v3 26)
                refine lv_iload_n hx hb dX11_layDress_105 rfl (lv_at hl 4 rfl) ?_
                refine lv_iconst (v := 1) hx hb dX11_layDress_106 (by decide) ?_
                refine lv_iload hx hb dX11_layDress_107 (lv_at hl 1 rfl) ?_
                refine lv_ishl hx hb dX11_layDress_109 ?_
                refine lv_topi (fun t50 et50 => ?_)
                have zt50 : 1 ≤ t50.toInt ∧ t50.toInt ≤ 64 := by rw [et50]; exact shl1_rng6 (by omega) (by omega)
                refine lv_ior hx hb dX11_layDress_110 ?_
                refine lv_topi (fun t51 et51 => ?_)
                refine lv_istore_n (lv' := [(3, .int t51), (2, .int t8), (6, .int t7), (5, .int l5_3), (4, .int l4_3), (0, .ref y0), (1, .int p1)]) hx hb dX11_layDress_111 rfl hl (by decide) rfl (fun ls hl => ?_)
                obtain ⟨t52, et52⟩ : ∃ y : Int32, y = l4_3 + 1 := ⟨_, rfl⟩
                refine lv_iinc (v := t52) (lv' := [(4, .int t52), (3, .int t51), (2, .int t8), (6, .int t7), (5, .int l5_3), (0, .ref y0), (1, .int p1)]) hx hb dX11_layDress_112 hl (k := 4) rfl (by rw [et52]; rfl) (by decide) rfl (fun ls hl => ?_)
                obtain ⟨t53, et53⟩ : ∃ y : Int32, y = l5_3 + (-1) := ⟨_, rfl⟩
                have zt53 : t53.toInt = l5_3.toInt + (-1) := by rw [et53]; exact add_i rfl (by decide) (by omega) (by omega)
                refine lv_iinc (v := t53) (lv' := [(5, .int t53), (4, .int t52), (3, .int t51), (2, .int t8), (6, .int t7), (0, .ref y0), (1, .int p1)]) hx hb dX11_layDress_115 hl (k := 4) rfl (by rw [et53]; rfl) (by decide) rfl (fun ls hl => ?_)
                refine lv_goto (tgt := 15) hx hb dX11_layDress_118 (by decide) ?_
                have rg54 := fb_rng t8
                have rg55 := fb_rng t53
                exact ih3 t8 t51 t52 t53 v3 f37 w3 g3 hIv3 hCf37 hRf37 hq0_v3 hq1_v3 hq2_v3 hq3_v3 hq4_v3 hq5_v3 hq8_v3 hq9_v3 hq10_v3 hq13_v3 hq14_v3 hq15_v3 hq17_v3 hq18_v3 hq24_v3 hq25_v3 hq35_v3 hq36_v3 hq38_v3 hq39_v3 ⟨show (0 : Int) ≤ t8.toInt by omega, show t8.toInt ≤ (2147483647 : Int) by omega⟩ ⟨show (-2147483648 : Int) ≤ t53.toInt by omega, show t53.toInt ≤ (5 : Int) by omega⟩ ha0_f37 (by show (t53.toInt + 2147483648).toNat < n3; omega) _ _ _ hP hD hS (lv_sub hl [0, 1, 2, 3, 5, 6] rfl)
              · skip
                have zc47 : ¬ (t46.toInt ≤ (v3 26).toInt) := by rw [fa_le] at c47; exact c47
                have rg56 := fb_rng t46
                have rg57 := fb_rng (v3 26)
                refine lv_iconst (v := (-1)) hx hb dX11_layDress_103 (by decide) ?_
                exact ret (-1) (v3, f37, w3, g3) _ _ _ _ _ _ rfl ⟨ha0_f37, hIv3, hCf37, hRf37, (show v3 0 = v 0 from hq0_v3), (show v3 1 = v 1 from hq1_v3), (show v3 2 = v 2 from hq2_v3), (show v3 3 = v 3 from hq3_v3), (show v3 4 = v 4 from hq4_v3), (show v3 5 = v 5 from hq5_v3), (show v3 8 = v 8 from hq8_v3), (show v3 9 = v 9 from hq9_v3), (show v3 10 = v 10 from hq10_v3), (show v3 13 = v 13 from hq13_v3), (show v3 14 = v 14 from hq14_v3), (show v3 15 = v 15 from hq15_v3), (show v3 17 = v 17 from hq17_v3), (show v3 18 = v 18 from hq18_v3), (show v3 24 = v 24 from hq24_v3), (show v3 25 = v 25 from hq25_v3), (show v3 35 = v 35 from hq35_v3), (show v3 36 = v 36 from hq36_v3), (show v3 38 = v 38 from hq38_v3), (show v3 39 = v 39 from hq39_v3)⟩ hP hD hS dX11_layDress_104 (Nat.le_refl _) (Nat.le_refl _)
          · skip
            have zc38 : t7.toInt = (v 25).toInt := by rw [fa_eq] at c38; exact c38
            refine lv_goto (tgt := 115) hx hb dX11_layDress_70 (by decide) ?_
            obtain ⟨t58, et58⟩ : ∃ y : Int32, y = l5_3 + (-1) := ⟨_, rfl⟩
            have rg59 := fb_rng l5_3
            have zt58 : t58.toInt = l5_3.toInt + (-1) := by rw [et58]; exact add_i rfl (by decide) (by omega) (by omega)
            refine lv_iinc (v := t58) (lv' := [(5, .int t58), (2, .int t8), (6, .int t7), (4, .int l4_3), (3, .int l3_3), (0, .ref y0), (1, .int p1)]) hx hb dX11_layDress_115 hl (k := 2) rfl (by rw [et58]; rfl) (by decide) rfl (fun ls hl => ?_)
            refine lv_goto (tgt := 15) hx hb dX11_layDress_118 (by decide) ?_
            have rg60 := fb_rng t8
            have rg61 := fb_rng t58
            exact ih3 t8 l3_3 l4_3 t58 v3 f37 w3 g3 hIv3 hCf37 hRf37 hq0_v3 hq1_v3 hq2_v3 hq3_v3 hq4_v3 hq5_v3 hq8_v3 hq9_v3 hq10_v3 hq13_v3 hq14_v3 hq15_v3 hq17_v3 hq18_v3 hq24_v3 hq25_v3 hq35_v3 hq36_v3 hq38_v3 hq39_v3 ⟨show (0 : Int) ≤ t8.toInt by omega, show t8.toInt ≤ (2147483647 : Int) by omega⟩ ⟨show (-2147483648 : Int) ≤ t58.toInt by omega, show t58.toInt ≤ (5 : Int) by omega⟩ ha0_f37 (by show (t58.toInt + 2147483648).toNat < n3; omega) _ _ _ hP hD hS (lv_sub hl [0, 3, 4, 1, 5, 6] rfl)
  have rg62 := fb_rng p1
  have rg63 := fb_rng t1
  exact lp3 _ p1 0 0 t1 v f w g hIv hCf hRf rfl rfl rfl rfl rfl rfl rfl rfl rfl rfl rfl rfl rfl rfl rfl rfl rfl rfl rfl rfl ⟨show (0 : Int) ≤ p1.toInt by omega, show p1.toInt ≤ (2147483647 : Int) by omega⟩ ⟨show (-2147483648 : Int) ≤ t1.toInt by omega, show t1.toInt ≤ (5 : Int) by omega⟩ ha0_f (Nat.lt_succ_self _) _ _ _ hP hD hS (lv_sub hl [0, 1, 2, 3, 4, 5] rfl)
