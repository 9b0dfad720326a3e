set_option maxHeartbeats 4000000 in
set_option maxRecDepth 100000 in
theorem sY_X11_close_1 (l : Launch) (dC : Nat → ClassId) (dI : Nat → Nat → Nat) (cy : Nat → ClassId) (y0 : Nat) (r : Nat → Nat) (p1 : Int32) (v : Nat → Int32) (f : Nat → Nat → Int32) (w : Int64) (g : Nat → Int64) (hIv : YI v) (hCf : YC f) (hRf : progOK (f 4) (f 5) (v 9).toInt.toNat) (hp1 : (0 : Int) ≤ p1.toInt ∧ p1.toInt ≤ 6) (hf0 : (v 8).toInt + (v 10).toInt ≤ 310) (hg0 : FI 1 (v 10).toInt (v 14).toInt (v 8).toInt (f 6) (f 2) (f 3)) : ctV l (dC, dI) cy yX11_close cX11_close 2 2 82 0 0 ((Nat → Int32) × (Nat → Nat → Int32) × (Int64) × (Nat → Int64)) [.ref y0, .int p1] (YW cy y0 r v f w g) (fun u => YI u.1 ∧ YC u.2.1 ∧ progOK (u.2.1 4) (u.2.1 5) (u.1 9).toInt.toNat ∧ u.1 0 = v 0 ∧ u.1 1 = v 1 ∧ u.1 3 = v 3 ∧ u.1 4 = v 4 ∧ u.1 5 = v 5 ∧ u.1 9 = v 9 ∧ u.1 13 = v 13 ∧ u.1 15 = v 15 ∧ u.1 17 = v 17 ∧ u.1 18 = v 18 ∧ u.1 24 = v 24 ∧ u.1 25 = v 25 ∧ u.1 35 = v 35 ∧ u.1 36 = v 36 ∧ u.1 38 = v 38 ∧ u.1 39 = v 39 ∧ ((u.1 8).toInt + (u.1 10).toInt = (v 8).toInt + (v 10).toInt) ∧ ((u.1 10).toInt - (u.1 14).toInt ≤ (v 10).toInt - (v 14).toInt) ∧ ((u.1 10).toInt ≤ (v 10).toInt) ∧ ((u.1 14).toInt ≤ (v 14).toInt) ∧ (FI 1 (u.1 10).toInt (u.1 14).toInt (u.1 8).toInt (u.2.1 6) (u.2.1 2) (u.2.1 3)) ∧ (∀ k, k < ((v 10).toInt).toNat → (f 6) k = 20 → k < ((u.1 10).toInt).toNat) ∧ (0 < p1.toInt ∨ (u.1 10).toInt = 0 ∨ (u.2.1 6) ((u.1 10).toInt - 1).toNat = 20) ∧ u.2.1 6 = f 6) (fun u => YW cy y0 r u.1 u.2.1 u.2.2.1 u.2.2.2) := by
  refine ctV_of (by decide) (Nat.le_of_ble_eq_true rfl) (fun p e s m below meth c A ls Q hx hb hml hts hown hnm hE hP hD hA hl ret => ?_)
  have hUv : (v 35).toInt + (v 36).toInt ≤ 40 := hIv.2
  have hFI := hg0
  have b1_v : (0 : Int) ≤ (v 1).toInt ∧ (v 1).toInt ≤ 4 := YIb.b hIv.1 1 (by decide)
  have b3_v : (0 : Int) ≤ (v 3).toInt ∧ (v 3).toInt ≤ 1600 := YIb.b hIv.1 3 (by decide)
  have b8_v : (0 : Int) ≤ (v 8).toInt ∧ (v 8).toInt ≤ 320 := YIb.b hIv.1 8 (by decide)
  have b10_v : (0 : Int) ≤ (v 10).toInt ∧ (v 10).toInt ≤ 160 := YIb.b hIv.1 10 (by decide)
  have b13_v : (0 : Int) ≤ (v 13).toInt ∧ (v 13).toInt ≤ 31 := YIb.b hIv.1 13 (by decide)
  have b14_v : (0 : Int) ≤ (v 14).toInt ∧ (v 14).toInt ≤ 8 := YIb.b hIv.1 14 (by decide)
  have hown : s.vm.findClass RX11 = some m.cls := hown
  have hS : va_S A s.heap s.heap [] := va_S.rf
  have hl : lv_has ls 2 [(0, .ref y0), (1, .int p1)] := hl
  have lp1 : ∀ (n1 : Nat)  (v1 : Nat → Int32) (f1 : Nat → Nat → Int32) (w1 : Int64) (g1 : Nat → Int64), YI v1 → YC f1 → progOK (f1 4) (f1 5) (v1 9).toInt.toNat → v1 0 = (v 0) → v1 1 = (v 1) → v1 3 = (v 3) → v1 4 = (v 4) → v1 5 = (v 5) → v1 9 = (v 9) → v1 13 = (v 13) → v1 15 = (v 15) → v1 17 = (v 17) → v1 18 = (v 18) → v1 24 = (v 24) → v1 25 = (v 25) → v1 35 = (v 35) → v1 36 = (v 36) → v1 38 = (v 38) → v1 39 = (v 39) → (FI 1 (v1 10).toInt (v1 14).toInt (v1 8).toInt (f1 6) (f1 2) (f1 3)) → (∀ k, k < ((v 10).toInt).toNat → (f1 6) k = 20 → k < ((v1 10).toInt).toNat) → ((v1 8).toInt + (v1 10).toInt = (v 8).toInt + (v 10).toInt) → ((v1 10).toInt - (v1 14).toInt ≤ (v 10).toInt - (v 14).toInt) → ((v1 10).toInt ≤ (v 10).toInt) → ((v1 14).toInt ≤ (v 14).toInt) → f1 6 = (f 6) → ((v1 10).toInt).toNat < n1 → ∀ (H : Heap) (locs : List Loc) (ls : Array Slot), va_P (dC, dI) vwCl (YW cy y0 r v1 f1 w1 g1) H → va_D A (YW cy y0 r v1 f1 w1 g1) → va_S A s.heap H locs → lv_has ls 2 [(0, .ref y0), (1, .int p1)] → W p l e { frames := 2, cells := 0, slots := 0, locals := 82 } s m ([.ref y0, .int p1] : List Value).toArray below meth c H locs 0 0 Q (F0 m 0 ls []) := by
    intro n1
    induction n1 with
    | zero => intro  v1 f1 w1 g1 hIv1 hCf1 hRf1 hq0_v1 hq1_v1 hq3_v1 hq4_v1 hq5_v1 hq9_v1 hq13_v1 hq15_v1 hq17_v1 hq18_v1 hq24_v1 hq25_v1 hq35_v1 hq36_v1 hq38_v1 hq39_v1 hx0_1 hx1_1 hx2_1 hx3_1 hx4_1 hx5_1 hs6_f1 hm; exact absurd hm (Nat.not_lt_zero _)
    | succ n1 ih1 =>
      intro  v1 f1 w1 g1 hIv1 hCf1 hRf1 hq0_v1 hq1_v1 hq3_v1 hq4_v1 hq5_v1 hq9_v1 hq13_v1 hq15_v1 hq17_v1 hq18_v1 hq24_v1 hq25_v1 hq35_v1 hq36_v1 hq38_v1 hq39_v1 hx0_1 hx1_1 hx2_1 hx3_1 hx4_1 hx5_1 hs6_f1 hm1 H locs ls hP hD hS hl
      have hUv1 : (v1 35).toInt + (v1 36).toInt ≤ 40 := hIv1.2
      have zq1_v1 := congrArg Int32.toInt hq1_v1
      have zq3_v1 := congrArg Int32.toInt hq3_v1
      have zq5_v1 := congrArg Int32.toInt hq5_v1
      have zq13_v1 := congrArg Int32.toInt hq13_v1
      have b10_v1 : 0 ≤ (v1 10).toInt ∧ (v1 10).toInt ≤ 160 := YIb.b hIv1.1 10 (by decide)
      have b14_v1 : 0 ≤ (v1 14).toInt ∧ (v1 14).toInt ≤ 8 := YIb.b hIv1.1 14 (by decide)
      have b8_v1 : 0 ≤ (v1 8).toInt ∧ (v1 8).toInt ≤ 320 := YIb.b hIv1.1 8 (by decide)
      rw [hs6_f1] at hx0_1
      rw [hs6_f1] at hx1_1
      have hFI := hx0_1
      have hGK := hx1_1
      refine lv_aload_n hx hb dX11_close_0 rfl (lv_at hl 0 rfl) ?_
      refine va_get (D := (dC, dI)) (ci := 11) (v := .int (v1 10)) (C := RX11) (T := TX11) (N := 79) hx hb hts inB_11 hown hE.1 hP 0 rfl rfl 19 (by decide) (hts _ k_1339) (fun _ h9 => h9) rfl dX11_close_1 ?_
      refine lv_if_le (tgt := 101) hx hb dX11_close_4 (by decide) (fun c2 => ?_) (fun c2 => ?_)
      · skip
        have zc2 : (v1 10).toInt ≤ 0 := by rw [fa_le, show (0 : Int32).toInt = 0 from by decide] at c2; exact c2
        exact ret (v1, f1, w1, g1) _ _ _ _ _ _ ⟨hIv1, hCf1, hRf1, (show v1 0 = v 0 from hq0_v1), (show v1 1 = v 1 from hq1_v1), (show v1 3 = v 3 from hq3_v1), (show v1 4 = v 4 from hq4_v1), (show v1 5 = v 5 from hq5_v1), (show v1 9 = v 9 from hq9_v1), (show v1 13 = v 13 from hq13_v1), (show v1 15 = v 15 from hq15_v1), (show v1 17 = v 17 from hq17_v1), (show v1 18 = v 18 from hq18_v1), (show v1 24 = v 24 from hq24_v1), (show v1 25 = v 25 from hq25_v1), (show v1 35 = v 35 from hq35_v1), (show v1 36 = v 36 from hq36_v1), (show v1 38 = v 38 from hq38_v1), (show v1 39 = v 39 from hq39_v1), (by show (v1 8).toInt + (v1 10).toInt = (v 8).toInt + (v 10).toInt; omega), (by show (v1 10).toInt - (v1 14).toInt ≤ (v 10).toInt - (v 14).toInt; omega), (by show (v1 10).toInt ≤ (v 10).toInt; omega), (by show (v1 14).toInt ≤ (v 14).toInt; omega), (by show FI 1 (v1 10).toInt (v1 14).toInt (v1 8).toInt (f1 6) (f1 2) (f1 3); rw [hs6_f1]; exact hFI), (by show ∀ k, k < ((v 10).toInt).toNat → (f 6) k = 20 → k < ((v1 10).toInt).toNat; exact hGK), (by show 0 < p1.toInt ∨ (v1 10).toInt = 0 ∨ (f1 6) ((v1 10).toInt - 1).toNat = 20; rw [hs6_f1]; first | exact Or.inl (by omega) | exact Or.inr (Or.inl (by omega)) | exact Or.inr (Or.inr (topEq hO (by omega) (by omega)))), hs6_f1⟩ hP hD hS dX11_close_101 (Nat.le_refl _) (Nat.le_refl _)
      · skip
        have zc2 : ¬ ((v1 10).toInt ≤ 0) := by rw [fa_le, show (0 : Int32).toInt = 0 from by decide] at c2; exact c2
        refine lv_aload_n hx hb dX11_close_7 rfl (lv_at hl 0 rfl) ?_
        refine va_get (D := (dC, dI)) (ci := 11) (v := .ref (r 15)) (C := RX11) (T := TX11) (N := 79) hx hb hts inB_11 hown hE.1 hP 0 rfl rfl 15 (by decide) (hts _ k_1335) (fun _ h9 => h9) rfl dX11_close_8 ?_
        refine lv_aload_n hx hb dX11_close_11 rfl (lv_at hl 0 rfl) ?_
        refine va_get (D := (dC, dI)) (ci := 11) (v := .int (v1 10)) (C := RX11) (T := TX11) (N := 79) hx hb hts inB_11 hown hE.1 hP 0 rfl rfl 19 (by decide) (hts _ k_1339) (fun _ h9 => h9) rfl dX11_close_12 ?_
        refine lv_iconst (v := 1) hx hb dX11_close_15 (by decide) ?_
        refine lv_isub hx hb dX11_close_16 ?_
        refine lv_topi (fun t3 et3 => ?_)
        have rg4 := fb_rng (v1 10)
        have zt3 : t3.toInt = (v1 10).toInt - 1 := by rw [et3]; exact sub_i rfl (by decide) (by omega) (by omega)
        refine ldI hx hb hE hP 7 rfl (vp_in_iff.mpr ⟨by omega, by omega⟩) rfl rfl dX11_close_17 ?_
        refine lv_topi (fun t5 et5 => ?_)
        have hO : (f 6) t3.toInt.toNat = t5 := by rw [et5, hs6_f1]; rfl
        refine lv_bipush (v := 20) hx hb dX11_close_18 (by decide) ?_
        refine lv_icmp_eq (tgt := 101) hx hb dX11_close_20 (by decide) (fun c6 => ?_) (fun c6 => ?_)
        · skip
          have zc6 : t5.toInt = 20 := by rw [fa_eq, show (20 : Int32).toInt = 20 from by decide] at c6; exact c6
          exact ret (v1, f1, w1, g1) _ _ _ _ _ _ ⟨hIv1, hCf1, hRf1, (show v1 0 = v 0 from hq0_v1), (show v1 1 = v 1 from hq1_v1), (show v1 3 = v 3 from hq3_v1), (show v1 4 = v 4 from hq4_v1), (show v1 5 = v 5 from hq5_v1), (show v1 9 = v 9 from hq9_v1), (show v1 13 = v 13 from hq13_v1), (show v1 15 = v 15 from hq15_v1), (show v1 17 = v 17 from hq17_v1), (show v1 18 = v 18 from hq18_v1), (show v1 24 = v 24 from hq24_v1), (show v1 25 = v 25 from hq25_v1), (show v1 35 = v 35 from hq35_v1), (show v1 36 = v 36 from hq36_v1), (show v1 38 = v 38 from hq38_v1), (show v1 39 = v 39 from hq39_v1), (by show (v1 8).toInt + (v1 10).toInt = (v 8).toInt + (v 10).toInt; omega), (by show (v1 10).toInt - (v1 14).toInt ≤ (v 10).toInt - (v 14).toInt; omega), (by show (v1 10).toInt ≤ (v 10).toInt; omega), (by show (v1 14).toInt ≤ (v 14).toInt; omega), (by show FI 1 (v1 10).toInt (v1 14).toInt (v1 8).toInt (f1 6) (f1 2) (f1 3); rw [hs6_f1]; exact hFI), (by show ∀ k, k < ((v 10).toInt).toNat → (f 6) k = 20 → k < ((v1 10).toInt).toNat; exact hGK), (by show 0 < p1.toInt ∨ (v1 10).toInt = 0 ∨ (f1 6) ((v1 10).toInt - 1).toNat = 20; rw [hs6_f1]; first | exact Or.inl (by omega) | exact Or.inr (Or.inl (by omega)) | exact Or.inr (Or.inr (topEq hO (by omega) (by omega)))), hs6_f1⟩ hP hD hS dX11_close_101 (Nat.le_refl _) (Nat.le_refl _)
        · skip
          have zc6 : ¬ (t5.toInt = 20) := by rw [fa_eq, show (20 : Int32).toInt = 20 from by decide] at c6; exact c6
          refine lv_aload_n hx hb dX11_close_23 rfl (lv_at hl 0 rfl) ?_
          refine va_get (D := (dC, dI)) (ci := 11) (v := .ref (r 15)) (C := RX11) (T := TX11) (N := 79) hx hb hts inB_11 hown hE.1 hP 0 rfl rfl 15 (by decide) (hts _ k_1335) (fun _ h9 => h9) rfl dX11_close_24 ?_
          refine lv_aload_n hx hb dX11_close_27 rfl (lv_at hl 0 rfl) ?_
          refine va_get (D := (dC, dI)) (ci := 11) (v := .int (v1 10)) (C := RX11) (T := TX11) (N := 79) hx hb hts inB_11 hown hE.1 hP 0 rfl rfl 19 (by decide) (hts _ k_1339) (fun _ h9 => h9) rfl dX11_close_28 ?_
          refine lv_iconst (v := 1) hx hb dX11_close_31 (by decide) ?_
          refine lv_isub hx hb dX11_close_32 ?_
          refine tI (y := t3) et3.symm ?_
          refine ldI hx hb hE hP 7 rfl (vp_in_iff.mpr ⟨by omega, by omega⟩) rfl rfl dX11_close_33 ?_
          refine tI (y := t5) et5.symm ?_
          refine cbSi (n := 1) (rest := []) hx hb hml hown hts hE hP hD hS hA (sY_X11_tight_1 l dC dI cy y0 r t5 v1 f1 w1 g1 hIv1 hCf1 hRf1 ) k_1677 k_1678 k_114 k_1679 (by decide +kernel) ⟨Nat.le_of_ble_eq_true rfl, Nat.le_of_ble_eq_true rfl⟩ (rfl) hl.1 rfl (Nat.le_of_ble_eq_true rfl) dX11_close_34 (fun r7 u H locs hw hP hD hS => ?_)
          refine lv_iload_n hx hb dX11_close_37 rfl (lv_at hl 1 rfl) ?_
          refine lv_icmp_lt (tgt := 101) hx hb dX11_close_38 (by decide) (fun c8 => ?_) (fun c8 => ?_)
          · skip
            have zc8 : r7.toInt < p1.toInt := by rw [fa_lt] at c8; exact c8
            have rg9 := fb_rng r7
            have rg10 := fb_rng p1
            exact ret (v1, f1, w1, g1) _ _ _ _ _ _ ⟨hIv1, hCf1, hRf1, (show v1 0 = v 0 from hq0_v1), (show v1 1 = v 1 from hq1_v1), (show v1 3 = v 3 from hq3_v1), (show v1 4 = v 4 from hq4_v1), (show v1 5 = v 5 from hq5_v1), (show v1 9 = v 9 from hq9_v1), (show v1 13 = v 13 from hq13_v1), (show v1 15 = v 15 from hq15_v1), (show v1 17 = v 17 from hq17_v1), (show v1 18 = v 18 from hq18_v1), (show v1 24 = v 24 from hq24_v1), (show v1 25 = v 25 from hq25_v1), (show v1 35 = v 35 from hq35_v1), (show v1 36 = v 36 from hq36_v1), (show v1 38 = v 38 from hq38_v1), (show v1 39 = v 39 from hq39_v1), (by show (v1 8).toInt + (v1 10).toInt = (v 8).toInt + (v 10).toInt; omega), (by show (v1 10).toInt - (v1 14).toInt ≤ (v 10).toInt - (v 14).toInt; omega), (by show (v1 10).toInt ≤ (v 10).toInt; omega), (by show (v1 14).toInt ≤ (v 14).toInt; omega), (by show FI 1 (v1 10).toInt (v1 14).toInt (v1 8).toInt (f1 6) (f1 2) (f1 3); rw [hs6_f1]; exact hFI), (by show ∀ k, k < ((v 10).toInt).toNat → (f 6) k = 20 → k < ((v1 10).toInt).toNat; exact hGK), (by show 0 < p1.toInt ∨ (v1 10).toInt = 0 ∨ (f1 6) ((v1 10).toInt - 1).toNat = 20; rw [hs6_f1]; first | exact Or.inl (by omega) | exact Or.inr (Or.inl (by omega)) | exact Or.inr (Or.inr (topEq hO (by omega) (by omega)))), hs6_f1⟩ hP hD hS dX11_close_101 (Nat.le_refl _) (Nat.le_refl _)
          · skip
            have zc8 : ¬ (r7.toInt < p1.toInt) := by rw [fa_lt] at c8; exact c8
            have rg11 := fb_rng r7
            have rg12 := fb_rng p1
            refine lv_aload_n hx hb dX11_close_41 rfl (lv_at hl 0 rfl) ?_
            refine lv_dup hx hb dX11_close_42 rfl ?_
            refine va_get (D := (dC, dI)) (ci := 11) (v := .int (v1 10)) (C := RX11) (T := TX11) (N := 79) hx hb hts inB_11 hown hE.1 hP 0 rfl rfl 19 (by decide) (hts _ k_1339) (fun _ h9 => h9) rfl dX11_close_43 ?_
            refine lv_iconst (v := 1) hx hb dX11_close_46 (by decide) ?_
            refine lv_isub hx hb dX11_close_47 ?_
            refine tI (y := t3) et3.symm ?_
            refine va_put (D := (dC, dI)) (ci := 11) (v := .int t3) (ty := tyX11 19) (C := RX11) (T := TX11) (N := 79) hx hb hts inB_11 tyX11 tyX11_ok nmX11 hown hE.1 hP hD hS 0 rfl rfl 19 (by decide) (hts _ k_1339) (fun _ h9 => h9) rfl (tyX11_ok 19 (by decide)) rfl rfl (Nat.le_of_ble_eq_true rfl) dX11_close_48 (fun H locs hP hD hS => ?_)
            have hP : va_P (dC, dI) vwCl (YW cy y0 r (upd v1 10 t3) f1 w1 g1) H := hP
            have hD : va_D A (YW cy y0 r (upd v1 10 t3) f1 w1 g1) := hD
            refine lv_aload_n hx hb dX11_close_51 rfl (lv_at hl 0 rfl) ?_
            refine va_get (D := (dC, dI)) (ci := 11) (v := .ref (r 15)) (C := RX11) (T := TX11) (N := 79) hx hb hts inB_11 hown hE.1 hP 0 rfl rfl 15 (by decide) (hts _ k_1335) (fun _ h9 => h9) rfl dX11_close_52 ?_
            refine lv_aload_n hx hb dX11_close_55 rfl (lv_at hl 0 rfl) ?_
            refine va_get (D := (dC, dI)) (ci := 11) (v := .int t3) (C := RX11) (T := TX11) (N := 79) hx hb hts inB_11 hown hE.1 hP 0 rfl rfl 19 (by decide) (hts _ k_1339) (fun _ h9 => h9) rfl dX11_close_56 ?_
            refine ldI hx hb hE hP 7 rfl (vp_in_iff.mpr ⟨by omega, by omega⟩) rfl rfl dX11_close_59 ?_
            refine tI (y := t5) et5.symm ?_
            refine lv_bipush (v := 21) hx hb dX11_close_60 (by decide) ?_
            refine lv_icmp_ne (tgt := 84) hx hb dX11_close_62 (by decide) (fun c13 => ?_) (fun c13 => ?_)
            · skip
              have zc13 : ¬ (t5.toInt = 21) := by rw [fa_eq, show (21 : Int32).toInt = 21 from by decide] at c13; exact c13
              refine lv_aload_n hx hb dX11_close_84 rfl (lv_at hl 0 rfl) ?_
              refine lv_iconst (v := 3) hx hb dX11_close_85 (by decide) ?_
              refine lv_aload_n hx hb dX11_close_86 rfl (lv_at hl 0 rfl) ?_
              refine va_get (D := (dC, dI)) (ci := 11) (v := .ref (r 15)) (C := RX11) (T := TX11) (N := 79) hx hb hts inB_11 hown hE.1 hP 0 rfl rfl 15 (by decide) (hts _ k_1335) (fun _ h9 => h9) rfl dX11_close_87 ?_
              refine lv_aload_n hx hb dX11_close_90 rfl (lv_at hl 0 rfl) ?_
              refine va_get (D := (dC, dI)) (ci := 11) (v := .int t3) (C := RX11) (T := TX11) (N := 79) hx hb hts inB_11 hown hE.1 hP 0 rfl rfl 19 (by decide) (hts _ k_1339) (fun _ h9 => h9) rfl dX11_close_91 ?_
              refine ldI hx hb hE hP 7 rfl (vp_in_iff.mpr ⟨by omega, by omega⟩) rfl rfl dX11_close_94 ?_
              refine tI (y := t5) et5.symm ?_
              refine cbVv (n := 2) (rest := []) hx hb hml hown hts hE hP hD hS hA (sY_X11_add_1 l dC dI cy y0 r 3 t5 (upd v1 10 t3) f1 w1 g1 ⟨(YIb.upd (j := 10) (x := t3) hIv1.1 (show (0 : Int) ≤ t3.toInt by omega) (show t3.toInt ≤ (160 : Int) by omega)), hIv1.2⟩ hCf1 hRf1 (by have q1 : (3 : Int32).toInt = 3 := (by decide); show (v1 8).toInt ≤ 319; omega)) k_1696 k_1698 k_63 k_114 k_1699 (by decide +kernel) ⟨Nat.le_of_ble_eq_true rfl, Nat.le_of_ble_eq_true rfl⟩ 0 11 rfl rfl (rfl) hl.1 rfl (Nat.le_of_ble_eq_true rfl) dX11_close_95 (fun u H locs hw hP hD hS => ?_)
              obtain ⟨v14, f15, w16, g17⟩ := u
              obtain ⟨hIv14, hCf15, hRf15, hk0_v14, hk1_v14, hk3_v14, hk4_v14, hk5_v14, hk9_v14, hk10_v14, hk13_v14, hk14_v14, hk15_v14, hk17_v14, hk18_v14, hk24_v14, hk25_v14, hk35_v14, hk36_v14, hk38_v14, hk39_v14, pv18, pg19, pg20, kq21⟩ := hw
              have hP : va_P (dC, dI) vwCl (YW cy y0 r v14 f15 w16 g17) H := hP
              have hD : va_D A (YW cy y0 r v14 f15 w16 g17) := hD
              have b8_v14 : 0 ≤ (v14 8).toInt ∧ (v14 8).toInt ≤ 320 := YIb.b hIv14.1 8 (by decide)
              have pv18 : (v14 8).toInt = (v1 8).toInt + 1 := pv18
              have pg19 : (f15 2) = upd (f1 2) ((v1 8).toInt).toNat 3 := pg19
              have pg20 : (f15 3) = upd (f1 3) ((v1 8).toInt).toNat t5 := pg20
              have hs6_f15 : f15 6 = (f 6) := kq21.trans hs6_f1
              have hUv14 : (v14 35).toInt + (v14 36).toInt ≤ 40 := hIv14.2
              have hq0_v14 : v14 0 = (v 0) := hk0_v14.trans hq0_v1
              have hq1_v14 : v14 1 = (v 1) := hk1_v14.trans hq1_v1
              have zq1_v14 := congrArg Int32.toInt hq1_v14
              have hq3_v14 : v14 3 = (v 3) := hk3_v14.trans hq3_v1
              have zq3_v14 := congrArg Int32.toInt hq3_v14
              have hq4_v14 : v14 4 = (v 4) := hk4_v14.trans hq4_v1
              have hq5_v14 : v14 5 = (v 5) := hk5_v14.trans hq5_v1
              have zq5_v14 := congrArg Int32.toInt hq5_v14
              have hq9_v14 : v14 9 = (v 9) := hk9_v14.trans hq9_v1
              have hq10_v14 : v14 10 = t3 := hk10_v14
              have zq10_v14 := congrArg Int32.toInt hq10_v14
              have hq13_v14 : v14 13 = (v 13) := hk13_v14.trans hq13_v1
              have zq13_v14 := congrArg Int32.toInt hq13_v14
              have hq14_v14 : v14 14 = (v1 14) := hk14_v14
              have zq14_v14 := congrArg Int32.toInt hq14_v14
              have hq15_v14 : v14 15 = (v 15) := hk15_v14.trans hq15_v1
              have hq17_v14 : v14 17 = (v 17) := hk17_v14.trans hq17_v1
              have hq18_v14 : v14 18 = (v 18) := hk18_v14.trans hq18_v1
              have hq24_v14 : v14 24 = (v 24) := hk24_v14.trans hq24_v1
              have hq25_v14 : v14 25 = (v 25) := hk25_v14.trans hq25_v1
              have hq35_v14 : v14 35 = (v 35) := hk35_v14.trans hq35_v1
              have hq36_v14 : v14 36 = (v 36) := hk36_v14.trans hq36_v1
              have hq38_v14 : v14 38 = (v 38) := hk38_v14.trans hq38_v1
              have hq39_v14 : v14 39 = (v 39) := hk39_v14.trans hq39_v1
              have hAS := pg19
              have hAA := pg20
              refine lv_goto (tgt := 0) hx hb dX11_close_98 (by decide) ?_
              exact ih1  v14 f15 w16 g17 hIv14 hCf15 hRf15 hq0_v14 hq1_v14 hq3_v14 hq4_v14 hq5_v14 hq9_v14 hq13_v14 hq15_v14 hq17_v14 hq18_v14 hq24_v14 hq25_v14 hq35_v14 hq36_v14 hq38_v14 hq39_v14 (by show FI 1 (v14 10).toInt (v14 14).toInt (v14 8).toInt (f15 6) (f15 2) (f15 3); rw [hs6_f15]; exact FI.dos hFI hO (by omega) (by omega) (by omega) hAS hAA (by omega) (by first | rfl | assumption | omega) (by first | rfl | assumption | omega) (by first | rfl | assumption | omega)) (by show ∀ k, k < ((v 10).toInt).toNat → (f15 6) k = 20 → k < ((v14 10).toInt).toNat; rw [hs6_f15]; exact gk_pop hGK hO (by omega) (by omega) (by omega)) (by show (v14 8).toInt + (v14 10).toInt = (v 8).toInt + (v 10).toInt; omega) (by show (v14 10).toInt - (v14 14).toInt ≤ (v 10).toInt - (v 14).toInt; omega) (by show (v14 10).toInt ≤ (v 10).toInt; omega) (by show (v14 14).toInt ≤ (v 14).toInt; omega) hs6_f15 (by show ((v14 10).toInt).toNat < n1; omega) _ _ _ hP hD hS (lv_sub hl [0, 1] rfl)
            · skip
              have zc13 : t5.toInt = 21 := by rw [fa_eq, show (21 : Int32).toInt = 21 from by decide] at c13; exact c13
              refine lv_aload_n hx hb dX11_close_65 rfl (lv_at hl 0 rfl) ?_
              refine lv_iconst (v := 2) hx hb dX11_close_66 (by decide) ?_
              refine lv_iconst (v := 0) hx hb dX11_close_67 (by decide) ?_
              refine cbVv (n := 2) (rest := []) hx hb hml hown hts hE hP hD hS hA (sY_X11_add_1 l dC dI cy y0 r 2 0 (upd v1 10 t3) f1 w1 g1 ⟨(YIb.upd (j := 10) (x := t3) hIv1.1 (show (0 : Int) ≤ t3.toInt by omega) (show t3.toInt ≤ (160 : Int) by omega)), hIv1.2⟩ hCf1 hRf1 (by have q1 : (2 : Int32).toInt = 2 := (by decide); have q2 : (0 : Int32).toInt = 0 := (by decide); show (v1 8).toInt ≤ 319; omega)) k_1696 k_1698 k_63 k_114 k_1699 (by decide +kernel) ⟨Nat.le_of_ble_eq_true rfl, Nat.le_of_ble_eq_true rfl⟩ 0 11 rfl rfl (rfl) hl.1 rfl (Nat.le_of_ble_eq_true rfl) dX11_close_68 (fun u H locs hw hP hD hS => ?_)
              obtain ⟨v22, f23, w24, g25⟩ := u
              obtain ⟨hIv22, hCf23, hRf23, hk0_v22, hk1_v22, hk3_v22, hk4_v22, hk5_v22, hk9_v22, hk10_v22, hk13_v22, hk14_v22, hk15_v22, hk17_v22, hk18_v22, hk24_v22, hk25_v22, hk35_v22, hk36_v22, hk38_v22, hk39_v22, pv26, pg27, pg28, kq29⟩ := hw
              have hP : va_P (dC, dI) vwCl (YW cy y0 r v22 f23 w24 g25) H := hP
              have hD : va_D A (YW cy y0 r v22 f23 w24 g25) := hD
              have b8_v22 : 0 ≤ (v22 8).toInt ∧ (v22 8).toInt ≤ 320 := YIb.b hIv22.1 8 (by decide)
              have pv26 : (v22 8).toInt = (v1 8).toInt + 1 := pv26
              have pg27 : (f23 2) = upd (f1 2) ((v1 8).toInt).toNat 2 := pg27
              have pg28 : (f23 3) = upd (f1 3) ((v1 8).toInt).toNat 0 := pg28
              have hs6_f23 : f23 6 = (f 6) := kq29.trans hs6_f1
              have hUv22 : (v22 35).toInt + (v22 36).toInt ≤ 40 := hIv22.2
              have hq0_v22 : v22 0 = (v 0) := hk0_v22.trans hq0_v1
              have hq1_v22 : v22 1 = (v 1) := hk1_v22.trans hq1_v1
              have zq1_v22 := congrArg Int32.toInt hq1_v22
              have hq3_v22 : v22 3 = (v 3) := hk3_v22.trans hq3_v1
              have zq3_v22 := congrArg Int32.toInt hq3_v22
              have hq4_v22 : v22 4 = (v 4) := hk4_v22.trans hq4_v1
              have hq5_v22 : v22 5 = (v 5) := hk5_v22.trans hq5_v1
              have zq5_v22 := congrArg Int32.toInt hq5_v22
              have hq9_v22 : v22 9 = (v 9) := hk9_v22.trans hq9_v1
              have hq10_v22 : v22 10 = t3 := hk10_v22
              have zq10_v22 := congrArg Int32.toInt hq10_v22
              have hq13_v22 : v22 13 = (v 13) := hk13_v22.trans hq13_v1
              have zq13_v22 := congrArg Int32.toInt hq13_v22
              have hq14_v22 : v22 14 = (v1 14) := hk14_v22
              have zq14_v22 := congrArg Int32.toInt hq14_v22
              have hq15_v22 : v22 15 = (v 15) := hk15_v22.trans hq15_v1
              have hq17_v22 : v22 17 = (v 17) := hk17_v22.trans hq17_v1
              have hq18_v22 : v22 18 = (v 18) := hk18_v22.trans hq18_v1
              have hq24_v22 : v22 24 = (v 24) := hk24_v22.trans hq24_v1
              have hq25_v22 : v22 25 = (v 25) := hk25_v22.trans hq25_v1
              have hq35_v22 : v22 35 = (v 35) := hk35_v22.trans hq35_v1
              have hq36_v22 : v22 36 = (v 36) := hk36_v22.trans hq36_v1
              have hq38_v22 : v22 38 = (v 38) := hk38_v22.trans hq38_v1
              have hq39_v22 : v22 39 = (v 39) := hk39_v22.trans hq39_v1
              have hAS := pg27
              have hAA := pg28
              have hdn := FI.topd hFI hO (by omega) (by omega)
              refine lv_aload_n hx hb dX11_close_71 rfl (lv_at hl 0 rfl) ?_
              refine lv_dup hx hb dX11_close_72 rfl ?_
              refine va_get (D := (dC, dI)) (ci := 11) (v := .int (v22 14)) (C := RX11) (T := TX11) (N := 79) hx hb hts inB_11 hown hE.1 hP 0 rfl rfl 23 (by decide) (hts _ k_1343) (fun _ h9 => h9) rfl dX11_close_73 ?_
              refine tI (y := (v1 14)) hq14_v22 ?_
              have b14_v1 : 0 ≤ (v1 14).toInt ∧ (v1 14).toInt ≤ 8 := YIb.b hIv1.1 14 (by decide)
              refine lv_iconst (v := 1) hx hb dX11_close_76 (by decide) ?_
              refine lv_isub hx hb dX11_close_77 ?_
              refine lv_topi (fun t30 et30 => ?_)
              have rg31 := fb_rng (v1 14)
              have zt30 : t30.toInt = (v1 14).toInt - 1 := by rw [et30]; exact sub_i rfl (by decide) (by omega) (by omega)
              refine va_put (D := (dC, dI)) (ci := 11) (v := .int t30) (ty := tyX11 23) (C := RX11) (T := TX11) (N := 79) hx hb hts inB_11 tyX11 tyX11_ok nmX11 hown hE.1 hP hD hS 0 rfl rfl 23 (by decide) (hts _ k_1343) (fun _ h9 => h9) rfl (tyX11_ok 23 (by decide)) rfl rfl (Nat.le_of_ble_eq_true rfl) dX11_close_78 (fun H locs hP hD hS => ?_)
              have hP : va_P (dC, dI) vwCl (YW cy y0 r (upd v22 14 t30) f23 w24 g25) H := hP
              have hD : va_D A (YW cy y0 r (upd v22 14 t30) f23 w24 g25) := hD
              refine lv_goto (tgt := 0) hx hb dX11_close_81 (by decide) ?_
              exact ih1  (upd v22 14 t30) f23 w24 g25 ⟨(YIb.upd (j := 14) (x := t30) hIv22.1 (show (0 : Int) ≤ t30.toInt by omega) (show t30.toInt ≤ (8 : Int) by omega)), hIv22.2⟩ hCf23 hRf23 hq0_v22 hq1_v22 hq3_v22 hq4_v22 hq5_v22 hq9_v22 hq13_v22 hq15_v22 hq17_v22 hq18_v22 hq24_v22 hq25_v22 hq35_v22 hq36_v22 hq38_v22 hq39_v22 (by show FI 1 (v22 10).toInt t30.toInt (v22 8).toInt (f23 6) (f23 2) (f23 3); rw [hs6_f23]; exact FI.not hFI hO (by omega) (by omega) hAS hAA (by omega) (by first | rfl | assumption | omega) (by first | rfl | assumption | omega) (by first | rfl | assumption | omega)) (by show ∀ k, k < ((v 10).toInt).toNat → (f23 6) k = 20 → k < ((v22 10).toInt).toNat; rw [hs6_f23]; exact gk_pop hGK hO (by omega) (by omega) (by omega)) (by show (v22 8).toInt + (v22 10).toInt = (v 8).toInt + (v 10).toInt; omega) (by show (v22 10).toInt - t30.toInt ≤ (v 10).toInt - (v 14).toInt; omega) (by show (v22 10).toInt ≤ (v 10).toInt; omega) (by show t30.toInt ≤ (v 14).toInt; omega) hs6_f23 (by show ((v22 10).toInt).toNat < n1; omega) _ _ _ hP hD hS (lv_sub hl [0, 1] rfl)
  exact lp1 _  v f w g hIv hCf hRf rfl rfl rfl rfl rfl rfl rfl rfl rfl rfl rfl rfl rfl rfl rfl rfl (by show FI 1 (v 10).toInt (v 14).toInt (v 8).toInt (f 6) (f 2) (f 3); exact hFI) (by show ∀ k, k < ((v 10).toInt).toNat → (f 6) k = 20 → k < ((v 10).toInt).toNat; exact fun k h1 h2 => h1) (by show (v 8).toInt + (v 10).toInt = (v 8).toInt + (v 10).toInt; omega) (by show (v 10).toInt - (v 14).toInt ≤ (v 10).toInt - (v 14).toInt; omega) (by show (v 10).toInt ≤ (v 10).toInt; omega) (by show (v 14).toInt ≤ (v 14).toInt; omega) rfl (Nat.lt_succ_self _) _ _ _ hP hD hS (lv_sub hl [0, 1] rfl)
set_option maxHeartbeats 4000000 in
set_option maxRecDepth 100000 in
theorem sY_X11_hasBracket_1 (l : Launch) (dC : Nat → ClassId) (dI : Nat → Nat → Nat) (cy : Nat → ClassId) (y0 : Nat) (r : Nat → Nat)  (v : Nat → Int32) (f : Nat → Nat → Int32) (w : Int64) (g : Nat → Int64) (hIv : YI v) (hCf : YC f) (hRf : progOK (f 4) (f 5) (v 9).toInt.toNat)  : ctI l (dC, dI) cy yX11_hasBracket cX11_hasBracket 3 .boolean 1 60 0 0 Unit [.ref y0] (YW cy y0 r v f w g) (fun r u => ((r = 1 ∧ ∃ k, k < ((v 10).toInt).toNat ∧ f 6 k = 20) ∨ (r = 0))) (fun u => YW cy y0 r v f w g) := by
  refine ctI_of (by decide) (Nat.le_of_ble_eq_true rfl) (fun p e s m below meth c A ls Q hx hb hml hts hown hE hP hD hA hl ret => ?_)
  have hUv : (v 35).toInt + (v 36).toInt ≤ 40 := hIv.2
  have hown : s.vm.findClass RX11 = some m.cls := hown
  have hS : va_S A s.heap s.heap [] := va_S.rf
  have hl : lv_has ls 3 [(0, .ref y0)] := hl
  refine lv_iconst (v := 0) hx hb dX11_hasBracket_0 (by decide) ?_
  refine lv_istore_n (lv' := [(1, .int 0), (0, .ref y0)]) hx hb dX11_hasBracket_1 rfl hl (by decide) rfl (fun ls hl => ?_)
  refine lv_iconst (v := 0) hx hb dX11_hasBracket_2 (by decide) ?_
  refine lv_istore_n (lv' := [(2, .int 0), (1, .int 0), (0, .ref y0)]) hx hb dX11_hasBracket_3 rfl hl (by decide) rfl (fun ls hl => ?_)
  have lp1 : ∀ (n1 : Nat) (l1_1 : Int32) (l2_1 : Int32), ((0 : Int) ≤ l1_1.toInt ∧ l1_1.toInt ≤ 1) → ((0 : Int) ≤ l2_1.toInt ∧ l2_1.toInt ≤ 2147483647) → (HBx l1_1.toInt (v 10).toInt (f 6)) → (2147483647 - l2_1.toInt).toNat < n1 → ∀ (H : Heap) (locs : List Loc) (ls : Array Slot), va_P (dC, dI) vwCl (YW cy y0 r v f w g) H → va_D A (YW cy y0 r v f w g) → va_S A s.heap H locs → lv_has ls 3 [(2, .int l2_1), (1, .int l1_1), (0, .ref y0)] → W p l e { frames := 1, cells := 0, slots := 0, locals := 60 } s m ([.ref y0] : List Value).toArray below meth c H locs 0 0 Q (F0 m 4 ls []) := by
    intro n1
    induction n1 with
    | zero => intro l1_1 l2_1 hr1_1 hr2_1 hx0_1 hm; exact absurd hm (Nat.not_lt_zero _)
    | succ n1 ih1 =>
      intro l1_1 l2_1 hr1_1 hr2_1 hx0_1 hm1 H locs ls hP hD hS hl
      have b10_v : 0 ≤ (v 10).toInt ∧ (v 10).toInt ≤ 160 := YIb.b hIv.1 10 (by decide)
      have hHB := hx0_1
      refine lv_iload_n hx hb dX11_hasBracket_4 rfl (lv_at hl 0 rfl) ?_
      refine lv_aload_n hx hb dX11_hasBracket_5 rfl (lv_at hl 2 rfl) ?_
      refine va_get (D := (dC, dI)) (ci := 11) (v := .int (v 10)) (C := RX11) (T := TX11) (N := 79) hx hb hts inB_11 hown hE.1 hP 0 rfl rfl 19 (by decide) (hts _ k_1339) (fun _ h9 => h9) rfl dX11_hasBracket_6 ?_
      refine lv_icmp_ge (tgt := 39) hx hb dX11_hasBracket_9 (by decide) (fun c2 => ?_) (fun c2 => ?_)
      · skip
        have zc2 : (v 10).toInt ≤ l2_1.toInt := by rw [fa_le] at c2; exact c2
        have rg3 := fb_rng l2_1
        have rg4 := fb_rng (v 10)
        refine lv_iload_n hx hb dX11_hasBracket_39 rfl (lv_at hl 1 rfl) ?_
        rcases b01 (x := l1_1) (by omega) (by omega) with h5 | h5
        · skip
          refine tI (y := 1) h5 ?_
          have hb1 : l1_1.toInt = 1 := by rw [h5]; decide
          exact ret 1 () _ _ _ _ _ _ rfl (Or.inl ⟨rfl, by exact hHB (by omega)⟩) hP hD hS dX11_hasBracket_40 (Nat.le_refl _) (Nat.le_refl _)
        · skip
          refine tI (y := 0) h5 ?_
          have hb1 : l1_1.toInt = 0 := by rw [h5]; decide
          exact ret 0 () _ _ _ _ _ _ rfl (Or.inr rfl) hP hD hS dX11_hasBracket_40 (Nat.le_refl _) (Nat.le_refl _)
      · skip
        have zc2 : ¬ ((v 10).toInt ≤ l2_1.toInt) := by rw [fa_le] at c2; exact c2
        have rg6 := fb_rng l2_1
        have rg7 := fb_rng (v 10)
        refine lv_iload_n hx hb dX11_hasBracket_12 rfl (lv_at hl 1 rfl) ?_
        refine lv_if_ne (tgt := 27) hx hb dX11_hasBracket_13 (by decide) (fun c8 => ?_) (fun c8 => ?_)
        · skip
          have zc8 : ¬ (l1_1.toInt = 0) := by rw [fa_eq, show (0 : Int32).toInt = 0 from by decide] at c8; exact c8
          refine lv_iconst (v := 1) hx hb dX11_hasBracket_27 (by decide) ?_
          refine lv_goto (tgt := 32) hx hb dX11_hasBracket_28 (by decide) ?_
          refine lv_istore_n (lv' := [(1, .int 1), (2, .int l2_1), (0, .ref y0)]) hx hb dX11_hasBracket_32 rfl hl (by decide) rfl (fun ls hl => ?_)
          obtain ⟨t9, et9⟩ : ∃ y : Int32, y = l2_1 + 1 := ⟨_, rfl⟩
          have zt9 : t9.toInt = l2_1.toInt + 1 := by rw [et9]; exact add_i rfl (by decide) (by omega) (by omega)
          refine lv_iinc (v := t9) (lv' := [(2, .int t9), (1, .int 1), (0, .ref y0)]) hx hb dX11_hasBracket_33 hl (k := 1) rfl (by rw [et9]; rfl) (by decide) rfl (fun ls hl => ?_)
          refine lv_goto (tgt := 4) hx hb dX11_hasBracket_36 (by decide) ?_
          have rg10 := fb_rng t9
          exact ih1 1 t9 ⟨by decide, by decide⟩ ⟨show (0 : Int) ≤ t9.toInt by omega, show t9.toInt ≤ (2147483647 : Int) by omega⟩ (by show HBx (1 : Int32).toInt (v 10).toInt (f 6); first | exact fun h => absurd h (by decide) | exact fun _ => hHB (by omega) | exact fun _ => ⟨_, by omega, i_eq hO (by omega)⟩) (by show (2147483647 - t9.toInt).toNat < n1; omega) _ _ _ hP hD hS (lv_sub hl [0, 1, 2] rfl)
        · skip
          have zc8 : l1_1.toInt = 0 := by rw [fa_eq, show (0 : Int32).toInt = 0 from by decide] at c8; exact c8
          refine lv_aload_n hx hb dX11_hasBracket_16 rfl (lv_at hl 2 rfl) ?_
          refine va_get (D := (dC, dI)) (ci := 11) (v := .ref (r 15)) (C := RX11) (T := TX11) (N := 79) hx hb hts inB_11 hown hE.1 hP 0 rfl rfl 15 (by decide) (hts _ k_1335) (fun _ h9 => h9) rfl dX11_hasBracket_17 ?_
          refine lv_iload_n hx hb dX11_hasBracket_20 rfl (lv_at hl 0 rfl) ?_
          refine ldI hx hb hE hP 7 rfl (vp_in_iff.mpr ⟨by omega, by omega⟩) rfl rfl dX11_hasBracket_21 ?_
          refine lv_topi (fun t11 et11 => ?_)
          have hO : (f 6) l2_1.toInt.toNat = t11 := by rw [et11]; rfl
          refine lv_bipush (v := 20) hx hb dX11_hasBracket_22 (by decide) ?_
          refine lv_icmp_ne (tgt := 31) hx hb dX11_hasBracket_24 (by decide) (fun c12 => ?_) (fun c12 => ?_)
          · skip
            have zc12 : ¬ (t11.toInt = 20) := by rw [fa_eq, show (20 : Int32).toInt = 20 from by decide] at c12; exact c12
            refine lv_iconst (v := 0) hx hb dX11_hasBracket_31 (by decide) ?_
            refine lv_istore_n (lv' := [(1, .int 0), (2, .int l2_1), (0, .ref y0)]) hx hb dX11_hasBracket_32 rfl hl (by decide) rfl (fun ls hl => ?_)
            obtain ⟨t13, et13⟩ : ∃ y : Int32, y = l2_1 + 1 := ⟨_, rfl⟩
            have zt13 : t13.toInt = l2_1.toInt + 1 := by rw [et13]; exact add_i rfl (by decide) (by omega) (by omega)
            refine lv_iinc (v := t13) (lv' := [(2, .int t13), (1, .int 0), (0, .ref y0)]) hx hb dX11_hasBracket_33 hl (k := 1) rfl (by rw [et13]; rfl) (by decide) rfl (fun ls hl => ?_)
            refine lv_goto (tgt := 4) hx hb dX11_hasBracket_36 (by decide) ?_
            have rg14 := fb_rng t13
            exact ih1 0 t13 ⟨by decide, by decide⟩ ⟨show (0 : Int) ≤ t13.toInt by omega, show t13.toInt ≤ (2147483647 : Int) by omega⟩ (by show HBx (0 : Int32).toInt (v 10).toInt (f 6); first | exact fun h => absurd h (by decide) | exact fun _ => hHB (by omega) | exact fun _ => ⟨_, by omega, i_eq hO (by omega)⟩) (by show (2147483647 - t13.toInt).toNat < n1; omega) _ _ _ hP hD hS (lv_sub hl [0, 1, 2] rfl)
          · skip
            have zc12 : t11.toInt = 20 := by rw [fa_eq, show (20 : Int32).toInt = 20 from by decide] at c12; exact c12
            refine lv_iconst (v := 1) hx hb dX11_hasBracket_27 (by decide) ?_
            refine lv_goto (tgt := 32) hx hb dX11_hasBracket_28 (by decide) ?_
            refine lv_istore_n (lv' := [(1, .int 1), (2, .int l2_1), (0, .ref y0)]) hx hb dX11_hasBracket_32 rfl hl (by decide) rfl (fun ls hl => ?_)
            obtain ⟨t15, et15⟩ : ∃ y : Int32, y = l2_1 + 1 := ⟨_, rfl⟩
            have zt15 : t15.toInt = l2_1.toInt + 1 := by rw [et15]; exact add_i rfl (by decide) (by omega) (by omega)
            refine lv_iinc (v := t15) (lv' := [(2, .int t15), (1, .int 1), (0, .ref y0)]) hx hb dX11_hasBracket_33 hl (k := 1) rfl (by rw [et15]; rfl) (by decide) rfl (fun ls hl => ?_)
            refine lv_goto (tgt := 4) hx hb dX11_hasBracket_36 (by decide) ?_
            have rg16 := fb_rng t15
            exact ih1 1 t15 ⟨by decide, by decide⟩ ⟨show (0 : Int) ≤ t15.toInt by omega, show t15.toInt ≤ (2147483647 : Int) by omega⟩ (by show HBx (1 : Int32).toInt (v 10).toInt (f 6); first | exact fun h => absurd h (by decide) | exact fun _ => hHB (by omega) | exact fun _ => ⟨_, by omega, i_eq hO (by omega)⟩) (by show (2147483647 - t15.toInt).toNat < n1; omega) _ _ _ hP hD hS (lv_sub hl [0, 1, 2] rfl)
  exact lp1 _ 0 0 ⟨by decide, by decide⟩ ⟨by decide, by decide⟩ (by show HBx (0 : Int32).toInt (v 10).toInt (f 6); exact fun h => absurd h (by decide)) (Nat.lt_succ_self _) _ _ _ hP hD hS (lv_sub hl [0, 1, 2] rfl)
set_option maxHeartbeats 4000000 in
set_option maxRecDepth 100000 in
theorem sY_X11_sign_1 (l : Launch) (dC : Nat → ClassId) (dI : Nat → Nat → Nat) (cy : Nat → ClassId) (y0 : Nat) (r : Nat → Nat)  (v : Nat → Int32) (f : Nat → Nat → Int32) (w : Int64) (g : Nat → Int64) (hIv : YI v) (hCf : YC f) (hRf : progOK (f 4) (f 5) (v 9).toInt.toNat)  : ctI l (dC, dI) cy yX11_sign cX11_sign 1 .int 2 82 0 0 Unit [.ref y0] (YW cy y0 r v f w g) (fun r u => (r.toInt = 0 ∨ 37 ≤ r.toInt) ∧ ((0 : Int) ≤ r.toInt ∧ r.toInt ≤ 124)) (fun u => YW cy y0 r v f w g) := by
  refine ctI_of (by decide) (Nat.le_of_ble_eq_true rfl) (fun p e s m below meth c A ls Q hx hb hml hts hown hE hP hD hA hl ret => ?_)
  have hUv : (v 35).toInt + (v 36).toInt ≤ 40 := hIv.2
  have hown : s.vm.findClass RX11 = some m.cls := hown
  have hS : va_S A s.heap s.heap [] := va_S.rf
  have hl : lv_has ls 1 [(0, .ref y0)] := hl
  refine lv_aload_n hx hb dX11_sign_0 rfl (lv_at hl 0 rfl) ?_
  refine lv_ldc2 (v := 6385252) hx hb hown (hts _ k_1638) dX11_sign_1 ?_
  refine cbVi (n := 1) (rest := []) hx hb hml hown hts hE hP hD hS hA (sY_X11_isWord_1 l dC dI cy y0 r 6385252 v f w g hIv hCf hRf ) k_1601 k_1603 k_45 k_114 k_1604 (by decide +kernel) ⟨Nat.le_of_ble_eq_true rfl, Nat.le_of_ble_eq_true rfl⟩ 0 11 rfl rfl (rfl) hl.1 rfl (Nat.le_of_ble_eq_true rfl) dX11_sign_4 (fun r1 u H locs hw hP hD hS => ?_)
  rcases hw with ⟨g2, g2_0⟩ | ⟨g2⟩
  · skip
    subst g2
    refine lv_if_eq (tgt := 13) hx hb dX11_sign_7 (by decide) (fun c0 => absurd c0 (by decide)) (fun _ => ?_)
    refine lv_bipush (v := 38) hx hb dX11_sign_10 (by decide) ?_
    exact ret 38 () _ _ _ _ _ _ rfl ⟨(by have q9 : (38 : Int32).toInt = 38 := (by decide); show (38 : Int32).toInt = 0 ∨ 37 ≤ (38 : Int32).toInt; omega), ⟨by decide, by decide⟩⟩ hP hD hS dX11_sign_12 (Nat.le_refl _) (Nat.le_refl _)
  · skip
    subst g2
    refine lv_if_eq (tgt := 13) hx hb dX11_sign_7 (by decide) (fun _ => ?_) (fun c0 => absurd (by decide) c0)
    refine lv_aload_n hx hb dX11_sign_13 rfl (lv_at hl 0 rfl) ?_
    refine lv_ldc2 (v := 28530) hx hb hown (hts _ k_1639) dX11_sign_14 ?_
    refine cbVi (n := 1) (rest := []) hx hb hml hown hts hE hP hD hS hA (sY_X11_isWord_1 l dC dI cy y0 r 28530 v f w g hIv hCf hRf ) k_1601 k_1603 k_45 k_114 k_1604 (by decide +kernel) ⟨Nat.le_of_ble_eq_true rfl, Nat.le_of_ble_eq_true rfl⟩ 0 11 rfl rfl (rfl) hl.1 rfl (Nat.le_of_ble_eq_true rfl) dX11_sign_17 (fun r3 u H locs hw hP hD hS => ?_)
    rcases hw with ⟨g4, g4_0⟩ | ⟨g4⟩
    · skip
      subst g4
      refine lv_if_eq (tgt := 26) hx hb dX11_sign_20 (by decide) (fun c0 => absurd c0 (by decide)) (fun _ => ?_)
      refine lv_bipush (v := 124) hx hb dX11_sign_23 (by decide) ?_
      exact ret 124 () _ _ _ _ _ _ rfl ⟨(by have q9 : (124 : Int32).toInt = 124 := (by decide); show (124 : Int32).toInt = 0 ∨ 37 ≤ (124 : Int32).toInt; omega), ⟨by decide, by decide⟩⟩ hP hD hS dX11_sign_25 (Nat.le_refl _) (Nat.le_refl _)
    · skip
      subst g4
      refine lv_if_eq (tgt := 26) hx hb dX11_sign_20 (by decide) (fun _ => ?_) (fun c0 => absurd (by decide) c0)
      refine lv_aload_n hx hb dX11_sign_26 rfl (lv_at hl 0 rfl) ?_
      refine va_get (D := (dC, dI)) (ci := 11) (v := .int (v 5)) (C := RX11) (T := TX11) (N := 79) hx hb hts inB_11 hown hE.1 hP 0 rfl rfl 6 (by decide) (hts _ k_1326) (fun _ h9 => h9) rfl dX11_sign_27 ?_
      refine lv_bipush (v := 60) hx hb dX11_sign_30 (by decide) ?_
      refine lv_icmp_eq (tgt := 98) hx hb dX11_sign_32 (by decide) (fun c5 => ?_) (fun c5 => ?_)
      · skip
        have zc5 : (v 5).toInt = 60 := by rw [fa_eq, show (60 : Int32).toInt = 60 from by decide] at c5; exact c5
        refine lv_aload_n hx hb dX11_sign_98 rfl (lv_at hl 0 rfl) ?_
        refine va_get (D := (dC, dI)) (ci := 11) (v := .int (v 5)) (C := RX11) (T := TX11) (N := 79) hx hb hts inB_11 hown hE.1 hP 0 rfl rfl 6 (by decide) (hts _ k_1326) (fun _ h9 => h9) rfl dX11_sign_99 ?_
        refine lv_goto (tgt := 106) hx hb dX11_sign_102 (by decide) ?_
        exact ret (v 5) () _ _ _ _ _ _ rfl ⟨(by show (v 5).toInt = 0 ∨ 37 ≤ (v 5).toInt; omega), ⟨by omega, by omega⟩⟩ hP hD hS dX11_sign_106 (Nat.le_refl _) (Nat.le_refl _)
      · skip
        have zc5 : ¬ ((v 5).toInt = 60) := by rw [fa_eq, show (60 : Int32).toInt = 60 from by decide] at c5; exact c5
        refine lv_aload_n hx hb dX11_sign_35 rfl (lv_at hl 0 rfl) ?_
        refine va_get (D := (dC, dI)) (ci := 11) (v := .int (v 5)) (C := RX11) (T := TX11) (N := 79) hx hb hts inB_11 hown hE.1 hP 0 rfl rfl 6 (by decide) (hts _ k_1326) (fun _ h9 => h9) rfl dX11_sign_36 ?_
        refine lv_bipush (v := 62) hx hb dX11_sign_39 (by decide) ?_
        refine lv_icmp_eq (tgt := 98) hx hb dX11_sign_41 (by decide) (fun c6 => ?_) (fun c6 => ?_)
        · skip
          have zc6 : (v 5).toInt = 62 := by rw [fa_eq, show (62 : Int32).toInt = 62 from by decide] at c6; exact c6
          refine lv_aload_n hx hb dX11_sign_98 rfl (lv_at hl 0 rfl) ?_
          refine va_get (D := (dC, dI)) (ci := 11) (v := .int (v 5)) (C := RX11) (T := TX11) (N := 79) hx hb hts inB_11 hown hE.1 hP 0 rfl rfl 6 (by decide) (hts _ k_1326) (fun _ h9 => h9) rfl dX11_sign_99 ?_
          refine lv_goto (tgt := 106) hx hb dX11_sign_102 (by decide) ?_
          exact ret (v 5) () _ _ _ _ _ _ rfl ⟨(by show (v 5).toInt = 0 ∨ 37 ≤ (v 5).toInt; omega), ⟨by omega, by omega⟩⟩ hP hD hS dX11_sign_106 (Nat.le_refl _) (Nat.le_refl _)
        · skip
          have zc6 : ¬ ((v 5).toInt = 62) := by rw [fa_eq, show (62 : Int32).toInt = 62 from by decide] at c6; exact c6
          refine lv_aload_n hx hb dX11_sign_44 rfl (lv_at hl 0 rfl) ?_
          refine va_get (D := (dC, dI)) (ci := 11) (v := .int (v 5)) (C := RX11) (T := TX11) (N := 79) hx hb hts inB_11 hown hE.1 hP 0 rfl rfl 6 (by decide) (hts _ k_1326) (fun _ h9 => h9) rfl dX11_sign_45 ?_
          refine lv_bipush (v := 61) hx hb dX11_sign_48 (by decide) ?_
          refine lv_icmp_eq (tgt := 98) hx hb dX11_sign_50 (by decide) (fun c7 => ?_) (fun c7 => ?_)
          · skip
            have zc7 : (v 5).toInt = 61 := by rw [fa_eq, show (61 : Int32).toInt = 61 from by decide] at c7; exact c7
            refine lv_aload_n hx hb dX11_sign_98 rfl (lv_at hl 0 rfl) ?_
            refine va_get (D := (dC, dI)) (ci := 11) (v := .int (v 5)) (C := RX11) (T := TX11) (N := 79) hx hb hts inB_11 hown hE.1 hP 0 rfl rfl 6 (by decide) (hts _ k_1326) (fun _ h9 => h9) rfl dX11_sign_99 ?_
            refine lv_goto (tgt := 106) hx hb dX11_sign_102 (by decide) ?_
            exact ret (v 5) () _ _ _ _ _ _ rfl ⟨(by show (v 5).toInt = 0 ∨ 37 ≤ (v 5).toInt; omega), ⟨by omega, by omega⟩⟩ hP hD hS dX11_sign_106 (Nat.le_refl _) (Nat.le_refl _)
          · skip
            have zc7 : ¬ ((v 5).toInt = 61) := by rw [fa_eq, show (61 : Int32).toInt = 61 from by decide] at c7; exact c7
            refine lv_aload_n hx hb dX11_sign_53 rfl (lv_at hl 0 rfl) ?_
            refine va_get (D := (dC, dI)) (ci := 11) (v := .int (v 5)) (C := RX11) (T := TX11) (N := 79) hx hb hts inB_11 hown hE.1 hP 0 rfl rfl 6 (by decide) (hts _ k_1326) (fun _ h9 => h9) rfl dX11_sign_54 ?_
            refine lv_bipush (v := 43) hx hb dX11_sign_57 (by decide) ?_
            refine lv_icmp_eq (tgt := 98) hx hb dX11_sign_59 (by decide) (fun c8 => ?_) (fun c8 => ?_)
            · skip
              have zc8 : (v 5).toInt = 43 := by rw [fa_eq, show (43 : Int32).toInt = 43 from by decide] at c8; exact c8
              refine lv_aload_n hx hb dX11_sign_98 rfl (lv_at hl 0 rfl) ?_
              refine va_get (D := (dC, dI)) (ci := 11) (v := .int (v 5)) (C := RX11) (T := TX11) (N := 79) hx hb hts inB_11 hown hE.1 hP 0 rfl rfl 6 (by decide) (hts _ k_1326) (fun _ h9 => h9) rfl dX11_sign_99 ?_
              refine lv_goto (tgt := 106) hx hb dX11_sign_102 (by decide) ?_
              exact ret (v 5) () _ _ _ _ _ _ rfl ⟨(by show (v 5).toInt = 0 ∨ 37 ≤ (v 5).toInt; omega), ⟨by omega, by omega⟩⟩ hP hD hS dX11_sign_106 (Nat.le_refl _) (Nat.le_refl _)
            · skip
              have zc8 : ¬ ((v 5).toInt = 43) := by rw [fa_eq, show (43 : Int32).toInt = 43 from by decide] at c8; exact c8
              refine lv_aload_n hx hb dX11_sign_62 rfl (lv_at hl 0 rfl) ?_
              refine va_get (D := (dC, dI)) (ci := 11) (v := .int (v 5)) (C := RX11) (T := TX11) (N := 79) hx hb hts inB_11 hown hE.1 hP 0 rfl rfl 6 (by decide) (hts _ k_1326) (fun _ h9 => h9) rfl dX11_sign_63 ?_
              refine lv_bipush (v := 45) hx hb dX11_sign_66 (by decide) ?_
              refine lv_icmp_eq (tgt := 98) hx hb dX11_sign_68 (by decide) (fun c9 => ?_) (fun c9 => ?_)
              · skip
                have zc9 : (v 5).toInt = 45 := by rw [fa_eq, show (45 : Int32).toInt = 45 from by decide] at c9; exact c9
                refine lv_aload_n hx hb dX11_sign_98 rfl (lv_at hl 0 rfl) ?_
                refine va_get (D := (dC, dI)) (ci := 11) (v := .int (v 5)) (C := RX11) (T := TX11) (N := 79) hx hb hts inB_11 hown hE.1 hP 0 rfl rfl 6 (by decide) (hts _ k_1326) (fun _ h9 => h9) rfl dX11_sign_99 ?_
                refine lv_goto (tgt := 106) hx hb dX11_sign_102 (by decide) ?_
                exact ret (v 5) () _ _ _ _ _ _ rfl ⟨(by show (v 5).toInt = 0 ∨ 37 ≤ (v 5).toInt; omega), ⟨by omega, by omega⟩⟩ hP hD hS dX11_sign_106 (Nat.le_refl _) (Nat.le_refl _)
              · skip
                have zc9 : ¬ ((v 5).toInt = 45) := by rw [fa_eq, show (45 : Int32).toInt = 45 from by decide] at c9; exact c9
                refine lv_aload_n hx hb dX11_sign_71 rfl (lv_at hl 0 rfl) ?_
                refine va_get (D := (dC, dI)) (ci := 11) (v := .int (v 5)) (C := RX11) (T := TX11) (N := 79) hx hb hts inB_11 hown hE.1 hP 0 rfl rfl 6 (by decide) (hts _ k_1326) (fun _ h9 => h9) rfl dX11_sign_72 ?_
                refine lv_bipush (v := 42) hx hb dX11_sign_75 (by decide) ?_
                refine lv_icmp_eq (tgt := 98) hx hb dX11_sign_77 (by decide) (fun c10 => ?_) (fun c10 => ?_)
                · skip
                  have zc10 : (v 5).toInt = 42 := by rw [fa_eq, show (42 : Int32).toInt = 42 from by decide] at c10; exact c10
                  refine lv_aload_n hx hb dX11_sign_98 rfl (lv_at hl 0 rfl) ?_
                  refine va_get (D := (dC, dI)) (ci := 11) (v := .int (v 5)) (C := RX11) (T := TX11) (N := 79) hx hb hts inB_11 hown hE.1 hP 0 rfl rfl 6 (by decide) (hts _ k_1326) (fun _ h9 => h9) rfl dX11_sign_99 ?_
                  refine lv_goto (tgt := 106) hx hb dX11_sign_102 (by decide) ?_
                  exact ret (v 5) () _ _ _ _ _ _ rfl ⟨(by show (v 5).toInt = 0 ∨ 37 ≤ (v 5).toInt; omega), ⟨by omega, by omega⟩⟩ hP hD hS dX11_sign_106 (Nat.le_refl _) (Nat.le_refl _)
                · skip
                  have zc10 : ¬ ((v 5).toInt = 42) := by rw [fa_eq, show (42 : Int32).toInt = 42 from by decide] at c10; exact c10
                  refine lv_aload_n hx hb dX11_sign_80 rfl (lv_at hl 0 rfl) ?_
                  refine va_get (D := (dC, dI)) (ci := 11) (v := .int (v 5)) (C := RX11) (T := TX11) (N := 79) hx hb hts inB_11 hown hE.1 hP 0 rfl rfl 6 (by decide) (hts _ k_1326) (fun _ h9 => h9) rfl dX11_sign_81 ?_
                  refine lv_bipush (v := 47) hx hb dX11_sign_84 (by decide) ?_
                  refine lv_icmp_eq (tgt := 98) hx hb dX11_sign_86 (by decide) (fun c11 => ?_) (fun c11 => ?_)
                  · skip
                    have zc11 : (v 5).toInt = 47 := by rw [fa_eq, show (47 : Int32).toInt = 47 from by decide] at c11; exact c11
                    refine lv_aload_n hx hb dX11_sign_98 rfl (lv_at hl 0 rfl) ?_
                    refine va_get (D := (dC, dI)) (ci := 11) (v := .int (v 5)) (C := RX11) (T := TX11) (N := 79) hx hb hts inB_11 hown hE.1 hP 0 rfl rfl 6 (by decide) (hts _ k_1326) (fun _ h9 => h9) rfl dX11_sign_99 ?_
                    refine lv_goto (tgt := 106) hx hb dX11_sign_102 (by decide) ?_
                    exact ret (v 5) () _ _ _ _ _ _ rfl ⟨(by show (v 5).toInt = 0 ∨ 37 ≤ (v 5).toInt; omega), ⟨by omega, by omega⟩⟩ hP hD hS dX11_sign_106 (Nat.le_refl _) (Nat.le_refl _)
                  · skip
                    have zc11 : ¬ ((v 5).toInt = 47) := by rw [fa_eq, show (47 : Int32).toInt = 47 from by decide] at c11; exact c11
                    refine lv_aload_n hx hb dX11_sign_89 rfl (lv_at hl 0 rfl) ?_
                    refine va_get (D := (dC, dI)) (ci := 11) (v := .int (v 5)) (C := RX11) (T := TX11) (N := 79) hx hb hts inB_11 hown hE.1 hP 0 rfl rfl 6 (by decide) (hts _ k_1326) (fun _ h9 => h9) rfl dX11_sign_90 ?_
                    refine lv_bipush (v := 37) hx hb dX11_sign_93 (by decide) ?_
                    refine lv_icmp_ne (tgt := 105) hx hb dX11_sign_95 (by decide) (fun c12 => ?_) (fun c12 => ?_)
                    · skip
                      have zc12 : ¬ ((v 5).toInt = 37) := by rw [fa_eq, show (37 : Int32).toInt = 37 from by decide] at c12; exact c12
                      refine lv_iconst (v := 0) hx hb dX11_sign_105 (by decide) ?_
                      exact ret 0 () _ _ _ _ _ _ rfl ⟨(by have q9 : (0 : Int32).toInt = 0 := (by decide); show (0 : Int32).toInt = 0 ∨ 37 ≤ (0 : Int32).toInt; omega), ⟨by decide, by decide⟩⟩ hP hD hS dX11_sign_106 (Nat.le_refl _) (Nat.le_refl _)
                    · skip
                      have zc12 : (v 5).toInt = 37 := by rw [fa_eq, show (37 : Int32).toInt = 37 from by decide] at c12; exact c12
                      refine lv_aload_n hx hb dX11_sign_98 rfl (lv_at hl 0 rfl) ?_
                      refine va_get (D := (dC, dI)) (ci := 11) (v := .int (v 5)) (C := RX11) (T := TX11) (N := 79) hx hb hts inB_11 hown hE.1 hP 0 rfl rfl 6 (by decide) (hts _ k_1326) (fun _ h9 => h9) rfl dX11_sign_99 ?_
                      refine lv_goto (tgt := 106) hx hb dX11_sign_102 (by decide) ?_
                      exact ret (v 5) () _ _ _ _ _ _ rfl ⟨(by show (v 5).toInt = 0 ∨ 37 ≤ (v 5).toInt; omega), ⟨by omega, by omega⟩⟩ hP hD hS dX11_sign_106 (Nat.le_refl _) (Nat.le_refl _)
set_option maxHeartbeats 4000000 in
set_option maxRecDepth 100000 in
theorem sY_X11_hasRelation_1 (l : Launch) (dC : Nat → ClassId) (dI : Nat → Nat → Nat) (cy : Nat → ClassId) (y0 : Nat) (r : Nat → Nat)  (v : Nat → Int32) (f : Nat → Nat → Int32) (w : Int64) (g : Nat → Int64) (hIv : YI v) (hCf : YC f) (hRf : progOK (f 4) (f 5) (v 9).toInt.toNat)  : ctI l (dC, dI) cy yX11_hasRelation cX11_hasRelation 2 .boolean 2 80 0 0 Unit [.ref y0] (YW cy y0 r v f w g) (fun r u => ((r = 1) ∨ (r = 0))) (fun u => YW cy y0 r v f w g) := by
  refine ctI_of (by decide) (Nat.le_of_ble_eq_true rfl) (fun p e s m below meth c A ls Q hx hb hml hts hown hE hP hD hA hl ret => ?_)
  have hUv : (v 35).toInt + (v 36).toInt ≤ 40 := hIv.2
  have hown : s.vm.findClass RX11 = some m.cls := hown
  have hS : va_S A s.heap s.heap [] := va_S.rf
  have hl : lv_has ls 2 [(0, .ref y0)] := hl
  refine lv_aload_n hx hb dX11_hasRelation_0 rfl (lv_at hl 0 rfl) ?_
  refine va_get (D := (dC, dI)) (ci := 11) (v := .int (v 10)) (C := RX11) (T := TX11) (N := 79) hx hb hts inB_11 hown hE.1 hP 0 rfl rfl 19 (by decide) (hts _ k_1339) (fun _ h9 => h9) rfl dX11_hasRelation_1 ?_
  have b10_v : 0 ≤ (v 10).toInt ∧ (v 10).toInt ≤ 160 := YIb.b hIv.1 10 (by decide)
  refine lv_iconst (v := 1) hx hb dX11_hasRelation_4 (by decide) ?_
  refine lv_isub hx hb dX11_hasRelation_5 ?_
  refine lv_topi (fun t1 et1 => ?_)
  have rg2 := fb_rng (v 10)
  have zt1 : t1.toInt = (v 10).toInt - 1 := by rw [et1]; exact sub_i rfl (by decide) (by omega) (by omega)
  refine lv_istore_n (lv' := [(1, .int t1), (0, .ref y0)]) hx hb dX11_hasRelation_6 rfl hl (by decide) rfl (fun ls hl => ?_)
  have lp3 : ∀ (n3 : Nat) (l1_3 : Int32), ((-2147483648 : Int) ≤ l1_3.toInt ∧ l1_3.toInt ≤ 159) → (l1_3.toInt + 2147483648).toNat < n3 → ∀ (H : Heap) (locs : List Loc) (ls : Array Slot), va_P (dC, dI) vwCl (YW cy y0 r v f w g) H → va_D A (YW cy y0 r v f w g) → va_S A s.heap H locs → lv_has ls 2 [(1, .int l1_3), (0, .ref y0)] → W p l e { frames := 2, cells := 0, slots := 0, locals := 80 } s m ([.ref y0] : List Value).toArray below meth c H locs 0 0 Q (F0 m 7 ls []) := by
    intro n3
    induction n3 with
    | zero => intro l1_3 hr1_3 hm; exact absurd hm (Nat.not_lt_zero _)
    | succ n3 ih3 =>
      intro l1_3 hr1_3 hm3 H locs ls hP hD hS hl
      refine lv_iload_n hx hb dX11_hasRelation_7 rfl (lv_at hl 0 rfl) ?_
      refine lv_if_lt (tgt := 41) hx hb dX11_hasRelation_8 (by decide) (fun c4 => ?_) (fun c4 => ?_)
      · skip
        have zc4 : l1_3.toInt < 0 := by rw [fa_lt, show (0 : Int32).toInt = 0 from by decide] at c4; exact c4
        refine lv_iload_n hx hb dX11_hasRelation_41 rfl (lv_at hl 0 rfl) ?_
        refine lv_if_lt (tgt := 73) hx hb dX11_hasRelation_42 (by decide) (fun c5 => ?_) (fun c5 => ?_)
        · skip
          have zc5 : l1_3.toInt < 0 := by rw [fa_lt, show (0 : Int32).toInt = 0 from by decide] at c5; exact c5
          refine lv_iconst (v := 0) hx hb dX11_hasRelation_73 (by decide) ?_
          exact ret 0 () _ _ _ _ _ _ rfl (Or.inr rfl) hP hD hS dX11_hasRelation_74 (Nat.le_refl _) (Nat.le_refl _)
        · skip
          have zc5 : ¬ (l1_3.toInt < 0) := by rw [fa_lt, show (0 : Int32).toInt = 0 from by decide] at c5; exact c5
          refine lv_aload_n hx hb dX11_hasRelation_45 rfl (lv_at hl 1 rfl) ?_
          refine va_get (D := (dC, dI)) (ci := 11) (v := .ref (r 15)) (C := RX11) (T := TX11) (N := 79) hx hb hts inB_11 hown hE.1 hP 0 rfl rfl 15 (by decide) (hts _ k_1335) (fun _ h9 => h9) rfl dX11_hasRelation_46 ?_
          refine lv_iload_n hx hb dX11_hasRelation_49 rfl (lv_at hl 0 rfl) ?_
          refine ldI hx hb hE hP 7 rfl (vp_in_iff.mpr ⟨by omega, by omega⟩) rfl rfl dX11_hasRelation_50 ?_
          refine lv_topi (fun t6 et6 => ?_)
          refine lv_bipush (v := 20) hx hb dX11_hasRelation_51 (by decide) ?_
          refine lv_icmp_eq (tgt := 73) hx hb dX11_hasRelation_53 (by decide) (fun c7 => ?_) (fun c7 => ?_)
          · skip
            have zc7 : t6.toInt = 20 := by rw [fa_eq, show (20 : Int32).toInt = 20 from by decide] at c7; exact c7
            refine lv_iconst (v := 0) hx hb dX11_hasRelation_73 (by decide) ?_
            exact ret 0 () _ _ _ _ _ _ rfl (Or.inr rfl) hP hD hS dX11_hasRelation_74 (Nat.le_refl _) (Nat.le_refl _)
          · skip
            have zc7 : ¬ (t6.toInt = 20) := by rw [fa_eq, show (20 : Int32).toInt = 20 from by decide] at c7; exact c7
            refine lv_aload_n hx hb dX11_hasRelation_56 rfl (lv_at hl 1 rfl) ?_
            refine va_get (D := (dC, dI)) (ci := 11) (v := .ref (r 15)) (C := RX11) (T := TX11) (N := 79) hx hb hts inB_11 hown hE.1 hP 0 rfl rfl 15 (by decide) (hts _ k_1335) (fun _ h9 => h9) rfl dX11_hasRelation_57 ?_
            refine lv_iload_n hx hb dX11_hasRelation_60 rfl (lv_at hl 0 rfl) ?_
            refine ldI hx hb hE hP 7 rfl (vp_in_iff.mpr ⟨by omega, by omega⟩) rfl rfl dX11_hasRelation_61 ?_
            refine tI (y := t6) et6.symm ?_
            refine cbSi (n := 1) (rest := []) hx hb hml hown hts hE hP hD hS hA (sY_X11_tight_1 l dC dI cy y0 r t6 v f w g hIv hCf hRf ) k_1677 k_1678 k_114 k_1679 (by decide +kernel) ⟨Nat.le_of_ble_eq_true rfl, Nat.le_of_ble_eq_true rfl⟩ (rfl) hl.1 rfl (Nat.le_of_ble_eq_true rfl) dX11_hasRelation_62 (fun r8 u H locs hw hP hD hS => ?_)
            refine lv_iconst (v := 4) hx hb dX11_hasRelation_65 (by decide) ?_
            refine lv_icmp_ne (tgt := 73) hx hb dX11_hasRelation_66 (by decide) (fun c9 => ?_) (fun c9 => ?_)
            · skip
              have zc9 : ¬ (r8.toInt = 4) := by rw [fa_eq, show (4 : Int32).toInt = 4 from by decide] at c9; exact c9
              refine lv_iconst (v := 0) hx hb dX11_hasRelation_73 (by decide) ?_
              exact ret 0 () _ _ _ _ _ _ rfl (Or.inr rfl) hP hD hS dX11_hasRelation_74 (Nat.le_refl _) (Nat.le_refl _)
            · skip
              have zc9 : r8.toInt = 4 := by rw [fa_eq, show (4 : Int32).toInt = 4 from by decide] at c9; exact c9
              refine lv_iconst (v := 1) hx hb dX11_hasRelation_69 (by decide) ?_
              refine lv_goto (tgt := 74) hx hb dX11_hasRelation_70 (by decide) ?_
              exact ret 1 () _ _ _ _ _ _ rfl (Or.inl rfl) hP hD hS dX11_hasRelation_74 (Nat.le_refl _) (Nat.le_refl _)
      · skip
        have zc4 : ¬ (l1_3.toInt < 0) := by rw [fa_lt, show (0 : Int32).toInt = 0 from by decide] at c4; exact c4
        refine lv_aload_n hx hb dX11_hasRelation_11 rfl (lv_at hl 1 rfl) ?_
        refine va_get (D := (dC, dI)) (ci := 11) (v := .ref (r 15)) (C := RX11) (T := TX11) (N := 79) hx hb hts inB_11 hown hE.1 hP 0 rfl rfl 15 (by decide) (hts _ k_1335) (fun _ h9 => h9) rfl dX11_hasRelation_12 ?_
        refine lv_iload_n hx hb dX11_hasRelation_15 rfl (lv_at hl 0 rfl) ?_
        refine ldI hx hb hE hP 7 rfl (vp_in_iff.mpr ⟨by omega, by omega⟩) rfl rfl dX11_hasRelation_16 ?_
        refine lv_topi (fun t10 et10 => ?_)
        refine lv_bipush (v := 20) hx hb dX11_hasRelation_17 (by decide) ?_
        refine lv_icmp_eq (tgt := 41) hx hb dX11_hasRelation_19 (by decide) (fun c11 => ?_) (fun c11 => ?_)
        · skip
          have zc11 : t10.toInt = 20 := by rw [fa_eq, show (20 : Int32).toInt = 20 from by decide] at c11; exact c11
          refine lv_iload_n hx hb dX11_hasRelation_41 rfl (lv_at hl 0 rfl) ?_
          refine lv_if_lt (tgt := 73) hx hb dX11_hasRelation_42 (by decide) (fun c12 => ?_) (fun c12 => ?_)
          · skip
            have zc12 : l1_3.toInt < 0 := by rw [fa_lt, show (0 : Int32).toInt = 0 from by decide] at c12; exact c12
            refine lv_iconst (v := 0) hx hb dX11_hasRelation_73 (by decide) ?_
            exact ret 0 () _ _ _ _ _ _ rfl (Or.inr rfl) hP hD hS dX11_hasRelation_74 (Nat.le_refl _) (Nat.le_refl _)
          · skip
            have zc12 : ¬ (l1_3.toInt < 0) := by rw [fa_lt, show (0 : Int32).toInt = 0 from by decide] at c12; exact c12
            refine lv_aload_n hx hb dX11_hasRelation_45 rfl (lv_at hl 1 rfl) ?_
            refine va_get (D := (dC, dI)) (ci := 11) (v := .ref (r 15)) (C := RX11) (T := TX11) (N := 79) hx hb hts inB_11 hown hE.1 hP 0 rfl rfl 15 (by decide) (hts _ k_1335) (fun _ h9 => h9) rfl dX11_hasRelation_46 ?_
            refine lv_iload_n hx hb dX11_hasRelation_49 rfl (lv_at hl 0 rfl) ?_
            refine ldI hx hb hE hP 7 rfl (vp_in_iff.mpr ⟨by omega, by omega⟩) rfl rfl dX11_hasRelation_50 ?_
            refine tI (y := t10) et10.symm ?_
            refine lv_bipush (v := 20) hx hb dX11_hasRelation_51 (by decide) ?_
            refine lv_icmp_eq (tgt := 73) hx hb dX11_hasRelation_53 (by decide) (fun c13 => ?_) (fun c13 => ?_)
            · skip
              have zc13 : t10.toInt = 20 := by rw [fa_eq, show (20 : Int32).toInt = 20 from by decide] at c13; exact c13
              refine lv_iconst (v := 0) hx hb dX11_hasRelation_73 (by decide) ?_
              exact ret 0 () _ _ _ _ _ _ rfl (Or.inr rfl) hP hD hS dX11_hasRelation_74 (Nat.le_refl _) (Nat.le_refl _)
            · skip
              have zc13 : ¬ (t10.toInt = 20) := by rw [fa_eq, show (20 : Int32).toInt = 20 from by decide] at c13; exact c13
              refine lv_aload_n hx hb dX11_hasRelation_56 rfl (lv_at hl 1 rfl) ?_
              refine va_get (D := (dC, dI)) (ci := 11) (v := .ref (r 15)) (C := RX11) (T := TX11) (N := 79) hx hb hts inB_11 hown hE.1 hP 0 rfl rfl 15 (by decide) (hts _ k_1335) (fun _ h9 => h9) rfl dX11_hasRelation_57 ?_
              refine lv_iload_n hx hb dX11_hasRelation_60 rfl (lv_at hl 0 rfl) ?_
              refine ldI hx hb hE hP 7 rfl (vp_in_iff.mpr ⟨by omega, by omega⟩) rfl rfl dX11_hasRelation_61 ?_
              refine tI (y := t10) et10.symm ?_
              refine cbSi (n := 1) (rest := []) hx hb hml hown hts hE hP hD hS hA (sY_X11_tight_1 l dC dI cy y0 r t10 v f w g hIv hCf hRf ) k_1677 k_1678 k_114 k_1679 (by decide +kernel) ⟨Nat.le_of_ble_eq_true rfl, Nat.le_of_ble_eq_true rfl⟩ (rfl) hl.1 rfl (Nat.le_of_ble_eq_true rfl) dX11_hasRelation_62 (fun r14 u H locs hw hP hD hS => ?_)
              refine lv_iconst (v := 4) hx hb dX11_hasRelation_65 (by decide) ?_
              refine lv_icmp_ne (tgt := 73) hx hb dX11_hasRelation_66 (by decide) (fun c15 => ?_) (fun c15 => ?_)
              · skip
                have zc15 : ¬ (r14.toInt = 4) := by rw [fa_eq, show (4 : Int32).toInt = 4 from by decide] at c15; exact c15
                refine lv_iconst (v := 0) hx hb dX11_hasRelation_73 (by decide) ?_
                exact ret 0 () _ _ _ _ _ _ rfl (Or.inr rfl) hP hD hS dX11_hasRelation_74 (Nat.le_refl _) (Nat.le_refl _)
              · skip
                have zc15 : r14.toInt = 4 := by rw [fa_eq, show (4 : Int32).toInt = 4 from by decide] at c15; exact c15
                refine lv_iconst (v := 1) hx hb dX11_hasRelation_69 (by decide) ?_
                refine lv_goto (tgt := 74) hx hb dX11_hasRelation_70 (by decide) ?_
                exact ret 1 () _ _ _ _ _ _ rfl (Or.inl rfl) hP hD hS dX11_hasRelation_74 (Nat.le_refl _) (Nat.le_refl _)
        · skip
          have zc11 : ¬ (t10.toInt = 20) := by rw [fa_eq, show (20 : Int32).toInt = 20 from by decide] at c11; exact c11
          refine lv_aload_n hx hb dX11_hasRelation_22 rfl (lv_at hl 1 rfl) ?_
          refine va_get (D := (dC, dI)) (ci := 11) (v := .ref (r 15)) (C := RX11) (T := TX11) (N := 79) hx hb hts inB_11 hown hE.1 hP 0 rfl rfl 15 (by decide) (hts _ k_1335) (fun _ h9 => h9) rfl dX11_hasRelation_23 ?_
          refine lv_iload_n hx hb dX11_hasRelation_26 rfl (lv_at hl 0 rfl) ?_
          refine ldI hx hb hE hP 7 rfl (vp_in_iff.mpr ⟨by omega, by omega⟩) rfl rfl dX11_hasRelation_27 ?_
          refine tI (y := t10) et10.symm ?_
          refine cbSi (n := 1) (rest := []) hx hb hml hown hts hE hP hD hS hA (sY_X11_tight_1 l dC dI cy y0 r t10 v f w g hIv hCf hRf ) k_1677 k_1678 k_114 k_1679 (by decide +kernel) ⟨Nat.le_of_ble_eq_true rfl, Nat.le_of_ble_eq_true rfl⟩ (rfl) hl.1 rfl (Nat.le_of_ble_eq_true rfl) dX11_hasRelation_28 (fun r16 u H locs hw hP hD hS => ?_)
          refine lv_iconst (v := 4) hx hb dX11_hasRelation_31 (by decide) ?_
          refine lv_icmp_le (tgt := 41) hx hb dX11_hasRelation_32 (by decide) (fun c17 => ?_) (fun c17 => ?_)
          · skip
            have zc17 : r16.toInt ≤ 4 := by rw [fa_le, show (4 : Int32).toInt = 4 from by decide] at c17; exact c17
            refine lv_iload_n hx hb dX11_hasRelation_41 rfl (lv_at hl 0 rfl) ?_
            refine lv_if_lt (tgt := 73) hx hb dX11_hasRelation_42 (by decide) (fun c18 => ?_) (fun c18 => ?_)
            · skip
              have zc18 : l1_3.toInt < 0 := by rw [fa_lt, show (0 : Int32).toInt = 0 from by decide] at c18; exact c18
              refine lv_iconst (v := 0) hx hb dX11_hasRelation_73 (by decide) ?_
              exact ret 0 () _ _ _ _ _ _ rfl (Or.inr rfl) hP hD hS dX11_hasRelation_74 (Nat.le_refl _) (Nat.le_refl _)
            · skip
              have zc18 : ¬ (l1_3.toInt < 0) := by rw [fa_lt, show (0 : Int32).toInt = 0 from by decide] at c18; exact c18
              refine lv_aload_n hx hb dX11_hasRelation_45 rfl (lv_at hl 1 rfl) ?_
              refine va_get (D := (dC, dI)) (ci := 11) (v := .ref (r 15)) (C := RX11) (T := TX11) (N := 79) hx hb hts inB_11 hown hE.1 hP 0 rfl rfl 15 (by decide) (hts _ k_1335) (fun _ h9 => h9) rfl dX11_hasRelation_46 ?_
              refine lv_iload_n hx hb dX11_hasRelation_49 rfl (lv_at hl 0 rfl) ?_
              refine ldI hx hb hE hP 7 rfl (vp_in_iff.mpr ⟨by omega, by omega⟩) rfl rfl dX11_hasRelation_50 ?_
              refine tI (y := t10) et10.symm ?_
              refine lv_bipush (v := 20) hx hb dX11_hasRelation_51 (by decide) ?_
              refine lv_icmp_eq (tgt := 73) hx hb dX11_hasRelation_53 (by decide) (fun c19 => ?_) (fun c19 => ?_)
              · skip
                have zc19 : t10.toInt = 20 := by rw [fa_eq, show (20 : Int32).toInt = 20 from by decide] at c19; exact c19
                refine lv_iconst (v := 0) hx hb dX11_hasRelation_73 (by decide) ?_
                exact ret 0 () _ _ _ _ _ _ rfl (Or.inr rfl) hP hD hS dX11_hasRelation_74 (Nat.le_refl _) (Nat.le_refl _)
              · skip
                have zc19 : ¬ (t10.toInt = 20) := by rw [fa_eq, show (20 : Int32).toInt = 20 from by decide] at c19; exact c19
                refine lv_aload_n hx hb dX11_hasRelation_56 rfl (lv_at hl 1 rfl) ?_
                refine va_get (D := (dC, dI)) (ci := 11) (v := .ref (r 15)) (C := RX11) (T := TX11) (N := 79) hx hb hts inB_11 hown hE.1 hP 0 rfl rfl 15 (by decide) (hts _ k_1335) (fun _ h9 => h9) rfl dX11_hasRelation_57 ?_
                refine lv_iload_n hx hb dX11_hasRelation_60 rfl (lv_at hl 0 rfl) ?_
                refine ldI hx hb hE hP 7 rfl (vp_in_iff.mpr ⟨by omega, by omega⟩) rfl rfl dX11_hasRelation_61 ?_
                refine tI (y := t10) et10.symm ?_
                refine cbSi (n := 1) (rest := []) hx hb hml hown hts hE hP hD hS hA (sY_X11_tight_1 l dC dI cy y0 r t10 v f w g hIv hCf hRf ) k_1677 k_1678 k_114 k_1679 (by decide +kernel) ⟨Nat.le_of_ble_eq_true rfl, Nat.le_of_ble_eq_true rfl⟩ (rfl) hl.1 rfl (Nat.le_of_ble_eq_true rfl) dX11_hasRelation_62 (fun r20 u H locs hw hP hD hS => ?_)
                refine lv_iconst (v := 4) hx hb dX11_hasRelation_65 (by decide) ?_
                refine lv_icmp_ne (tgt := 73) hx hb dX11_hasRelation_66 (by decide) (fun c21 => ?_) (fun c21 => ?_)
                · skip
                  have zc21 : ¬ (r20.toInt = 4) := by rw [fa_eq, show (4 : Int32).toInt = 4 from by decide] at c21; exact c21
                  refine lv_iconst (v := 0) hx hb dX11_hasRelation_73 (by decide) ?_
                  exact ret 0 () _ _ _ _ _ _ rfl (Or.inr rfl) hP hD hS dX11_hasRelation_74 (Nat.le_refl _) (Nat.le_refl _)
                · skip
                  have zc21 : r20.toInt = 4 := by rw [fa_eq, show (4 : Int32).toInt = 4 from by decide] at c21; exact c21
                  refine lv_iconst (v := 1) hx hb dX11_hasRelation_69 (by decide) ?_
                  refine lv_goto (tgt := 74) hx hb dX11_hasRelation_70 (by decide) ?_
                  exact ret 1 () _ _ _ _ _ _ rfl (Or.inl rfl) hP hD hS dX11_hasRelation_74 (Nat.le_refl _) (Nat.le_refl _)
          · skip
            have zc17 : ¬ (r16.toInt ≤ 4) := by rw [fa_le, show (4 : Int32).toInt = 4 from by decide] at c17; exact c17
            obtain ⟨t22, et22⟩ : ∃ y : Int32, y = l1_3 + (-1) := ⟨_, rfl⟩
            have rg23 := fb_rng l1_3
            have zt22 : t22.toInt = l1_3.toInt + (-1) := by rw [et22]; exact add_i rfl (by decide) (by omega) (by omega)
            refine lv_iinc (v := t22) (lv' := [(1, .int t22), (0, .ref y0)]) hx hb dX11_hasRelation_35 hl (k := 0) rfl (by rw [et22]; rfl) (by decide) rfl (fun ls hl => ?_)
            refine lv_goto (tgt := 7) hx hb dX11_hasRelation_38 (by decide) ?_
            have rg24 := fb_rng t22
            exact ih3 t22 ⟨show (-2147483648 : Int) ≤ t22.toInt by omega, show t22.toInt ≤ (159 : Int) by omega⟩ (by show (t22.toInt + 2147483648).toNat < n3; omega) _ _ _ hP hD hS (lv_sub hl [0, 1] rfl)
  have rg25 := fb_rng t1
  exact lp3 _ t1 ⟨show (-2147483648 : Int) ≤ t1.toInt by omega, show t1.toInt ≤ (159 : Int) by omega⟩ (Nat.lt_succ_self _) _ _ _ hP hD hS (lv_sub hl [0, 1] rfl)
