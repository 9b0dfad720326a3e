set_option maxHeartbeats 4000000 in
set_option maxRecDepth 100000 in
theorem sY_X11_close_1 (l : Launch) (dC : Nat → ClassId) (dI : Nat → Nat → Nat) (cy : Nat → ClassId) (y0 : Nat) (r : Nat → Nat) (p1 : Int32) (v : Nat → Int32) (f : Nat → Nat → Int32) (w : Int64) (g : Nat → Int64) (hIv : YI v) (hCf : YC f) (hRf : progOK (f 4) (f 5) (v 9).toInt.toNat) (hp1 : (0 : Int) ≤ p1.toInt ∧ p1.toInt ≤ 6) (hf0 : (v 8).toInt + (v 10).toInt ≤ 310) (hg0 : FI 1 (v 10).toInt (v 14).toInt (v 8).toInt (f 6) (f 2) (f 3)) : ctV l (dC, dI) cy yX11_close cX11_close 2 2 82 0 0 ((Nat → Int32) × (Nat → Nat → Int32) × (Int64) × (Nat → Int64)) [.ref y0, .int p1] (YW cy y0 r v f w g) (fun u => YI u.1 ∧ YC u.2.1 ∧ progOK (u.2.1 4) (u.2.1 5) (u.1 9).toInt.toNat ∧ u.1 0 = v 0 ∧ u.1 1 = v 1 ∧ u.1 3 = v 3 ∧ u.1 4 = v 4 ∧ u.1 5 = v 5 ∧ u.1 9 = v 9 ∧ u.1 13 = v 13 ∧ u.1 15 = v 15 ∧ u.1 17 = v 17 ∧ u.1 18 = v 18 ∧ u.1 24 = v 24 ∧ u.1 25 = v 25 ∧ u.1 35 = v 35 ∧ u.1 36 = v 36 ∧ u.1 38 = v 38 ∧ u.1 39 = v 39 ∧ ((u.1 8).toInt + (u.1 10).toInt = (v 8).toInt + (v 10).toInt) ∧ ((u.1 10).toInt - (u.1 14).toInt ≤ (v 10).toInt - (v 14).toInt) ∧ ((u.1 10).toInt ≤ (v 10).toInt) ∧ ((u.1 14).toInt ≤ (v 14).toInt) ∧ (FI 1 (u.1 10).toInt (u.1 14).toInt (u.1 8).toInt (u.2.1 6) (u.2.1 2) (u.2.1 3)) ∧ (∀ k, k < ((v 10).toInt).toNat → (f 6) k = 20 → k < ((u.1 10).toInt).toNat) ∧ (0 < p1.toInt ∨ (u.1 10).toInt = 0 ∨ (u.2.1 6) ((u.1 10).toInt - 1).toNat = 20) ∧ u.2.1 6 = f 6) (fun u => YW cy y0 r u.1 u.2.1 u.2.2.1 u.2.2.2) := by
  refine ctV_of (by decide) (Nat.le_of_ble_eq_true rfl) (fun p e s m below meth c A ls Q hx hb hml hts hown hnm hE hP hD hA hl ret => ?_)
  have hUv : (v 35).toInt + (v 36).toInt ≤ 40 := hIv.2
  have hFI := hg0
  have b0_v : (0 : Int) ≤ (v 0).toInt ∧ (v 0).toInt ≤ 1600 := YIb.b hIv.1 0 (by decide)
  have b1_v : (0 : Int) ≤ (v 1).toInt ∧ (v 1).toInt ≤ 4 := YIb.b hIv.1 1 (by decide)
  have b3_v : (0 : Int) ≤ (v 3).toInt ∧ (v 3).toInt ≤ 1600 := YIb.b hIv.1 3 (by decide)
  have b4_v : (0 : Int) ≤ (v 4).toInt ∧ (v 4).toInt ≤ 1600 := YIb.b hIv.1 4 (by decide)
  have b8_v : (0 : Int) ≤ (v 8).toInt ∧ (v 8).toInt ≤ 320 := YIb.b hIv.1 8 (by decide)
  have b9_v : (0 : Int) ≤ (v 9).toInt ∧ (v 9).toInt ≤ 320 := YIb.b hIv.1 9 (by decide)
  have b10_v : (0 : Int) ≤ (v 10).toInt ∧ (v 10).toInt ≤ 160 := YIb.b hIv.1 10 (by decide)
  have b13_v : (0 : Int) ≤ (v 13).toInt ∧ (v 13).toInt ≤ 31 := YIb.b hIv.1 13 (by decide)
  have b14_v : (0 : Int) ≤ (v 14).toInt ∧ (v 14).toInt ≤ 8 := YIb.b hIv.1 14 (by decide)
  have b17_v : (0 : Int) ≤ (v 17).toInt ∧ (v 17).toInt ≤ 6 := YIb.b hIv.1 17 (by decide)
  have b18_v : (0 : Int) ≤ (v 18).toInt ∧ (v 18).toInt ≤ 6 := YIb.b hIv.1 18 (by decide)
  have b24_v : (0 : Int) ≤ (v 24).toInt ∧ (v 24).toInt ≤ 6 := YIb.b hIv.1 24 (by decide)
  have b25_v : (0 : Int) ≤ (v 25).toInt ∧ (v 25).toInt ≤ 6 := YIb.b hIv.1 25 (by decide)
  have b35_v : (0 : Int) ≤ (v 35).toInt ∧ (v 35).toInt ≤ 40 := YIb.b hIv.1 35 (by decide)
  have b36_v : (0 : Int) ≤ (v 36).toInt ∧ (v 36).toInt ≤ 40 := YIb.b hIv.1 36 (by decide)
  have b37_v : (0 : Int) ≤ (v 37).toInt ∧ (v 37).toInt ≤ 6 := YIb.b hIv.1 37 (by decide)
  have b38_v : (0 : Int) ≤ (v 38).toInt ∧ (v 38).toInt ≤ 30 := YIb.b hIv.1 38 (by decide)
  have b39_v : (0 : Int) ≤ (v 39).toInt ∧ (v 39).toInt ≤ 100000 := YIb.b hIv.1 39 (by decide)
  have hown : s.vm.findClass RX11 = some m.cls := hown
  have hS : va_S A s.heap s.heap [] := va_S.rf
  have hl : lv_has ls 2 [(0, .ref y0), (1, .int p1)] := hl
  have lp1 : ∀ (n1 : Nat)  (v1 : Nat → Int32) (f1 : Nat → Nat → Int32) (w1 : Int64) (g1 : Nat → Int64), YI v1 → YC f1 → progOK (f1 4) (f1 5) (v1 9).toInt.toNat → v1 0 = (v 0) → v1 1 = (v 1) → v1 3 = (v 3) → v1 4 = (v 4) → v1 5 = (v 5) → v1 9 = (v 9) → v1 13 = (v 13) → v1 15 = (v 15) → v1 17 = (v 17) → v1 18 = (v 18) → v1 24 = (v 24) → v1 25 = (v 25) → v1 35 = (v 35) → v1 36 = (v 36) → v1 38 = (v 38) → v1 39 = (v 39) → (FI 1 (v1 10).toInt (v1 14).toInt (v1 8).toInt (f1 6) (f1 2) (f1 3)) → (∀ k, k < ((v 10).toInt).toNat → (f1 6) k = 20 → k < ((v1 10).toInt).toNat) → ((v1 8).toInt + (v1 10).toInt = (v 8).toInt + (v 10).toInt) → ((v1 10).toInt - (v1 14).toInt ≤ (v 10).toInt - (v 14).toInt) → ((v1 10).toInt ≤ (v 10).toInt) → ((v1 14).toInt ≤ (v 14).toInt) → f1 6 = (f 6) → ((v1 10).toInt).toNat < n1 → ∀ (H : Heap) (locs : List Loc) (ls : Array Slot), va_P (dC, dI) vwCl (YW cy y0 r v1 f1 w1 g1) H → va_D A (YW cy y0 r v1 f1 w1 g1) → va_S A s.heap H locs → lv_has ls 2 [(0, .ref y0), (1, .int p1)] → W p l e { frames := 2, cells := 0, slots := 0, locals := 82 } s m ([.ref y0, .int p1] : List Value).toArray below meth c H locs 0 0 Q (F0 m 0 ls []) := by
    intro n1
    induction n1 with
    | zero => intro  v1 f1 w1 g1 hIv1 hCf1 hRf1 hq0_v1 hq1_v1 hq3_v1 hq4_v1 hq5_v1 hq9_v1 hq13_v1 hq15_v1 hq17_v1 hq18_v1 hq24_v1 hq25_v1 hq35_v1 hq36_v1 hq38_v1 hq39_v1 hx0_1 hx1_1 hx2_1 hx3_1 hx4_1 hx5_1 hs6_f1 hm; exact absurd hm (Nat.not_lt_zero _)
    | succ n1 ih1 =>
      intro  v1 f1 w1 g1 hIv1 hCf1 hRf1 hq0_v1 hq1_v1 hq3_v1 hq4_v1 hq5_v1 hq9_v1 hq13_v1 hq15_v1 hq17_v1 hq18_v1 hq24_v1 hq25_v1 hq35_v1 hq36_v1 hq38_v1 hq39_v1 hx0_1 hx1_1 hx2_1 hx3_1 hx4_1 hx5_1 hs6_f1 hm1 H locs ls hP hD hS hl
      have hUv1 : (v1 35).toInt + (v1 36).toInt ≤ 40 := hIv1.2
      have zq1_v1 := congrArg Int32.toInt hq1_v1
      have zq3_v1 := congrArg Int32.toInt hq3_v1
      have zq4_v1 := congrArg Int32.toInt hq4_v1
      have zq5_v1 := congrArg Int32.toInt hq5_v1
      have zq9_v1 := congrArg Int32.toInt hq9_v1
      have zq13_v1 := congrArg Int32.toInt hq13_v1
      have zq15_v1 := congrArg Int32.toInt hq15_v1
      have zq17_v1 := congrArg Int32.toInt hq17_v1
      have zq18_v1 := congrArg Int32.toInt hq18_v1
      have zq35_v1 := congrArg Int32.toInt hq35_v1
      have zq36_v1 := congrArg Int32.toInt hq36_v1
      have b10_v1 : 0 ≤ (v1 10).toInt ∧ (v1 10).toInt ≤ 160 := YIb.b hIv1.1 10 (by decide)
      have b14_v1 : 0 ≤ (v1 14).toInt ∧ (v1 14).toInt ≤ 8 := YIb.b hIv1.1 14 (by decide)
      have b8_v1 : 0 ≤ (v1 8).toInt ∧ (v1 8).toInt ≤ 320 := YIb.b hIv1.1 8 (by decide)
      rw [hs6_f1] at hx0_1
      rw [hs6_f1] at hx1_1
      have hFI := hx0_1
      have hGK := hx1_1
      refine lv_aload_n hx hb dX11_close_0 rfl (lv_at hl 0 rfl) ?_
      refine va_get (D := (dC, dI)) (ci := 11) (v := .int (v1 10)) (C := RX11) (T := TX11) (N := 79) hx hb hts inB_11 hown hE.1 hP 0 rfl rfl 19 (by decide) (hts _ k_1339) (fun _ h9 => h9) rfl dX11_close_1 ?_
      refine lv_if_le (tgt := 101) hx hb dX11_close_4 (by decide) (fun c2 => ?_) (fun c2 => ?_)
      · skip
        have zc2 : (v1 10).toInt ≤ 0 := by rw [fa_le, show (0 : Int32).toInt = 0 from by decide] at c2; exact c2
        exact ret (v1, f1, w1, g1) _ _ _ _ _ _ ⟨hIv1, hCf1, hRf1, (show v1 0 = v 0 from hq0_v1), (show v1 1 = v 1 from hq1_v1), (show v1 3 = v 3 from hq3_v1), (show v1 4 = v 4 from hq4_v1), (show v1 5 = v 5 from hq5_v1), (show v1 9 = v 9 from hq9_v1), (show v1 13 = v 13 from hq13_v1), (show v1 15 = v 15 from hq15_v1), (show v1 17 = v 17 from hq17_v1), (show v1 18 = v 18 from hq18_v1), (show v1 24 = v 24 from hq24_v1), (show v1 25 = v 25 from hq25_v1), (show v1 35 = v 35 from hq35_v1), (show v1 36 = v 36 from hq36_v1), (show v1 38 = v 38 from hq38_v1), (show v1 39 = v 39 from hq39_v1), (by show (v1 8).toInt + (v1 10).toInt = (v 8).toInt + (v 10).toInt; omega), (by show (v1 10).toInt - (v1 14).toInt ≤ (v 10).toInt - (v 14).toInt; omega), (by show (v1 10).toInt ≤ (v 10).toInt; omega), (by show (v1 14).toInt ≤ (v 14).toInt; omega), (by show FI 1 (v1 10).toInt (v1 14).toInt (v1 8).toInt (f1 6) (f1 2) (f1 3); rw [hs6_f1]; exact hFI), (by show ∀ k, k < ((v 10).toInt).toNat → (f 6) k = 20 → k < ((v1 10).toInt).toNat; exact hGK), (by show 0 < p1.toInt ∨ (v1 10).toInt = 0 ∨ (f1 6) ((v1 10).toInt - 1).toNat = 20; rw [hs6_f1]; first | exact Or.inl (by omega) | exact Or.inr (Or.inl (by omega)) | exact Or.inr (Or.inr (topEq hO (by omega) (by omega)))), hs6_f1⟩ hP hD hS dX11_close_101 (Nat.le_refl _) (Nat.le_refl _)
      · skip
        have zc2 : ¬ ((v1 10).toInt ≤ 0) := by rw [fa_le, show (0 : Int32).toInt = 0 from by decide] at c2; exact c2
        refine lv_aload_n hx hb dX11_close_7 rfl (lv_at hl 0 rfl) ?_
        refine va_get (D := (dC, dI)) (ci := 11) (v := .ref (r 15)) (C := RX11) (T := TX11) (N := 79) hx hb hts inB_11 hown hE.1 hP 0 rfl rfl 15 (by decide) (hts _ k_1335) (fun _ h9 => h9) rfl dX11_close_8 ?_
        refine lv_aload_n hx hb dX11_close_11 rfl (lv_at hl 0 rfl) ?_
        refine va_get (D := (dC, dI)) (ci := 11) (v := .int (v1 10)) (C := RX11) (T := TX11) (N := 79) hx hb hts inB_11 hown hE.1 hP 0 rfl rfl 19 (by decide) (hts _ k_1339) (fun _ h9 => h9) rfl dX11_close_12 ?_
        refine lv_iconst (v := 1) hx hb dX11_close_15 (by decide) ?_
        refine lv_isub hx hb dX11_close_16 ?_
        refine lv_topi (fun t3 et3 => ?_)
        have rg4 := fb_rng (v1 10)
        have zt3 : t3.toInt = (v1 10).toInt - 1 := by rw [et3]; exact sub_i rfl (by decide) (by omega) (by omega)
        refine ldI hx hb hE hP 7 rfl (vp_in_iff.mpr ⟨by omega, by omega⟩) rfl rfl dX11_close_17 ?_
        refine lv_topi (fun t5 et5 => ?_)
        have hO : (f 6) t3.toInt.toNat = t5 := by rw [et5, hs6_f1]; rfl
        refine lv_bipush (v := 20) hx hb dX11_close_18 (by decide) ?_
        refine lv_icmp_eq (tgt := 101) hx hb dX11_close_20 (by decide) (fun c6 => ?_) (fun c6 => ?_)
        · skip
          have zc6 : t5.toInt = 20 := by rw [fa_eq, show (20 : Int32).toInt = 20 from by decide] at c6; exact c6
          exact ret (v1, f1, w1, g1) _ _ _ _ _ _ ⟨hIv1, hCf1, hRf1, (show v1 0 = v 0 from hq0_v1), (show v1 1 = v 1 from hq1_v1), (show v1 3 = v 3 from hq3_v1), (show v1 4 = v 4 from hq4_v1), (show v1 5 = v 5 from hq5_v1), (show v1 9 = v 9 from hq9_v1), (show v1 13 = v 13 from hq13_v1), (show v1 15 = v 15 from hq15_v1), (show v1 17 = v 17 from hq17_v1), (show v1 18 = v 18 from hq18_v1), (show v1 24 = v 24 from hq24_v1), (show v1 25 = v 25 from hq25_v1), (show v1 35 = v 35 from hq35_v1), (show v1 36 = v 36 from hq36_v1), (show v1 38 = v 38 from hq38_v1), (show v1 39 = v 39 from hq39_v1), (by show (v1 8).toInt + (v1 10).toInt = (v 8).toInt + (v 10).toInt; omega), (by show (v1 10).toInt - (v1 14).toInt ≤ (v 10).toInt - (v 14).toInt; omega), (by show (v1 10).toInt ≤ (v 10).toInt; omega), (by show (v1 14).toInt ≤ (v 14).toInt; omega), (by show FI 1 (v1 10).toInt (v1 14).toInt (v1 8).toInt (f1 6) (f1 2) (f1 3); rw [hs6_f1]; exact hFI), (by show ∀ k, k < ((v 10).toInt).toNat → (f 6) k = 20 → k < ((v1 10).toInt).toNat; exact hGK), (by show 0 < p1.toInt ∨ (v1 10).toInt = 0 ∨ (f1 6) ((v1 10).toInt - 1).toNat = 20; rw [hs6_f1]; first | exact Or.inl (by omega) | exact Or.inr (Or.inl (by omega)) | exact Or.inr (Or.inr (topEq hO (by omega) (by omega)))), hs6_f1⟩ hP hD hS dX11_close_101 (Nat.le_refl _) (Nat.le_refl _)
        · skip
          have zc6 : ¬ (t5.toInt = 20) := by rw [fa_eq, show (20 : Int32).toInt = 20 from by decide] at c6; exact c6
          refine lv_aload_n hx hb dX11_close_23 rfl (lv_at hl 0 rfl) ?_
          refine va_get (D := (dC, dI)) (ci := 11) (v := .ref (r 15)) (C := RX11) (T := TX11) (N := 79) hx hb hts inB_11 hown hE.1 hP 0 rfl rfl 15 (by decide) (hts _ k_1335) (fun _ h9 => h9) rfl dX11_close_24 ?_
          refine lv_aload_n hx hb dX11_close_27 rfl (lv_at hl 0 rfl) ?_
          refine va_get (D := (dC, dI)) (ci := 11) (v := .int (v1 10)) (C := RX11) (T := TX11) (N := 79) hx hb hts inB_11 hown hE.1 hP 0 rfl rfl 19 (by decide) (hts _ k_1339) (fun _ h9 => h9) rfl dX11_close_28 ?_
          refine lv_iconst (v := 1) hx hb dX11_close_31 (by decide) ?_
          refine lv_isub hx hb dX11_close_32 ?_
          refine tI (y := t3) et3.symm ?_
          refine ldI hx hb hE hP 7 rfl (vp_in_iff.mpr ⟨by omega, by omega⟩) rfl rfl dX11_close_33 ?_
          refine tI (y := t5) et5.symm ?_
          refine cbSi (n := 1) (rest := []) hx hb hml hown hts hE hP hD hS hA (sY_X11_tight_1 l dC dI cy y0 r t5 v1 f1 w1 g1 hIv1 hCf1 hRf1 ) k_1677 k_1678 k_114 k_1679 (by decide +kernel) ⟨Nat.le_of_ble_eq_true rfl, Nat.le_of_ble_eq_true rfl⟩ (rfl) hl.1 rfl (Nat.le_of_ble_eq_true rfl) dX11_close_34 (fun r7 u H locs hw hP hD hS => ?_)
          refine lv_iload_n hx hb dX11_close_37 rfl (lv_at hl 1 rfl) ?_
          refine lv_icmp_lt (tgt := 101) hx hb dX11_close_38 (by decide) (fun c8 => ?_) (fun c8 => ?_)
          · skip
            have zc8 : r7.toInt < p1.toInt := by rw [fa_lt] at c8; exact c8
            have rg9 := fb_rng r7
            have rg10 := fb_rng p1
            exact ret (v1, f1, w1, g1) _ _ _ _ _ _ ⟨hIv1, hCf1, hRf1, (show v1 0 = v 0 from hq0_v1), (show v1 1 = v 1 from hq1_v1), (show v1 3 = v 3 from hq3_v1), (show v1 4 = v 4 from hq4_v1), (show v1 5 = v 5 from hq5_v1), (show v1 9 = v 9 from hq9_v1), (show v1 13 = v 13 from hq13_v1), (show v1 15 = v 15 from hq15_v1), (show v1 17 = v 17 from hq17_v1), (show v1 18 = v 18 from hq18_v1), (show v1 24 = v 24 from hq24_v1), (show v1 25 = v 25 from hq25_v1), (show v1 35 = v 35 from hq35_v1), (show v1 36 = v 36 from hq36_v1), (show v1 38 = v 38 from hq38_v1), (show v1 39 = v 39 from hq39_v1), (by show (v1 8).toInt + (v1 10).toInt = (v 8).toInt + (v 10).toInt; omega), (by show (v1 10).toInt - (v1 14).toInt ≤ (v 10).toInt - (v 14).toInt; omega), (by show (v1 10).toInt ≤ (v 10).toInt; omega), (by show (v1 14).toInt ≤ (v 14).toInt; omega), (by show FI 1 (v1 10).toInt (v1 14).toInt (v1 8).toInt (f1 6) (f1 2) (f1 3); rw [hs6_f1]; exact hFI), (by show ∀ k, k < ((v 10).toInt).toNat → (f 6) k = 20 → k < ((v1 10).toInt).toNat; exact hGK), (by show 0 < p1.toInt ∨ (v1 10).toInt = 0 ∨ (f1 6) ((v1 10).toInt - 1).toNat = 20; rw [hs6_f1]; first | exact Or.inl (by omega) | exact Or.inr (Or.inl (by omega)) | exact Or.inr (Or.inr (topEq hO (by omega) (by omega)))), hs6_f1⟩ hP hD hS dX11_close_101 (Nat.le_refl _) (Nat.le_refl _)
          · skip
            have zc8 : ¬ (r7.toInt < p1.toInt) := by rw [fa_lt] at c8; exact c8
            have rg11 := fb_rng r7
            have rg12 := fb_rng p1
            refine lv_aload_n hx hb dX11_close_41 rfl (lv_at hl 0 rfl) ?_
            refine lv_dup hx hb dX11_close_42 rfl ?_
            refine va_get (D := (dC, dI)) (ci := 11) (v := .int (v1 10)) (C := RX11) (T := TX11) (N := 79) hx hb hts inB_11 hown hE.1 hP 0 rfl rfl 19 (by decide) (hts _ k_1339) (fun _ h9 => h9) rfl dX11_close_43 ?_
            refine lv_iconst (v := 1) hx hb dX11_close_46 (by decide) ?_
            refine lv_isub hx hb dX11_close_47 ?_
            refine tI (y := t3) et3.symm ?_
            refine va_put (D := (dC, dI)) (ci := 11) (v := .int t3) (ty := tyX11 19) (C := RX11) (T := TX11) (N := 79) hx hb hts inB_11 tyX11 tyX11_ok nmX11 hown hE.1 hP hD hS 0 rfl rfl 19 (by decide) (hts _ k_1339) (fun _ h9 => h9) rfl (tyX11_ok 19 (by decide)) rfl rfl (Nat.le_of_ble_eq_true rfl) dX11_close_48 (fun H locs hP hD hS => ?_)
            have hP : va_P (dC, dI) vwCl (YW cy y0 r (upd v1 10 t3) f1 w1 g1) H := hP
            have hD : va_D A (YW cy y0 r (upd v1 10 t3) f1 w1 g1) := hD
            refine lv_aload_n hx hb dX11_close_51 rfl (lv_at hl 0 rfl) ?_
            refine va_get (D := (dC, dI)) (ci := 11) (v := .ref (r 15)) (C := RX11) (T := TX11) (N := 79) hx hb hts inB_11 hown hE.1 hP 0 rfl rfl 15 (by decide) (hts _ k_1335) (fun _ h9 => h9) rfl dX11_close_52 ?_
            refine lv_aload_n hx hb dX11_close_55 rfl (lv_at hl 0 rfl) ?_
            refine va_get (D := (dC, dI)) (ci := 11) (v := .int t3) (C := RX11) (T := TX11) (N := 79) hx hb hts inB_11 hown hE.1 hP 0 rfl rfl 19 (by decide) (hts _ k_1339) (fun _ h9 => h9) rfl dX11_close_56 ?_
            refine ldI hx hb hE hP 7 rfl (vp_in_iff.mpr ⟨by omega, by omega⟩) rfl rfl dX11_close_59 ?_
            refine tI (y := t5) et5.symm ?_
            refine lv_bipush (v := 21) hx hb dX11_close_60 (by decide) ?_
            refine lv_icmp_ne (tgt := 84) hx hb dX11_close_62 (by decide) (fun c13 => ?_) (fun c13 => ?_)
            · skip
              have zc13 : ¬ (t5.toInt = 21) := by rw [fa_eq, show (21 : Int32).toInt = 21 from by decide] at c13; exact c13
              refine lv_aload_n hx hb dX11_close_84 rfl (lv_at hl 0 rfl) ?_
              refine lv_iconst (v := 3) hx hb dX11_close_85 (by decide) ?_
              refine lv_aload_n hx hb dX11_close_86 rfl (lv_at hl 0 rfl) ?_
              refine va_get (D := (dC, dI)) (ci := 11) (v := .ref (r 15)) (C := RX11) (T := TX11) (N := 79) hx hb hts inB_11 hown hE.1 hP 0 rfl rfl 15 (by decide) (hts _ k_1335) (fun _ h9 => h9) rfl dX11_close_87 ?_
              refine lv_aload_n hx hb dX11_close_90 rfl (lv_at hl 0 rfl) ?_
              refine va_get (D := (dC, dI)) (ci := 11) (v := .int t3) (C := RX11) (T := TX11) (N := 79) hx hb hts inB_11 hown hE.1 hP 0 rfl rfl 19 (by decide) (hts _ k_1339) (fun _ h9 => h9) rfl dX11_close_91 ?_
              refine ldI hx hb hE hP 7 rfl (vp_in_iff.mpr ⟨by omega, by omega⟩) rfl rfl dX11_close_94 ?_
              refine tI (y := t5) et5.symm ?_
              refine cbVv (n := 2) (rest := []) hx hb hml hown hts hE hP hD hS hA (sY_X11_add_1 l dC dI cy y0 r 3 t5 (upd v1 10 t3) f1 w1 g1 ⟨(YIb.upd (j := 10) (x := t3) hIv1.1 (show (0 : Int) ≤ t3.toInt by omega) (show t3.toInt ≤ (160 : Int) by omega)), hIv1.2⟩ hCf1 hRf1 (by have q1 : (3 : Int32).toInt = 3 := (by decide); show (v1 8).toInt ≤ 319; omega)) k_1696 k_1698 k_63 k_114 k_1699 (by decide +kernel) ⟨Nat.le_of_ble_eq_true rfl, Nat.le_of_ble_eq_true rfl⟩ 0 11 rfl rfl (rfl) hl.1 rfl (Nat.le_of_ble_eq_true rfl) dX11_close_95 (fun u H locs hw hP hD hS => ?_)
              obtain ⟨v14, f15, w16, g17⟩ := u
              obtain ⟨hIv14, hCf15, hRf15, hk0_v14, hk1_v14, hk3_v14, hk4_v14, hk5_v14, hk9_v14, hk10_v14, hk13_v14, hk14_v14, hk15_v14, hk17_v14, hk18_v14, hk24_v14, hk25_v14, hk35_v14, hk36_v14, hk38_v14, hk39_v14, pv18, pg19, pg20, kq21⟩ := hw
              have hP : va_P (dC, dI) vwCl (YW cy y0 r v14 f15 w16 g17) H := hP
              have hD : va_D A (YW cy y0 r v14 f15 w16 g17) := hD
              have b8_v14 : 0 ≤ (v14 8).toInt ∧ (v14 8).toInt ≤ 320 := YIb.b hIv14.1 8 (by decide)
              have pv18 : (v14 8).toInt = (v1 8).toInt + 1 := pv18
              have pg19 : (f15 2) = upd (f1 2) ((v1 8).toInt).toNat 3 := pg19
              have pg20 : (f15 3) = upd (f1 3) ((v1 8).toInt).toNat t5 := pg20
              have hs6_f15 : f15 6 = (f 6) := kq21.trans hs6_f1
              have hUv14 : (v14 35).toInt + (v14 36).toInt ≤ 40 := hIv14.2
              have hq0_v14 : v14 0 = (v 0) := hk0_v14.trans hq0_v1
              have hq1_v14 : v14 1 = (v 1) := hk1_v14.trans hq1_v1
              have zq1_v14 := congrArg Int32.toInt hq1_v14
              have hq3_v14 : v14 3 = (v 3) := hk3_v14.trans hq3_v1
              have zq3_v14 := congrArg Int32.toInt hq3_v14
              have hq4_v14 : v14 4 = (v 4) := hk4_v14.trans hq4_v1
              have zq4_v14 := congrArg Int32.toInt hq4_v14
              have hq5_v14 : v14 5 = (v 5) := hk5_v14.trans hq5_v1
              have zq5_v14 := congrArg Int32.toInt hq5_v14
              have hq9_v14 : v14 9 = (v 9) := hk9_v14.trans hq9_v1
              have zq9_v14 := congrArg Int32.toInt hq9_v14
              have hq10_v14 : v14 10 = t3 := hk10_v14
              have zq10_v14 := congrArg Int32.toInt hq10_v14
              have hq13_v14 : v14 13 = (v 13) := hk13_v14.trans hq13_v1
              have zq13_v14 := congrArg Int32.toInt hq13_v14
              have hq14_v14 : v14 14 = (v1 14) := hk14_v14
              have zq14_v14 := congrArg Int32.toInt hq14_v14
              have hq15_v14 : v14 15 = (v 15) := hk15_v14.trans hq15_v1
              have zq15_v14 := congrArg Int32.toInt hq15_v14
              have hq17_v14 : v14 17 = (v 17) := hk17_v14.trans hq17_v1
              have zq17_v14 := congrArg Int32.toInt hq17_v14
              have hq18_v14 : v14 18 = (v 18) := hk18_v14.trans hq18_v1
              have zq18_v14 := congrArg Int32.toInt hq18_v14
              have hq24_v14 : v14 24 = (v 24) := hk24_v14.trans hq24_v1
              have hq25_v14 : v14 25 = (v 25) := hk25_v14.trans hq25_v1
              have hq35_v14 : v14 35 = (v 35) := hk35_v14.trans hq35_v1
              have zq35_v14 := congrArg Int32.toInt hq35_v14
              have hq36_v14 : v14 36 = (v 36) := hk36_v14.trans hq36_v1
              have zq36_v14 := congrArg Int32.toInt hq36_v14
              have hq38_v14 : v14 38 = (v 38) := hk38_v14.trans hq38_v1
              have hq39_v14 : v14 39 = (v 39) := hk39_v14.trans hq39_v1
              have hAS := pg19
              have hAA := pg20
              refine lv_goto (tgt := 0) hx hb dX11_close_98 (by decide) ?_
              exact ih1  v14 f15 w16 g17 hIv14 hCf15 hRf15 hq0_v14 hq1_v14 hq3_v14 hq4_v14 hq5_v14 hq9_v14 hq13_v14 hq15_v14 hq17_v14 hq18_v14 hq24_v14 hq25_v14 hq35_v14 hq36_v14 hq38_v14 hq39_v14 (by show FI 1 (v14 10).toInt (v14 14).toInt (v14 8).toInt (f15 6) (f15 2) (f15 3); rw [hs6_f15]; first | exact FI.not hFI hO (by omega) (by omega) hAS hAA (by omega) (by omega) (by omega) (by omega) | exact FI.dos hFI hO (by omega) (by omega) (by omega) hAS hAA (by omega) (by omega) (by omega) (by omega)) (by show ∀ k, k < ((v 10).toInt).toNat → (f15 6) k = 20 → k < ((v14 10).toInt).toNat; rw [hs6_f15]; exact gk_pop hGK hO (by omega) (by omega) (by omega)) (by show (v14 8).toInt + (v14 10).toInt = (v 8).toInt + (v 10).toInt; omega) (by show (v14 10).toInt - (v14 14).toInt ≤ (v 10).toInt - (v 14).toInt; omega) (by show (v14 10).toInt ≤ (v 10).toInt; omega) (by show (v14 14).toInt ≤ (v 14).toInt; omega) hs6_f15 (by show ((v14 10).toInt).toNat < n1; omega) _ _ _ hP hD hS (lv_sub hl [0, 1] rfl)
            · skip
              have zc13 : t5.toInt = 21 := by rw [fa_eq, show (21 : Int32).toInt = 21 from by decide] at c13; exact c13
              refine lv_aload_n hx hb dX11_close_65 rfl (lv_at hl 0 rfl) ?_
              refine lv_iconst (v := 2) hx hb dX11_close_66 (by decide) ?_
              refine lv_iconst (v := 0) hx hb dX11_close_67 (by decide) ?_
              refine cbVv (n := 2) (rest := []) hx hb hml hown hts hE hP hD hS hA (sY_X11_add_1 l dC dI cy y0 r 2 0 (upd v1 10 t3) f1 w1 g1 ⟨(YIb.upd (j := 10) (x := t3) hIv1.1 (show (0 : Int) ≤ t3.toInt by omega) (show t3.toInt ≤ (160 : Int) by omega)), hIv1.2⟩ hCf1 hRf1 (by have q1 : (2 : Int32).toInt = 2 := (by decide); have q2 : (0 : Int32).toInt = 0 := (by decide); show (v1 8).toInt ≤ 319; omega)) k_1696 k_1698 k_63 k_114 k_1699 (by decide +kernel) ⟨Nat.le_of_ble_eq_true rfl, Nat.le_of_ble_eq_true rfl⟩ 0 11 rfl rfl (rfl) hl.1 rfl (Nat.le_of_ble_eq_true rfl) dX11_close_68 (fun u H locs hw hP hD hS => ?_)
              obtain ⟨v22, f23, w24, g25⟩ := u
              obtain ⟨hIv22, hCf23, hRf23, hk0_v22, hk1_v22, hk3_v22, hk4_v22, hk5_v22, hk9_v22, hk10_v22, hk13_v22, hk14_v22, hk15_v22, hk17_v22, hk18_v22, hk24_v22, hk25_v22, hk35_v22, hk36_v22, hk38_v22, hk39_v22, pv26, pg27, pg28, kq29⟩ := hw
              have hP : va_P (dC, dI) vwCl (YW cy y0 r v22 f23 w24 g25) H := hP
              have hD : va_D A (YW cy y0 r v22 f23 w24 g25) := hD
              have b8_v22 : 0 ≤ (v22 8).toInt ∧ (v22 8).toInt ≤ 320 := YIb.b hIv22.1 8 (by decide)
              have pv26 : (v22 8).toInt = (v1 8).toInt + 1 := pv26
              have pg27 : (f23 2) = upd (f1 2) ((v1 8).toInt).toNat 2 := pg27
              have pg28 : (f23 3) = upd (f1 3) ((v1 8).toInt).toNat 0 := pg28
              have hs6_f23 : f23 6 = (f 6) := kq29.trans hs6_f1
              have hUv22 : (v22 35).toInt + (v22 36).toInt ≤ 40 := hIv22.2
              have hq0_v22 : v22 0 = (v 0) := hk0_v22.trans hq0_v1
              have hq1_v22 : v22 1 = (v 1) := hk1_v22.trans hq1_v1
              have zq1_v22 := congrArg Int32.toInt hq1_v22
              have hq3_v22 : v22 3 = (v 3) := hk3_v22.trans hq3_v1
              have zq3_v22 := congrArg Int32.toInt hq3_v22
              have hq4_v22 : v22 4 = (v 4) := hk4_v22.trans hq4_v1
              have zq4_v22 := congrArg Int32.toInt hq4_v22
              have hq5_v22 : v22 5 = (v 5) := hk5_v22.trans hq5_v1
              have zq5_v22 := congrArg Int32.toInt hq5_v22
              have hq9_v22 : v22 9 = (v 9) := hk9_v22.trans hq9_v1
              have zq9_v22 := congrArg Int32.toInt hq9_v22
              have hq10_v22 : v22 10 = t3 := hk10_v22
              have zq10_v22 := congrArg Int32.toInt hq10_v22
              have hq13_v22 : v22 13 = (v 13) := hk13_v22.trans hq13_v1
              have zq13_v22 := congrArg Int32.toInt hq13_v22
              have hq14_v22 : v22 14 = (v1 14) := hk14_v22
              have zq14_v22 := congrArg Int32.toInt hq14_v22
              have hq15_v22 : v22 15 = (v 15) := hk15_v22.trans hq15_v1
              have zq15_v22 := congrArg Int32.toInt hq15_v22
              have hq17_v22 : v22 17 = (v 17) := hk17_v22.trans hq17_v1
              have zq17_v22 := congrArg Int32.toInt hq17_v22
              have hq18_v22 : v22 18 = (v 18) := hk18_v22.trans hq18_v1
              have zq18_v22 := congrArg Int32.toInt hq18_v22
              have hq24_v22 : v22 24 = (v 24) := hk24_v22.trans hq24_v1
              have hq25_v22 : v22 25 = (v 25) := hk25_v22.trans hq25_v1
              have hq35_v22 : v22 35 = (v 35) := hk35_v22.trans hq35_v1
              have zq35_v22 := congrArg Int32.toInt hq35_v22
              have hq36_v22 : v22 36 = (v 36) := hk36_v22.trans hq36_v1
              have zq36_v22 := congrArg Int32.toInt hq36_v22
              have hq38_v22 : v22 38 = (v 38) := hk38_v22.trans hq38_v1
              have hq39_v22 : v22 39 = (v 39) := hk39_v22.trans hq39_v1
              have hAS := pg27
              have hAA := pg28
              have hdn := FI.topd hFI hO (by omega) (by omega)
              refine lv_aload_n hx hb dX11_close_71 rfl (lv_at hl 0 rfl) ?_
              refine lv_dup hx hb dX11_close_72 rfl ?_
              refine va_get (D := (dC, dI)) (ci := 11) (v := .int (v22 14)) (C := RX11) (T := TX11) (N := 79) hx hb hts inB_11 hown hE.1 hP 0 rfl rfl 23 (by decide) (hts _ k_1343) (fun _ h9 => h9) rfl dX11_close_73 ?_
              refine tI (y := (v1 14)) hq14_v22 ?_
              have b14_v1 : 0 ≤ (v1 14).toInt ∧ (v1 14).toInt ≤ 8 := YIb.b hIv1.1 14 (by decide)
              refine lv_iconst (v := 1) hx hb dX11_close_76 (by decide) ?_
              refine lv_isub hx hb dX11_close_77 ?_
              refine lv_topi (fun t30 et30 => ?_)
              have rg31 := fb_rng (v1 14)
              have zt30 : t30.toInt = (v1 14).toInt - 1 := by rw [et30]; exact sub_i rfl (by decide) (by omega) (by omega)
              refine va_put (D := (dC, dI)) (ci := 11) (v := .int t30) (ty := tyX11 23) (C := RX11) (T := TX11) (N := 79) hx hb hts inB_11 tyX11 tyX11_ok nmX11 hown hE.1 hP hD hS 0 rfl rfl 23 (by decide) (hts _ k_1343) (fun _ h9 => h9) rfl (tyX11_ok 23 (by decide)) rfl rfl (Nat.le_of_ble_eq_true rfl) dX11_close_78 (fun H locs hP hD hS => ?_)
              have hP : va_P (dC, dI) vwCl (YW cy y0 r (upd v22 14 t30) f23 w24 g25) H := hP
              have hD : va_D A (YW cy y0 r (upd v22 14 t30) f23 w24 g25) := hD
              refine lv_goto (tgt := 0) hx hb dX11_close_81 (by decide) ?_
              exact ih1  (upd v22 14 t30) f23 w24 g25 ⟨(YIb.upd (j := 14) (x := t30) hIv22.1 (show (0 : Int) ≤ t30.toInt by omega) (show t30.toInt ≤ (8 : Int) by omega)), hIv22.2⟩ hCf23 hRf23 hq0_v22 hq1_v22 hq3_v22 hq4_v22 hq5_v22 hq9_v22 hq13_v22 hq15_v22 hq17_v22 hq18_v22 hq24_v22 hq25_v22 hq35_v22 hq36_v22 hq38_v22 hq39_v22 (by show FI 1 (v22 10).toInt t30.toInt (v22 8).toInt (f23 6) (f23 2) (f23 3); rw [hs6_f23]; first | exact FI.not hFI hO (by omega) (by omega) hAS hAA (by omega) (by omega) (by omega) (by omega) | exact FI.dos hFI hO (by omega) (by omega) (by omega) hAS hAA (by omega) (by omega) (by omega) (by omega)) (by show ∀ k, k < ((v 10).toInt).toNat → (f23 6) k = 20 → k < ((v22 10).toInt).toNat; rw [hs6_f23]; exact gk_pop hGK hO (by omega) (by omega) (by omega)) (by show (v22 8).toInt + (v22 10).toInt = (v 8).toInt + (v 10).toInt; omega) (by show (v22 10).toInt - t30.toInt ≤ (v 10).toInt - (v 14).toInt; omega) (by show (v22 10).toInt ≤ (v 10).toInt; omega) (by show t30.toInt ≤ (v 14).toInt; omega) hs6_f23 (by show ((v22 10).toInt).toNat < n1; omega) _ _ _ hP hD hS (lv_sub hl [0, 1] rfl)
  exact lp1 _  v f w g hIv hCf hRf rfl rfl rfl rfl rfl rfl rfl rfl rfl rfl rfl rfl rfl rfl rfl rfl (by show FI 1 (v 10).toInt (v 14).toInt (v 8).toInt (f 6) (f 2) (f 3); exact hFI) (by show ∀ k, k < ((v 10).toInt).toNat → (f 6) k = 20 → k < ((v 10).toInt).toNat; exact fun k h1 h2 => h1) (by show (v 8).toInt + (v 10).toInt = (v 8).toInt + (v 10).toInt; omega) (by show (v 10).toInt - (v 14).toInt ≤ (v 10).toInt - (v 14).toInt; omega) (by show (v 10).toInt ≤ (v 10).toInt; omega) (by show (v 14).toInt ≤ (v 14).toInt; omega) rfl (Nat.lt_succ_self _) _ _ _ hP hD hS (lv_sub hl [0, 1] rfl)
set_option maxHeartbeats 4000000 in
set_option maxRecDepth 100000 in
theorem sY_X11_hasBracket_1 (l : Launch) (dC : Nat → ClassId) (dI : Nat → Nat → Nat) (cy : Nat → ClassId) (y0 : Nat) (r : Nat → Nat)  (v : Nat → Int32) (f : Nat → Nat → Int32) (w : Int64) (g : Nat → Int64) (hIv : YI v) (hCf : YC f) (hRf : progOK (f 4) (f 5) (v 9).toInt.toNat)  : ctI l (dC, dI) cy yX11_hasBracket cX11_hasBracket 3 .boolean 1 60 0 0 Unit [.ref y0] (YW cy y0 r v f w g) (fun r u => ((r = 1 ∧ ∃ k, k < ((v 10).toInt).toNat ∧ f 6 k = 20) ∨ (r = 0))) (fun u => YW cy y0 r v f w g) := by
  refine ctI_of (by decide) (Nat.le_of_ble_eq_true rfl) (fun p e s m below meth c A ls Q hx hb hml hts hown hE hP hD hA hl ret => ?_)
  have hUv : (v 35).toInt + (v 36).toInt ≤ 40 := hIv.2
  have hown : s.vm.findClass RX11 = some m.cls := hown
  have hS : va_S A s.heap s.heap [] := va_S.rf
  have hl : lv_has ls 3 [(0, .ref y0)] := hl
  refine lv_iconst (v := 0) hx hb dX11_hasBracket_0 (by decide) ?_
  refine lv_istore_n (lv' := [(1, .int 0), (0, .ref y0)]) hx hb dX11_hasBracket_1 rfl hl (by decide) rfl (fun ls hl => ?_)
  refine lv_iconst (v := 0) hx hb dX11_hasBracket_2 (by decide) ?_
  refine lv_istore_n (lv' := [(2, .int 0), (1, .int 0), (0, .ref y0)]) hx hb dX11_hasBracket_3 rfl hl (by decide) rfl (fun ls hl => ?_)
  have lp1 : ∀ (n1 : Nat) (l1_1 : Int32) (l2_1 : Int32), ((0 : Int) ≤ l1_1.toInt ∧ l1_1.toInt ≤ 1) → ((0 : Int) ≤ l2_1.toInt ∧ l2_1.toInt ≤ 2147483647) → (l1_1.toInt = 1 → ∃ k, k < ((v 10).toInt).toNat ∧ (f 6) k = 20) → (2147483647 - l2_1.toInt).toNat < n1 → ∀ (H : Heap) (locs : List Loc) (ls : Array Slot), va_P (dC, dI) vwCl (YW cy y0 r v f w g) H → va_D A (YW cy y0 r v f w g) → va_S A s.heap H locs → lv_has ls 3 [(2, .int l2_1), (1, .int l1_1), (0, .ref y0)] → W p l e { frames := 1, cells := 0, slots := 0, locals := 60 } s m ([.ref y0] : List Value).toArray below meth c H locs 0 0 Q (F0 m 4 ls []) := by
    intro n1
    induction n1 with
    | zero => intro l1_1 l2_1 hr1_1 hr2_1 hx0_1 hm; exact absurd hm (Nat.not_lt_zero _)
    | succ n1 ih1 =>
      intro l1_1 l2_1 hr1_1 hr2_1 hx0_1 hm1 H locs ls hP hD hS hl
      have b10_v : 0 ≤ (v 10).toInt ∧ (v 10).toInt ≤ 160 := YIb.b hIv.1 10 (by decide)
      have hHB := hx0_1
      refine lv_iload_n hx hb dX11_hasBracket_4 rfl (lv_at hl 0 rfl) ?_
      refine lv_aload_n hx hb dX11_hasBracket_5 rfl (lv_at hl 2 rfl) ?_
      refine va_get (D := (dC, dI)) (ci := 11) (v := .int (v 10)) (C := RX11) (T := TX11) (N := 79) hx hb hts inB_11 hown hE.1 hP 0 rfl rfl 19 (by decide) (hts _ k_1339) (fun _ h9 => h9) rfl dX11_hasBracket_6 ?_
      refine lv_icmp_ge (tgt := 39) hx hb dX11_hasBracket_9 (by decide) (fun c2 => ?_) (fun c2 => ?_)
      · skip
        have zc2 : (v 10).toInt ≤ l2_1.toInt := by rw [fa_le] at c2; exact c2
        have rg3 := fb_rng l2_1
        have rg4 := fb_rng (v 10)
        refine lv_iload_n hx hb dX11_hasBracket_39 rfl (lv_at hl 1 rfl) ?_
        rcases b01 (x := l1_1) (by omega) (by omega) with h5 | h5
        · skip
          refine tI (y := 1) h5 ?_
          have hb1 : l1_1.toInt = 1 := by rw [h5]; decide
          exact ret 1 () _ _ _ _ _ _ rfl (Or.inl ⟨rfl, by exact hHB (by omega)⟩) hP hD hS dX11_hasBracket_40 (Nat.le_refl _) (Nat.le_refl _)
        · skip
          refine tI (y := 0) h5 ?_
          have hb1 : l1_1.toInt = 0 := by rw [h5]; decide
          exact ret 0 () _ _ _ _ _ _ rfl (Or.inr rfl) hP hD hS dX11_hasBracket_40 (Nat.le_refl _) (Nat.le_refl _)
      · skip
        have zc2 : ¬ ((v 10).toInt ≤ l2_1.toInt) := by rw [fa_le] at c2; exact c2
        have rg6 := fb_rng l2_1
        have rg7 := fb_rng (v 10)
        refine lv_iload_n hx hb dX11_hasBracket_12 rfl (lv_at hl 1 rfl) ?_
        refine lv_if_ne (tgt := 27) hx hb dX11_hasBracket_13 (by decide) (fun c8 => ?_) (fun c8 => ?_)
        · skip
          have zc8 : ¬ (l1_1.toInt = 0) := by rw [fa_eq, show (0 : Int32).toInt = 0 from by decide] at c8; exact c8
          refine lv_iconst (v := 1) hx hb dX11_hasBracket_27 (by decide) ?_
          refine lv_goto (tgt := 32) hx hb dX11_hasBracket_28 (by decide) ?_
          refine lv_istore_n (lv' := [(1, .int 1), (2, .int l2_1), (0, .ref y0)]) hx hb dX11_hasBracket_32 rfl hl (by decide) rfl (fun ls hl => ?_)
          obtain ⟨t9, et9⟩ : ∃ y : Int32, y = l2_1 + 1 := ⟨_, rfl⟩
          have zt9 : t9.toInt = l2_1.toInt + 1 := by rw [et9]; exact add_i rfl (by decide) (by omega) (by omega)
          refine lv_iinc (v := t9) (lv' := [(2, .int t9), (1, .int 1), (0, .ref y0)]) hx hb dX11_hasBracket_33 hl (k := 1) rfl (by rw [et9]; rfl) (by decide) rfl (fun ls hl => ?_)
          refine lv_goto (tgt := 4) hx hb dX11_hasBracket_36 (by decide) ?_
          have rg10 := fb_rng t9
          exact ih1 1 t9 ⟨by decide, by decide⟩ ⟨show (0 : Int) ≤ t9.toInt by omega, show t9.toInt ≤ (2147483647 : Int) by omega⟩ (by show (1 : Int32).toInt = 1 → ∃ k, k < ((v 10).toInt).toNat ∧ (f 6) k = 20; first | exact fun h => absurd h (by decide) | exact fun _ => hHB (by omega) | exact fun _ => ⟨_, by omega, i_eq hO (by omega)⟩) (by show (2147483647 - t9.toInt).toNat < n1; omega) _ _ _ hP hD hS (lv_sub hl [0, 1, 2] rfl)
        · skip
          have zc8 : l1_1.toInt = 0 := by rw [fa_eq, show (0 : Int32).toInt = 0 from by decide] at c8; exact c8
          refine lv_aload_n hx hb dX11_hasBracket_16 rfl (lv_at hl 2 rfl) ?_
          refine va_get (D := (dC, dI)) (ci := 11) (v := .ref (r 15)) (C := RX11) (T := TX11) (N := 79) hx hb hts inB_11 hown hE.1 hP 0 rfl rfl 15 (by decide) (hts _ k_1335) (fun _ h9 => h9) rfl dX11_hasBracket_17 ?_
          refine lv_iload_n hx hb dX11_hasBracket_20 rfl (lv_at hl 0 rfl) ?_
          refine ldI hx hb hE hP 7 rfl (vp_in_iff.mpr ⟨by omega, by omega⟩) rfl rfl dX11_hasBracket_21 ?_
          refine lv_topi (fun t11 et11 => ?_)
          have hO : (f 6) l2_1.toInt.toNat = t11 := by rw [et11]; rfl
          refine lv_bipush (v := 20) hx hb dX11_hasBracket_22 (by decide) ?_
          refine lv_icmp_ne (tgt := 31) hx hb dX11_hasBracket_24 (by decide) (fun c12 => ?_) (fun c12 => ?_)
          · skip
            have zc12 : ¬ (t11.toInt = 20) := by rw [fa_eq, show (20 : Int32).toInt = 20 from by decide] at c12; exact c12
            refine lv_iconst (v := 0) hx hb dX11_hasBracket_31 (by decide) ?_
            refine lv_istore_n (lv' := [(1, .int 0), (2, .int l2_1), (0, .ref y0)]) hx hb dX11_hasBracket_32 rfl hl (by decide) rfl (fun ls hl => ?_)
            obtain ⟨t13, et13⟩ : ∃ y : Int32, y = l2_1 + 1 := ⟨_, rfl⟩
            have zt13 : t13.toInt = l2_1.toInt + 1 := by rw [et13]; exact add_i rfl (by decide) (by omega) (by omega)
            refine lv_iinc (v := t13) (lv' := [(2, .int t13), (1, .int 0), (0, .ref y0)]) hx hb dX11_hasBracket_33 hl (k := 1) rfl (by rw [et13]; rfl) (by decide) rfl (fun ls hl => ?_)
            refine lv_goto (tgt := 4) hx hb dX11_hasBracket_36 (by decide) ?_
            have rg14 := fb_rng t13
            exact ih1 0 t13 ⟨by decide, by decide⟩ ⟨show (0 : Int) ≤ t13.toInt by omega, show t13.toInt ≤ (2147483647 : Int) by omega⟩ (by show (0 : Int32).toInt = 1 → ∃ k, k < ((v 10).toInt).toNat ∧ (f 6) k = 20; first | exact fun h => absurd h (by decide) | exact fun _ => hHB (by omega) | exact fun _ => ⟨_, by omega, i_eq hO (by omega)⟩) (by show (2147483647 - t13.toInt).toNat < n1; omega) _ _ _ hP hD hS (lv_sub hl [0, 1, 2] rfl)
          · skip
            have zc12 : t11.toInt = 20 := by rw [fa_eq, show (20 : Int32).toInt = 20 from by decide] at c12; exact c12
            refine lv_iconst (v := 1) hx hb dX11_hasBracket_27 (by decide) ?_
            refine lv_goto (tgt := 32) hx hb dX11_hasBracket_28 (by decide) ?_
            refine lv_istore_n (lv' := [(1, .int 1), (2, .int l2_1), (0, .ref y0)]) hx hb dX11_hasBracket_32 rfl hl (by decide) rfl (fun ls hl => ?_)
            obtain ⟨t15, et15⟩ : ∃ y : Int32, y = l2_1 + 1 := ⟨_, rfl⟩
            have zt15 : t15.toInt = l2_1.toInt + 1 := by rw [et15]; exact add_i rfl (by decide) (by omega) (by omega)
            refine lv_iinc (v := t15) (lv' := [(2, .int t15), (1, .int 1), (0, .ref y0)]) hx hb dX11_hasBracket_33 hl (k := 1) rfl (by rw [et15]; rfl) (by decide) rfl (fun ls hl => ?_)
            refine lv_goto (tgt := 4) hx hb dX11_hasBracket_36 (by decide) ?_
            have rg16 := fb_rng t15
            exact ih1 1 t15 ⟨by decide, by decide⟩ ⟨show (0 : Int) ≤ t15.toInt by omega, show t15.toInt ≤ (2147483647 : Int) by omega⟩ (by show (1 : Int32).toInt = 1 → ∃ k, k < ((v 10).toInt).toNat ∧ (f 6) k = 20; first | exact fun h => absurd h (by decide) | exact fun _ => hHB (by omega) | exact fun _ => ⟨_, by omega, i_eq hO (by omega)⟩) (by show (2147483647 - t15.toInt).toNat < n1; omega) _ _ _ hP hD hS (lv_sub hl [0, 1, 2] rfl)
  exact lp1 _ 0 0 ⟨by decide, by decide⟩ ⟨by decide, by decide⟩ (by show (0 : Int32).toInt = 1 → ∃ k, k < ((v 10).toInt).toNat ∧ (f 6) k = 20; exact fun h => absurd h (by decide)) (Nat.lt_succ_self _) _ _ _ hP hD hS (lv_sub hl [0, 1, 2] rfl)
set_option maxHeartbeats 4000000 in
set_option maxRecDepth 100000 in
theorem sY_X11_sign_1 (l : Launch) (dC : Nat → ClassId) (dI : Nat → Nat → Nat) (cy : Nat → ClassId) (y0 : Nat) (r : Nat → Nat)  (v : Nat → Int32) (f : Nat → Nat → Int32) (w : Int64) (g : Nat → Int64) (hIv : YI v) (hCf : YC f) (hRf : progOK (f 4) (f 5) (v 9).toInt.toNat)  : ctI l (dC, dI) cy yX11_sign cX11_sign 1 .int 2 82 0 0 Unit [.ref y0] (YW cy y0 r v f w g) (fun r u => (r.toInt = 0 ∨ 37 ≤ r.toInt) ∧ ((0 : Int) ≤ r.toInt ∧ r.toInt ≤ 124)) (fun u => YW cy y0 r v f w g) := by
  refine ctI_of (by decide) (Nat.le_of_ble_eq_true rfl) (fun p e s m below meth c A ls Q hx hb hml hts hown hE hP hD hA hl ret => ?_)
  have hUv : (v 35).toInt + (v 36).toInt ≤ 40 := hIv.2
  have hown : s.vm.findClass RX11 = some m.cls := hown
  have hS : va_S A s.heap s.heap [] := va_S.rf
  have hl : lv_has ls 1 [(0, .ref y0)] := hl
  refine lv_aload_n hx hb dX11_sign_0 rfl (lv_at hl 0 rfl) ?_
  refine lv_ldc2 (v := 6385252) hx hb hown (hts _ k_1638) dX11_sign_1 ?_
  refine cbVi (n := 1) (rest := []) hx hb hml hown hts hE hP hD hS hA (sY_X11_isWord_1 l dC dI cy y0 r 6385252 v f w g hIv hCf hRf ) k_1601 k_1603 k_45 k_114 k_1604 (by decide +kernel) ⟨Nat.le_of_ble_eq_true rfl, Nat.le_of_ble_eq_true rfl⟩ 0 11 rfl rfl (rfl) hl.1 rfl (Nat.le_of_ble_eq_true rfl) dX11_sign_4 (fun r1 u H locs hw hP hD hS => ?_)
  rcases hw with ⟨g2, g2_0⟩ | ⟨g2⟩
  · skip
    subst g2
    refine lv_if_eq (tgt := 13) hx hb dX11_sign_7 (by decide) (fun c0 => absurd c0 (by decide)) (fun _ => ?_)
    refine lv_bipush (v := 38) hx hb dX11_sign_10 (by decide) ?_
    exact ret 38 () _ _ _ _ _ _ rfl ⟨(by have q9 : (38 : Int32).toInt = 38 := (by decide); show (38 : Int32).toInt = 0 ∨ 37 ≤ (38 : Int32).toInt; omega), ⟨by decide, by decide⟩⟩ hP hD hS dX11_sign_12 (Nat.le_refl _) (Nat.le_refl _)
  · skip
    subst g2
    refine lv_if_eq (tgt := 13) hx hb dX11_sign_7 (by decide) (fun _ => ?_) (fun c0 => absurd (by decide) c0)
    refine lv_aload_n hx hb dX11_sign_13 rfl (lv_at hl 0 rfl) ?_
    refine lv_ldc2 (v := 28530) hx hb hown (hts _ k_1639) dX11_sign_14 ?_
    refine cbVi (n := 1) (rest := []) hx hb hml hown hts hE hP hD hS hA (sY_X11_isWord_1 l dC dI cy y0 r 28530 v f w g hIv hCf hRf ) k_1601 k_1603 k_45 k_114 k_1604 (by decide +kernel) ⟨Nat.le_of_ble_eq_true rfl, Nat.le_of_ble_eq_true rfl⟩ 0 11 rfl rfl (rfl) hl.1 rfl (Nat.le_of_ble_eq_true rfl) dX11_sign_17 (fun r3 u H locs hw hP hD hS => ?_)
    rcases hw with ⟨g4, g4_0⟩ | ⟨g4⟩
    · skip
      subst g4
      refine lv_if_eq (tgt := 26) hx hb dX11_sign_20 (by decide) (fun c0 => absurd c0 (by decide)) (fun _ => ?_)
      refine lv_bipush (v := 124) hx hb dX11_sign_23 (by decide) ?_
      exact ret 124 () _ _ _ _ _ _ rfl ⟨(by have q9 : (124 : Int32).toInt = 124 := (by decide); show (124 : Int32).toInt = 0 ∨ 37 ≤ (124 : Int32).toInt; omega), ⟨by decide, by decide⟩⟩ hP hD hS dX11_sign_25 (Nat.le_refl _) (Nat.le_refl _)
    · skip
      subst g4
      refine lv_if_eq (tgt := 26) hx hb dX11_sign_20 (by decide) (fun _ => ?_) (fun c0 => absurd (by decide) c0)
      refine lv_aload_n hx hb dX11_sign_26 rfl (lv_at hl 0 rfl) ?_
      refine va_get (D := (dC, dI)) (ci := 11) (v := .int (v 5)) (C := RX11) (T := TX11) (N := 79) hx hb hts inB_11 hown hE.1 hP 0 rfl rfl 6 (by decide) (hts _ k_1326) (fun _ h9 => h9) rfl dX11_sign_27 ?_
      refine lv_bipush (v := 60) hx hb dX11_sign_30 (by decide) ?_
      refine lv_icmp_eq (tgt := 98) hx hb dX11_sign_32 (by decide) (fun c5 => ?_) (fun c5 => ?_)
      · skip
        have zc5 : (v 5).toInt = 60 := by rw [fa_eq, show (60 : Int32).toInt = 60 from by decide] at c5; exact c5
        refine lv_aload_n hx hb dX11_sign_98 rfl (lv_at hl 0 rfl) ?_
        refine va_get (D := (dC, dI)) (ci := 11) (v := .int (v 5)) (C := RX11) (T := TX11) (N := 79) hx hb hts inB_11 hown hE.1 hP 0 rfl rfl 6 (by decide) (hts _ k_1326) (fun _ h9 => h9) rfl dX11_sign_99 ?_
        refine lv_goto (tgt := 106) hx hb dX11_sign_102 (by decide) ?_
        exact ret (v 5) () _ _ _ _ _ _ rfl ⟨(by show (v 5).toInt = 0 ∨ 37 ≤ (v 5).toInt; omega), ⟨by omega, by omega⟩⟩ hP hD hS dX11_sign_106 (Nat.le_refl _) (Nat.le_refl _)
      · skip
        have zc5 : ¬ ((v 5).toInt = 60) := by rw [fa_eq, show (60 : Int32).toInt = 60 from by decide] at c5; exact c5
        refine lv_aload_n hx hb dX11_sign_35 rfl (lv_at hl 0 rfl) ?_
        refine va_get (D := (dC, dI)) (ci := 11) (v := .int (v 5)) (C := RX11) (T := TX11) (N := 79) hx hb hts inB_11 hown hE.1 hP 0 rfl rfl 6 (by decide) (hts _ k_1326) (fun _ h9 => h9) rfl dX11_sign_36 ?_
        refine lv_bipush (v := 62) hx hb dX11_sign_39 (by decide) ?_
        refine lv_icmp_eq (tgt := 98) hx hb dX11_sign_41 (by decide) (fun c6 => ?_) (fun c6 => ?_)
        · skip
          have zc6 : (v 5).toInt = 62 := by rw [fa_eq, show (62 : Int32).toInt = 62 from by decide] at c6; exact c6
          refine lv_aload_n hx hb dX11_sign_98 rfl (lv_at hl 0 rfl) ?_
          refine va_get (D := (dC, dI)) (ci := 11) (v := .int (v 5)) (C := RX11) (T := TX11) (N := 79) hx hb hts inB_11 hown hE.1 hP 0 rfl rfl 6 (by decide) (hts _ k_1326) (fun _ h9 => h9) rfl dX11_sign_99 ?_
          refine lv_goto (tgt := 106) hx hb dX11_sign_102 (by decide) ?_
          exact ret (v 5) () _ _ _ _ _ _ rfl ⟨(by show (v 5).toInt = 0 ∨ 37 ≤ (v 5).toInt; omega), ⟨by omega, by omega⟩⟩ hP hD hS dX11_sign_106 (Nat.le_refl _) (Nat.le_refl _)
        · skip
          have zc6 : ¬ ((v 5).toInt = 62) := by rw [fa_eq, show (62 : Int32).toInt = 62 from by decide] at c6; exact c6
          refine lv_aload_n hx hb dX11_sign_44 rfl (lv_at hl 0 rfl) ?_
          refine va_get (D := (dC, dI)) (ci := 11) (v := .int (v 5)) (C := RX11) (T := TX11) (N := 79) hx hb hts inB_11 hown hE.1 hP 0 rfl rfl 6 (by decide) (hts _ k_1326) (fun _ h9 => h9) rfl dX11_sign_45 ?_
          refine lv_bipush (v := 61) hx hb dX11_sign_48 (by decide) ?_
          refine lv_icmp_eq (tgt := 98) hx hb dX11_sign_50 (by decide) (fun c7 => ?_) (fun c7 => ?_)
          · skip
            have zc7 : (v 5).toInt = 61 := by rw [fa_eq, show (61 : Int32).toInt = 61 from by decide] at c7; exact c7
            refine lv_aload_n hx hb dX11_sign_98 rfl (lv_at hl 0 rfl) ?_
            refine va_get (D := (dC, dI)) (ci := 11) (v := .int (v 5)) (C := RX11) (T := TX11) (N := 79) hx hb hts inB_11 hown hE.1 hP 0 rfl rfl 6 (by decide) (hts _ k_1326) (fun _ h9 => h9) rfl dX11_sign_99 ?_
            refine lv_goto (tgt := 106) hx hb dX11_sign_102 (by decide) ?_
            exact ret (v 5) () _ _ _ _ _ _ rfl ⟨(by show (v 5).toInt = 0 ∨ 37 ≤ (v 5).toInt; omega), ⟨by omega, by omega⟩⟩ hP hD hS dX11_sign_106 (Nat.le_refl _) (Nat.le_refl _)
          · skip
            have zc7 : ¬ ((v 5).toInt = 61) := by rw [fa_eq, show (61 : Int32).toInt = 61 from by decide] at c7; exact c7
            refine lv_aload_n hx hb dX11_sign_53 rfl (lv_at hl 0 rfl) ?_
            refine va_get (D := (dC, dI)) (ci := 11) (v := .int (v 5)) (C := RX11) (T := TX11) (N := 79) hx hb hts inB_11 hown hE.1 hP 0 rfl rfl 6 (by decide) (hts _ k_1326) (fun _ h9 => h9) rfl dX11_sign_54 ?_
            refine lv_bipush (v := 43) hx hb dX11_sign_57 (by decide) ?_
            refine lv_icmp_eq (tgt := 98) hx hb dX11_sign_59 (by decide) (fun c8 => ?_) (fun c8 => ?_)
            · skip
              have zc8 : (v 5).toInt = 43 := by rw [fa_eq, show (43 : Int32).toInt = 43 from by decide] at c8; exact c8
              refine lv_aload_n hx hb dX11_sign_98 rfl (lv_at hl 0 rfl) ?_
              refine va_get (D := (dC, dI)) (ci := 11) (v := .int (v 5)) (C := RX11) (T := TX11) (N := 79) hx hb hts inB_11 hown hE.1 hP 0 rfl rfl 6 (by decide) (hts _ k_1326) (fun _ h9 => h9) rfl dX11_sign_99 ?_
              refine lv_goto (tgt := 106) hx hb dX11_sign_102 (by decide) ?_
              exact ret (v 5) () _ _ _ _ _ _ rfl ⟨(by show (v 5).toInt = 0 ∨ 37 ≤ (v 5).toInt; omega), ⟨by omega, by omega⟩⟩ hP hD hS dX11_sign_106 (Nat.le_refl _) (Nat.le_refl _)
            · skip
              have zc8 : ¬ ((v 5).toInt = 43) := by rw [fa_eq, show (43 : Int32).toInt = 43 from by decide] at c8; exact c8
              refine lv_aload_n hx hb dX11_sign_62 rfl (lv_at hl 0 rfl) ?_
              refine va_get (D := (dC, dI)) (ci := 11) (v := .int (v 5)) (C := RX11) (T := TX11) (N := 79) hx hb hts inB_11 hown hE.1 hP 0 rfl rfl 6 (by decide) (hts _ k_1326) (fun _ h9 => h9) rfl dX11_sign_63 ?_
              refine lv_bipush (v := 45) hx hb dX11_sign_66 (by decide) ?_
              refine lv_icmp_eq (tgt := 98) hx hb dX11_sign_68 (by decide) (fun c9 => ?_) (fun c9 => ?_)
              · skip
                have zc9 : (v 5).toInt = 45 := by rw [fa_eq, show (45 : Int32).toInt = 45 from by decide] at c9; exact c9
                refine lv_aload_n hx hb dX11_sign_98 rfl (lv_at hl 0 rfl) ?_
                refine va_get (D := (dC, dI)) (ci := 11) (v := .int (v 5)) (C := RX11) (T := TX11) (N := 79) hx hb hts inB_11 hown hE.1 hP 0 rfl rfl 6 (by decide) (hts _ k_1326) (fun _ h9 => h9) rfl dX11_sign_99 ?_
                refine lv_goto (tgt := 106) hx hb dX11_sign_102 (by decide) ?_
                exact ret (v 5) () _ _ _ _ _ _ rfl ⟨(by show (v 5).toInt = 0 ∨ 37 ≤ (v 5).toInt; omega), ⟨by omega, by omega⟩⟩ hP hD hS dX11_sign_106 (Nat.le_refl _) (Nat.le_refl _)
              · skip
                have zc9 : ¬ ((v 5).toInt = 45) := by rw [fa_eq, show (45 : Int32).toInt = 45 from by decide] at c9; exact c9
                refine lv_aload_n hx hb dX11_sign_71 rfl (lv_at hl 0 rfl) ?_
                refine va_get (D := (dC, dI)) (ci := 11) (v := .int (v 5)) (C := RX11) (T := TX11) (N := 79) hx hb hts inB_11 hown hE.1 hP 0 rfl rfl 6 (by decide) (hts _ k_1326) (fun _ h9 => h9) rfl dX11_sign_72 ?_
                refine lv_bipush (v := 42) hx hb dX11_sign_75 (by decide) ?_
                refine lv_icmp_eq (tgt := 98) hx hb dX11_sign_77 (by decide) (fun c10 => ?_) (fun c10 => ?_)
                · skip
                  have zc10 : (v 5).toInt = 42 := by rw [fa_eq, show (42 : Int32).toInt = 42 from by decide] at c10; exact c10
                  refine lv_aload_n hx hb dX11_sign_98 rfl (lv_at hl 0 rfl) ?_
                  refine va_get (D := (dC, dI)) (ci := 11) (v := .int (v 5)) (C := RX11) (T := TX11) (N := 79) hx hb hts inB_11 hown hE.1 hP 0 rfl rfl 6 (by decide) (hts _ k_1326) (fun _ h9 => h9) rfl dX11_sign_99 ?_
                  refine lv_goto (tgt := 106) hx hb dX11_sign_102 (by decide) ?_
                  exact ret (v 5) () _ _ _ _ _ _ rfl ⟨(by show (v 5).toInt = 0 ∨ 37 ≤ (v 5).toInt; omega), ⟨by omega, by omega⟩⟩ hP hD hS dX11_sign_106 (Nat.le_refl _) (Nat.le_refl _)
                · skip
                  have zc10 : ¬ ((v 5).toInt = 42) := by rw [fa_eq, show (42 : Int32).toInt = 42 from by decide] at c10; exact c10
                  refine lv_aload_n hx hb dX11_sign_80 rfl (lv_at hl 0 rfl) ?_
                  refine va_get (D := (dC, dI)) (ci := 11) (v := .int (v 5)) (C := RX11) (T := TX11) (N := 79) hx hb hts inB_11 hown hE.1 hP 0 rfl rfl 6 (by decide) (hts _ k_1326) (fun _ h9 => h9) rfl dX11_sign_81 ?_
                  refine lv_bipush (v := 47) hx hb dX11_sign_84 (by decide) ?_
                  refine lv_icmp_eq (tgt := 98) hx hb dX11_sign_86 (by decide) (fun c11 => ?_) (fun c11 => ?_)
                  · skip
                    have zc11 : (v 5).toInt = 47 := by rw [fa_eq, show (47 : Int32).toInt = 47 from by decide] at c11; exact c11
                    refine lv_aload_n hx hb dX11_sign_98 rfl (lv_at hl 0 rfl) ?_
                    refine va_get (D := (dC, dI)) (ci := 11) (v := .int (v 5)) (C := RX11) (T := TX11) (N := 79) hx hb hts inB_11 hown hE.1 hP 0 rfl rfl 6 (by decide) (hts _ k_1326) (fun _ h9 => h9) rfl dX11_sign_99 ?_
                    refine lv_goto (tgt := 106) hx hb dX11_sign_102 (by decide) ?_
                    exact ret (v 5) () _ _ _ _ _ _ rfl ⟨(by show (v 5).toInt = 0 ∨ 37 ≤ (v 5).toInt; omega), ⟨by omega, by omega⟩⟩ hP hD hS dX11_sign_106 (Nat.le_refl _) (Nat.le_refl _)
                  · skip
                    have zc11 : ¬ ((v 5).toInt = 47) := by rw [fa_eq, show (47 : Int32).toInt = 47 from by decide] at c11; exact c11
                    refine lv_aload_n hx hb dX11_sign_89 rfl (lv_at hl 0 rfl) ?_
                    refine va_get (D := (dC, dI)) (ci := 11) (v := .int (v 5)) (C := RX11) (T := TX11) (N := 79) hx hb hts inB_11 hown hE.1 hP 0 rfl rfl 6 (by decide) (hts _ k_1326) (fun _ h9 => h9) rfl dX11_sign_90 ?_
                    refine lv_bipush (v := 37) hx hb dX11_sign_93 (by decide) ?_
                    refine lv_icmp_ne (tgt := 105) hx hb dX11_sign_95 (by decide) (fun c12 => ?_) (fun c12 => ?_)
                    · skip
                      have zc12 : ¬ ((v 5).toInt = 37) := by rw [fa_eq, show (37 : Int32).toInt = 37 from by decide] at c12; exact c12
                      refine lv_iconst (v := 0) hx hb dX11_sign_105 (by decide) ?_
                      exact ret 0 () _ _ _ _ _ _ rfl ⟨(by have q9 : (0 : Int32).toInt = 0 := (by decide); show (0 : Int32).toInt = 0 ∨ 37 ≤ (0 : Int32).toInt; omega), ⟨by decide, by decide⟩⟩ hP hD hS dX11_sign_106 (Nat.le_refl _) (Nat.le_refl _)
                    · skip
                      have zc12 : (v 5).toInt = 37 := by rw [fa_eq, show (37 : Int32).toInt = 37 from by decide] at c12; exact c12
                      refine lv_aload_n hx hb dX11_sign_98 rfl (lv_at hl 0 rfl) ?_
                      refine va_get (D := (dC, dI)) (ci := 11) (v := .int (v 5)) (C := RX11) (T := TX11) (N := 79) hx hb hts inB_11 hown hE.1 hP 0 rfl rfl 6 (by decide) (hts _ k_1326) (fun _ h9 => h9) rfl dX11_sign_99 ?_
                      refine lv_goto (tgt := 106) hx hb dX11_sign_102 (by decide) ?_
                      exact ret (v 5) () _ _ _ _ _ _ rfl ⟨(by show (v 5).toInt = 0 ∨ 37 ≤ (v 5).toInt; omega), ⟨by omega, by omega⟩⟩ hP hD hS dX11_sign_106 (Nat.le_refl _) (Nat.le_refl _)
set_option maxHeartbeats 4000000 in
set_option maxRecDepth 100000 in
theorem sY_X11_hasRelation_1 (l : Launch) (dC : Nat → ClassId) (dI : Nat → Nat → Nat) (cy : Nat → ClassId) (y0 : Nat) (r : Nat → Nat)  (v : Nat → Int32) (f : Nat → Nat → Int32) (w : Int64) (g : Nat → Int64) (hIv : YI v) (hCf : YC f) (hRf : progOK (f 4) (f 5) (v 9).toInt.toNat)  : ctI l (dC, dI) cy yX11_hasRelation cX11_hasRelation 2 .boolean 2 80 0 0 Unit [.ref y0] (YW cy y0 r v f w g) (fun r u => ((r = 1) ∨ (r = 0))) (fun u => YW cy y0 r v f w g) := by
  refine ctI_of (by decide) (Nat.le_of_ble_eq_true rfl) (fun p e s m below meth c A ls Q hx hb hml hts hown hE hP hD hA hl ret => ?_)
  have hUv : (v 35).toInt + (v 36).toInt ≤ 40 := hIv.2
  have hown : s.vm.findClass RX11 = some m.cls := hown
  have hS : va_S A s.heap s.heap [] := va_S.rf
  have hl : lv_has ls 2 [(0, .ref y0)] := hl
  refine lv_aload_n hx hb dX11_hasRelation_0 rfl (lv_at hl 0 rfl) ?_
  refine va_get (D := (dC, dI)) (ci := 11) (v := .int (v 10)) (C := RX11) (T := TX11) (N := 79) hx hb hts inB_11 hown hE.1 hP 0 rfl rfl 19 (by decide) (hts _ k_1339) (fun _ h9 => h9) rfl dX11_hasRelation_1 ?_
  have b10_v : 0 ≤ (v 10).toInt ∧ (v 10).toInt ≤ 160 := YIb.b hIv.1 10 (by decide)
  refine lv_iconst (v := 1) hx hb dX11_hasRelation_4 (by decide) ?_
  refine lv_isub hx hb dX11_hasRelation_5 ?_
  refine lv_topi (fun t1 et1 => ?_)
  have rg2 := fb_rng (v 10)
  have zt1 : t1.toInt = (v 10).toInt - 1 := by rw [et1]; exact sub_i rfl (by decide) (by omega) (by omega)
  refine lv_istore_n (lv' := [(1, .int t1), (0, .ref y0)]) hx hb dX11_hasRelation_6 rfl hl (by decide) rfl (fun ls hl => ?_)
  have lp3 : ∀ (n3 : Nat) (l1_3 : Int32), ((-2147483648 : Int) ≤ l1_3.toInt ∧ l1_3.toInt ≤ 159) → (l1_3.toInt + 2147483648).toNat < n3 → ∀ (H : Heap) (locs : List Loc) (ls : Array Slot), va_P (dC, dI) vwCl (YW cy y0 r v f w g) H → va_D A (YW cy y0 r v f w g) → va_S A s.heap H locs → lv_has ls 2 [(1, .int l1_3), (0, .ref y0)] → W p l e { frames := 2, cells := 0, slots := 0, locals := 80 } s m ([.ref y0] : List Value).toArray below meth c H locs 0 0 Q (F0 m 7 ls []) := by
    intro n3
    induction n3 with
    | zero => intro l1_3 hr1_3 hm; exact absurd hm (Nat.not_lt_zero _)
    | succ n3 ih3 =>
      intro l1_3 hr1_3 hm3 H locs ls hP hD hS hl
      refine lv_iload_n hx hb dX11_hasRelation_7 rfl (lv_at hl 0 rfl) ?_
      refine lv_if_lt (tgt := 41) hx hb dX11_hasRelation_8 (by decide) (fun c4 => ?_) (fun c4 => ?_)
      · skip
        have zc4 : l1_3.toInt < 0 := by rw [fa_lt, show (0 : Int32).toInt = 0 from by decide] at c4; exact c4
        refine lv_iload_n hx hb dX11_hasRelation_41 rfl (lv_at hl 0 rfl) ?_
        refine lv_if_lt (tgt := 73) hx hb dX11_hasRelation_42 (by decide) (fun c5 => ?_) (fun c5 => ?_)
        · skip
          have zc5 : l1_3.toInt < 0 := by rw [fa_lt, show (0 : Int32).toInt = 0 from by decide] at c5; exact c5
          refine lv_iconst (v := 0) hx hb dX11_hasRelation_73 (by decide) ?_
          exact ret 0 () _ _ _ _ _ _ rfl (Or.inr rfl) hP hD hS dX11_hasRelation_74 (Nat.le_refl _) (Nat.le_refl _)
        · skip
          have zc5 : ¬ (l1_3.toInt < 0) := by rw [fa_lt, show (0 : Int32).toInt = 0 from by decide] at c5; exact c5
          refine lv_aload_n hx hb dX11_hasRelation_45 rfl (lv_at hl 1 rfl) ?_
          refine va_get (D := (dC, dI)) (ci := 11) (v := .ref (r 15)) (C := RX11) (T := TX11) (N := 79) hx hb hts inB_11 hown hE.1 hP 0 rfl rfl 15 (by decide) (hts _ k_1335) (fun _ h9 => h9) rfl dX11_hasRelation_46 ?_
          refine lv_iload_n hx hb dX11_hasRelation_49 rfl (lv_at hl 0 rfl) ?_
          refine ldI hx hb hE hP 7 rfl (vp_in_iff.mpr ⟨by omega, by omega⟩) rfl rfl dX11_hasRelation_50 ?_
          refine lv_topi (fun t6 et6 => ?_)
          refine lv_bipush (v := 20) hx hb dX11_hasRelation_51 (by decide) ?_
          refine lv_icmp_eq (tgt := 73) hx hb dX11_hasRelation_53 (by decide) (fun c7 => ?_) (fun c7 => ?_)
          · skip
            have zc7 : t6.toInt = 20 := by rw [fa_eq, show (20 : Int32).toInt = 20 from by decide] at c7; exact c7
            refine lv_iconst (v := 0) hx hb dX11_hasRelation_73 (by decide) ?_
            exact ret 0 () _ _ _ _ _ _ rfl (Or.inr rfl) hP hD hS dX11_hasRelation_74 (Nat.le_refl _) (Nat.le_refl _)
          · skip
            have zc7 : ¬ (t6.toInt = 20) := by rw [fa_eq, show (20 : Int32).toInt = 20 from by decide] at c7; exact c7
            refine lv_aload_n hx hb dX11_hasRelation_56 rfl (lv_at hl 1 rfl) ?_
            refine va_get (D := (dC, dI)) (ci := 11) (v := .ref (r 15)) (C := RX11) (T := TX11) (N := 79) hx hb hts inB_11 hown hE.1 hP 0 rfl rfl 15 (by decide) (hts _ k_1335) (fun _ h9 => h9) rfl dX11_hasRelation_57 ?_
            refine lv_iload_n hx hb dX11_hasRelation_60 rfl (lv_at hl 0 rfl) ?_
            refine ldI hx hb hE hP 7 rfl (vp_in_iff.mpr ⟨by omega, by omega⟩) rfl rfl dX11_hasRelation_61 ?_
            refine tI (y := t6) et6.symm ?_
            refine cbSi (n := 1) (rest := []) hx hb hml hown hts hE hP hD hS hA (sY_X11_tight_1 l dC dI cy y0 r t6 v f w g hIv hCf hRf ) k_1677 k_1678 k_114 k_1679 (by decide +kernel) ⟨Nat.le_of_ble_eq_true rfl, Nat.le_of_ble_eq_true rfl⟩ (rfl) hl.1 rfl (Nat.le_of_ble_eq_true rfl) dX11_hasRelation_62 (fun r8 u H locs hw hP hD hS => ?_)
            refine lv_iconst (v := 4) hx hb dX11_hasRelation_65 (by decide) ?_
            refine lv_icmp_ne (tgt := 73) hx hb dX11_hasRelation_66 (by decide) (fun c9 => ?_) (fun c9 => ?_)
            · skip
              have zc9 : ¬ (r8.toInt = 4) := by rw [fa_eq, show (4 : Int32).toInt = 4 from by decide] at c9; exact c9
              refine lv_iconst (v := 0) hx hb dX11_hasRelation_73 (by decide) ?_
              exact ret 0 () _ _ _ _ _ _ rfl (Or.inr rfl) hP hD hS dX11_hasRelation_74 (Nat.le_refl _) (Nat.le_refl _)
            · skip
              have zc9 : r8.toInt = 4 := by rw [fa_eq, show (4 : Int32).toInt = 4 from by decide] at c9; exact c9
              refine lv_iconst (v := 1) hx hb dX11_hasRelation_69 (by decide) ?_
              refine lv_goto (tgt := 74) hx hb dX11_hasRelation_70 (by decide) ?_
              exact ret 1 () _ _ _ _ _ _ rfl (Or.inl rfl) hP hD hS dX11_hasRelation_74 (Nat.le_refl _) (Nat.le_refl _)
      · skip
        have zc4 : ¬ (l1_3.toInt < 0) := by rw [fa_lt, show (0 : Int32).toInt = 0 from by decide] at c4; exact c4
        refine lv_aload_n hx hb dX11_hasRelation_11 rfl (lv_at hl 1 rfl) ?_
        refine va_get (D := (dC, dI)) (ci := 11) (v := .ref (r 15)) (C := RX11) (T := TX11) (N := 79) hx hb hts inB_11 hown hE.1 hP 0 rfl rfl 15 (by decide) (hts _ k_1335) (fun _ h9 => h9) rfl dX11_hasRelation_12 ?_
        refine lv_iload_n hx hb dX11_hasRelation_15 rfl (lv_at hl 0 rfl) ?_
        refine ldI hx hb hE hP 7 rfl (vp_in_iff.mpr ⟨by omega, by omega⟩) rfl rfl dX11_hasRelation_16 ?_
        refine lv_topi (fun t10 et10 => ?_)
        refine lv_bipush (v := 20) hx hb dX11_hasRelation_17 (by decide) ?_
        refine lv_icmp_eq (tgt := 41) hx hb dX11_hasRelation_19 (by decide) (fun c11 => ?_) (fun c11 => ?_)
        · skip
          have zc11 : t10.toInt = 20 := by rw [fa_eq, show (20 : Int32).toInt = 20 from by decide] at c11; exact c11
          refine lv_iload_n hx hb dX11_hasRelation_41 rfl (lv_at hl 0 rfl) ?_
          refine lv_if_lt (tgt := 73) hx hb dX11_hasRelation_42 (by decide) (fun c12 => ?_) (fun c12 => ?_)
          · skip
            have zc12 : l1_3.toInt < 0 := by rw [fa_lt, show (0 : Int32).toInt = 0 from by decide] at c12; exact c12
            refine lv_iconst (v := 0) hx hb dX11_hasRelation_73 (by decide) ?_
            exact ret 0 () _ _ _ _ _ _ rfl (Or.inr rfl) hP hD hS dX11_hasRelation_74 (Nat.le_refl _) (Nat.le_refl _)
          · skip
            have zc12 : ¬ (l1_3.toInt < 0) := by rw [fa_lt, show (0 : Int32).toInt = 0 from by decide] at c12; exact c12
            refine lv_aload_n hx hb dX11_hasRelation_45 rfl (lv_at hl 1 rfl) ?_
            refine va_get (D := (dC, dI)) (ci := 11) (v := .ref (r 15)) (C := RX11) (T := TX11) (N := 79) hx hb hts inB_11 hown hE.1 hP 0 rfl rfl 15 (by decide) (hts _ k_1335) (fun _ h9 => h9) rfl dX11_hasRelation_46 ?_
            refine lv_iload_n hx hb dX11_hasRelation_49 rfl (lv_at hl 0 rfl) ?_
            refine ldI hx hb hE hP 7 rfl (vp_in_iff.mpr ⟨by omega, by omega⟩) rfl rfl dX11_hasRelation_50 ?_
            refine tI (y := t10) et10.symm ?_
            refine lv_bipush (v := 20) hx hb dX11_hasRelation_51 (by decide) ?_
            refine lv_icmp_eq (tgt := 73) hx hb dX11_hasRelation_53 (by decide) (fun c13 => ?_) (fun c13 => ?_)
            · skip
              have zc13 : t10.toInt = 20 := by rw [fa_eq, show (20 : Int32).toInt = 20 from by decide] at c13; exact c13
              refine lv_iconst (v := 0) hx hb dX11_hasRelation_73 (by decide) ?_
              exact ret 0 () _ _ _ _ _ _ rfl (Or.inr rfl) hP hD hS dX11_hasRelation_74 (Nat.le_refl _) (Nat.le_refl _)
            · skip
              have zc13 : ¬ (t10.toInt = 20) := by rw [fa_eq, show (20 : Int32).toInt = 20 from by decide] at c13; exact c13
              refine lv_aload_n hx hb dX11_hasRelation_56 rfl (lv_at hl 1 rfl) ?_
              refine va_get (D := (dC, dI)) (ci := 11) (v := .ref (r 15)) (C := RX11) (T := TX11) (N := 79) hx hb hts inB_11 hown hE.1 hP 0 rfl rfl 15 (by decide) (hts _ k_1335) (fun _ h9 => h9) rfl dX11_hasRelation_57 ?_
              refine lv_iload_n hx hb dX11_hasRelation_60 rfl (lv_at hl 0 rfl) ?_
              refine ldI hx hb hE hP 7 rfl (vp_in_iff.mpr ⟨by omega, by omega⟩) rfl rfl dX11_hasRelation_61 ?_
              refine tI (y := t10) et10.symm ?_
              refine cbSi (n := 1) (rest := []) hx hb hml hown hts hE hP hD hS hA (sY_X11_tight_1 l dC dI cy y0 r t10 v f w g hIv hCf hRf ) k_1677 k_1678 k_114 k_1679 (by decide +kernel) ⟨Nat.le_of_ble_eq_true rfl, Nat.le_of_ble_eq_true rfl⟩ (rfl) hl.1 rfl (Nat.le_of_ble_eq_true rfl) dX11_hasRelation_62 (fun r14 u H locs hw hP hD hS => ?_)
              refine lv_iconst (v := 4) hx hb dX11_hasRelation_65 (by decide) ?_
              refine lv_icmp_ne (tgt := 73) hx hb dX11_hasRelation_66 (by decide) (fun c15 => ?_) (fun c15 => ?_)
              · skip
                have zc15 : ¬ (r14.toInt = 4) := by rw [fa_eq, show (4 : Int32).toInt = 4 from by decide] at c15; exact c15
                refine lv_iconst (v := 0) hx hb dX11_hasRelation_73 (by decide) ?_
                exact ret 0 () _ _ _ _ _ _ rfl (Or.inr rfl) hP hD hS dX11_hasRelation_74 (Nat.le_refl _) (Nat.le_refl _)
              · skip
                have zc15 : r14.toInt = 4 := by rw [fa_eq, show (4 : Int32).toInt = 4 from by decide] at c15; exact c15
                refine lv_iconst (v := 1) hx hb dX11_hasRelation_69 (by decide) ?_
                refine lv_goto (tgt := 74) hx hb dX11_hasRelation_70 (by decide) ?_
                exact ret 1 () _ _ _ _ _ _ rfl (Or.inl rfl) hP hD hS dX11_hasRelation_74 (Nat.le_refl _) (Nat.le_refl _)
        · skip
          have zc11 : ¬ (t10.toInt = 20) := by rw [fa_eq, show (20 : Int32).toInt = 20 from by decide] at c11; exact c11
          refine lv_aload_n hx hb dX11_hasRelation_22 rfl (lv_at hl 1 rfl) ?_
          refine va_get (D := (dC, dI)) (ci := 11) (v := .ref (r 15)) (C := RX11) (T := TX11) (N := 79) hx hb hts inB_11 hown hE.1 hP 0 rfl rfl 15 (by decide) (hts _ k_1335) (fun _ h9 => h9) rfl dX11_hasRelation_23 ?_
          refine lv_iload_n hx hb dX11_hasRelation_26 rfl (lv_at hl 0 rfl) ?_
          refine ldI hx hb hE hP 7 rfl (vp_in_iff.mpr ⟨by omega, by omega⟩) rfl rfl dX11_hasRelation_27 ?_
          refine tI (y := t10) et10.symm ?_
          refine cbSi (n := 1) (rest := []) hx hb hml hown hts hE hP hD hS hA (sY_X11_tight_1 l dC dI cy y0 r t10 v f w g hIv hCf hRf ) k_1677 k_1678 k_114 k_1679 (by decide +kernel) ⟨Nat.le_of_ble_eq_true rfl, Nat.le_of_ble_eq_true rfl⟩ (rfl) hl.1 rfl (Nat.le_of_ble_eq_true rfl) dX11_hasRelation_28 (fun r16 u H locs hw hP hD hS => ?_)
          refine lv_iconst (v := 4) hx hb dX11_hasRelation_31 (by decide) ?_
          refine lv_icmp_le (tgt := 41) hx hb dX11_hasRelation_32 (by decide) (fun c17 => ?_) (fun c17 => ?_)
          · skip
            have zc17 : r16.toInt ≤ 4 := by rw [fa_le, show (4 : Int32).toInt = 4 from by decide] at c17; exact c17
            refine lv_iload_n hx hb dX11_hasRelation_41 rfl (lv_at hl 0 rfl) ?_
            refine lv_if_lt (tgt := 73) hx hb dX11_hasRelation_42 (by decide) (fun c18 => ?_) (fun c18 => ?_)
            · skip
              have zc18 : l1_3.toInt < 0 := by rw [fa_lt, show (0 : Int32).toInt = 0 from by decide] at c18; exact c18
              refine lv_iconst (v := 0) hx hb dX11_hasRelation_73 (by decide) ?_
              exact ret 0 () _ _ _ _ _ _ rfl (Or.inr rfl) hP hD hS dX11_hasRelation_74 (Nat.le_refl _) (Nat.le_refl _)
            · skip
              have zc18 : ¬ (l1_3.toInt < 0) := by rw [fa_lt, show (0 : Int32).toInt = 0 from by decide] at c18; exact c18
              refine lv_aload_n hx hb dX11_hasRelation_45 rfl (lv_at hl 1 rfl) ?_
              refine va_get (D := (dC, dI)) (ci := 11) (v := .ref (r 15)) (C := RX11) (T := TX11) (N := 79) hx hb hts inB_11 hown hE.1 hP 0 rfl rfl 15 (by decide) (hts _ k_1335) (fun _ h9 => h9) rfl dX11_hasRelation_46 ?_
              refine lv_iload_n hx hb dX11_hasRelation_49 rfl (lv_at hl 0 rfl) ?_
              refine ldI hx hb hE hP 7 rfl (vp_in_iff.mpr ⟨by omega, by omega⟩) rfl rfl dX11_hasRelation_50 ?_
              refine tI (y := t10) et10.symm ?_
              refine lv_bipush (v := 20) hx hb dX11_hasRelation_51 (by decide) ?_
              refine lv_icmp_eq (tgt := 73) hx hb dX11_hasRelation_53 (by decide) (fun c19 => ?_) (fun c19 => ?_)
              · skip
                have zc19 : t10.toInt = 20 := by rw [fa_eq, show (20 : Int32).toInt = 20 from by decide] at c19; exact c19
                refine lv_iconst (v := 0) hx hb dX11_hasRelation_73 (by decide) ?_
                exact ret 0 () _ _ _ _ _ _ rfl (Or.inr rfl) hP hD hS dX11_hasRelation_74 (Nat.le_refl _) (Nat.le_refl _)
              · skip
                have zc19 : ¬ (t10.toInt = 20) := by rw [fa_eq, show (20 : Int32).toInt = 20 from by decide] at c19; exact c19
                refine lv_aload_n hx hb dX11_hasRelation_56 rfl (lv_at hl 1 rfl) ?_
                refine va_get (D := (dC, dI)) (ci := 11) (v := .ref (r 15)) (C := RX11) (T := TX11) (N := 79) hx hb hts inB_11 hown hE.1 hP 0 rfl rfl 15 (by decide) (hts _ k_1335) (fun _ h9 => h9) rfl dX11_hasRelation_57 ?_
                refine lv_iload_n hx hb dX11_hasRelation_60 rfl (lv_at hl 0 rfl) ?_
                refine ldI hx hb hE hP 7 rfl (vp_in_iff.mpr ⟨by omega, by omega⟩) rfl rfl dX11_hasRelation_61 ?_
                refine tI (y := t10) et10.symm ?_
                refine cbSi (n := 1) (rest := []) hx hb hml hown hts hE hP hD hS hA (sY_X11_tight_1 l dC dI cy y0 r t10 v f w g hIv hCf hRf ) k_1677 k_1678 k_114 k_1679 (by decide +kernel) ⟨Nat.le_of_ble_eq_true rfl, Nat.le_of_ble_eq_true rfl⟩ (rfl) hl.1 rfl (Nat.le_of_ble_eq_true rfl) dX11_hasRelation_62 (fun r20 u H locs hw hP hD hS => ?_)
                refine lv_iconst (v := 4) hx hb dX11_hasRelation_65 (by decide) ?_
                refine lv_icmp_ne (tgt := 73) hx hb dX11_hasRelation_66 (by decide) (fun c21 => ?_) (fun c21 => ?_)
                · skip
                  have zc21 : ¬ (r20.toInt = 4) := by rw [fa_eq, show (4 : Int32).toInt = 4 from by decide] at c21; exact c21
                  refine lv_iconst (v := 0) hx hb dX11_hasRelation_73 (by decide) ?_
                  exact ret 0 () _ _ _ _ _ _ rfl (Or.inr rfl) hP hD hS dX11_hasRelation_74 (Nat.le_refl _) (Nat.le_refl _)
                · skip
                  have zc21 : r20.toInt = 4 := by rw [fa_eq, show (4 : Int32).toInt = 4 from by decide] at c21; exact c21
                  refine lv_iconst (v := 1) hx hb dX11_hasRelation_69 (by decide) ?_
                  refine lv_goto (tgt := 74) hx hb dX11_hasRelation_70 (by decide) ?_
                  exact ret 1 () _ _ _ _ _ _ rfl (Or.inl rfl) hP hD hS dX11_hasRelation_74 (Nat.le_refl _) (Nat.le_refl _)
          · skip
            have zc17 : ¬ (r16.toInt ≤ 4) := by rw [fa_le, show (4 : Int32).toInt = 4 from by decide] at c17; exact c17
            obtain ⟨t22, et22⟩ : ∃ y : Int32, y = l1_3 + (-1) := ⟨_, rfl⟩
            have rg23 := fb_rng l1_3
            have zt22 : t22.toInt = l1_3.toInt + (-1) := by rw [et22]; exact add_i rfl (by decide) (by omega) (by omega)
            refine lv_iinc (v := t22) (lv' := [(1, .int t22), (0, .ref y0)]) hx hb dX11_hasRelation_35 hl (k := 0) rfl (by rw [et22]; rfl) (by decide) rfl (fun ls hl => ?_)
            refine lv_goto (tgt := 7) hx hb dX11_hasRelation_38 (by decide) ?_
            have rg24 := fb_rng t22
            exact ih3 t22 ⟨show (-2147483648 : Int) ≤ t22.toInt by omega, show t22.toInt ≤ (159 : Int) by omega⟩ (by show (t22.toInt + 2147483648).toNat < n3; omega) _ _ _ hP hD hS (lv_sub hl [0, 1] rfl)
  have rg25 := fb_rng t1
  exact lp3 _ t1 ⟨show (-2147483648 : Int) ≤ t1.toInt by omega, show t1.toInt ≤ (159 : Int) by omega⟩ (Nat.lt_succ_self _) _ _ _ hP hD hS (lv_sub hl [0, 1] rfl)
set_option maxHeartbeats 4000000 in
set_option maxRecDepth 100000 in
theorem sY_X11_formula_1 (l : Launch) (dC : Nat → ClassId) (dI : Nat → Nat → Nat) (cy : Nat → ClassId) (y0 : Nat) (r : Nat → Nat)  (v : Nat → Int32) (f : Nat → Nat → Int32) (w : Int64) (g : Nat → Int64) (hIv : YI v) (hCf : YC f) (hRf : progOK (f 4) (f 5) (v 9).toInt.toNat)  : ctV l (dC, dI) cy yX11_formula cX11_formula 3 5 146 0 0 ((Nat → Int32) × (Nat → Nat → Int32) × (Int64) × (Nat → Int64)) [.ref y0] (YW cy y0 r v f w g) (fun u => YI u.1 ∧ YC u.2.1 ∧ progOK (u.2.1 4) (u.2.1 5) (u.1 9).toInt.toNat ∧ u.1 0 = v 0 ∧ u.1 4 = v 4 ∧ u.1 9 = v 9 ∧ u.1 17 = v 17 ∧ u.1 18 = v 18 ∧ u.1 24 = v 24 ∧ u.1 25 = v 25 ∧ u.1 35 = v 35 ∧ u.1 36 = v 36 ∧ u.1 38 = v 38 ∧ u.1 39 = v 39 ∧ ((v 3).toInt ≤ (u.1 3).toInt) ∧ ((u.1 5).toInt = (v 5).toInt ∨ (v 3).toInt < (u.1 3).toInt ∨ ¬ (u.1 5).toInt = 59) ∧ ((u.1 1).toInt = 0 → progOK (u.2.1 2) (u.2.1 3) ((u.1 8).toInt).toNat)) (fun u => YW cy y0 r u.1 u.2.1 u.2.2.1 u.2.2.2) := by
  refine ctV_of (by decide) (Nat.le_of_ble_eq_true rfl) (fun p e s m below meth c A ls Q hx hb hml hts hown hnm hE hP hD hA hl ret => ?_)
  have hUv : (v 35).toInt + (v 36).toInt ≤ 40 := hIv.2
  have b0_v : (0 : Int) ≤ (v 0).toInt ∧ (v 0).toInt ≤ 1600 := YIb.b hIv.1 0 (by decide)
  have b1_v : (0 : Int) ≤ (v 1).toInt ∧ (v 1).toInt ≤ 4 := YIb.b hIv.1 1 (by decide)
  have b3_v : (0 : Int) ≤ (v 3).toInt ∧ (v 3).toInt ≤ 1600 := YIb.b hIv.1 3 (by decide)
  have b4_v : (0 : Int) ≤ (v 4).toInt ∧ (v 4).toInt ≤ 1600 := YIb.b hIv.1 4 (by decide)
  have b8_v : (0 : Int) ≤ (v 8).toInt ∧ (v 8).toInt ≤ 320 := YIb.b hIv.1 8 (by decide)
  have b9_v : (0 : Int) ≤ (v 9).toInt ∧ (v 9).toInt ≤ 320 := YIb.b hIv.1 9 (by decide)
  have b10_v : (0 : Int) ≤ (v 10).toInt ∧ (v 10).toInt ≤ 160 := YIb.b hIv.1 10 (by decide)
  have b13_v : (0 : Int) ≤ (v 13).toInt ∧ (v 13).toInt ≤ 31 := YIb.b hIv.1 13 (by decide)
  have b14_v : (0 : Int) ≤ (v 14).toInt ∧ (v 14).toInt ≤ 8 := YIb.b hIv.1 14 (by decide)
  have b17_v : (0 : Int) ≤ (v 17).toInt ∧ (v 17).toInt ≤ 6 := YIb.b hIv.1 17 (by decide)
  have b18_v : (0 : Int) ≤ (v 18).toInt ∧ (v 18).toInt ≤ 6 := YIb.b hIv.1 18 (by decide)
  have b24_v : (0 : Int) ≤ (v 24).toInt ∧ (v 24).toInt ≤ 6 := YIb.b hIv.1 24 (by decide)
  have b25_v : (0 : Int) ≤ (v 25).toInt ∧ (v 25).toInt ≤ 6 := YIb.b hIv.1 25 (by decide)
  have b35_v : (0 : Int) ≤ (v 35).toInt ∧ (v 35).toInt ≤ 40 := YIb.b hIv.1 35 (by decide)
  have b36_v : (0 : Int) ≤ (v 36).toInt ∧ (v 36).toInt ≤ 40 := YIb.b hIv.1 36 (by decide)
  have b37_v : (0 : Int) ≤ (v 37).toInt ∧ (v 37).toInt ≤ 6 := YIb.b hIv.1 37 (by decide)
  have b38_v : (0 : Int) ≤ (v 38).toInt ∧ (v 38).toInt ≤ 30 := YIb.b hIv.1 38 (by decide)
  have b39_v : (0 : Int) ≤ (v 39).toInt ∧ (v 39).toInt ≤ 100000 := YIb.b hIv.1 39 (by decide)
  have hown : s.vm.findClass RX11 = some m.cls := hown
  have hS : va_S A s.heap s.heap [] := va_S.rf
  have hl : lv_has ls 3 [(0, .ref y0)] := hl
  refine lv_aload_n hx hb dX11_formula_0 rfl (lv_at hl 0 rfl) ?_
  refine cbVv (n := 0) (rest := []) hx hb hml hown hts hE hP hD hS hA (sY_X11_token_1 l dC dI cy y0 r  v f w g hIv hCf hRf ) k_1579 k_1581 k_42 k_114 k_1582 (by decide +kernel) ⟨Nat.le_of_ble_eq_true rfl, Nat.le_of_ble_eq_true rfl⟩ 0 11 rfl rfl (rfl) hl.1 rfl (Nat.le_of_ble_eq_true rfl) dX11_formula_1 (fun u H locs hw hP hD hS => ?_)
  obtain ⟨v1, f2, w3, g4⟩ := u
  obtain ⟨hIv1, hCf2, hRf2, hk0_v1, hk1_v1, hk4_v1, hk8_v1, hk9_v1, hk10_v1, hk13_v1, hk14_v1, hk15_v1, hk17_v1, hk18_v1, hk24_v1, hk25_v1, hk35_v1, hk36_v1, hk38_v1, hk39_v1, pv5, pv6, kq7, kq8, kq9⟩ := hw
  have hP : va_P (dC, dI) vwCl (YW cy y0 r v1 f2 w3 g4) H := hP
  have hD : va_D A (YW cy y0 r v1 f2 w3 g4) := hD
  have b3_v1 : 0 ≤ (v1 3).toInt ∧ (v1 3).toInt ≤ 1600 := YIb.b hIv1.1 3 (by decide)
  have pv5 : (v 3).toInt ≤ (v1 3).toInt := pv5
  have pv6 : (v1 5).toInt = (v 5).toInt ∨ (v 3).toInt < (v1 3).toInt ∨ ¬ (v1 5).toInt = 59 := pv6
  have hs2_f2 : f2 2 = (f 2) := kq7
  have hs3_f2 : f2 3 = (f 3) := kq8
  have hs6_f2 : f2 6 = (f 6) := kq9
  have hUv1 : (v1 35).toInt + (v1 36).toInt ≤ 40 := hIv1.2
  have hq0_v1 : v1 0 = (v 0) := hk0_v1
  have hq1_v1 : v1 1 = (v 1) := hk1_v1
  have zq1_v1 := congrArg Int32.toInt hq1_v1
  have hq4_v1 : v1 4 = (v 4) := hk4_v1
  have zq4_v1 := congrArg Int32.toInt hq4_v1
  have hq8_v1 : v1 8 = (v 8) := hk8_v1
  have zq8_v1 := congrArg Int32.toInt hq8_v1
  have hq9_v1 : v1 9 = (v 9) := hk9_v1
  have zq9_v1 := congrArg Int32.toInt hq9_v1
  have hq10_v1 : v1 10 = (v 10) := hk10_v1
  have zq10_v1 := congrArg Int32.toInt hq10_v1
  have hq13_v1 : v1 13 = (v 13) := hk13_v1
  have zq13_v1 := congrArg Int32.toInt hq13_v1
  have hq14_v1 : v1 14 = (v 14) := hk14_v1
  have zq14_v1 := congrArg Int32.toInt hq14_v1
  have hq15_v1 : v1 15 = (v 15) := hk15_v1
  have zq15_v1 := congrArg Int32.toInt hq15_v1
  have hq17_v1 : v1 17 = (v 17) := hk17_v1
  have zq17_v1 := congrArg Int32.toInt hq17_v1
  have hq18_v1 : v1 18 = (v 18) := hk18_v1
  have zq18_v1 := congrArg Int32.toInt hq18_v1
  have hq24_v1 : v1 24 = (v 24) := hk24_v1
  have hq25_v1 : v1 25 = (v 25) := hk25_v1
  have hq35_v1 : v1 35 = (v 35) := hk35_v1
  have zq35_v1 := congrArg Int32.toInt hq35_v1
  have hq36_v1 : v1 36 = (v 36) := hk36_v1
  have zq36_v1 := congrArg Int32.toInt hq36_v1
  have hq38_v1 : v1 38 = (v 38) := hk38_v1
  have hq39_v1 : v1 39 = (v 39) := hk39_v1
  refine lv_aload_n hx hb dX11_formula_4 rfl (lv_at hl 0 rfl) ?_
  refine lv_iconst (v := 1) hx hb dX11_formula_5 (by decide) ?_
  refine va_put (D := (dC, dI)) (ci := 11) (v := .int 1) (ty := tyX11 24) (C := RX11) (T := TX11) (N := 79) hx hb hts inB_11 tyX11 tyX11_ok nmX11 hown hE.1 hP hD hS 0 rfl rfl 24 (by decide) (hts _ k_1344) (fun _ h9 => h9) rfl (tyX11_ok 24 (by decide)) rfl rfl (Nat.le_of_ble_eq_true rfl) dX11_formula_6 (fun H locs hP hD hS => ?_)
  have hP : va_P (dC, dI) vwCl (YW cy y0 r (upd v1 15 1) f2 w3 g4) H := hP
  have hD : va_D A (YW cy y0 r (upd v1 15 1) f2 w3 g4) := hD
  refine lv_aload_n hx hb dX11_formula_9 rfl (lv_at hl 0 rfl) ?_
  refine lv_iconst (v := 0) hx hb dX11_formula_10 (by decide) ?_
  refine va_put (D := (dC, dI)) (ci := 11) (v := .int 0) (ty := tyX11 17) (C := RX11) (T := TX11) (N := 79) hx hb hts inB_11 tyX11 tyX11_ok nmX11 hown hE.1 hP hD hS 0 rfl rfl 17 (by decide) (hts _ k_1337) (fun _ h9 => h9) rfl (tyX11_ok 17 (by decide)) rfl rfl (Nat.le_of_ble_eq_true rfl) dX11_formula_11 (fun H locs hP hD hS => ?_)
  have hP : va_P (dC, dI) vwCl (YW cy y0 r (upd (upd v1 15 1) 8 0) f2 w3 g4) H := hP
  have hD : va_D A (YW cy y0 r (upd (upd v1 15 1) 8 0) f2 w3 g4) := hD
  refine lv_aload_n hx hb dX11_formula_14 rfl (lv_at hl 0 rfl) ?_
  refine lv_iconst (v := 0) hx hb dX11_formula_15 (by decide) ?_
  refine va_put (D := (dC, dI)) (ci := 11) (v := .int 0) (ty := tyX11 19) (C := RX11) (T := TX11) (N := 79) hx hb hts inB_11 tyX11 tyX11_ok nmX11 hown hE.1 hP hD hS 0 rfl rfl 19 (by decide) (hts _ k_1339) (fun _ h9 => h9) rfl (tyX11_ok 19 (by decide)) rfl rfl (Nat.le_of_ble_eq_true rfl) dX11_formula_16 (fun H locs hP hD hS => ?_)
  have hP : va_P (dC, dI) vwCl (YW cy y0 r (upd (upd (upd v1 15 1) 8 0) 10 0) f2 w3 g4) H := hP
  have hD : va_D A (YW cy y0 r (upd (upd (upd v1 15 1) 8 0) 10 0) f2 w3 g4) := hD
  refine lv_aload_n hx hb dX11_formula_19 rfl (lv_at hl 0 rfl) ?_
  refine lv_iconst (v := 0) hx hb dX11_formula_20 (by decide) ?_
  refine va_put (D := (dC, dI)) (ci := 11) (v := .int 0) (ty := tyX11 23) (C := RX11) (T := TX11) (N := 79) hx hb hts inB_11 tyX11 tyX11_ok nmX11 hown hE.1 hP hD hS 0 rfl rfl 23 (by decide) (hts _ k_1343) (fun _ h9 => h9) rfl (tyX11_ok 23 (by decide)) rfl rfl (Nat.le_of_ble_eq_true rfl) dX11_formula_21 (fun H locs hP hD hS => ?_)
  have hP : va_P (dC, dI) vwCl (YW cy y0 r (upd (upd (upd (upd v1 15 1) 8 0) 10 0) 14 0) f2 w3 g4) H := hP
  have hD : va_D A (YW cy y0 r (upd (upd (upd (upd v1 15 1) 8 0) 10 0) 14 0) f2 w3 g4) := hD
  refine lv_aload_n hx hb dX11_formula_24 rfl (lv_at hl 0 rfl) ?_
  refine lv_iconst (v := 0) hx hb dX11_formula_25 (by decide) ?_
  refine va_put (D := (dC, dI)) (ci := 11) (v := .int 0) (ty := tyX11 22) (C := RX11) (T := TX11) (N := 79) hx hb hts inB_11 tyX11 tyX11_ok nmX11 hown hE.1 hP hD hS 0 rfl rfl 22 (by decide) (hts _ k_1342) (fun _ h9 => h9) rfl (tyX11_ok 22 (by decide)) rfl rfl (Nat.le_of_ble_eq_true rfl) dX11_formula_26 (fun H locs hP hD hS => ?_)
  have hP : va_P (dC, dI) vwCl (YW cy y0 r (upd (upd (upd (upd (upd v1 15 1) 8 0) 10 0) 14 0) 13 0) f2 w3 g4) H := hP
  have hD : va_D A (YW cy y0 r (upd (upd (upd (upd (upd v1 15 1) 8 0) 10 0) 14 0) 13 0) f2 w3 g4) := hD
  refine lv_aload_n hx hb dX11_formula_29 rfl (lv_at hl 0 rfl) ?_
  refine cbVv (n := 0) (rest := []) hx hb hml hown hts hE hP hD hS hA (sY_X11_unit_1 l dC dI cy y0 r  (upd (upd (upd (upd (upd v1 15 1) 8 0) 10 0) 14 0) 13 0) f2 w3 g4 ⟨(YIb.upd (j := 13) (x := 0) (YIb.upd (j := 14) (x := 0) (YIb.upd (j := 10) (x := 0) (YIb.upd (j := 8) (x := 0) (YIb.upd (j := 15) (x := 1) hIv1.1 (rlo _) (rhi _)) (by decide) (by decide)) (by decide) (by decide)) (by decide) (by decide)) (by decide) (by decide)), hIv1.2⟩ hCf2 hRf2 (by show (0 : Int32).toInt + (0 : Int32).toInt ≤ 10 * (0 : Int32).toInt + 1; omega) (by show (0 : Int32).toInt ≤ (0 : Int32).toInt + (0 : Int32).toInt + 1; omega) (by show (0 : Int32).toInt ≤ 30; omega) (by show (0 : Int32).toInt ≤ 7; omega) (by have q0 : (0 : Int32).toInt = 0 := (by decide); have q1 : (1 : Int32).toInt = 1 := (by decide); show FI 0 (0 : Int32).toInt (0 : Int32).toInt (0 : Int32).toInt (f2 6) (f2 2) (f2 3); rw [hs6_f2, hs2_f2, hs3_f2]; first | exact FI.zero (by decide) (by decide) (by decide) | exact FI.sign hFK rfl (by omega) (by omega) (by omega) (by omega) (by omega) (by omega))) k_1669 k_1671 k_57 k_114 k_1672 (by decide +kernel) ⟨Nat.le_of_ble_eq_true rfl, Nat.le_of_ble_eq_true rfl⟩ 0 11 rfl rfl (rfl) hl.1 rfl (Nat.le_of_ble_eq_true rfl) dX11_formula_30 (fun u H locs hw hP hD hS => ?_)
  obtain ⟨v10, f11, w12, g13⟩ := u
  obtain ⟨hIv10, hCf11, hRf11, hk0_v10, hk4_v10, hk9_v10, hk15_v10, hk17_v10, hk18_v10, hk24_v10, hk25_v10, hk35_v10, hk36_v10, hk38_v10, hk39_v10, pv14, pv15, pv16, pg17⟩ := hw
  have hP : va_P (dC, dI) vwCl (YW cy y0 r v10 f11 w12 g13) H := hP
  have hD : va_D A (YW cy y0 r v10 f11 w12 g13) := hD
  have b3_v10 : 0 ≤ (v10 3).toInt ∧ (v10 3).toInt ≤ 1600 := YIb.b hIv10.1 3 (by decide)
  have b1_v10 : 0 ≤ (v10 1).toInt ∧ (v10 1).toInt ≤ 4 := YIb.b hIv10.1 1 (by decide)
  have b8_v10 : 0 ≤ (v10 8).toInt ∧ (v10 8).toInt ≤ 320 := YIb.b hIv10.1 8 (by decide)
  have b10_v10 : 0 ≤ (v10 10).toInt ∧ (v10 10).toInt ≤ 160 := YIb.b hIv10.1 10 (by decide)
  have b13_v10 : 0 ≤ (v10 13).toInt ∧ (v10 13).toInt ≤ 31 := YIb.b hIv10.1 13 (by decide)
  have b14_v10 : 0 ≤ (v10 14).toInt ∧ (v10 14).toInt ≤ 8 := YIb.b hIv10.1 14 (by decide)
  have pv14 : (v1 3).toInt ≤ (v10 3).toInt := pv14
  have pv15 : (v10 5).toInt = (v1 5).toInt ∨ (v1 3).toInt < (v10 3).toInt ∨ ¬ (v10 5).toInt = 59 := pv15
  have pv16 : 0 < (v10 1).toInt ∨ ((v10 8).toInt + (v10 10).toInt ≤ 10 * (v10 13).toInt ∧ (v10 10).toInt ≤ (v10 14).toInt + (v10 13).toInt ∧ (v10 13).toInt ≤ 30 ∧ (v10 14).toInt ≤ 7 ∧ (0 : Int32).toInt < (v10 13).toInt) := pv16
  have pg17 : (v10 1).toInt = 0 → FI 1 (v10 10).toInt (v10 14).toInt (v10 8).toInt (f11 6) (f11 2) (f11 3) := pg17
  have hUv10 : (v10 35).toInt + (v10 36).toInt ≤ 40 := hIv10.2
  have hq0_v10 : v10 0 = (v 0) := hk0_v10.trans hq0_v1
  have hq4_v10 : v10 4 = (v 4) := hk4_v10.trans hq4_v1
  have zq4_v10 := congrArg Int32.toInt hq4_v10
  have hq9_v10 : v10 9 = (v 9) := hk9_v10.trans hq9_v1
  have zq9_v10 := congrArg Int32.toInt hq9_v10
  have hq15_v10 : v10 15 = 1 := hk15_v10
  have zq15_v10 : (v10 15).toInt = 1 := by rw [hq15_v10]; decide
  have hq17_v10 : v10 17 = (v 17) := hk17_v10.trans hq17_v1
  have zq17_v10 := congrArg Int32.toInt hq17_v10
  have hq18_v10 : v10 18 = (v 18) := hk18_v10.trans hq18_v1
  have zq18_v10 := congrArg Int32.toInt hq18_v10
  have hq24_v10 : v10 24 = (v 24) := hk24_v10.trans hq24_v1
  have hq25_v10 : v10 25 = (v 25) := hk25_v10.trans hq25_v1
  have hq35_v10 : v10 35 = (v 35) := hk35_v10.trans hq35_v1
  have zq35_v10 := congrArg Int32.toInt hq35_v10
  have hq36_v10 : v10 36 = (v 36) := hk36_v10.trans hq36_v1
  have zq36_v10 := congrArg Int32.toInt hq36_v10
  have hq38_v10 : v10 38 = (v 38) := hk38_v10.trans hq38_v1
  have hq39_v10 : v10 39 = (v 39) := hk39_v10.trans hq39_v1
  have hFJ := pg17
  refine lv_iconst (v := 1) hx hb dX11_formula_33 (by decide) ?_
  refine lv_istore_n (lv' := [(1, .int 1), (0, .ref y0)]) hx hb dX11_formula_34 rfl hl (by decide) rfl (fun ls hl => ?_)
  have lp18 : ∀ (n18 : Nat) (l1_18 : Int32) (v18 : Nat → Int32) (f18 : Nat → Nat → Int32) (w18 : Int64) (g18 : Nat → Int64), YI v18 → YC f18 → progOK (f18 4) (f18 5) (v18 9).toInt.toNat → v18 0 = (v 0) → v18 4 = (v 4) → v18 9 = (v 9) → v18 15 = 1 → v18 17 = (v 17) → v18 18 = (v 18) → v18 24 = (v 24) → v18 25 = (v 25) → v18 35 = (v 35) → v18 36 = (v 36) → v18 38 = (v 38) → v18 39 = (v 39) → ((0 : Int) ≤ l1_18.toInt ∧ l1_18.toInt ≤ 1) → ((v18 1).toInt = 0 → FI 1 (v18 10).toInt (v18 14).toInt (v18 8).toInt (f18 6) (f18 2) (f18 3)) → (0 < (v18 1).toInt ∨ ((v18 8).toInt + (v18 10).toInt ≤ 10 * (v18 13).toInt ∧ (v18 10).toInt ≤ (v18 14).toInt + (v18 13).toInt ∧ (v18 13).toInt ≤ 30 ∧ (v18 14).toInt ≤ 7)) → ((v 3).toInt ≤ (v18 3).toInt) → ((v18 5).toInt = (v 5).toInt ∨ (v 3).toInt < (v18 3).toInt ∨ ¬ (v18 5).toInt = 59) → (1 + 100 * (31 - (v18 13).toInt) + 2 * (v18 10).toInt + l1_18.toInt - 100000 * (v18 1).toInt).toNat < n18 → ∀ (H : Heap) (locs : List Loc) (ls : Array Slot), va_P (dC, dI) vwCl (YW cy y0 r v18 f18 w18 g18) H → va_D A (YW cy y0 r v18 f18 w18 g18) → va_S A s.heap H locs → lv_has ls 3 [(1, .int l1_18), (0, .ref y0)] → W p l e { frames := 5, cells := 0, slots := 0, locals := 146 } s m ([.ref y0] : List Value).toArray below meth c H locs 0 0 Q (F0 m 35 ls []) := by
    intro n18
    induction n18 with
    | zero => intro l1_18 v18 f18 w18 g18 hIv18 hCf18 hRf18 hq0_v18 hq4_v18 hq9_v18 hq15_v18 hq17_v18 hq18_v18 hq24_v18 hq25_v18 hq35_v18 hq36_v18 hq38_v18 hq39_v18 hr1_18 hx0_18 hx1_18 hx2_18 hx3_18 hm; exact absurd hm (Nat.not_lt_zero _)
    | succ n18 ih18 =>
      intro l1_18 v18 f18 w18 g18 hIv18 hCf18 hRf18 hq0_v18 hq4_v18 hq9_v18 hq15_v18 hq17_v18 hq18_v18 hq24_v18 hq25_v18 hq35_v18 hq36_v18 hq38_v18 hq39_v18 hr1_18 hx0_18 hx1_18 hx2_18 hx3_18 hm18 H locs ls hP hD hS hl
      have hUv18 : (v18 35).toInt + (v18 36).toInt ≤ 40 := hIv18.2
      have zq4_v18 := congrArg Int32.toInt hq4_v18
      have zq9_v18 := congrArg Int32.toInt hq9_v18
      have zq15_v18 : (v18 15).toInt = 1 := by rw [hq15_v18]; decide
      have zq17_v18 := congrArg Int32.toInt hq17_v18
      have zq18_v18 := congrArg Int32.toInt hq18_v18
      have zq35_v18 := congrArg Int32.toInt hq35_v18
      have zq36_v18 := congrArg Int32.toInt hq36_v18
      have b1_v18 : 0 ≤ (v18 1).toInt ∧ (v18 1).toInt ≤ 4 := YIb.b hIv18.1 1 (by decide)
      have b10_v18 : 0 ≤ (v18 10).toInt ∧ (v18 10).toInt ≤ 160 := YIb.b hIv18.1 10 (by decide)
      have b14_v18 : 0 ≤ (v18 14).toInt ∧ (v18 14).toInt ≤ 8 := YIb.b hIv18.1 14 (by decide)
      have b8_v18 : 0 ≤ (v18 8).toInt ∧ (v18 8).toInt ≤ 320 := YIb.b hIv18.1 8 (by decide)
      have b13_v18 : 0 ≤ (v18 13).toInt ∧ (v18 13).toInt ≤ 31 := YIb.b hIv18.1 13 (by decide)
      have b3_v18 : 0 ≤ (v18 3).toInt ∧ (v18 3).toInt ≤ 1600 := YIb.b hIv18.1 3 (by decide)
      have hFJ := hx0_18
      refine lv_iload_n hx hb dX11_formula_35 rfl (lv_at hl 0 rfl) ?_
      have jp162 : ∀ (H : Heap) (locs : List Loc) (ls : Array Slot), va_P (dC, dI) vwCl (YW cy y0 r v18 f18 w18 g18) H → va_D A (YW cy y0 r v18 f18 w18 g18) → va_S A s.heap H locs → lv_has ls 3 [(1, .int l1_18), (0, .ref y0)] → W p l e { frames := 5, cells := 0, slots := 0, locals := 146 } s m ([.ref y0] : List Value).toArray below meth c H locs 0 0 Q (F0 m 162 ls []) := by
        intro H locs ls hP hD hS hl
        have jp181 : ∀ (H : Heap) (locs : List Loc) (ls : Array Slot), va_P (dC, dI) vwCl (YW cy y0 r v18 f18 w18 g18) H → va_D A (YW cy y0 r v18 f18 w18 g18) → va_S A s.heap H locs → lv_has ls 3 [(1, .int l1_18), (0, .ref y0)] → W p l e { frames := 5, cells := 0, slots := 0, locals := 146 } s m ([.ref y0] : List Value).toArray below meth c H locs 0 0 Q (F0 m 181 ls []) := by
          intro H locs ls hP hD hS hl
          refine lv_aload_n hx hb dX11_formula_181 rfl (lv_at hl 1 rfl) ?_
          refine va_get (D := (dC, dI)) (ci := 11) (v := .int (v18 1)) (C := RX11) (T := TX11) (N := 79) hx hb hts inB_11 hown hE.1 hP 0 rfl rfl 2 (by decide) (hts _ k_1322) (fun _ h9 => h9) rfl dX11_formula_182 ?_
          refine lv_if_ne (tgt := 193) hx hb dX11_formula_185 (by decide) (fun c19 => ?_) (fun c19 => ?_)
          · skip
            have zc19 : ¬ ((v18 1).toInt = 0) := by rw [fa_eq, show (0 : Int32).toInt = 0 from by decide] at c19; exact c19
            exact ret (v18, f18, w18, g18) _ _ _ _ _ _ ⟨hIv18, hCf18, hRf18, hq0_v18, hq4_v18, hq9_v18, hq17_v18, hq18_v18, hq24_v18, hq25_v18, hq35_v18, hq36_v18, hq38_v18, hq39_v18, (by show (v 3).toInt ≤ (v18 3).toInt; omega), (by show (v18 5).toInt = (v 5).toInt ∨ (v 3).toInt < (v18 3).toInt ∨ ¬ (v18 5).toInt = 59; omega), (by show (v18 1).toInt = 0 → progOK (f18 2) (f18 3) ((v18 8).toInt).toNat; intro hz9; first | exact FI.prog hFK (by omega) | exact FI.prog (hFJ (by omega)) (by omega) | (exfalso; omega))⟩ hP hD hS dX11_formula_193 (Nat.le_refl _) (Nat.le_refl _)
          · skip
            have zc19 : (v18 1).toInt = 0 := by rw [fa_eq, show (0 : Int32).toInt = 0 from by decide] at c19; exact c19
            refine lv_aload_n hx hb dX11_formula_188 rfl (lv_at hl 1 rfl) ?_
            refine lv_iconst (v := 0) hx hb dX11_formula_189 (by decide) ?_
            refine cbVv (n := 1) (rest := []) hx hb hml hown hts hE hP hD hS hA (sY_X11_close_1 l dC dI cy y0 r 0 v18 f18 w18 g18 hIv18 hCf18 hRf18 ⟨by decide, by decide⟩ (by have q1 : (0 : Int32).toInt = 0 := (by decide); show (v18 8).toInt + (v18 10).toInt ≤ 310; omega) (by show FI 1 (v18 10).toInt (v18 14).toInt (v18 8).toInt (f18 6) (f18 2) (f18 3); first | exact FI.cast (hFJ (by omega)) (by omega) (by omega) (by omega) | (exfalso; omega))) k_1708 k_1710 k_66 k_114 k_1711 (by decide +kernel) ⟨Nat.le_of_ble_eq_true rfl, Nat.le_of_ble_eq_true rfl⟩ 0 11 rfl rfl (rfl) hl.1 rfl (Nat.le_of_ble_eq_true rfl) dX11_formula_190 (fun u H locs hw hP hD hS => ?_)
            obtain ⟨v20, f21, w22, g23⟩ := u
            obtain ⟨hIv20, hCf21, hRf21, hk0_v20, hk1_v20, hk3_v20, hk4_v20, hk5_v20, hk9_v20, hk13_v20, hk15_v20, hk17_v20, hk18_v20, hk24_v20, hk25_v20, hk35_v20, hk36_v20, hk38_v20, hk39_v20, pv24, pv25, pv26, pv27, pg28, pg29, pg30, kq31⟩ := hw
            have hP : va_P (dC, dI) vwCl (YW cy y0 r v20 f21 w22 g23) H := hP
            have hD : va_D A (YW cy y0 r v20 f21 w22 g23) := hD
            have b8_v20 : 0 ≤ (v20 8).toInt ∧ (v20 8).toInt ≤ 320 := YIb.b hIv20.1 8 (by decide)
            have b10_v20 : 0 ≤ (v20 10).toInt ∧ (v20 10).toInt ≤ 160 := YIb.b hIv20.1 10 (by decide)
            have b14_v20 : 0 ≤ (v20 14).toInt ∧ (v20 14).toInt ≤ 8 := YIb.b hIv20.1 14 (by decide)
            have pv24 : (v20 8).toInt + (v20 10).toInt = (v18 8).toInt + (v18 10).toInt := pv24
            have pv25 : (v20 10).toInt - (v20 14).toInt ≤ (v18 10).toInt - (v18 14).toInt := pv25
            have pv26 : (v20 10).toInt ≤ (v18 10).toInt := pv26
            have pv27 : (v20 14).toInt ≤ (v18 14).toInt := pv27
            have pg28 : FI 1 (v20 10).toInt (v20 14).toInt (v20 8).toInt (f21 6) (f21 2) (f21 3) := pg28
            have pg29 : ∀ k, k < ((v18 10).toInt).toNat → (f18 6) k = 20 → k < ((v20 10).toInt).toNat := pg29
            have pg30 : 0 < (0 : Int32).toInt ∨ (v20 10).toInt = 0 ∨ (f21 6) ((v20 10).toInt - 1).toNat = 20 := pg30
            have hs6_f21 : f21 6 = (f18 6) := kq31
            rw [hs6_f21] at pg28
            rw [hs6_f21] at pg30
            have hUv20 : (v20 35).toInt + (v20 36).toInt ≤ 40 := hIv20.2
            have hq0_v20 : v20 0 = (v 0) := hk0_v20.trans hq0_v18
            have hq1_v20 : v20 1 = (v18 1) := hk1_v20
            have zq1_v20 := congrArg Int32.toInt hq1_v20
            have hq3_v20 : v20 3 = (v18 3) := hk3_v20
            have zq3_v20 := congrArg Int32.toInt hq3_v20
            have hq4_v20 : v20 4 = (v 4) := hk4_v20.trans hq4_v18
            have zq4_v20 := congrArg Int32.toInt hq4_v20
            have hq5_v20 : v20 5 = (v18 5) := hk5_v20
            have zq5_v20 := congrArg Int32.toInt hq5_v20
            have hq9_v20 : v20 9 = (v 9) := hk9_v20.trans hq9_v18
            have zq9_v20 := congrArg Int32.toInt hq9_v20
            have hq13_v20 : v20 13 = (v18 13) := hk13_v20
            have zq13_v20 := congrArg Int32.toInt hq13_v20
            have hq15_v20 : v20 15 = 1 := hk15_v20.trans hq15_v18
            have zq15_v20 : (v20 15).toInt = 1 := by rw [hq15_v20]; decide
            have hq17_v20 : v20 17 = (v 17) := hk17_v20.trans hq17_v18
            have zq17_v20 := congrArg Int32.toInt hq17_v20
            have hq18_v20 : v20 18 = (v 18) := hk18_v20.trans hq18_v18
            have zq18_v20 := congrArg Int32.toInt hq18_v20
            have hq24_v20 : v20 24 = (v 24) := hk24_v20.trans hq24_v18
            have hq25_v20 : v20 25 = (v 25) := hk25_v20.trans hq25_v18
            have hq35_v20 : v20 35 = (v 35) := hk35_v20.trans hq35_v18
            have zq35_v20 := congrArg Int32.toInt hq35_v20
            have hq36_v20 : v20 36 = (v 36) := hk36_v20.trans hq36_v18
            have zq36_v20 := congrArg Int32.toInt hq36_v20
            have hq38_v20 : v20 38 = (v 38) := hk38_v20.trans hq38_v18
            have hq39_v20 : v20 39 = (v 39) := hk39_v20.trans hq39_v18
            have hFK := pg28
            exact ret (v20, f21, w22, g23) _ _ _ _ _ _ ⟨hIv20, hCf21, hRf21, (hk0_v20.trans hq0_v18), (hk4_v20.trans hq4_v18), (hk9_v20.trans hq9_v18), (hk17_v20.trans hq17_v18), (hk18_v20.trans hq18_v18), (hk24_v20.trans hq24_v18), (hk25_v20.trans hq25_v18), (hk35_v20.trans hq35_v18), (hk36_v20.trans hq36_v18), (hk38_v20.trans hq38_v18), (hk39_v20.trans hq39_v18), (by show (v 3).toInt ≤ (v20 3).toInt; omega), (by show (v20 5).toInt = (v 5).toInt ∨ (v 3).toInt < (v20 3).toInt ∨ ¬ (v20 5).toInt = 59; omega), (by show (v20 1).toInt = 0 → progOK (f21 2) (f21 3) ((v20 8).toInt).toNat; intro hz9; first | exact FI.prog hFK (by omega) | exact FI.prog (hFJ (by omega)) (by omega) | (exfalso; omega))⟩ hP hD hS dX11_formula_193 (Nat.le_refl _) (Nat.le_refl _)
        refine lv_aload_n hx hb dX11_formula_162 rfl (lv_at hl 1 rfl) ?_
        refine va_get (D := (dC, dI)) (ci := 11) (v := .int (v18 1)) (C := RX11) (T := TX11) (N := 79) hx hb hts inB_11 hown hE.1 hP 0 rfl rfl 2 (by decide) (hts _ k_1322) (fun _ h9 => h9) rfl dX11_formula_163 ?_
        refine lv_if_ne (tgt := 181) hx hb dX11_formula_166 (by decide) (fun c32 => ?_) (fun c32 => ?_)
        · skip
          have zc32 : ¬ ((v18 1).toInt = 0) := by rw [fa_eq, show (0 : Int32).toInt = 0 from by decide] at c32; exact c32
          exact jp181 _ _ _ hP hD hS hl
        · skip
          have zc32 : (v18 1).toInt = 0 := by rw [fa_eq, show (0 : Int32).toInt = 0 from by decide] at c32; exact c32
          refine lv_aload_n hx hb dX11_formula_169 rfl (lv_at hl 1 rfl) ?_
          refine cbVi (n := 0) (rest := []) hx hb hml hown hts hE hP hD hS hA (sY_X11_hasBracket_1 l dC dI cy y0 r  v18 f18 w18 g18 hIv18 hCf18 hRf18 ) k_1704 k_1706 k_65 k_114 k_1707 (by decide +kernel) ⟨Nat.le_of_ble_eq_true rfl, Nat.le_of_ble_eq_true rfl⟩ 0 11 rfl rfl (rfl) hl.1 rfl (Nat.le_of_ble_eq_true rfl) dX11_formula_170 (fun r33 u H locs hw hP hD hS => ?_)
          rcases hw with ⟨g34, g34_0⟩ | ⟨g34⟩
          · skip
            subst g34
            have hBr := g34_0
            refine lv_if_eq (tgt := 181) hx hb dX11_formula_173 (by decide) (fun c0 => absurd c0 (by decide)) (fun _ => ?_)
            refine lv_aload_n hx hb dX11_formula_176 rfl (lv_at hl 1 rfl) ?_
            refine lv_iconst (v := 2) hx hb dX11_formula_177 (by decide) ?_
            refine cbVv (n := 1) (rest := []) hx hb hml hown hts hE hP hD hS hA (sY_X11_wrong_1 l dC dI cy y0 r 2 v18 f18 w18 g18 hIv18 hCf18 hRf18 ⟨by decide, by decide⟩) k_1641 k_1643 k_50 k_114 k_1644 (by decide +kernel) ⟨Nat.le_of_ble_eq_true rfl, Nat.le_of_ble_eq_true rfl⟩ 0 11 rfl rfl (rfl) hl.1 rfl (Nat.le_of_ble_eq_true rfl) dX11_formula_178 (fun u H locs hw hP hD hS => ?_)
            obtain ⟨v35, f36, w37, g38⟩ := u
            obtain ⟨hIv35, hCf36, hRf36, hk0_v35, hk3_v35, hk4_v35, hk5_v35, hk8_v35, hk9_v35, hk10_v35, hk13_v35, hk14_v35, hk15_v35, hk17_v35, hk18_v35, hk24_v35, hk25_v35, hk35_v35, hk36_v35, hk38_v35, hk39_v35, pv39, pv40, pv41, kq42, kq43, kq44⟩ := hw
            have hP : va_P (dC, dI) vwCl (YW cy y0 r v35 f36 w37 g38) H := hP
            have hD : va_D A (YW cy y0 r v35 f36 w37 g38) := hD
            have b3_v35 : 0 ≤ (v35 3).toInt ∧ (v35 3).toInt ≤ 1600 := YIb.b hIv35.1 3 (by decide)
            have b1_v35 : 0 ≤ (v35 1).toInt ∧ (v35 1).toInt ≤ 4 := YIb.b hIv35.1 1 (by decide)
            have pv39 : (v18 3).toInt ≤ (v35 3).toInt := pv39
            have pv40 : (v35 5).toInt = (v18 5).toInt ∨ (v18 3).toInt < (v35 3).toInt ∨ ¬ (v35 5).toInt = 59 := pv40
            have pv41 : 0 < (v35 1).toInt := pv41
            have hs2_f36 : f36 2 = (f18 2) := kq42
            have hs3_f36 : f36 3 = (f18 3) := kq43
            have hs6_f36 : f36 6 = (f18 6) := kq44
            have hUv35 : (v35 35).toInt + (v35 36).toInt ≤ 40 := hIv35.2
            have hq0_v35 : v35 0 = (v 0) := hk0_v35.trans hq0_v18
            have hq3_v35 : v35 3 = (v18 3) := hk3_v35
            have zq3_v35 := congrArg Int32.toInt hq3_v35
            have hq4_v35 : v35 4 = (v 4) := hk4_v35.trans hq4_v18
            have zq4_v35 := congrArg Int32.toInt hq4_v35
            have hq5_v35 : v35 5 = (v18 5) := hk5_v35
            have zq5_v35 := congrArg Int32.toInt hq5_v35
            have hq8_v35 : v35 8 = (v18 8) := hk8_v35
            have zq8_v35 := congrArg Int32.toInt hq8_v35
            have hq9_v35 : v35 9 = (v 9) := hk9_v35.trans hq9_v18
            have zq9_v35 := congrArg Int32.toInt hq9_v35
            have hq10_v35 : v35 10 = (v18 10) := hk10_v35
            have zq10_v35 := congrArg Int32.toInt hq10_v35
            have hq13_v35 : v35 13 = (v18 13) := hk13_v35
            have zq13_v35 := congrArg Int32.toInt hq13_v35
            have hq14_v35 : v35 14 = (v18 14) := hk14_v35
            have zq14_v35 := congrArg Int32.toInt hq14_v35
            have hq15_v35 : v35 15 = 1 := hk15_v35.trans hq15_v18
            have zq15_v35 : (v35 15).toInt = 1 := by rw [hq15_v35]; decide
            have hq17_v35 : v35 17 = (v 17) := hk17_v35.trans hq17_v18
            have zq17_v35 := congrArg Int32.toInt hq17_v35
            have hq18_v35 : v35 18 = (v 18) := hk18_v35.trans hq18_v18
            have zq18_v35 := congrArg Int32.toInt hq18_v35
            have hq24_v35 : v35 24 = (v 24) := hk24_v35.trans hq24_v18
            have hq25_v35 : v35 25 = (v 25) := hk25_v35.trans hq25_v18
            have hq35_v35 : v35 35 = (v 35) := hk35_v35.trans hq35_v18
            have zq35_v35 := congrArg Int32.toInt hq35_v35
            have hq36_v35 : v35 36 = (v 36) := hk36_v35.trans hq36_v18
            have zq36_v35 := congrArg Int32.toInt hq36_v35
            have hq38_v35 : v35 38 = (v 38) := hk38_v35.trans hq38_v18
            have hq39_v35 : v35 39 = (v 39) := hk39_v35.trans hq39_v18
            refine lv_aload_n hx hb dX11_formula_181 rfl (lv_at hl 1 rfl) ?_
            refine va_get (D := (dC, dI)) (ci := 11) (v := .int (v35 1)) (C := RX11) (T := TX11) (N := 79) hx hb hts inB_11 hown hE.1 hP 0 rfl rfl 2 (by decide) (hts _ k_1322) (fun _ h9 => h9) rfl dX11_formula_182 ?_
            have b1_v35 : 0 ≤ (v35 1).toInt ∧ (v35 1).toInt ≤ 4 := YIb.b hIv35.1 1 (by decide)
            refine lv_if_ne (tgt := 193) hx hb dX11_formula_185 (by decide) (fun c45 => ?_) (fun c45 => ?_)
            · skip
              have zc45 : ¬ ((v35 1).toInt = 0) := by rw [fa_eq, show (0 : Int32).toInt = 0 from by decide] at c45; exact c45
              exact ret (v35, f36, w37, g38) _ _ _ _ _ _ ⟨hIv35, hCf36, hRf36, (hk0_v35.trans hq0_v18), (hk4_v35.trans hq4_v18), (hk9_v35.trans hq9_v18), (hk17_v35.trans hq17_v18), (hk18_v35.trans hq18_v18), (hk24_v35.trans hq24_v18), (hk25_v35.trans hq25_v18), (hk35_v35.trans hq35_v18), (hk36_v35.trans hq36_v18), (hk38_v35.trans hq38_v18), (hk39_v35.trans hq39_v18), (by show (v 3).toInt ≤ (v35 3).toInt; omega), (by show (v35 5).toInt = (v 5).toInt ∨ (v 3).toInt < (v35 3).toInt ∨ ¬ (v35 5).toInt = 59; omega), (by show (v35 1).toInt = 0 → progOK (f36 2) (f36 3) ((v35 8).toInt).toNat; rw [hs2_f36, hs3_f36]; intro hz9; first | exact FI.prog hFK (by omega) | exact FI.prog (hFJ (by omega)) (by omega) | (exfalso; omega))⟩ hP hD hS dX11_formula_193 (Nat.le_refl _) (Nat.le_refl _)
            · skip
              have zc45 : (v35 1).toInt = 0 := by rw [fa_eq, show (0 : Int32).toInt = 0 from by decide] at c45; exact c45
              refine lv_aload_n hx hb dX11_formula_188 rfl (lv_at hl 1 rfl) ?_
              refine lv_iconst (v := 0) hx hb dX11_formula_189 (by decide) ?_
              refine cbVv (n := 1) (rest := []) hx hb hml hown hts hE hP hD hS hA (sY_X11_close_1 l dC dI cy y0 r 0 v35 f36 w37 g38 hIv35 hCf36 hRf36 ⟨by decide, by decide⟩ (by have q1 : (0 : Int32).toInt = 0 := (by decide); show (v35 8).toInt + (v35 10).toInt ≤ 310; omega) (by show FI 1 (v35 10).toInt (v35 14).toInt (v35 8).toInt (f36 6) (f36 2) (f36 3); rw [hs6_f36, hs2_f36, hs3_f36]; first | exact FI.cast (hFJ (by omega)) (by omega) (by omega) (by omega) | (exfalso; omega))) k_1708 k_1710 k_66 k_114 k_1711 (by decide +kernel) ⟨Nat.le_of_ble_eq_true rfl, Nat.le_of_ble_eq_true rfl⟩ 0 11 rfl rfl (rfl) hl.1 rfl (Nat.le_of_ble_eq_true rfl) dX11_formula_190 (fun u H locs hw hP hD hS => ?_)
              obtain ⟨v46, f47, w48, g49⟩ := u
              obtain ⟨hIv46, hCf47, hRf47, hk0_v46, hk1_v46, hk3_v46, hk4_v46, hk5_v46, hk9_v46, hk13_v46, hk15_v46, hk17_v46, hk18_v46, hk24_v46, hk25_v46, hk35_v46, hk36_v46, hk38_v46, hk39_v46, pv50, pv51, pv52, pv53, pg54, pg55, pg56, kq57⟩ := hw
              have hP : va_P (dC, dI) vwCl (YW cy y0 r v46 f47 w48 g49) H := hP
              have hD : va_D A (YW cy y0 r v46 f47 w48 g49) := hD
              have b8_v46 : 0 ≤ (v46 8).toInt ∧ (v46 8).toInt ≤ 320 := YIb.b hIv46.1 8 (by decide)
              have b10_v46 : 0 ≤ (v46 10).toInt ∧ (v46 10).toInt ≤ 160 := YIb.b hIv46.1 10 (by decide)
              have b14_v46 : 0 ≤ (v46 14).toInt ∧ (v46 14).toInt ≤ 8 := YIb.b hIv46.1 14 (by decide)
              have pv50 : (v46 8).toInt + (v46 10).toInt = (v35 8).toInt + (v35 10).toInt := pv50
              have pv51 : (v46 10).toInt - (v46 14).toInt ≤ (v35 10).toInt - (v35 14).toInt := pv51
              have pv52 : (v46 10).toInt ≤ (v35 10).toInt := pv52
              have pv53 : (v46 14).toInt ≤ (v35 14).toInt := pv53
              have pg54 : FI 1 (v46 10).toInt (v46 14).toInt (v46 8).toInt (f47 6) (f47 2) (f47 3) := pg54
              have pg55 : ∀ k, k < ((v35 10).toInt).toNat → (f36 6) k = 20 → k < ((v46 10).toInt).toNat := pg55
              rw [hs6_f36] at pg55
              have pg56 : 0 < (0 : Int32).toInt ∨ (v46 10).toInt = 0 ∨ (f47 6) ((v46 10).toInt - 1).toNat = 20 := pg56
              have hs6_f47 : f47 6 = (f18 6) := kq57.trans hs6_f36
              rw [hs6_f47] at pg54
              rw [hs6_f47] at pg56
              have hUv46 : (v46 35).toInt + (v46 36).toInt ≤ 40 := hIv46.2
              have hq0_v46 : v46 0 = (v 0) := hk0_v46.trans hq0_v35
              have hq1_v46 : v46 1 = (v35 1) := hk1_v46
              have zq1_v46 := congrArg Int32.toInt hq1_v46
              have hq3_v46 : v46 3 = (v18 3) := hk3_v46.trans hq3_v35
              have zq3_v46 := congrArg Int32.toInt hq3_v46
              have hq4_v46 : v46 4 = (v 4) := hk4_v46.trans hq4_v35
              have zq4_v46 := congrArg Int32.toInt hq4_v46
              have hq5_v46 : v46 5 = (v18 5) := hk5_v46.trans hq5_v35
              have zq5_v46 := congrArg Int32.toInt hq5_v46
              have hq9_v46 : v46 9 = (v 9) := hk9_v46.trans hq9_v35
              have zq9_v46 := congrArg Int32.toInt hq9_v46
              have hq13_v46 : v46 13 = (v18 13) := hk13_v46.trans hq13_v35
              have zq13_v46 := congrArg Int32.toInt hq13_v46
              have hq15_v46 : v46 15 = 1 := hk15_v46.trans hq15_v35
              have zq15_v46 : (v46 15).toInt = 1 := by rw [hq15_v46]; decide
              have hq17_v46 : v46 17 = (v 17) := hk17_v46.trans hq17_v35
              have zq17_v46 := congrArg Int32.toInt hq17_v46
              have hq18_v46 : v46 18 = (v 18) := hk18_v46.trans hq18_v35
              have zq18_v46 := congrArg Int32.toInt hq18_v46
              have hq24_v46 : v46 24 = (v 24) := hk24_v46.trans hq24_v35
              have hq25_v46 : v46 25 = (v 25) := hk25_v46.trans hq25_v35
              have hq35_v46 : v46 35 = (v 35) := hk35_v46.trans hq35_v35
              have zq35_v46 := congrArg Int32.toInt hq35_v46
              have hq36_v46 : v46 36 = (v 36) := hk36_v46.trans hq36_v35
              have zq36_v46 := congrArg Int32.toInt hq36_v46
              have hq38_v46 : v46 38 = (v 38) := hk38_v46.trans hq38_v35
              have hq39_v46 : v46 39 = (v 39) := hk39_v46.trans hq39_v35
              have hFK := pg54
              exact ret (v46, f47, w48, g49) _ _ _ _ _ _ ⟨hIv46, hCf47, hRf47, (hk0_v46.trans (hk0_v35.trans hq0_v18)), (hk4_v46.trans (hk4_v35.trans hq4_v18)), (hk9_v46.trans (hk9_v35.trans hq9_v18)), (hk17_v46.trans (hk17_v35.trans hq17_v18)), (hk18_v46.trans (hk18_v35.trans hq18_v18)), (hk24_v46.trans (hk24_v35.trans hq24_v18)), (hk25_v46.trans (hk25_v35.trans hq25_v18)), (hk35_v46.trans (hk35_v35.trans hq35_v18)), (hk36_v46.trans (hk36_v35.trans hq36_v18)), (hk38_v46.trans (hk38_v35.trans hq38_v18)), (hk39_v46.trans (hk39_v35.trans hq39_v18)), (by show (v 3).toInt ≤ (v46 3).toInt; omega), (by show (v46 5).toInt = (v 5).toInt ∨ (v 3).toInt < (v46 3).toInt ∨ ¬ (v46 5).toInt = 59; omega), (by show (v46 1).toInt = 0 → progOK (f47 2) (f47 3) ((v46 8).toInt).toNat; intro hz9; first | exact FI.prog hFK (by omega) | exact FI.prog (hFJ (by omega)) (by omega) | (exfalso; omega))⟩ hP hD hS dX11_formula_193 (Nat.le_refl _) (Nat.le_refl _)
          · skip
            subst g34
            refine lv_if_eq (tgt := 181) hx hb dX11_formula_173 (by decide) (fun _ => ?_) (fun c0 => absurd (by decide) c0)
            exact jp181 _ _ _ hP hD hS hl
      refine lv_if_eq (tgt := 162) hx hb dX11_formula_36 (by decide) (fun c58 => ?_) (fun c58 => ?_)
      · skip
        have zc58 : l1_18.toInt = 0 := by rw [fa_eq, show (0 : Int32).toInt = 0 from by decide] at c58; exact c58
        exact jp162 _ _ _ hP hD hS hl
      · skip
        have zc58 : ¬ (l1_18.toInt = 0) := by rw [fa_eq, show (0 : Int32).toInt = 0 from by decide] at c58; exact c58
        refine lv_aload_n hx hb dX11_formula_39 rfl (lv_at hl 1 rfl) ?_
        refine va_get (D := (dC, dI)) (ci := 11) (v := .int (v18 1)) (C := RX11) (T := TX11) (N := 79) hx hb hts inB_11 hown hE.1 hP 0 rfl rfl 2 (by decide) (hts _ k_1322) (fun _ h9 => h9) rfl dX11_formula_40 ?_
        refine lv_if_ne (tgt := 162) hx hb dX11_formula_43 (by decide) (fun c59 => ?_) (fun c59 => ?_)
        · skip
          have zc59 : ¬ ((v18 1).toInt = 0) := by rw [fa_eq, show (0 : Int32).toInt = 0 from by decide] at c59; exact c59
          exact jp162 _ _ _ hP hD hS hl
        · skip
          have zc59 : (v18 1).toInt = 0 := by rw [fa_eq, show (0 : Int32).toInt = 0 from by decide] at c59; exact c59
          refine lv_aload_n hx hb dX11_formula_46 rfl (lv_at hl 1 rfl) ?_
          refine cbVi (n := 0) (rest := []) hx hb hml hown hts hE hP hD hS hA (sY_X11_sign_1 l dC dI cy y0 r  v18 f18 w18 g18 hIv18 hCf18 hRf18 ) k_1700 k_1702 k_64 k_114 k_1703 (by decide +kernel) ⟨Nat.le_of_ble_eq_true rfl, Nat.le_of_ble_eq_true rfl⟩ 0 11 rfl rfl (rfl) hl.1 rfl (Nat.le_of_ble_eq_true rfl) dX11_formula_47 (fun r60 u H locs hw hP hD hS => ?_)
          obtain ⟨pp61, hw⟩ := hw
          have pp61 : r60.toInt = 0 ∨ 37 ≤ r60.toInt := pp61
          refine lv_istore_n (lv' := [(2, .int r60), (1, .int l1_18), (0, .ref y0)]) hx hb dX11_formula_50 rfl hl (by decide) rfl (fun ls hl => ?_)
          have jp157 : ∀ (H : Heap) (locs : List Loc) (ls : Array Slot), va_P (dC, dI) vwCl (YW cy y0 r v18 f18 w18 g18) H → va_D A (YW cy y0 r v18 f18 w18 g18) → va_S A s.heap H locs → lv_has ls 3 [(2, .int r60), (1, .int l1_18), (0, .ref y0)] → W p l e { frames := 5, cells := 0, slots := 0, locals := 146 } s m ([.ref y0] : List Value).toArray below meth c H locs 0 0 Q (F0 m 157 ls []) := by
            intro H locs ls hP hD hS hl
            refine lv_iconst (v := 0) hx hb dX11_formula_157 (by decide) ?_
            refine lv_istore_n (lv' := [(1, .int 0), (2, .int r60), (0, .ref y0)]) hx hb dX11_formula_158 rfl hl (by decide) rfl (fun ls hl => ?_)
            refine lv_goto (tgt := 35) hx hb dX11_formula_159 (by decide) ?_
            exact ih18 0 v18 f18 w18 g18 hIv18 hCf18 hRf18 hq0_v18 hq4_v18 hq9_v18 hq15_v18 hq17_v18 hq18_v18 hq24_v18 hq25_v18 hq35_v18 hq36_v18 hq38_v18 hq39_v18 ⟨by decide, by decide⟩ (by show (v18 1).toInt = 0 → FI 1 (v18 10).toInt (v18 14).toInt (v18 8).toInt (f18 6) (f18 2) (f18 3); intro hz9; first | exact FI.cast hFK (by omega) (by omega) (by omega) | exact FI.cast (hFJ (by omega)) (by omega) (by omega) (by omega) | (exfalso; omega)) (by show 0 < (v18 1).toInt ∨ ((v18 8).toInt + (v18 10).toInt ≤ 10 * (v18 13).toInt ∧ (v18 10).toInt ≤ (v18 14).toInt + (v18 13).toInt ∧ (v18 13).toInt ≤ 30 ∧ (v18 14).toInt ≤ 7); omega) (by show (v 3).toInt ≤ (v18 3).toInt; omega) (by show (v18 5).toInt = (v 5).toInt ∨ (v 3).toInt < (v18 3).toInt ∨ ¬ (v18 5).toInt = 59; omega) (by show (1 + 100 * (31 - (v18 13).toInt) + 2 * (v18 10).toInt + (0 : Int32).toInt - 100000 * (v18 1).toInt).toNat < n18; omega) _ _ _ hP hD hS (lv_sub hl [0, 2] rfl)
          have jp118 : ∀ (H : Heap) (locs : List Loc) (ls : Array Slot), va_P (dC, dI) vwCl (YW cy y0 r v18 f18 w18 g18) H → va_D A (YW cy y0 r v18 f18 w18 g18) → va_S A s.heap H locs → lv_has ls 3 [(2, .int r60), (1, .int l1_18), (0, .ref y0)] → W p l e { frames := 5, cells := 0, slots := 0, locals := 146 } s m ([.ref y0] : List Value).toArray below meth c H locs 0 0 Q (F0 m 118 ls []) := by
            intro H locs ls hP hD hS hl
            refine lv_aload_n hx hb dX11_formula_118 rfl (lv_at hl 2 rfl) ?_
            refine lv_iload_n hx hb dX11_formula_119 rfl (lv_at hl 0 rfl) ?_
            refine cbSi (n := 1) (rest := [.ref y0]) hx hb hml hown hts hE hP hD hS hA (sY_X11_tight_1 l dC dI cy y0 r r60 v18 f18 w18 g18 hIv18 hCf18 hRf18 ) k_1677 k_1678 k_114 k_1679 (by decide +kernel) ⟨Nat.le_of_ble_eq_true rfl, Nat.le_of_ble_eq_true rfl⟩ (rfl) hl.1 rfl (Nat.le_of_ble_eq_true rfl) dX11_formula_120 (fun r62 u H locs hw hP hD hS => ?_)
            refine cbVv (n := 1) (rest := []) hx hb hml hown hts hE hP hD hS hA (sY_X11_close_1 l dC dI cy y0 r r62 v18 f18 w18 g18 hIv18 hCf18 hRf18 ⟨show (0 : Int) ≤ r62.toInt by omega, show r62.toInt ≤ (6 : Int) by omega⟩ (by show (v18 8).toInt + (v18 10).toInt ≤ 310; omega) (by show FI 1 (v18 10).toInt (v18 14).toInt (v18 8).toInt (f18 6) (f18 2) (f18 3); first | exact FI.cast (hFJ (by omega)) (by omega) (by omega) (by omega) | (exfalso; omega))) k_1708 k_1710 k_66 k_114 k_1711 (by decide +kernel) ⟨Nat.le_of_ble_eq_true rfl, Nat.le_of_ble_eq_true rfl⟩ 0 11 rfl rfl (rfl) hl.1 rfl (Nat.le_of_ble_eq_true rfl) dX11_formula_123 (fun u H locs hw hP hD hS => ?_)
            obtain ⟨v63, f64, w65, g66⟩ := u
            obtain ⟨hIv63, hCf64, hRf64, hk0_v63, hk1_v63, hk3_v63, hk4_v63, hk5_v63, hk9_v63, hk13_v63, hk15_v63, hk17_v63, hk18_v63, hk24_v63, hk25_v63, hk35_v63, hk36_v63, hk38_v63, hk39_v63, pv67, pv68, pv69, pv70, pg71, pg72, pg73, kq74⟩ := hw
            have hP : va_P (dC, dI) vwCl (YW cy y0 r v63 f64 w65 g66) H := hP
            have hD : va_D A (YW cy y0 r v63 f64 w65 g66) := hD
            have b8_v63 : 0 ≤ (v63 8).toInt ∧ (v63 8).toInt ≤ 320 := YIb.b hIv63.1 8 (by decide)
            have b10_v63 : 0 ≤ (v63 10).toInt ∧ (v63 10).toInt ≤ 160 := YIb.b hIv63.1 10 (by decide)
            have b14_v63 : 0 ≤ (v63 14).toInt ∧ (v63 14).toInt ≤ 8 := YIb.b hIv63.1 14 (by decide)
            have pv67 : (v63 8).toInt + (v63 10).toInt = (v18 8).toInt + (v18 10).toInt := pv67
            have pv68 : (v63 10).toInt - (v63 14).toInt ≤ (v18 10).toInt - (v18 14).toInt := pv68
            have pv69 : (v63 10).toInt ≤ (v18 10).toInt := pv69
            have pv70 : (v63 14).toInt ≤ (v18 14).toInt := pv70
            have pg71 : FI 1 (v63 10).toInt (v63 14).toInt (v63 8).toInt (f64 6) (f64 2) (f64 3) := pg71
            have pg72 : ∀ k, k < ((v18 10).toInt).toNat → (f18 6) k = 20 → k < ((v63 10).toInt).toNat := pg72
            have pg73 : 0 < r62.toInt ∨ (v63 10).toInt = 0 ∨ (f64 6) ((v63 10).toInt - 1).toNat = 20 := pg73
            have hs6_f64 : f64 6 = (f18 6) := kq74
            rw [hs6_f64] at pg71
            rw [hs6_f64] at pg73
            have hUv63 : (v63 35).toInt + (v63 36).toInt ≤ 40 := hIv63.2
            have hq0_v63 : v63 0 = (v 0) := hk0_v63.trans hq0_v18
            have hq1_v63 : v63 1 = (v18 1) := hk1_v63
            have zq1_v63 := congrArg Int32.toInt hq1_v63
            have hq3_v63 : v63 3 = (v18 3) := hk3_v63
            have zq3_v63 := congrArg Int32.toInt hq3_v63
            have hq4_v63 : v63 4 = (v 4) := hk4_v63.trans hq4_v18
            have zq4_v63 := congrArg Int32.toInt hq4_v63
            have hq5_v63 : v63 5 = (v18 5) := hk5_v63
            have zq5_v63 := congrArg Int32.toInt hq5_v63
            have hq9_v63 : v63 9 = (v 9) := hk9_v63.trans hq9_v18
            have zq9_v63 := congrArg Int32.toInt hq9_v63
            have hq13_v63 : v63 13 = (v18 13) := hk13_v63
            have zq13_v63 := congrArg Int32.toInt hq13_v63
            have hq15_v63 : v63 15 = 1 := hk15_v63.trans hq15_v18
            have zq15_v63 : (v63 15).toInt = 1 := by rw [hq15_v63]; decide
            have hq17_v63 : v63 17 = (v 17) := hk17_v63.trans hq17_v18
            have zq17_v63 := congrArg Int32.toInt hq17_v63
            have hq18_v63 : v63 18 = (v 18) := hk18_v63.trans hq18_v18
            have zq18_v63 := congrArg Int32.toInt hq18_v63
            have hq24_v63 : v63 24 = (v 24) := hk24_v63.trans hq24_v18
            have hq25_v63 : v63 25 = (v 25) := hk25_v63.trans hq25_v18
            have hq35_v63 : v63 35 = (v 35) := hk35_v63.trans hq35_v18
            have zq35_v63 := congrArg Int32.toInt hq35_v63
            have hq36_v63 : v63 36 = (v 36) := hk36_v63.trans hq36_v18
            have zq36_v63 := congrArg Int32.toInt hq36_v63
            have hq38_v63 : v63 38 = (v 38) := hk38_v63.trans hq38_v18
            have hq39_v63 : v63 39 = (v 39) := hk39_v63.trans hq39_v18
            have hFK := pg71
            refine lv_aload_n hx hb dX11_formula_126 rfl (lv_at hl 2 rfl) ?_
            refine va_get (D := (dC, dI)) (ci := 11) (v := .ref (r 15)) (C := RX11) (T := TX11) (N := 79) hx hb hts inB_11 hown hE.1 hP 0 rfl rfl 15 (by decide) (hts _ k_1335) (fun _ h9 => h9) rfl dX11_formula_127 ?_
            refine lv_aload_n hx hb dX11_formula_130 rfl (lv_at hl 2 rfl) ?_
            refine va_get (D := (dC, dI)) (ci := 11) (v := .int (v63 10)) (C := RX11) (T := TX11) (N := 79) hx hb hts inB_11 hown hE.1 hP 0 rfl rfl 19 (by decide) (hts _ k_1339) (fun _ h9 => h9) rfl dX11_formula_131 ?_
            have b10_v63 : 0 ≤ (v63 10).toInt ∧ (v63 10).toInt ≤ 160 := YIb.b hIv63.1 10 (by decide)
            refine lv_iload_n hx hb dX11_formula_134 rfl (lv_at hl 0 rfl) ?_
            refine stI hx hb hE hP hD hS 7 rfl (vp_in_iff.mpr ⟨by omega, by omega⟩) rfl dX11_formula_135 (fun H locs hP hD hS => ?_)
            obtain ⟨f75, ef75, hP, hD⟩ : ∃ fz9, fz9 = upd2 f64 6 (upd (f64 6) (v63 10).toNatClampNeg r60) ∧ va_P (dC, dI) vwCl (YW cy y0 r v63 fz9 w65 g66) H ∧ va_D A (YW cy y0 r v63 fz9 w65 g66) := ⟨_, rfl, hP, hD⟩
            have hCf75 : YC f75 := by rw [ef75]; exact hCf64
            have hRf75 : progOK (f75 4) (f75 5) (v63 9).toInt.toNat := by rw [ef75]; exact hRf64
            have hs2_f75 : f75 2 = (f64 2) := by rw [ef75]; exact rfl
            have hs3_f75 : f75 3 = (f64 3) := by rw [ef75]; exact rfl
            have hs6_f75 : f75 6 = (upd (f18 6) ((v63 10).toInt.toNat) r60) := by rw [ef75]; show upd (f64 6) ((v63 10).toInt.toNat) r60 = _; rw [hs6_f64]
            refine lv_aload_n hx hb dX11_formula_136 rfl (lv_at hl 2 rfl) ?_
            refine lv_dup hx hb dX11_formula_137 rfl ?_
            refine va_get (D := (dC, dI)) (ci := 11) (v := .int (v63 10)) (C := RX11) (T := TX11) (N := 79) hx hb hts inB_11 hown hE.1 hP 0 rfl rfl 19 (by decide) (hts _ k_1339) (fun _ h9 => h9) rfl dX11_formula_138 ?_
            refine lv_iconst (v := 1) hx hb dX11_formula_141 (by decide) ?_
            refine lv_iadd hx hb dX11_formula_142 ?_
            refine lv_topi (fun t76 et76 => ?_)
            have rg77 := fb_rng (v63 10)
            have zt76 : t76.toInt = (v63 10).toInt + 1 := by rw [et76]; exact add_i rfl (by decide) (by omega) (by omega)
            refine va_put (D := (dC, dI)) (ci := 11) (v := .int t76) (ty := tyX11 19) (C := RX11) (T := TX11) (N := 79) hx hb hts inB_11 tyX11 tyX11_ok nmX11 hown hE.1 hP hD hS 0 rfl rfl 19 (by decide) (hts _ k_1339) (fun _ h9 => h9) rfl (tyX11_ok 19 (by decide)) rfl rfl (Nat.le_of_ble_eq_true rfl) dX11_formula_143 (fun H locs hP hD hS => ?_)
            have hP : va_P (dC, dI) vwCl (YW cy y0 r (upd v63 10 t76) f75 w65 g66) H := hP
            have hD : va_D A (YW cy y0 r (upd v63 10 t76) f75 w65 g66) := hD
            refine lv_aload_n hx hb dX11_formula_146 rfl (lv_at hl 2 rfl) ?_
            refine cbVv (n := 0) (rest := []) hx hb hml hown hts hE hP hD hS hA (sY_X11_token_1 l dC dI cy y0 r  (upd v63 10 t76) f75 w65 g66 ⟨(YIb.upd (j := 10) (x := t76) hIv63.1 (show (0 : Int) ≤ t76.toInt by omega) (show t76.toInt ≤ (160 : Int) by omega)), hIv63.2⟩ hCf75 hRf75 ) k_1579 k_1581 k_42 k_114 k_1582 (by decide +kernel) ⟨Nat.le_of_ble_eq_true rfl, Nat.le_of_ble_eq_true rfl⟩ 0 11 rfl rfl (rfl) hl.1 rfl (Nat.le_of_ble_eq_true rfl) dX11_formula_147 (fun u H locs hw hP hD hS => ?_)
            obtain ⟨v78, f79, w80, g81⟩ := u
            obtain ⟨hIv78, hCf79, hRf79, hk0_v78, hk1_v78, hk4_v78, hk8_v78, hk9_v78, hk10_v78, hk13_v78, hk14_v78, hk15_v78, hk17_v78, hk18_v78, hk24_v78, hk25_v78, hk35_v78, hk36_v78, hk38_v78, hk39_v78, pv82, pv83, kq84, kq85, kq86⟩ := hw
            have hP : va_P (dC, dI) vwCl (YW cy y0 r v78 f79 w80 g81) H := hP
            have hD : va_D A (YW cy y0 r v78 f79 w80 g81) := hD
            have b3_v78 : 0 ≤ (v78 3).toInt ∧ (v78 3).toInt ≤ 1600 := YIb.b hIv78.1 3 (by decide)
            have pv82 : (v63 3).toInt ≤ (v78 3).toInt := pv82
            have pv83 : (v78 5).toInt = (v63 5).toInt ∨ (v63 3).toInt < (v78 3).toInt ∨ ¬ (v78 5).toInt = 59 := pv83
            have hs2_f79 : f79 2 = (f64 2) := kq84.trans hs2_f75
            have hs3_f79 : f79 3 = (f64 3) := kq85.trans hs3_f75
            have hs6_f79 : f79 6 = (upd (f18 6) ((v63 10).toInt.toNat) r60) := kq86.trans hs6_f75
            have hUv78 : (v78 35).toInt + (v78 36).toInt ≤ 40 := hIv78.2
            have hq0_v78 : v78 0 = (v 0) := hk0_v78.trans hq0_v63
            have hq1_v78 : v78 1 = (v18 1) := hk1_v78.trans hq1_v63
            have zq1_v78 := congrArg Int32.toInt hq1_v78
            have hq4_v78 : v78 4 = (v 4) := hk4_v78.trans hq4_v63
            have zq4_v78 := congrArg Int32.toInt hq4_v78
            have hq8_v78 : v78 8 = (v63 8) := hk8_v78
            have zq8_v78 := congrArg Int32.toInt hq8_v78
            have hq9_v78 : v78 9 = (v 9) := hk9_v78.trans hq9_v63
            have zq9_v78 := congrArg Int32.toInt hq9_v78
            have hq10_v78 : v78 10 = t76 := hk10_v78
            have zq10_v78 := congrArg Int32.toInt hq10_v78
            have hq13_v78 : v78 13 = (v18 13) := hk13_v78.trans hq13_v63
            have zq13_v78 := congrArg Int32.toInt hq13_v78
            have hq14_v78 : v78 14 = (v63 14) := hk14_v78
            have zq14_v78 := congrArg Int32.toInt hq14_v78
            have hq15_v78 : v78 15 = 1 := hk15_v78.trans hq15_v63
            have zq15_v78 : (v78 15).toInt = 1 := by rw [hq15_v78]; decide
            have hq17_v78 : v78 17 = (v 17) := hk17_v78.trans hq17_v63
            have zq17_v78 := congrArg Int32.toInt hq17_v78
            have hq18_v78 : v78 18 = (v 18) := hk18_v78.trans hq18_v63
            have zq18_v78 := congrArg Int32.toInt hq18_v78
            have hq24_v78 : v78 24 = (v 24) := hk24_v78.trans hq24_v63
            have hq25_v78 : v78 25 = (v 25) := hk25_v78.trans hq25_v63
            have hq35_v78 : v78 35 = (v 35) := hk35_v78.trans hq35_v63
            have zq35_v78 := congrArg Int32.toInt hq35_v78
            have hq36_v78 : v78 36 = (v 36) := hk36_v78.trans hq36_v63
            have zq36_v78 := congrArg Int32.toInt hq36_v78
            have hq38_v78 : v78 38 = (v 38) := hk38_v78.trans hq38_v63
            have hq39_v78 : v78 39 = (v 39) := hk39_v78.trans hq39_v63
            refine lv_aload_n hx hb dX11_formula_150 rfl (lv_at hl 2 rfl) ?_
            refine cbVv (n := 0) (rest := []) hx hb hml hown hts hE hP hD hS hA (sY_X11_unit_1 l dC dI cy y0 r  v78 f79 w80 g81 hIv78 hCf79 hRf79 (by show (v78 8).toInt + (v78 10).toInt ≤ 10 * (v78 13).toInt + 1; omega) (by show (v78 10).toInt ≤ (v78 14).toInt + (v78 13).toInt + 1; omega) (by show (v78 13).toInt ≤ 30; omega) (by show (v78 14).toInt ≤ 7; omega) (by show FI 0 (v78 10).toInt (v78 14).toInt (v78 8).toInt (f79 6) (f79 2) (f79 3); rw [hs6_f79, hs2_f79, hs3_f79]; first | exact FI.zero (by decide) (by decide) (by decide) | exact FI.sign hFK rfl (by omega) (by omega) (by omega) (by omega) (by omega) (by omega))) k_1669 k_1671 k_57 k_114 k_1672 (by decide +kernel) ⟨Nat.le_of_ble_eq_true rfl, Nat.le_of_ble_eq_true rfl⟩ 0 11 rfl rfl (rfl) hl.1 rfl (Nat.le_of_ble_eq_true rfl) dX11_formula_151 (fun u H locs hw hP hD hS => ?_)
            obtain ⟨v87, f88, w89, g90⟩ := u
            obtain ⟨hIv87, hCf88, hRf88, hk0_v87, hk4_v87, hk9_v87, hk15_v87, hk17_v87, hk18_v87, hk24_v87, hk25_v87, hk35_v87, hk36_v87, hk38_v87, hk39_v87, pv91, pv92, pv93, pg94⟩ := hw
            have hP : va_P (dC, dI) vwCl (YW cy y0 r v87 f88 w89 g90) H := hP
            have hD : va_D A (YW cy y0 r v87 f88 w89 g90) := hD
            have b3_v87 : 0 ≤ (v87 3).toInt ∧ (v87 3).toInt ≤ 1600 := YIb.b hIv87.1 3 (by decide)
            have b1_v87 : 0 ≤ (v87 1).toInt ∧ (v87 1).toInt ≤ 4 := YIb.b hIv87.1 1 (by decide)
            have b8_v87 : 0 ≤ (v87 8).toInt ∧ (v87 8).toInt ≤ 320 := YIb.b hIv87.1 8 (by decide)
            have b10_v87 : 0 ≤ (v87 10).toInt ∧ (v87 10).toInt ≤ 160 := YIb.b hIv87.1 10 (by decide)
            have b13_v87 : 0 ≤ (v87 13).toInt ∧ (v87 13).toInt ≤ 31 := YIb.b hIv87.1 13 (by decide)
            have b14_v87 : 0 ≤ (v87 14).toInt ∧ (v87 14).toInt ≤ 8 := YIb.b hIv87.1 14 (by decide)
            have pv91 : (v78 3).toInt ≤ (v87 3).toInt := pv91
            have pv92 : (v87 5).toInt = (v78 5).toInt ∨ (v78 3).toInt < (v87 3).toInt ∨ ¬ (v87 5).toInt = 59 := pv92
            have pv93 : 0 < (v87 1).toInt ∨ ((v87 8).toInt + (v87 10).toInt ≤ 10 * (v87 13).toInt ∧ (v87 10).toInt ≤ (v87 14).toInt + (v87 13).toInt ∧ (v87 13).toInt ≤ 30 ∧ (v87 14).toInt ≤ 7 ∧ (v78 13).toInt < (v87 13).toInt) := pv93
            have pg94 : (v87 1).toInt = 0 → FI 1 (v87 10).toInt (v87 14).toInt (v87 8).toInt (f88 6) (f88 2) (f88 3) := pg94
            have hUv87 : (v87 35).toInt + (v87 36).toInt ≤ 40 := hIv87.2
            have hq0_v87 : v87 0 = (v 0) := hk0_v87.trans hq0_v78
            have hq4_v87 : v87 4 = (v 4) := hk4_v87.trans hq4_v78
            have zq4_v87 := congrArg Int32.toInt hq4_v87
            have hq9_v87 : v87 9 = (v 9) := hk9_v87.trans hq9_v78
            have zq9_v87 := congrArg Int32.toInt hq9_v87
            have hq15_v87 : v87 15 = 1 := hk15_v87.trans hq15_v78
            have zq15_v87 : (v87 15).toInt = 1 := by rw [hq15_v87]; decide
            have hq17_v87 : v87 17 = (v 17) := hk17_v87.trans hq17_v78
            have zq17_v87 := congrArg Int32.toInt hq17_v87
            have hq18_v87 : v87 18 = (v 18) := hk18_v87.trans hq18_v78
            have zq18_v87 := congrArg Int32.toInt hq18_v87
            have hq24_v87 : v87 24 = (v 24) := hk24_v87.trans hq24_v78
            have hq25_v87 : v87 25 = (v 25) := hk25_v87.trans hq25_v78
            have hq35_v87 : v87 35 = (v 35) := hk35_v87.trans hq35_v78
            have zq35_v87 := congrArg Int32.toInt hq35_v87
            have hq36_v87 : v87 36 = (v 36) := hk36_v87.trans hq36_v78
            have zq36_v87 := congrArg Int32.toInt hq36_v87
            have hq38_v87 : v87 38 = (v 38) := hk38_v87.trans hq38_v78
            have hq39_v87 : v87 39 = (v 39) := hk39_v87.trans hq39_v78
            have hFJ := pg94
            refine lv_goto (tgt := 159) hx hb dX11_formula_154 (by decide) ?_
            refine lv_goto (tgt := 35) hx hb dX11_formula_159 (by decide) ?_
            have rg95 := fb_rng l1_18
            exact ih18 l1_18 v87 f88 w89 g90 hIv87 hCf88 hRf88 hq0_v87 hq4_v87 hq9_v87 hq15_v87 hq17_v87 hq18_v87 hq24_v87 hq25_v87 hq35_v87 hq36_v87 hq38_v87 hq39_v87 ⟨show (0 : Int) ≤ l1_18.toInt by omega, show l1_18.toInt ≤ (1 : Int) by omega⟩ (by show (v87 1).toInt = 0 → FI 1 (v87 10).toInt (v87 14).toInt (v87 8).toInt (f88 6) (f88 2) (f88 3); intro hz9; first | exact FI.cast hFK (by omega) (by omega) (by omega) | exact FI.cast (hFJ (by omega)) (by omega) (by omega) (by omega) | (exfalso; omega)) (by show 0 < (v87 1).toInt ∨ ((v87 8).toInt + (v87 10).toInt ≤ 10 * (v87 13).toInt ∧ (v87 10).toInt ≤ (v87 14).toInt + (v87 13).toInt ∧ (v87 13).toInt ≤ 30 ∧ (v87 14).toInt ≤ 7); omega) (by show (v 3).toInt ≤ (v87 3).toInt; omega) (by show (v87 5).toInt = (v 5).toInt ∨ (v 3).toInt < (v87 3).toInt ∨ ¬ (v87 5).toInt = 59; omega) (by show (1 + 100 * (31 - (v87 13).toInt) + 2 * (v87 10).toInt + l1_18.toInt - 100000 * (v87 1).toInt).toNat < n18; omega) _ _ _ hP hD hS (lv_sub hl [1, 2] rfl)
          have jp99 : ∀ (H : Heap) (locs : List Loc) (ls : Array Slot), va_P (dC, dI) vwCl (YW cy y0 r v18 f18 w18 g18) H → va_D A (YW cy y0 r v18 f18 w18 g18) → va_S A s.heap H locs → lv_has ls 3 [(2, .int r60), (1, .int l1_18), (0, .ref y0)] → W p l e { frames := 5, cells := 0, slots := 0, locals := 146 } s m ([.ref y0] : List Value).toArray below meth c H locs 0 0 Q (F0 m 99 ls []) := by
            intro H locs ls hP hD hS hl
            refine lv_iload_n hx hb dX11_formula_99 rfl (lv_at hl 0 rfl) ?_
            refine lv_if_eq (tgt := 157) hx hb dX11_formula_100 (by decide) (fun c96 => ?_) (fun c96 => ?_)
            · skip
              have zc96 : r60.toInt = 0 := by rw [fa_eq, show (0 : Int32).toInt = 0 from by decide] at c96; exact c96
              exact jp157 _ _ _ hP hD hS hl
            · skip
              have zc96 : ¬ (r60.toInt = 0) := by rw [fa_eq, show (0 : Int32).toInt = 0 from by decide] at c96; exact c96
              refine lv_iload_n hx hb dX11_formula_103 rfl (lv_at hl 0 rfl) ?_
              refine cbSi (n := 1) (rest := []) hx hb hml hown hts hE hP hD hS hA (sY_X11_tight_1 l dC dI cy y0 r r60 v18 f18 w18 g18 hIv18 hCf18 hRf18 ) k_1677 k_1678 k_114 k_1679 (by decide +kernel) ⟨Nat.le_of_ble_eq_true rfl, Nat.le_of_ble_eq_true rfl⟩ (rfl) hl.1 rfl (Nat.le_of_ble_eq_true rfl) dX11_formula_104 (fun r97 u H locs hw hP hD hS => ?_)
              refine lv_iconst (v := 4) hx hb dX11_formula_107 (by decide) ?_
              refine lv_icmp_ne (tgt := 118) hx hb dX11_formula_108 (by decide) (fun c98 => ?_) (fun c98 => ?_)
              · skip
                have zc98 : ¬ (r97.toInt = 4) := by rw [fa_eq, show (4 : Int32).toInt = 4 from by decide] at c98; exact c98
                exact jp118 _ _ _ hP hD hS hl
              · skip
                have zc98 : r97.toInt = 4 := by rw [fa_eq, show (4 : Int32).toInt = 4 from by decide] at c98; exact c98
                refine lv_aload_n hx hb dX11_formula_111 rfl (lv_at hl 2 rfl) ?_
                refine cbVi (n := 0) (rest := []) hx hb hml hown hts hE hP hD hS hA (sY_X11_hasRelation_1 l dC dI cy y0 r  v18 f18 w18 g18 hIv18 hCf18 hRf18 ) k_1712 k_1714 k_67 k_114 k_1715 (by decide +kernel) ⟨Nat.le_of_ble_eq_true rfl, Nat.le_of_ble_eq_true rfl⟩ 0 11 rfl rfl (rfl) hl.1 rfl (Nat.le_of_ble_eq_true rfl) dX11_formula_112 (fun r99 u H locs hw hP hD hS => ?_)
                rcases hw with ⟨g100⟩ | ⟨g100⟩
                · skip
                  subst g100
                  refine lv_if_ne (tgt := 157) hx hb dX11_formula_115 (by decide) (fun _ => ?_) (fun c0 => absurd c0 (by decide))
                  exact jp157 _ _ _ hP hD hS hl
                · skip
                  subst g100
                  refine lv_if_ne (tgt := 157) hx hb dX11_formula_115 (by decide) (fun c0 => absurd (by decide) c0) (fun _ => ?_)
                  exact jp118 _ _ _ hP hD hS hl
          refine lv_aload_n hx hb dX11_formula_51 rfl (lv_at hl 2 rfl) ?_
          refine va_get (D := (dC, dI)) (ci := 11) (v := .int (v18 5)) (C := RX11) (T := TX11) (N := 79) hx hb hts inB_11 hown hE.1 hP 0 rfl rfl 6 (by decide) (hts _ k_1326) (fun _ h9 => h9) rfl dX11_formula_52 ?_
          refine lv_bipush (v := 41) hx hb dX11_formula_55 (by decide) ?_
          refine lv_icmp_ne (tgt := 99) hx hb dX11_formula_57 (by decide) (fun c101 => ?_) (fun c101 => ?_)
          · skip
            have zc101 : ¬ ((v18 5).toInt = 41) := by rw [fa_eq, show (41 : Int32).toInt = 41 from by decide] at c101; exact c101
            exact jp99 _ _ _ hP hD hS hl
          · skip
            have zc101 : (v18 5).toInt = 41 := by rw [fa_eq, show (41 : Int32).toInt = 41 from by decide] at c101; exact c101
            refine lv_aload_n hx hb dX11_formula_60 rfl (lv_at hl 2 rfl) ?_
            refine cbVi (n := 0) (rest := []) hx hb hml hown hts hE hP hD hS hA (sY_X11_hasBracket_1 l dC dI cy y0 r  v18 f18 w18 g18 hIv18 hCf18 hRf18 ) k_1704 k_1706 k_65 k_114 k_1707 (by decide +kernel) ⟨Nat.le_of_ble_eq_true rfl, Nat.le_of_ble_eq_true rfl⟩ 0 11 rfl rfl (rfl) hl.1 rfl (Nat.le_of_ble_eq_true rfl) dX11_formula_61 (fun r102 u H locs hw hP hD hS => ?_)
            rcases hw with ⟨g103, g103_0⟩ | ⟨g103⟩
            · skip
              subst g103
              have hBr := g103_0
              refine lv_if_eq (tgt := 99) hx hb dX11_formula_64 (by decide) (fun c0 => absurd c0 (by decide)) (fun _ => ?_)
              refine lv_aload_n hx hb dX11_formula_67 rfl (lv_at hl 2 rfl) ?_
              refine lv_iconst (v := 0) hx hb dX11_formula_68 (by decide) ?_
              refine cbVv (n := 1) (rest := []) hx hb hml hown hts hE hP hD hS hA (sY_X11_close_1 l dC dI cy y0 r 0 v18 f18 w18 g18 hIv18 hCf18 hRf18 ⟨by decide, by decide⟩ (by have q1 : (0 : Int32).toInt = 0 := (by decide); show (v18 8).toInt + (v18 10).toInt ≤ 310; omega) (by show FI 1 (v18 10).toInt (v18 14).toInt (v18 8).toInt (f18 6) (f18 2) (f18 3); first | exact FI.cast (hFJ (by omega)) (by omega) (by omega) (by omega) | (exfalso; omega))) k_1708 k_1710 k_66 k_114 k_1711 (by decide +kernel) ⟨Nat.le_of_ble_eq_true rfl, Nat.le_of_ble_eq_true rfl⟩ 0 11 rfl rfl (rfl) hl.1 rfl (Nat.le_of_ble_eq_true rfl) dX11_formula_69 (fun u H locs hw hP hD hS => ?_)
              obtain ⟨v104, f105, w106, g107⟩ := u
              obtain ⟨hIv104, hCf105, hRf105, hk0_v104, hk1_v104, hk3_v104, hk4_v104, hk5_v104, hk9_v104, hk13_v104, hk15_v104, hk17_v104, hk18_v104, hk24_v104, hk25_v104, hk35_v104, hk36_v104, hk38_v104, hk39_v104, pv108, pv109, pv110, pv111, pg112, pg113, pg114, kq115⟩ := hw
              have hP : va_P (dC, dI) vwCl (YW cy y0 r v104 f105 w106 g107) H := hP
              have hD : va_D A (YW cy y0 r v104 f105 w106 g107) := hD
              have b8_v104 : 0 ≤ (v104 8).toInt ∧ (v104 8).toInt ≤ 320 := YIb.b hIv104.1 8 (by decide)
              have b10_v104 : 0 ≤ (v104 10).toInt ∧ (v104 10).toInt ≤ 160 := YIb.b hIv104.1 10 (by decide)
              have b14_v104 : 0 ≤ (v104 14).toInt ∧ (v104 14).toInt ≤ 8 := YIb.b hIv104.1 14 (by decide)
              have pv108 : (v104 8).toInt + (v104 10).toInt = (v18 8).toInt + (v18 10).toInt := pv108
              have pv109 : (v104 10).toInt - (v104 14).toInt ≤ (v18 10).toInt - (v18 14).toInt := pv109
              have pv110 : (v104 10).toInt ≤ (v18 10).toInt := pv110
              have pv111 : (v104 14).toInt ≤ (v18 14).toInt := pv111
              have pg112 : FI 1 (v104 10).toInt (v104 14).toInt (v104 8).toInt (f105 6) (f105 2) (f105 3) := pg112
              have pg113 : ∀ k, k < ((v18 10).toInt).toNat → (f18 6) k = 20 → k < ((v104 10).toInt).toNat := pg113
              have pg114 : 0 < (0 : Int32).toInt ∨ (v104 10).toInt = 0 ∨ (f105 6) ((v104 10).toInt - 1).toNat = 20 := pg114
              have hs6_f105 : f105 6 = (f18 6) := kq115
              rw [hs6_f105] at pg112
              rw [hs6_f105] at pg114
              have hUv104 : (v104 35).toInt + (v104 36).toInt ≤ 40 := hIv104.2
              have hq0_v104 : v104 0 = (v 0) := hk0_v104.trans hq0_v18
              have hq1_v104 : v104 1 = (v18 1) := hk1_v104
              have zq1_v104 := congrArg Int32.toInt hq1_v104
              have hq3_v104 : v104 3 = (v18 3) := hk3_v104
              have zq3_v104 := congrArg Int32.toInt hq3_v104
              have hq4_v104 : v104 4 = (v 4) := hk4_v104.trans hq4_v18
              have zq4_v104 := congrArg Int32.toInt hq4_v104
              have hq5_v104 : v104 5 = (v18 5) := hk5_v104
              have zq5_v104 := congrArg Int32.toInt hq5_v104
              have hq9_v104 : v104 9 = (v 9) := hk9_v104.trans hq9_v18
              have zq9_v104 := congrArg Int32.toInt hq9_v104
              have hq13_v104 : v104 13 = (v18 13) := hk13_v104
              have zq13_v104 := congrArg Int32.toInt hq13_v104
              have hq15_v104 : v104 15 = 1 := hk15_v104.trans hq15_v18
              have zq15_v104 : (v104 15).toInt = 1 := by rw [hq15_v104]; decide
              have hq17_v104 : v104 17 = (v 17) := hk17_v104.trans hq17_v18
              have zq17_v104 := congrArg Int32.toInt hq17_v104
              have hq18_v104 : v104 18 = (v 18) := hk18_v104.trans hq18_v18
              have zq18_v104 := congrArg Int32.toInt hq18_v104
              have hq24_v104 : v104 24 = (v 24) := hk24_v104.trans hq24_v18
              have hq25_v104 : v104 25 = (v 25) := hk25_v104.trans hq25_v18
              have hq35_v104 : v104 35 = (v 35) := hk35_v104.trans hq35_v18
              have zq35_v104 := congrArg Int32.toInt hq35_v104
              have hq36_v104 : v104 36 = (v 36) := hk36_v104.trans hq36_v18
              have zq36_v104 := congrArg Int32.toInt hq36_v104
              have hq38_v104 : v104 38 = (v 38) := hk38_v104.trans hq38_v18
              have hq39_v104 : v104 39 = (v 39) := hk39_v104.trans hq39_v18
              have hop : 1 ≤ (v104 10).toInt := by obtain ⟨k9, h91, h92⟩ := hBr; have := pg113 k9 h91 h92; omega
              have htp : (f18 6) ((v104 10).toInt - 1).toNat = 20 := by rcases pg114 with h9 | h9 | h9; exact absurd h9 (by decide); omega; exact h9
              have hFK : FI 1 ((v104 10).toInt - 1) ((v104 14).toInt - 1) (v104 8).toInt (f18 6) (f105 2) (f105 3) := FI.pop pg112 htp (by omega)
              have hdp : 0 ≤ (v104 14).toInt - 1 := FI.nn hFK
              refine lv_aload_n hx hb dX11_formula_72 rfl (lv_at hl 2 rfl) ?_
              refine lv_dup hx hb dX11_formula_73 rfl ?_
              refine va_get (D := (dC, dI)) (ci := 11) (v := .int (v104 10)) (C := RX11) (T := TX11) (N := 79) hx hb hts inB_11 hown hE.1 hP 0 rfl rfl 19 (by decide) (hts _ k_1339) (fun _ h9 => h9) rfl dX11_formula_74 ?_
              have b10_v104 : 0 ≤ (v104 10).toInt ∧ (v104 10).toInt ≤ 160 := YIb.b hIv104.1 10 (by decide)
              refine lv_iconst (v := 1) hx hb dX11_formula_77 (by decide) ?_
              refine lv_isub hx hb dX11_formula_78 ?_
              refine lv_topi (fun t116 et116 => ?_)
              have rg117 := fb_rng (v104 10)
              have zt116 : t116.toInt = (v104 10).toInt - 1 := by rw [et116]; exact sub_i rfl (by decide) (by omega) (by omega)
              refine va_put (D := (dC, dI)) (ci := 11) (v := .int t116) (ty := tyX11 19) (C := RX11) (T := TX11) (N := 79) hx hb hts inB_11 tyX11 tyX11_ok nmX11 hown hE.1 hP hD hS 0 rfl rfl 19 (by decide) (hts _ k_1339) (fun _ h9 => h9) rfl (tyX11_ok 19 (by decide)) rfl rfl (Nat.le_of_ble_eq_true rfl) dX11_formula_79 (fun H locs hP hD hS => ?_)
              have hP : va_P (dC, dI) vwCl (YW cy y0 r (upd v104 10 t116) f105 w106 g107) H := hP
              have hD : va_D A (YW cy y0 r (upd v104 10 t116) f105 w106 g107) := hD
              refine lv_aload_n hx hb dX11_formula_82 rfl (lv_at hl 2 rfl) ?_
              refine lv_dup hx hb dX11_formula_83 rfl ?_
              refine va_get (D := (dC, dI)) (ci := 11) (v := .int (v104 14)) (C := RX11) (T := TX11) (N := 79) hx hb hts inB_11 hown hE.1 hP 0 rfl rfl 23 (by decide) (hts _ k_1343) (fun _ h9 => h9) rfl dX11_formula_84 ?_
              have b14_v104 : 0 ≤ (v104 14).toInt ∧ (v104 14).toInt ≤ 8 := YIb.b hIv104.1 14 (by decide)
              refine lv_iconst (v := 1) hx hb dX11_formula_87 (by decide) ?_
              refine lv_isub hx hb dX11_formula_88 ?_
              refine lv_topi (fun t118 et118 => ?_)
              have rg119 := fb_rng (v104 14)
              have zt118 : t118.toInt = (v104 14).toInt - 1 := by rw [et118]; exact sub_i rfl (by decide) (by omega) (by omega)
              refine va_put (D := (dC, dI)) (ci := 11) (v := .int t118) (ty := tyX11 23) (C := RX11) (T := TX11) (N := 79) hx hb hts inB_11 tyX11 tyX11_ok nmX11 hown hE.1 hP hD hS 0 rfl rfl 23 (by decide) (hts _ k_1343) (fun _ h9 => h9) rfl (tyX11_ok 23 (by decide)) rfl rfl (Nat.le_of_ble_eq_true rfl) dX11_formula_89 (fun H locs hP hD hS => ?_)
              have hP : va_P (dC, dI) vwCl (YW cy y0 r (upd (upd v104 10 t116) 14 t118) f105 w106 g107) H := hP
              have hD : va_D A (YW cy y0 r (upd (upd v104 10 t116) 14 t118) f105 w106 g107) := hD
              refine lv_aload_n hx hb dX11_formula_92 rfl (lv_at hl 2 rfl) ?_
              refine cbVv (n := 0) (rest := []) hx hb hml hown hts hE hP hD hS hA (sY_X11_token_1 l dC dI cy y0 r  (upd (upd v104 10 t116) 14 t118) f105 w106 g107 ⟨(YIb.upd (j := 14) (x := t118) (YIb.upd (j := 10) (x := t116) hIv104.1 (show (0 : Int) ≤ t116.toInt by omega) (show t116.toInt ≤ (160 : Int) by omega)) (show (0 : Int) ≤ t118.toInt by omega) (show t118.toInt ≤ (8 : Int) by omega)), hIv104.2⟩ hCf105 hRf105 ) k_1579 k_1581 k_42 k_114 k_1582 (by decide +kernel) ⟨Nat.le_of_ble_eq_true rfl, Nat.le_of_ble_eq_true rfl⟩ 0 11 rfl rfl (rfl) hl.1 rfl (Nat.le_of_ble_eq_true rfl) dX11_formula_93 (fun u H locs hw hP hD hS => ?_)
              obtain ⟨v120, f121, w122, g123⟩ := u
              obtain ⟨hIv120, hCf121, hRf121, hk0_v120, hk1_v120, hk4_v120, hk8_v120, hk9_v120, hk10_v120, hk13_v120, hk14_v120, hk15_v120, hk17_v120, hk18_v120, hk24_v120, hk25_v120, hk35_v120, hk36_v120, hk38_v120, hk39_v120, pv124, pv125, kq126, kq127, kq128⟩ := hw
              have hP : va_P (dC, dI) vwCl (YW cy y0 r v120 f121 w122 g123) H := hP
              have hD : va_D A (YW cy y0 r v120 f121 w122 g123) := hD
              have b3_v120 : 0 ≤ (v120 3).toInt ∧ (v120 3).toInt ≤ 1600 := YIb.b hIv120.1 3 (by decide)
              have pv124 : (v104 3).toInt ≤ (v120 3).toInt := pv124
              have pv125 : (v120 5).toInt = (v104 5).toInt ∨ (v104 3).toInt < (v120 3).toInt ∨ ¬ (v120 5).toInt = 59 := pv125
              have hs2_f121 : f121 2 = (f105 2) := kq126
              have hs3_f121 : f121 3 = (f105 3) := kq127
              have hs6_f121 : f121 6 = (f18 6) := kq128.trans hs6_f105
              have hUv120 : (v120 35).toInt + (v120 36).toInt ≤ 40 := hIv120.2
              have hq0_v120 : v120 0 = (v 0) := hk0_v120.trans hq0_v104
              have hq1_v120 : v120 1 = (v18 1) := hk1_v120.trans hq1_v104
              have zq1_v120 := congrArg Int32.toInt hq1_v120
              have hq4_v120 : v120 4 = (v 4) := hk4_v120.trans hq4_v104
              have zq4_v120 := congrArg Int32.toInt hq4_v120
              have hq8_v120 : v120 8 = (v104 8) := hk8_v120
              have zq8_v120 := congrArg Int32.toInt hq8_v120
              have hq9_v120 : v120 9 = (v 9) := hk9_v120.trans hq9_v104
              have zq9_v120 := congrArg Int32.toInt hq9_v120
              have hq10_v120 : v120 10 = t116 := hk10_v120
              have zq10_v120 := congrArg Int32.toInt hq10_v120
              have hq13_v120 : v120 13 = (v18 13) := hk13_v120.trans hq13_v104
              have zq13_v120 := congrArg Int32.toInt hq13_v120
              have hq14_v120 : v120 14 = t118 := hk14_v120
              have zq14_v120 := congrArg Int32.toInt hq14_v120
              have hq15_v120 : v120 15 = 1 := hk15_v120.trans hq15_v104
              have zq15_v120 : (v120 15).toInt = 1 := by rw [hq15_v120]; decide
              have hq17_v120 : v120 17 = (v 17) := hk17_v120.trans hq17_v104
              have zq17_v120 := congrArg Int32.toInt hq17_v120
              have hq18_v120 : v120 18 = (v 18) := hk18_v120.trans hq18_v104
              have zq18_v120 := congrArg Int32.toInt hq18_v120
              have hq24_v120 : v120 24 = (v 24) := hk24_v120.trans hq24_v104
              have hq25_v120 : v120 25 = (v 25) := hk25_v120.trans hq25_v104
              have hq35_v120 : v120 35 = (v 35) := hk35_v120.trans hq35_v104
              have zq35_v120 := congrArg Int32.toInt hq35_v120
              have hq36_v120 : v120 36 = (v 36) := hk36_v120.trans hq36_v104
              have zq36_v120 := congrArg Int32.toInt hq36_v120
              have hq38_v120 : v120 38 = (v 38) := hk38_v120.trans hq38_v104
              have hq39_v120 : v120 39 = (v 39) := hk39_v120.trans hq39_v104
              refine lv_goto (tgt := 159) hx hb dX11_formula_96 (by decide) ?_
              refine lv_goto (tgt := 35) hx hb dX11_formula_159 (by decide) ?_
              have rg129 := fb_rng l1_18
              exact ih18 l1_18 v120 f121 w122 g123 hIv120 hCf121 hRf121 hq0_v120 hq4_v120 hq9_v120 hq15_v120 hq17_v120 hq18_v120 hq24_v120 hq25_v120 hq35_v120 hq36_v120 hq38_v120 hq39_v120 ⟨show (0 : Int) ≤ l1_18.toInt by omega, show l1_18.toInt ≤ (1 : Int) by omega⟩ (by show (v120 1).toInt = 0 → FI 1 (v120 10).toInt (v120 14).toInt (v120 8).toInt (f121 6) (f121 2) (f121 3); rw [hs6_f121, hs2_f121, hs3_f121]; intro hz9; first | exact FI.cast hFK (by omega) (by omega) (by omega) | exact FI.cast (hFJ (by omega)) (by omega) (by omega) (by omega) | (exfalso; omega)) (by show 0 < (v120 1).toInt ∨ ((v120 8).toInt + (v120 10).toInt ≤ 10 * (v120 13).toInt ∧ (v120 10).toInt ≤ (v120 14).toInt + (v120 13).toInt ∧ (v120 13).toInt ≤ 30 ∧ (v120 14).toInt ≤ 7); omega) (by show (v 3).toInt ≤ (v120 3).toInt; omega) (by show (v120 5).toInt = (v 5).toInt ∨ (v 3).toInt < (v120 3).toInt ∨ ¬ (v120 5).toInt = 59; omega) (by show (1 + 100 * (31 - (v120 13).toInt) + 2 * (v120 10).toInt + l1_18.toInt - 100000 * (v120 1).toInt).toNat < n18; omega) _ _ _ hP hD hS (lv_sub hl [1, 2] rfl)
            · skip
              subst g103
              refine lv_if_eq (tgt := 99) hx hb dX11_formula_64 (by decide) (fun _ => ?_) (fun c0 => absurd (by decide) c0)
              exact jp99 _ _ _ hP hD hS hl
  exact lp18 _ 1 v10 f11 w12 g13 hIv10 hCf11 hRf11 hq0_v10 hq4_v10 hq9_v10 hq15_v10 hq17_v10 hq18_v10 hq24_v10 hq25_v10 hq35_v10 hq36_v10 hq38_v10 hq39_v10 ⟨by decide, by decide⟩ (by show (v10 1).toInt = 0 → FI 1 (v10 10).toInt (v10 14).toInt (v10 8).toInt (f11 6) (f11 2) (f11 3); intro hz9; exact FI.cast (hFJ (by omega)) (by omega) (by omega) (by omega)) (by show 0 < (v10 1).toInt ∨ ((v10 8).toInt + (v10 10).toInt ≤ 10 * (v10 13).toInt ∧ (v10 10).toInt ≤ (v10 14).toInt + (v10 13).toInt ∧ (v10 13).toInt ≤ 30 ∧ (v10 14).toInt ≤ 7); omega) (by show (v 3).toInt ≤ (v10 3).toInt; omega) (by show (v10 5).toInt = (v 5).toInt ∨ (v 3).toInt < (v10 3).toInt ∨ ¬ (v10 5).toInt = 59; omega) (Nat.lt_succ_self _) _ _ _ hP hD hS (lv_sub hl [0, 1] rfl)
