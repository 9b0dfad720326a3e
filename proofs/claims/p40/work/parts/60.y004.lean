set_option maxHeartbeats 4000000 in
set_option maxRecDepth 100000 in
theorem sY_X11_close_1 (NF : Nat) (l : Launch) (dC : Nat → ClassId) (dI : Nat → Nat → Nat) (cy : Nat → ClassId) (y0 : Nat) (r : Nat → Nat) (p1 : Int32) (v : Nat → Int32) (f : Nat → Nat → Int32) (w : Int64) (g : Nat → Int64) (hIv : YI v) (hCf : YC f) (hRf : progOK (f 4) (f 5) (v 9).toInt.toNat) (hp1 : (0 : Int) ≤ p1.toInt ∧ p1.toInt ≤ 6) (hf0 : (v 8).toInt + (v 10).toInt ≤ 310) (hg0 : FI 1 (v 10).toInt (v 14).toInt (v 8).toInt (f 6) (f 2) (f 3)) : ctV l (dC, dI) cy yX11_close cX11_close 2 2 82 0 0 ((Nat → Int32) × (Nat → Nat → Int32) × (Int64) × (Nat → Int64)) [.ref y0, .int p1] (YW cy y0 r v f w g) (fun u => gsY_X11_close_1 NF p1 v f w g = u ∧ KV [8, 10, 14] u.1 v ∧ KF [2, 3] u.2.1 f ∧ YI u.1 ∧ YC u.2.1 ∧ progOK (u.2.1 4) (u.2.1 5) (u.1 9).toInt.toNat ∧ u.1 0 = v 0 ∧ u.1 1 = v 1 ∧ u.1 2 = v 2 ∧ u.1 3 = v 3 ∧ u.1 4 = v 4 ∧ u.1 5 = v 5 ∧ u.1 9 = v 9 ∧ u.1 13 = v 13 ∧ u.1 15 = v 15 ∧ u.1 17 = v 17 ∧ u.1 18 = v 18 ∧ u.1 24 = v 24 ∧ u.1 25 = v 25 ∧ u.1 35 = v 35 ∧ u.1 36 = v 36 ∧ u.1 38 = v 38 ∧ u.1 39 = v 39 ∧ ((u.1 8).toInt + (u.1 10).toInt = (v 8).toInt + (v 10).toInt) ∧ ((u.1 10).toInt - (u.1 14).toInt ≤ (v 10).toInt - (v 14).toInt) ∧ ((u.1 10).toInt ≤ (v 10).toInt) ∧ ((u.1 14).toInt ≤ (v 14).toInt) ∧ (FI 1 (u.1 10).toInt (u.1 14).toInt (u.1 8).toInt (u.2.1 6) (u.2.1 2) (u.2.1 3)) ∧ (∀ k, k < ((v 10).toInt).toNat → (f 6) k = 20 → k < ((u.1 10).toInt).toNat) ∧ (0 < p1.toInt ∨ (u.1 10).toInt = 0 ∨ (u.2.1 6) ((u.1 10).toInt - 1).toNat = 20) ∧ u.2.1 6 = f 6) (fun u => YW cy y0 r u.1 u.2.1 u.2.2.1 u.2.2.2) := by
  refine ctV_of (by decide) (Nat.le_of_ble_eq_true rfl) (fun p e s m below meth c A ls Q hx hb hml hts hown hnm hE hP hD hA hl ret => ?_)
  have hUv : (v 35).toInt + (v 36).toInt ≤ 40 := hIv.2
  have hM_v : KV [8, 10, 14] v v := fun _ _ => rfl
  have hA_f : KF [2, 3] f f := fun _ _ => rfl
  have hFI := hg0
  have b1_v : (0 : Int) ≤ (v 1).toInt ∧ (v 1).toInt ≤ 4 := YIb.b hIv.1 1 (by decide)
  have b3_v : (0 : Int) ≤ (v 3).toInt ∧ (v 3).toInt ≤ 1600 := YIb.b hIv.1 3 (by decide)
  have b8_v : (0 : Int) ≤ (v 8).toInt ∧ (v 8).toInt ≤ 320 := YIb.b hIv.1 8 (by decide)
  have b10_v : (0 : Int) ≤ (v 10).toInt ∧ (v 10).toInt ≤ 160 := YIb.b hIv.1 10 (by decide)
  have b13_v : (0 : Int) ≤ (v 13).toInt ∧ (v 13).toInt ≤ 31 := YIb.b hIv.1 13 (by decide)
  have b14_v : (0 : Int) ≤ (v 14).toInt ∧ (v 14).toInt ≤ 8 := YIb.b hIv.1 14 (by decide)
  have hown : s.vm.findClass RX11 = some m.cls := hown
  have hS : va_S A s.heap s.heap [] := va_S.rf
  have hl : lv_has ls 2 [(0, .ref y0), (1, .int p1)] := hl
  have lp1 : ∀ (n1 : Nat)  (v1 : Nat → Int32) (f1 : Nat → Nat → Int32) (w1 : Int64) (g1 : Nat → Int64), YI v1 → YC f1 → progOK (f1 4) (f1 5) (v1 9).toInt.toNat → v1 0 = (v 0) → v1 1 = (v 1) → v1 2 = (v 2) → v1 3 = (v 3) → v1 4 = (v 4) → v1 5 = (v 5) → v1 9 = (v 9) → v1 13 = (v 13) → v1 15 = (v 15) → v1 17 = (v 17) → v1 18 = (v 18) → v1 24 = (v 24) → v1 25 = (v 25) → v1 35 = (v 35) → v1 36 = (v 36) → v1 38 = (v 38) → v1 39 = (v 39) → gsY_X11_close_1_L1 NF p1 n1 v1 f1 w1 g1 = (gsY_X11_close_1 NF p1 v f w g) → (FI 1 (v1 10).toInt (v1 14).toInt (v1 8).toInt (f1 6) (f1 2) (f1 3)) → (∀ k, k < ((v 10).toInt).toNat → (f1 6) k = 20 → k < ((v1 10).toInt).toNat) → ((v1 8).toInt + (v1 10).toInt = (v 8).toInt + (v 10).toInt) → ((v1 10).toInt - (v1 14).toInt ≤ (v 10).toInt - (v 14).toInt) → ((v1 10).toInt ≤ (v 10).toInt) → ((v1 14).toInt ≤ (v 14).toInt) → KV [8, 10, 14] v1 v → KF [2, 3] f1 f → f1 6 = (f 6) → ((v1 10).toInt).toNat < n1 → ∀ (H : Heap) (locs : List Loc) (ls : Array Slot), va_P (dC, dI) vwCl (YW cy y0 r v1 f1 w1 g1) H → va_D A (YW cy y0 r v1 f1 w1 g1) → va_S A s.heap H locs → lv_has ls 2 [(0, .ref y0), (1, .int p1)] → W p l e { frames := 2, cells := 0, slots := 0, locals := 82 } s m ([.ref y0, .int p1] : List Value).toArray below meth c H locs 0 0 Q (F0 m 0 ls []) := by
    intro n1
    induction n1 with
    | zero => intro  v1 f1 w1 g1 hIv1 hCf1 hRf1 hq0_v1 hq1_v1 hq2_v1 hq3_v1 hq4_v1 hq5_v1 hq9_v1 hq13_v1 hq15_v1 hq17_v1 hq18_v1 hq24_v1 hq25_v1 hq35_v1 hq36_v1 hq38_v1 hq39_v1 hT1 hx0_1 hx1_1 hx2_1 hx3_1 hx4_1 hx5_1 hM_v1 hA_f1 hs6_f1 hm; exact absurd hm (Nat.not_lt_zero _)
    | succ n1 ih1 =>
      intro  v1 f1 w1 g1 hIv1 hCf1 hRf1 hq0_v1 hq1_v1 hq2_v1 hq3_v1 hq4_v1 hq5_v1 hq9_v1 hq13_v1 hq15_v1 hq17_v1 hq18_v1 hq24_v1 hq25_v1 hq35_v1 hq36_v1 hq38_v1 hq39_v1 hT1 hx0_1 hx1_1 hx2_1 hx3_1 hx4_1 hx5_1 hM_v1 hA_f1 hs6_f1 hm1 H locs ls hP hD hS hl
      have hUv1 : (v1 35).toInt + (v1 36).toInt ≤ 40 := hIv1.2
      have zq1_v1 := congrArg Int32.toInt hq1_v1
      have zq3_v1 := congrArg Int32.toInt hq3_v1
      have zq13_v1 := congrArg Int32.toInt hq13_v1
      have b10_v1 : 0 ≤ (v1 10).toInt ∧ (v1 10).toInt ≤ 160 := YIb.b hIv1.1 10 (by decide)
      have b14_v1 : 0 ≤ (v1 14).toInt ∧ (v1 14).toInt ≤ 8 := YIb.b hIv1.1 14 (by decide)
      have b8_v1 : 0 ≤ (v1 8).toInt ∧ (v1 8).toInt ≤ 320 := YIb.b hIv1.1 8 (by decide)
      rw [hs6_f1] at hx0_1
      rw [hs6_f1] at hx1_1
      have hFI := hx0_1
      have hGK := hx1_1
      refine lv_aload_n hx hb dX11_close_0 rfl (lv_at hl 0 rfl) ?_
      refine va_get (D := (dC, dI)) (ci := 11) (v := .int (v1 10)) (C := RX11) (T := TX11) (N := 79) hx hb hts inB_11 hown hE.1 hP 0 rfl rfl 19 (by decide) (hts _ k_1339) (fun _ h9 => h9) rfl dX11_close_1 ?_
      refine lv_if_le (tgt := 101) hx hb dX11_close_4 (by decide) (fun c2 => ?_) (fun c2 => ?_)
      · skip
        have zc2 : (v1 10).toInt ≤ 0 := by rw [fa_le, show (0 : Int32).toInt = 0 from by decide] at c2; exact c2
        exact ret (v1, f1, w1, g1) _ _ _ _ _ _ ⟨(hT1.symm.trans (gsY_X11_close_1_q0 c2)), hM_v1, hA_f1, hIv1, hCf1, hRf1, (show v1 0 = v 0 from hq0_v1), (show v1 1 = v 1 from hq1_v1), (show v1 2 = v 2 from hq2_v1), (show v1 3 = v 3 from hq3_v1), (show v1 4 = v 4 from hq4_v1), (show v1 5 = v 5 from hq5_v1), (show v1 9 = v 9 from hq9_v1), (show v1 13 = v 13 from hq13_v1), (show v1 15 = v 15 from hq15_v1), (show v1 17 = v 17 from hq17_v1), (show v1 18 = v 18 from hq18_v1), (show v1 24 = v 24 from hq24_v1), (show v1 25 = v 25 from hq25_v1), (show v1 35 = v 35 from hq35_v1), (show v1 36 = v 36 from hq36_v1), (show v1 38 = v 38 from hq38_v1), (show v1 39 = v 39 from hq39_v1), (by show (v1 8).toInt + (v1 10).toInt = (v 8).toInt + (v 10).toInt; omega), (by show (v1 10).toInt - (v1 14).toInt ≤ (v 10).toInt - (v 14).toInt; omega), (by show (v1 10).toInt ≤ (v 10).toInt; omega), (by show (v1 14).toInt ≤ (v 14).toInt; omega), (by show FI 1 (v1 10).toInt (v1 14).toInt (v1 8).toInt (f1 6) (f1 2) (f1 3); rw [hs6_f1]; exact hFI), (by show ∀ k, k < ((v 10).toInt).toNat → (f 6) k = 20 → k < ((v1 10).toInt).toNat; exact hGK), (by show 0 < p1.toInt ∨ (v1 10).toInt = 0 ∨ (f1 6) ((v1 10).toInt - 1).toNat = 20; rw [hs6_f1]; first | exact Or.inl (by omega) | exact Or.inr (Or.inl (by omega)) | exact Or.inr (Or.inr (topEq hO (by omega) (by omega)))), hs6_f1⟩ hP hD hS dX11_close_101 (Nat.le_refl _) (Nat.le_refl _)
      · skip
        have zc2 : ¬ ((v1 10).toInt ≤ 0) := by rw [fa_le, show (0 : Int32).toInt = 0 from by decide] at c2; exact c2
        refine lv_aload_n hx hb dX11_close_7 rfl (lv_at hl 0 rfl) ?_
        refine va_get (D := (dC, dI)) (ci := 11) (v := .ref (r 15)) (C := RX11) (T := TX11) (N := 79) hx hb hts inB_11 hown hE.1 hP 0 rfl rfl 15 (by decide) (hts _ k_1335) (fun _ h9 => h9) rfl dX11_close_8 ?_
        refine lv_aload_n hx hb dX11_close_11 rfl (lv_at hl 0 rfl) ?_
        refine va_get (D := (dC, dI)) (ci := 11) (v := .int (v1 10)) (C := RX11) (T := TX11) (N := 79) hx hb hts inB_11 hown hE.1 hP 0 rfl rfl 19 (by decide) (hts _ k_1339) (fun _ h9 => h9) rfl dX11_close_12 ?_
        refine lv_iconst (v := 1) hx hb dX11_close_15 (by decide) ?_
        refine lv_isub hx hb dX11_close_16 ?_
        refine lv_topi (fun t3 et3 => ?_)
        have rg4 := fb_rng (v1 10)
        have zt3 : t3.toInt = (v1 10).toInt - 1 := by rw [et3]; exact sub_i rfl (by decide) (by omega) (by omega)
        refine ldI hx hb hE hP 7 rfl (vp_in_iff.mpr ⟨by omega, by omega⟩) rfl rfl dX11_close_17 ?_
        refine lv_topi (fun t5 et5 => ?_)
        have hO : (f 6) t3.toInt.toNat = t5 := by rw [et5, hs6_f1]; rfl
        refine lv_bipush (v := 20) hx hb dX11_close_18 (by decide) ?_
        refine lv_icmp_eq (tgt := 101) hx hb dX11_close_20 (by decide) (fun c6 => ?_) (fun c6 => ?_)
        · skip
          have zc6 : t5.toInt = 20 := by rw [fa_eq, show (20 : Int32).toInt = 20 from by decide] at c6; exact c6
          exact ret (v1, f1, w1, g1) _ _ _ _ _ _ ⟨(hT1.symm.trans (gsY_X11_close_1_q1 c2 et3 et5 c6)), hM_v1, hA_f1, hIv1, hCf1, hRf1, (show v1 0 = v 0 from hq0_v1), (show v1 1 = v 1 from hq1_v1), (show v1 2 = v 2 from hq2_v1), (show v1 3 = v 3 from hq3_v1), (show v1 4 = v 4 from hq4_v1), (show v1 5 = v 5 from hq5_v1), (show v1 9 = v 9 from hq9_v1), (show v1 13 = v 13 from hq13_v1), (show v1 15 = v 15 from hq15_v1), (show v1 17 = v 17 from hq17_v1), (show v1 18 = v 18 from hq18_v1), (show v1 24 = v 24 from hq24_v1), (show v1 25 = v 25 from hq25_v1), (show v1 35 = v 35 from hq35_v1), (show v1 36 = v 36 from hq36_v1), (show v1 38 = v 38 from hq38_v1), (show v1 39 = v 39 from hq39_v1), (by show (v1 8).toInt + (v1 10).toInt = (v 8).toInt + (v 10).toInt; omega), (by show (v1 10).toInt - (v1 14).toInt ≤ (v 10).toInt - (v 14).toInt; omega), (by show (v1 10).toInt ≤ (v 10).toInt; omega), (by show (v1 14).toInt ≤ (v 14).toInt; omega), (by show FI 1 (v1 10).toInt (v1 14).toInt (v1 8).toInt (f1 6) (f1 2) (f1 3); rw [hs6_f1]; exact hFI), (by show ∀ k, k < ((v 10).toInt).toNat → (f 6) k = 20 → k < ((v1 10).toInt).toNat; exact hGK), (by show 0 < p1.toInt ∨ (v1 10).toInt = 0 ∨ (f1 6) ((v1 10).toInt - 1).toNat = 20; rw [hs6_f1]; first | exact Or.inl (by omega) | exact Or.inr (Or.inl (by omega)) | exact Or.inr (Or.inr (topEq hO (by omega) (by omega)))), hs6_f1⟩ hP hD hS dX11_close_101 (Nat.le_refl _) (Nat.le_refl _)
        · skip
          have zc6 : ¬ (t5.toInt = 20) := by rw [fa_eq, show (20 : Int32).toInt = 20 from by decide] at c6; exact c6
          refine lv_aload_n hx hb dX11_close_23 rfl (lv_at hl 0 rfl) ?_
          refine va_get (D := (dC, dI)) (ci := 11) (v := .ref (r 15)) (C := RX11) (T := TX11) (N := 79) hx hb hts inB_11 hown hE.1 hP 0 rfl rfl 15 (by decide) (hts _ k_1335) (fun _ h9 => h9) rfl dX11_close_24 ?_
          refine lv_aload_n hx hb dX11_close_27 rfl (lv_at hl 0 rfl) ?_
          refine va_get (D := (dC, dI)) (ci := 11) (v := .int (v1 10)) (C := RX11) (T := TX11) (N := 79) hx hb hts inB_11 hown hE.1 hP 0 rfl rfl 19 (by decide) (hts _ k_1339) (fun _ h9 => h9) rfl dX11_close_28 ?_
          refine lv_iconst (v := 1) hx hb dX11_close_31 (by decide) ?_
          refine lv_isub hx hb dX11_close_32 ?_
          refine tI (y := t3) et3.symm ?_
          refine ldI hx hb hE hP 7 rfl (vp_in_iff.mpr ⟨by omega, by omega⟩) rfl rfl dX11_close_33 ?_
          refine tI (y := t5) et5.symm ?_
          refine cbSi (n := 1) (rest := []) hx hb hml hown hts hE hP hD hS hA (sY_X11_tight_1 NF l dC dI cy y0 r t5 v1 f1 w1 g1 hIv1 hCf1 hRf1 ) k_1677 k_1678 k_114 k_1679 (by decide +kernel) ⟨Nat.le_of_ble_eq_true rfl, Nat.le_of_ble_eq_true rfl⟩ (rfl) hl.1 rfl (Nat.le_of_ble_eq_true rfl) dX11_close_34 (fun r7 u H locs hw hP hD hS => ?_)
          obtain ⟨hG8, hw⟩ := hw
          refine lv_iload_n hx hb dX11_close_37 rfl (lv_at hl 1 rfl) ?_
          refine lv_icmp_lt (tgt := 101) hx hb dX11_close_38 (by decide) (fun c9 => ?_) (fun c9 => ?_)
          · skip
            have zc9 : r7.toInt < p1.toInt := by rw [fa_lt] at c9; exact c9
            have rg10 := fb_rng r7
            have rg11 := fb_rng p1
            exact ret (v1, f1, w1, g1) _ _ _ _ _ _ ⟨(hT1.symm.trans (gsY_X11_close_1_q2 c2 et3 et5 c6 hG8.symm c9)), hM_v1, hA_f1, hIv1, hCf1, hRf1, (show v1 0 = v 0 from hq0_v1), (show v1 1 = v 1 from hq1_v1), (show v1 2 = v 2 from hq2_v1), (show v1 3 = v 3 from hq3_v1), (show v1 4 = v 4 from hq4_v1), (show v1 5 = v 5 from hq5_v1), (show v1 9 = v 9 from hq9_v1), (show v1 13 = v 13 from hq13_v1), (show v1 15 = v 15 from hq15_v1), (show v1 17 = v 17 from hq17_v1), (show v1 18 = v 18 from hq18_v1), (show v1 24 = v 24 from hq24_v1), (show v1 25 = v 25 from hq25_v1), (show v1 35 = v 35 from hq35_v1), (show v1 36 = v 36 from hq36_v1), (show v1 38 = v 38 from hq38_v1), (show v1 39 = v 39 from hq39_v1), (by show (v1 8).toInt + (v1 10).toInt = (v 8).toInt + (v 10).toInt; omega), (by show (v1 10).toInt - (v1 14).toInt ≤ (v 10).toInt - (v 14).toInt; omega), (by show (v1 10).toInt ≤ (v 10).toInt; omega), (by show (v1 14).toInt ≤ (v 14).toInt; omega), (by show FI 1 (v1 10).toInt (v1 14).toInt (v1 8).toInt (f1 6) (f1 2) (f1 3); rw [hs6_f1]; exact hFI), (by show ∀ k, k < ((v 10).toInt).toNat → (f 6) k = 20 → k < ((v1 10).toInt).toNat; exact hGK), (by show 0 < p1.toInt ∨ (v1 10).toInt = 0 ∨ (f1 6) ((v1 10).toInt - 1).toNat = 20; rw [hs6_f1]; first | exact Or.inl (by omega) | exact Or.inr (Or.inl (by omega)) | exact Or.inr (Or.inr (topEq hO (by omega) (by omega)))), hs6_f1⟩ hP hD hS dX11_close_101 (Nat.le_refl _) (Nat.le_refl _)
          · skip
            have zc9 : ¬ (r7.toInt < p1.toInt) := by rw [fa_lt] at c9; exact c9
            have rg12 := fb_rng r7
            have rg13 := fb_rng p1
            refine lv_aload_n hx hb dX11_close_41 rfl (lv_at hl 0 rfl) ?_
            refine lv_dup hx hb dX11_close_42 rfl ?_
            refine va_get (D := (dC, dI)) (ci := 11) (v := .int (v1 10)) (C := RX11) (T := TX11) (N := 79) hx hb hts inB_11 hown hE.1 hP 0 rfl rfl 19 (by decide) (hts _ k_1339) (fun _ h9 => h9) rfl dX11_close_43 ?_
            refine lv_iconst (v := 1) hx hb dX11_close_46 (by decide) ?_
            refine lv_isub hx hb dX11_close_47 ?_
            refine tI (y := t3) et3.symm ?_
            refine va_put (D := (dC, dI)) (ci := 11) (v := .int t3) (ty := tyX11 19) (C := RX11) (T := TX11) (N := 79) hx hb hts inB_11 tyX11 tyX11_ok nmX11 hown hE.1 hP hD hS 0 rfl rfl 19 (by decide) (hts _ k_1339) (fun _ h9 => h9) rfl (tyX11_ok 19 (by decide)) rfl rfl (Nat.le_of_ble_eq_true rfl) dX11_close_48 (fun H locs hP hD hS => ?_)
            have hP : va_P (dC, dI) vwCl (YW cy y0 r (upd v1 10 t3) f1 w1 g1) H := hP
            have hD : va_D A (YW cy y0 r (upd v1 10 t3) f1 w1 g1) := hD
            refine lv_aload_n hx hb dX11_close_51 rfl (lv_at hl 0 rfl) ?_
            refine va_get (D := (dC, dI)) (ci := 11) (v := .ref (r 15)) (C := RX11) (T := TX11) (N := 79) hx hb hts inB_11 hown hE.1 hP 0 rfl rfl 15 (by decide) (hts _ k_1335) (fun _ h9 => h9) rfl dX11_close_52 ?_
            refine lv_aload_n hx hb dX11_close_55 rfl (lv_at hl 0 rfl) ?_
            refine va_get (D := (dC, dI)) (ci := 11) (v := .int t3) (C := RX11) (T := TX11) (N := 79) hx hb hts inB_11 hown hE.1 hP 0 rfl rfl 19 (by decide) (hts _ k_1339) (fun _ h9 => h9) rfl dX11_close_56 ?_
            refine ldI hx hb hE hP 7 rfl (vp_in_iff.mpr ⟨by omega, by omega⟩) rfl rfl dX11_close_59 ?_
            refine tI (y := t5) et5.symm ?_
            refine lv_bipush (v := 21) hx hb dX11_close_60 (by decide) ?_
            refine lv_icmp_ne (tgt := 84) hx hb dX11_close_62 (by decide) (fun c14 => ?_) (fun c14 => ?_)
            · skip
              have zc14 : ¬ (t5.toInt = 21) := by rw [fa_eq, show (21 : Int32).toInt = 21 from by decide] at c14; exact c14
              refine lv_aload_n hx hb dX11_close_84 rfl (lv_at hl 0 rfl) ?_
              refine lv_iconst (v := 3) hx hb dX11_close_85 (by decide) ?_
              refine lv_aload_n hx hb dX11_close_86 rfl (lv_at hl 0 rfl) ?_
              refine va_get (D := (dC, dI)) (ci := 11) (v := .ref (r 15)) (C := RX11) (T := TX11) (N := 79) hx hb hts inB_11 hown hE.1 hP 0 rfl rfl 15 (by decide) (hts _ k_1335) (fun _ h9 => h9) rfl dX11_close_87 ?_
              refine lv_aload_n hx hb dX11_close_90 rfl (lv_at hl 0 rfl) ?_
              refine va_get (D := (dC, dI)) (ci := 11) (v := .int t3) (C := RX11) (T := TX11) (N := 79) hx hb hts inB_11 hown hE.1 hP 0 rfl rfl 19 (by decide) (hts _ k_1339) (fun _ h9 => h9) rfl dX11_close_91 ?_
              refine ldI hx hb hE hP 7 rfl (vp_in_iff.mpr ⟨by omega, by omega⟩) rfl rfl dX11_close_94 ?_
              refine tI (y := t5) et5.symm ?_
              refine cbVv (n := 2) (rest := []) hx hb hml hown hts hE hP hD hS hA (sY_X11_add_1 NF l dC dI cy y0 r 3 t5 (upd v1 10 t3) f1 w1 g1 ⟨(YIb.upd (j := 10) (x := t3) hIv1.1 (show (0 : Int) ≤ t3.toInt by omega) (show t3.toInt ≤ (160 : Int) by omega)), hIv1.2⟩ hCf1 hRf1 (by have q1 : (3 : Int32).toInt = 3 := (by decide); show (v1 8).toInt ≤ 319; omega)) k_1696 k_1698 k_63 k_114 k_1699 (by decide +kernel) ⟨Nat.le_of_ble_eq_true rfl, Nat.le_of_ble_eq_true rfl⟩ 0 11 rfl rfl (rfl) hl.1 rfl (Nat.le_of_ble_eq_true rfl) dX11_close_95 (fun u H locs hw hP hD hS => ?_)
              obtain ⟨hG15, hw⟩ := hw
              obtain ⟨v16, f17, w18, g19⟩ := u
              obtain ⟨kV_v16, kF_f17, hIv16, hCf17, hRf17, hk0_v16, hk1_v16, hk2_v16, hk3_v16, hk4_v16, hk5_v16, hk9_v16, hk10_v16, hk13_v16, hk14_v16, hk15_v16, hk17_v16, hk18_v16, hk24_v16, hk25_v16, hk35_v16, hk36_v16, hk38_v16, hk39_v16, pv20, pg21, pg22, kq23⟩ := hw
              have hM_v16 : KV [8, 10, 14] v16 v := KV.tr kV_v16 (KV.up (j := 10) (x := t3) hM_v1 rfl) rfl
              have hA_f17 : KF [2, 3] f17 f := KF.tr kF_f17 hA_f1 rfl
              have hP : va_P (dC, dI) vwCl (YW cy y0 r v16 f17 w18 g19) H := hP
              have hD : va_D A (YW cy y0 r v16 f17 w18 g19) := hD
              have b8_v16 : 0 ≤ (v16 8).toInt ∧ (v16 8).toInt ≤ 320 := YIb.b hIv16.1 8 (by decide)
              have pv20 : (v16 8).toInt = (v1 8).toInt + 1 := pv20
              have pg21 : (f17 2) = upd (f1 2) ((v1 8).toInt).toNat 3 := pg21
              have pg22 : (f17 3) = upd (f1 3) ((v1 8).toInt).toNat t5 := pg22
              have hs6_f17 : f17 6 = (f 6) := kq23.trans hs6_f1
              have hUv16 : (v16 35).toInt + (v16 36).toInt ≤ 40 := hIv16.2
              have hq0_v16 : v16 0 = (v 0) := hk0_v16.trans hq0_v1
              have hq1_v16 : v16 1 = (v 1) := hk1_v16.trans hq1_v1
              have zq1_v16 := congrArg Int32.toInt hq1_v16
              have hq2_v16 : v16 2 = (v 2) := hk2_v16.trans hq2_v1
              have hq3_v16 : v16 3 = (v 3) := hk3_v16.trans hq3_v1
              have zq3_v16 := congrArg Int32.toInt hq3_v16
              have hq4_v16 : v16 4 = (v 4) := hk4_v16.trans hq4_v1
              have hq5_v16 : v16 5 = (v 5) := hk5_v16.trans hq5_v1
              have hq9_v16 : v16 9 = (v 9) := hk9_v16.trans hq9_v1
              have hq10_v16 : v16 10 = t3 := hk10_v16
              have zq10_v16 := congrArg Int32.toInt hq10_v16
              have hq13_v16 : v16 13 = (v 13) := hk13_v16.trans hq13_v1
              have zq13_v16 := congrArg Int32.toInt hq13_v16
              have hq14_v16 : v16 14 = (v1 14) := hk14_v16
              have zq14_v16 := congrArg Int32.toInt hq14_v16
              have hq15_v16 : v16 15 = (v 15) := hk15_v16.trans hq15_v1
              have hq17_v16 : v16 17 = (v 17) := hk17_v16.trans hq17_v1
              have hq18_v16 : v16 18 = (v 18) := hk18_v16.trans hq18_v1
              have hq24_v16 : v16 24 = (v 24) := hk24_v16.trans hq24_v1
              have hq25_v16 : v16 25 = (v 25) := hk25_v16.trans hq25_v1
              have hq35_v16 : v16 35 = (v 35) := hk35_v16.trans hq35_v1
              have hq36_v16 : v16 36 = (v 36) := hk36_v16.trans hq36_v1
              have hq38_v16 : v16 38 = (v 38) := hk38_v16.trans hq38_v1
              have hq39_v16 : v16 39 = (v 39) := hk39_v16.trans hq39_v1
              have hAS := pg21
              have hAA := pg22
              refine lv_goto (tgt := 0) hx hb dX11_close_98 (by decide) ?_
              exact ih1  v16 f17 w18 g19 hIv16 hCf17 hRf17 hq0_v16 hq1_v16 hq2_v16 hq3_v16 hq4_v16 hq5_v16 hq9_v16 hq13_v16 hq15_v16 hq17_v16 hq18_v16 hq24_v16 hq25_v16 hq35_v16 hq36_v16 hq38_v16 hq39_v16 ((gsY_X11_close_1_q3 c2 et3 et5 c6 hG8.symm c9 c14 hG15).symm.trans hT1) (by show FI 1 (v16 10).toInt (v16 14).toInt (v16 8).toInt (f17 6) (f17 2) (f17 3); rw [hs6_f17]; exact FI.dos hFI hO (by omega) (by omega) (by omega) hAS hAA (by omega) (by first | with_reducible rfl | with_reducible assumption | rfl | omega) (by first | with_reducible rfl | with_reducible assumption | rfl | omega) (by first | with_reducible rfl | with_reducible assumption | rfl | omega)) (by show ∀ k, k < ((v 10).toInt).toNat → (f17 6) k = 20 → k < ((v16 10).toInt).toNat; rw [hs6_f17]; exact gk_pop hGK hO (by omega) (by omega) (by omega)) (by show (v16 8).toInt + (v16 10).toInt = (v 8).toInt + (v 10).toInt; omega) (by show (v16 10).toInt - (v16 14).toInt ≤ (v 10).toInt - (v 14).toInt; omega) (by show (v16 10).toInt ≤ (v 10).toInt; omega) (by show (v16 14).toInt ≤ (v 14).toInt; omega) hM_v16 hA_f17 hs6_f17 (by show ((v16 10).toInt).toNat < n1; omega) _ _ _ hP hD hS (lv_sub hl [0, 1] rfl)
            · skip
              have zc14 : t5.toInt = 21 := by rw [fa_eq, show (21 : Int32).toInt = 21 from by decide] at c14; exact c14
              refine lv_aload_n hx hb dX11_close_65 rfl (lv_at hl 0 rfl) ?_
              refine lv_iconst (v := 2) hx hb dX11_close_66 (by decide) ?_
              refine lv_iconst (v := 0) hx hb dX11_close_67 (by decide) ?_
              refine cbVv (n := 2) (rest := []) hx hb hml hown hts hE hP hD hS hA (sY_X11_add_1 NF l dC dI cy y0 r 2 0 (upd v1 10 t3) f1 w1 g1 ⟨(YIb.upd (j := 10) (x := t3) hIv1.1 (show (0 : Int) ≤ t3.toInt by omega) (show t3.toInt ≤ (160 : Int) by omega)), hIv1.2⟩ hCf1 hRf1 (by have q1 : (2 : Int32).toInt = 2 := (by decide); have q2 : (0 : Int32).toInt = 0 := (by decide); show (v1 8).toInt ≤ 319; omega)) k_1696 k_1698 k_63 k_114 k_1699 (by decide +kernel) ⟨Nat.le_of_ble_eq_true rfl, Nat.le_of_ble_eq_true rfl⟩ 0 11 rfl rfl (rfl) hl.1 rfl (Nat.le_of_ble_eq_true rfl) dX11_close_68 (fun u H locs hw hP hD hS => ?_)
              obtain ⟨hG24, hw⟩ := hw
              obtain ⟨v25, f26, w27, g28⟩ := u
              obtain ⟨kV_v25, kF_f26, hIv25, hCf26, hRf26, hk0_v25, hk1_v25, hk2_v25, hk3_v25, hk4_v25, hk5_v25, hk9_v25, hk10_v25, hk13_v25, hk14_v25, hk15_v25, hk17_v25, hk18_v25, hk24_v25, hk25_v25, hk35_v25, hk36_v25, hk38_v25, hk39_v25, pv29, pg30, pg31, kq32⟩ := hw
              have hM_v25 : KV [8, 10, 14] v25 v := KV.tr kV_v25 (KV.up (j := 10) (x := t3) hM_v1 rfl) rfl
              have hA_f26 : KF [2, 3] f26 f := KF.tr kF_f26 hA_f1 rfl
              have hP : va_P (dC, dI) vwCl (YW cy y0 r v25 f26 w27 g28) H := hP
              have hD : va_D A (YW cy y0 r v25 f26 w27 g28) := hD
              have b8_v25 : 0 ≤ (v25 8).toInt ∧ (v25 8).toInt ≤ 320 := YIb.b hIv25.1 8 (by decide)
              have pv29 : (v25 8).toInt = (v1 8).toInt + 1 := pv29
              have pg30 : (f26 2) = upd (f1 2) ((v1 8).toInt).toNat 2 := pg30
              have pg31 : (f26 3) = upd (f1 3) ((v1 8).toInt).toNat 0 := pg31
              have hs6_f26 : f26 6 = (f 6) := kq32.trans hs6_f1
              have hUv25 : (v25 35).toInt + (v25 36).toInt ≤ 40 := hIv25.2
              have hq0_v25 : v25 0 = (v 0) := hk0_v25.trans hq0_v1
              have hq1_v25 : v25 1 = (v 1) := hk1_v25.trans hq1_v1
              have zq1_v25 := congrArg Int32.toInt hq1_v25
              have hq2_v25 : v25 2 = (v 2) := hk2_v25.trans hq2_v1
              have hq3_v25 : v25 3 = (v 3) := hk3_v25.trans hq3_v1
              have zq3_v25 := congrArg Int32.toInt hq3_v25
              have hq4_v25 : v25 4 = (v 4) := hk4_v25.trans hq4_v1
              have hq5_v25 : v25 5 = (v 5) := hk5_v25.trans hq5_v1
              have hq9_v25 : v25 9 = (v 9) := hk9_v25.trans hq9_v1
              have hq10_v25 : v25 10 = t3 := hk10_v25
              have zq10_v25 := congrArg Int32.toInt hq10_v25
              have hq13_v25 : v25 13 = (v 13) := hk13_v25.trans hq13_v1
              have zq13_v25 := congrArg Int32.toInt hq13_v25
              have hq14_v25 : v25 14 = (v1 14) := hk14_v25
              have zq14_v25 := congrArg Int32.toInt hq14_v25
              have hq15_v25 : v25 15 = (v 15) := hk15_v25.trans hq15_v1
              have hq17_v25 : v25 17 = (v 17) := hk17_v25.trans hq17_v1
              have hq18_v25 : v25 18 = (v 18) := hk18_v25.trans hq18_v1
              have hq24_v25 : v25 24 = (v 24) := hk24_v25.trans hq24_v1
              have hq25_v25 : v25 25 = (v 25) := hk25_v25.trans hq25_v1
              have hq35_v25 : v25 35 = (v 35) := hk35_v25.trans hq35_v1
              have hq36_v25 : v25 36 = (v 36) := hk36_v25.trans hq36_v1
              have hq38_v25 : v25 38 = (v 38) := hk38_v25.trans hq38_v1
              have hq39_v25 : v25 39 = (v 39) := hk39_v25.trans hq39_v1
              have hAS := pg30
              have hAA := pg31
              have hdn := FI.topd hFI hO (by omega) (by omega)
              refine lv_aload_n hx hb dX11_close_71 rfl (lv_at hl 0 rfl) ?_
              refine lv_dup hx hb dX11_close_72 rfl ?_
              refine va_get (D := (dC, dI)) (ci := 11) (v := .int (v25 14)) (C := RX11) (T := TX11) (N := 79) hx hb hts inB_11 hown hE.1 hP 0 rfl rfl 23 (by decide) (hts _ k_1343) (fun _ h9 => h9) rfl dX11_close_73 ?_
              refine tI (y := (v1 14)) hq14_v25 ?_
              have b14_v1 : 0 ≤ (v1 14).toInt ∧ (v1 14).toInt ≤ 8 := YIb.b hIv1.1 14 (by decide)
              refine lv_iconst (v := 1) hx hb dX11_close_76 (by decide) ?_
              refine lv_isub hx hb dX11_close_77 ?_
              refine lv_topi (fun t33 et33 => ?_)
              have rg34 := fb_rng (v1 14)
              have zt33 : t33.toInt = (v1 14).toInt - 1 := by rw [et33]; exact sub_i rfl (by decide) (by omega) (by omega)
              refine va_put (D := (dC, dI)) (ci := 11) (v := .int t33) (ty := tyX11 23) (C := RX11) (T := TX11) (N := 79) hx hb hts inB_11 tyX11 tyX11_ok nmX11 hown hE.1 hP hD hS 0 rfl rfl 23 (by decide) (hts _ k_1343) (fun _ h9 => h9) rfl (tyX11_ok 23 (by decide)) rfl rfl (Nat.le_of_ble_eq_true rfl) dX11_close_78 (fun H locs hP hD hS => ?_)
              have hP : va_P (dC, dI) vwCl (YW cy y0 r (upd v25 14 t33) f26 w27 g28) H := hP
              have hD : va_D A (YW cy y0 r (upd v25 14 t33) f26 w27 g28) := hD
              refine lv_goto (tgt := 0) hx hb dX11_close_81 (by decide) ?_
              exact ih1  (upd v25 14 t33) f26 w27 g28 ⟨(YIb.upd (j := 14) (x := t33) hIv25.1 (show (0 : Int) ≤ t33.toInt by omega) (show t33.toInt ≤ (8 : Int) by omega)), hIv25.2⟩ hCf26 hRf26 hq0_v25 hq1_v25 hq2_v25 hq3_v25 hq4_v25 hq5_v25 hq9_v25 hq13_v25 hq15_v25 hq17_v25 hq18_v25 hq24_v25 hq25_v25 hq35_v25 hq36_v25 hq38_v25 hq39_v25 ((gsY_X11_close_1_q4 c2 et3 et5 c6 hG8.symm c9 c14 hG24 et33).symm.trans hT1) (by show FI 1 (v25 10).toInt t33.toInt (v25 8).toInt (f26 6) (f26 2) (f26 3); rw [hs6_f26]; exact FI.not hFI hO (by omega) (by omega) hAS hAA (by omega) (by first | with_reducible rfl | with_reducible assumption | rfl | omega) (by first | with_reducible rfl | with_reducible assumption | rfl | omega) (by first | with_reducible rfl | with_reducible assumption | rfl | omega)) (by show ∀ k, k < ((v 10).toInt).toNat → (f26 6) k = 20 → k < ((v25 10).toInt).toNat; rw [hs6_f26]; exact gk_pop hGK hO (by omega) (by omega) (by omega)) (by show (v25 8).toInt + (v25 10).toInt = (v 8).toInt + (v 10).toInt; omega) (by show (v25 10).toInt - t33.toInt ≤ (v 10).toInt - (v 14).toInt; omega) (by show (v25 10).toInt ≤ (v 10).toInt; omega) (by show t33.toInt ≤ (v 14).toInt; omega) (KV.up (j := 14) (x := t33) hM_v25 rfl) hA_f26 hs6_f26 (by show ((v25 10).toInt).toNat < n1; omega) _ _ _ hP hD hS (lv_sub hl [0, 1] rfl)
  exact lp1 (4294967296 + NF)  v f w g hIv hCf hRf rfl rfl rfl rfl rfl rfl rfl rfl rfl rfl rfl rfl rfl rfl rfl rfl rfl gsY_X11_close_1_q5.symm (by show FI 1 (v 10).toInt (v 14).toInt (v 8).toInt (f 6) (f 2) (f 3); exact hFI) (by show ∀ k, k < ((v 10).toInt).toNat → (f 6) k = 20 → k < ((v 10).toInt).toNat; exact fun k h1 h2 => h1) (by show (v 8).toInt + (v 10).toInt = (v 8).toInt + (v 10).toInt; omega) (by show (v 10).toInt - (v 14).toInt ≤ (v 10).toInt - (v 14).toInt; omega) (by show (v 10).toInt ≤ (v 10).toInt; omega) (by show (v 14).toInt ≤ (v 14).toInt; omega) hM_v hA_f rfl (by have qr0 := fb_rng (v 10); show ((v 10).toInt).toNat < 4294967296 + NF; omega) _ _ _ hP hD hS (lv_sub hl [0, 1] rfl)
set_option maxHeartbeats 4000000 in
set_option maxRecDepth 100000 in
theorem sY_X11_hasBracket_1 (NF : Nat) (l : Launch) (dC : Nat → ClassId) (dI : Nat → Nat → Nat) (cy : Nat → ClassId) (y0 : Nat) (r : Nat → Nat)  (v : Nat → Int32) (f : Nat → Nat → Int32) (w : Int64) (g : Nat → Int64) (hIv : YI v) (hCf : YC f) (hRf : progOK (f 4) (f 5) (v 9).toInt.toNat)  : ctI l (dC, dI) cy yX11_hasBracket cX11_hasBracket 3 .boolean 1 60 0 0 Unit [.ref y0] (YW cy y0 r v f w g) (fun r u => gsY_X11_hasBracket_1 NF v f w g = r ∧ ((r = 1 ∧ ∃ k, k < ((v 10).toInt).toNat ∧ f 6 k = 20) ∨ (r = 0))) (fun u => YW cy y0 r v f w g) := by
  refine ctI_of (by decide) (Nat.le_of_ble_eq_true rfl) (fun p e s m below meth c A ls Q hx hb hml hts hown hE hP hD hA hl ret => ?_)
  have hUv : (v 35).toInt + (v 36).toInt ≤ 40 := hIv.2
  have hown : s.vm.findClass RX11 = some m.cls := hown
  have hS : va_S A s.heap s.heap [] := va_S.rf
  have hl : lv_has ls 3 [(0, .ref y0)] := hl
  refine lv_iconst (v := 0) hx hb dX11_hasBracket_0 (by decide) ?_
  refine lv_istore_n (lv' := [(1, .int 0), (0, .ref y0)]) hx hb dX11_hasBracket_1 rfl hl (by decide) rfl (fun ls hl => ?_)
  refine lv_iconst (v := 0) hx hb dX11_hasBracket_2 (by decide) ?_
  refine lv_istore_n (lv' := [(2, .int 0), (1, .int 0), (0, .ref y0)]) hx hb dX11_hasBracket_3 rfl hl (by decide) rfl (fun ls hl => ?_)
  have lp1 : ∀ (n1 : Nat) (l1_1 : Int32) (l2_1 : Int32), gsY_X11_hasBracket_1_L1 NF v f n1 l1_1 l2_1 = (gsY_X11_hasBracket_1 NF v f w g) → ((0 : Int) ≤ l1_1.toInt ∧ l1_1.toInt ≤ 1) → ((0 : Int) ≤ l2_1.toInt ∧ l2_1.toInt ≤ 2147483647) → (HBx l1_1.toInt (v 10).toInt (f 6)) → (2147483647 - l2_1.toInt).toNat < n1 → ∀ (H : Heap) (locs : List Loc) (ls : Array Slot), va_P (dC, dI) vwCl (YW cy y0 r v f w g) H → va_D A (YW cy y0 r v f w g) → va_S A s.heap H locs → lv_has ls 3 [(2, .int l2_1), (1, .int l1_1), (0, .ref y0)] → W p l e { frames := 1, cells := 0, slots := 0, locals := 60 } s m ([.ref y0] : List Value).toArray below meth c H locs 0 0 Q (F0 m 4 ls []) := by
    intro n1
    induction n1 with
    | zero => intro l1_1 l2_1 hT1 hr1_1 hr2_1 hx0_1 hm; exact absurd hm (Nat.not_lt_zero _)
    | succ n1 ih1 =>
      intro l1_1 l2_1 hT1 hr1_1 hr2_1 hx0_1 hm1 H locs ls hP hD hS hl
      have b10_v : 0 ≤ (v 10).toInt ∧ (v 10).toInt ≤ 160 := YIb.b hIv.1 10 (by decide)
      have hHB := hx0_1
      refine lv_iload_n hx hb dX11_hasBracket_4 rfl (lv_at hl 0 rfl) ?_
      refine lv_aload_n hx hb dX11_hasBracket_5 rfl (lv_at hl 2 rfl) ?_
      refine va_get (D := (dC, dI)) (ci := 11) (v := .int (v 10)) (C := RX11) (T := TX11) (N := 79) hx hb hts inB_11 hown hE.1 hP 0 rfl rfl 19 (by decide) (hts _ k_1339) (fun _ h9 => h9) rfl dX11_hasBracket_6 ?_
      refine lv_icmp_ge (tgt := 39) hx hb dX11_hasBracket_9 (by decide) (fun c2 => ?_) (fun c2 => ?_)
      · skip
        have zc2 : (v 10).toInt ≤ l2_1.toInt := by rw [fa_le] at c2; exact c2
        have rg3 := fb_rng l2_1
        have rg4 := fb_rng (v 10)
        refine lv_iload_n hx hb dX11_hasBracket_39 rfl (lv_at hl 1 rfl) ?_
        rcases b01 (x := l1_1) (by omega) (by omega) with h5 | h5
        · skip
          refine tI (y := 1) h5 ?_
          have hb1 : l1_1.toInt = 1 := by rw [h5]; decide
          exact ret 1 () _ _ _ _ _ _ rfl ⟨(hT1.symm.trans ((gsY_X11_hasBracket_1_q0 c2).trans h5)), (Or.inl ⟨rfl, by exact hHB (by omega)⟩)⟩ hP hD hS dX11_hasBracket_40 (Nat.le_refl _) (Nat.le_refl _)
        · skip
          refine tI (y := 0) h5 ?_
          have hb1 : l1_1.toInt = 0 := by rw [h5]; decide
          exact ret 0 () _ _ _ _ _ _ rfl ⟨(hT1.symm.trans ((gsY_X11_hasBracket_1_q0 c2).trans h5)), (Or.inr rfl)⟩ hP hD hS dX11_hasBracket_40 (Nat.le_refl _) (Nat.le_refl _)
      · skip
        have zc2 : ¬ ((v 10).toInt ≤ l2_1.toInt) := by rw [fa_le] at c2; exact c2
        have rg6 := fb_rng l2_1
        have rg7 := fb_rng (v 10)
        refine lv_iload_n hx hb dX11_hasBracket_12 rfl (lv_at hl 1 rfl) ?_
        refine lv_if_ne (tgt := 27) hx hb dX11_hasBracket_13 (by decide) (fun c8 => ?_) (fun c8 => ?_)
        · skip
          have zc8 : ¬ (l1_1.toInt = 0) := by rw [fa_eq, show (0 : Int32).toInt = 0 from by decide] at c8; exact c8
          refine lv_iconst (v := 1) hx hb dX11_hasBracket_27 (by decide) ?_
          refine lv_goto (tgt := 32) hx hb dX11_hasBracket_28 (by decide) ?_
          refine lv_istore_n (lv' := [(1, .int 1), (2, .int l2_1), (0, .ref y0)]) hx hb dX11_hasBracket_32 rfl hl (by decide) rfl (fun ls hl => ?_)
          obtain ⟨t9, et9⟩ : ∃ y : Int32, y = l2_1 + 1 := ⟨_, rfl⟩
          have zt9 : t9.toInt = l2_1.toInt + 1 := by rw [et9]; exact add_i rfl (by decide) (by omega) (by omega)
          refine lv_iinc (v := t9) (lv' := [(2, .int t9), (1, .int 1), (0, .ref y0)]) hx hb dX11_hasBracket_33 hl (k := 1) rfl (by rw [et9]; rfl) (by decide) rfl (fun ls hl => ?_)
          refine lv_goto (tgt := 4) hx hb dX11_hasBracket_36 (by decide) ?_
          have rg10 := fb_rng t9
          exact ih1 1 t9 ((gsY_X11_hasBracket_1_q1 c2 c8 et9).symm.trans hT1) ⟨by decide, by decide⟩ ⟨show (0 : Int) ≤ t9.toInt by omega, show t9.toInt ≤ (2147483647 : Int) by omega⟩ (by show HBx (1 : Int32).toInt (v 10).toInt (f 6); first | exact fun h => absurd h (by decide) | exact fun _ => hHB (by omega) | exact fun _ => ⟨_, by omega, i_eq hO (by omega)⟩) (by show (2147483647 - t9.toInt).toNat < n1; omega) _ _ _ hP hD hS (lv_sub hl [0, 1, 2] rfl)
        · skip
          have zc8 : l1_1.toInt = 0 := by rw [fa_eq, show (0 : Int32).toInt = 0 from by decide] at c8; exact c8
          refine lv_aload_n hx hb dX11_hasBracket_16 rfl (lv_at hl 2 rfl) ?_
          refine va_get (D := (dC, dI)) (ci := 11) (v := .ref (r 15)) (C := RX11) (T := TX11) (N := 79) hx hb hts inB_11 hown hE.1 hP 0 rfl rfl 15 (by decide) (hts _ k_1335) (fun _ h9 => h9) rfl dX11_hasBracket_17 ?_
          refine lv_iload_n hx hb dX11_hasBracket_20 rfl (lv_at hl 0 rfl) ?_
          refine ldI hx hb hE hP 7 rfl (vp_in_iff.mpr ⟨by omega, by omega⟩) rfl rfl dX11_hasBracket_21 ?_
          refine lv_topi (fun t11 et11 => ?_)
          have hO : (f 6) l2_1.toInt.toNat = t11 := by rw [et11]; rfl
          refine lv_bipush (v := 20) hx hb dX11_hasBracket_22 (by decide) ?_
          refine lv_icmp_ne (tgt := 31) hx hb dX11_hasBracket_24 (by decide) (fun c12 => ?_) (fun c12 => ?_)
          · skip
            have zc12 : ¬ (t11.toInt = 20) := by rw [fa_eq, show (20 : Int32).toInt = 20 from by decide] at c12; exact c12
            refine lv_iconst (v := 0) hx hb dX11_hasBracket_31 (by decide) ?_
            refine lv_istore_n (lv' := [(1, .int 0), (2, .int l2_1), (0, .ref y0)]) hx hb dX11_hasBracket_32 rfl hl (by decide) rfl (fun ls hl => ?_)
            obtain ⟨t13, et13⟩ : ∃ y : Int32, y = l2_1 + 1 := ⟨_, rfl⟩
            have zt13 : t13.toInt = l2_1.toInt + 1 := by rw [et13]; exact add_i rfl (by decide) (by omega) (by omega)
            refine lv_iinc (v := t13) (lv' := [(2, .int t13), (1, .int 0), (0, .ref y0)]) hx hb dX11_hasBracket_33 hl (k := 1) rfl (by rw [et13]; rfl) (by decide) rfl (fun ls hl => ?_)
            refine lv_goto (tgt := 4) hx hb dX11_hasBracket_36 (by decide) ?_
            have rg14 := fb_rng t13
            exact ih1 0 t13 ((gsY_X11_hasBracket_1_q2 c2 c8 et11 c12 et13).symm.trans hT1) ⟨by decide, by decide⟩ ⟨show (0 : Int) ≤ t13.toInt by omega, show t13.toInt ≤ (2147483647 : Int) by omega⟩ (by show HBx (0 : Int32).toInt (v 10).toInt (f 6); first | exact fun h => absurd h (by decide) | exact fun _ => hHB (by omega) | exact fun _ => ⟨_, by omega, i_eq hO (by omega)⟩) (by show (2147483647 - t13.toInt).toNat < n1; omega) _ _ _ hP hD hS (lv_sub hl [0, 1, 2] rfl)
          · skip
            have zc12 : t11.toInt = 20 := by rw [fa_eq, show (20 : Int32).toInt = 20 from by decide] at c12; exact c12
            refine lv_iconst (v := 1) hx hb dX11_hasBracket_27 (by decide) ?_
            refine lv_goto (tgt := 32) hx hb dX11_hasBracket_28 (by decide) ?_
            refine lv_istore_n (lv' := [(1, .int 1), (2, .int l2_1), (0, .ref y0)]) hx hb dX11_hasBracket_32 rfl hl (by decide) rfl (fun ls hl => ?_)
            obtain ⟨t15, et15⟩ : ∃ y : Int32, y = l2_1 + 1 := ⟨_, rfl⟩
            have zt15 : t15.toInt = l2_1.toInt + 1 := by rw [et15]; exact add_i rfl (by decide) (by omega) (by omega)
            refine lv_iinc (v := t15) (lv' := [(2, .int t15), (1, .int 1), (0, .ref y0)]) hx hb dX11_hasBracket_33 hl (k := 1) rfl (by rw [et15]; rfl) (by decide) rfl (fun ls hl => ?_)
            refine lv_goto (tgt := 4) hx hb dX11_hasBracket_36 (by decide) ?_
            have rg16 := fb_rng t15
            exact ih1 1 t15 ((gsY_X11_hasBracket_1_q3 c2 c8 et11 c12 et15).symm.trans hT1) ⟨by decide, by decide⟩ ⟨show (0 : Int) ≤ t15.toInt by omega, show t15.toInt ≤ (2147483647 : Int) by omega⟩ (by show HBx (1 : Int32).toInt (v 10).toInt (f 6); first | exact fun h => absurd h (by decide) | exact fun _ => hHB (by omega) | exact fun _ => ⟨_, by omega, i_eq hO (by omega)⟩) (by show (2147483647 - t15.toInt).toNat < n1; omega) _ _ _ hP hD hS (lv_sub hl [0, 1, 2] rfl)
  exact lp1 (4294967296 + NF) 0 0 gsY_X11_hasBracket_1_q4.symm ⟨by decide, by decide⟩ ⟨by decide, by decide⟩ (by show HBx (0 : Int32).toInt (v 10).toInt (f 6); exact fun h => absurd h (by decide)) (by have q2 : (0 : Int32).toInt = 0 := (by decide); have q1 : (0 : Int32).toInt = 0 := (by decide); show (2147483647 - (0 : Int32).toInt).toNat < 4294967296 + NF; omega) _ _ _ hP hD hS (lv_sub hl [0, 1, 2] rfl)
set_option maxHeartbeats 4000000 in
set_option maxRecDepth 100000 in
theorem sY_X11_sign_1 (NF : Nat) (l : Launch) (dC : Nat → ClassId) (dI : Nat → Nat → Nat) (cy : Nat → ClassId) (y0 : Nat) (r : Nat → Nat)  (v : Nat → Int32) (f : Nat → Nat → Int32) (w : Int64) (g : Nat → Int64) (hIv : YI v) (hCf : YC f) (hRf : progOK (f 4) (f 5) (v 9).toInt.toNat)  : ctI l (dC, dI) cy yX11_sign cX11_sign 1 .int 2 82 0 0 Unit [.ref y0] (YW cy y0 r v f w g) (fun r u => gsY_X11_sign_1 NF v f w g = r ∧ (r.toInt = 0 ∨ 37 ≤ r.toInt) ∧ ((0 : Int) ≤ r.toInt ∧ r.toInt ≤ 124)) (fun u => YW cy y0 r v f w g) := by
  refine ctI_of (by decide) (Nat.le_of_ble_eq_true rfl) (fun p e s m below meth c A ls Q hx hb hml hts hown hE hP hD hA hl ret => ?_)
  have hUv : (v 35).toInt + (v 36).toInt ≤ 40 := hIv.2
  have hown : s.vm.findClass RX11 = some m.cls := hown
  have hS : va_S A s.heap s.heap [] := va_S.rf
  have hl : lv_has ls 1 [(0, .ref y0)] := hl
  refine lv_aload_n hx hb dX11_sign_0 rfl (lv_at hl 0 rfl) ?_
  refine lv_ldc2 (v := 6385252) hx hb hown (hts _ k_1638) dX11_sign_1 ?_
  refine cbVi (n := 1) (rest := []) hx hb hml hown hts hE hP hD hS hA (sY_X11_isWord_1 NF l dC dI cy y0 r 6385252 v f w g hIv hCf hRf ) k_1601 k_1603 k_45 k_114 k_1604 (by decide +kernel) ⟨Nat.le_of_ble_eq_true rfl, Nat.le_of_ble_eq_true rfl⟩ 0 11 rfl rfl (rfl) hl.1 rfl (Nat.le_of_ble_eq_true rfl) dX11_sign_4 (fun r1 u H locs hw hP hD hS => ?_)
  obtain ⟨hG2, hw⟩ := hw
  rcases hw with ⟨g3, g3_0⟩ | ⟨g3⟩
  · skip
    subst g3
    refine lv_if_eq (tgt := 13) hx hb dX11_sign_7 (by decide) (fun c0 => absurd c0 (by decide)) (fun _ => ?_)
    refine lv_bipush (v := 38) hx hb dX11_sign_10 (by decide) ?_
    exact ret 38 () _ _ _ _ _ _ rfl ⟨(gsY_X11_sign_1_q0 hG2), (by have q9 : (38 : Int32).toInt = 38 := (by decide); show (38 : Int32).toInt = 0 ∨ 37 ≤ (38 : Int32).toInt; omega), ⟨by decide, by decide⟩⟩ hP hD hS dX11_sign_12 (Nat.le_refl _) (Nat.le_refl _)
  · skip
    subst g3
    refine lv_if_eq (tgt := 13) hx hb dX11_sign_7 (by decide) (fun _ => ?_) (fun c0 => absurd (by decide) c0)
    refine lv_aload_n hx hb dX11_sign_13 rfl (lv_at hl 0 rfl) ?_
    refine lv_ldc2 (v := 28530) hx hb hown (hts _ k_1639) dX11_sign_14 ?_
    refine cbVi (n := 1) (rest := []) hx hb hml hown hts hE hP hD hS hA (sY_X11_isWord_1 NF l dC dI cy y0 r 28530 v f w g hIv hCf hRf ) k_1601 k_1603 k_45 k_114 k_1604 (by decide +kernel) ⟨Nat.le_of_ble_eq_true rfl, Nat.le_of_ble_eq_true rfl⟩ 0 11 rfl rfl (rfl) hl.1 rfl (Nat.le_of_ble_eq_true rfl) dX11_sign_17 (fun r4 u H locs hw hP hD hS => ?_)
    obtain ⟨hG5, hw⟩ := hw
    rcases hw with ⟨g6, g6_0⟩ | ⟨g6⟩
    · skip
      subst g6
      refine lv_if_eq (tgt := 26) hx hb dX11_sign_20 (by decide) (fun c0 => absurd c0 (by decide)) (fun _ => ?_)
      refine lv_bipush (v := 124) hx hb dX11_sign_23 (by decide) ?_
      exact ret 124 () _ _ _ _ _ _ rfl ⟨(gsY_X11_sign_1_q1 hG2 hG5), (by have q9 : (124 : Int32).toInt = 124 := (by decide); show (124 : Int32).toInt = 0 ∨ 37 ≤ (124 : Int32).toInt; omega), ⟨by decide, by decide⟩⟩ hP hD hS dX11_sign_25 (Nat.le_refl _) (Nat.le_refl _)
    · skip
      subst g6
      refine lv_if_eq (tgt := 26) hx hb dX11_sign_20 (by decide) (fun _ => ?_) (fun c0 => absurd (by decide) c0)
      refine lv_aload_n hx hb dX11_sign_26 rfl (lv_at hl 0 rfl) ?_
      refine va_get (D := (dC, dI)) (ci := 11) (v := .int (v 5)) (C := RX11) (T := TX11) (N := 79) hx hb hts inB_11 hown hE.1 hP 0 rfl rfl 6 (by decide) (hts _ k_1326) (fun _ h9 => h9) rfl dX11_sign_27 ?_
      refine lv_bipush (v := 60) hx hb dX11_sign_30 (by decide) ?_
      refine lv_icmp_eq (tgt := 98) hx hb dX11_sign_32 (by decide) (fun c7 => ?_) (fun c7 => ?_)
      · skip
        have zc7 : (v 5).toInt = 60 := by rw [fa_eq, show (60 : Int32).toInt = 60 from by decide] at c7; exact c7
        refine lv_aload_n hx hb dX11_sign_98 rfl (lv_at hl 0 rfl) ?_
        refine va_get (D := (dC, dI)) (ci := 11) (v := .int (v 5)) (C := RX11) (T := TX11) (N := 79) hx hb hts inB_11 hown hE.1 hP 0 rfl rfl 6 (by decide) (hts _ k_1326) (fun _ h9 => h9) rfl dX11_sign_99 ?_
        refine lv_goto (tgt := 106) hx hb dX11_sign_102 (by decide) ?_
        exact ret (v 5) () _ _ _ _ _ _ rfl ⟨(gsY_X11_sign_1_q2 hG2 hG5 c7), (by show (v 5).toInt = 0 ∨ 37 ≤ (v 5).toInt; omega), ⟨by omega, by omega⟩⟩ hP hD hS dX11_sign_106 (Nat.le_refl _) (Nat.le_refl _)
      · skip
        have zc7 : ¬ ((v 5).toInt = 60) := by rw [fa_eq, show (60 : Int32).toInt = 60 from by decide] at c7; exact c7
        refine lv_aload_n hx hb dX11_sign_35 rfl (lv_at hl 0 rfl) ?_
        refine va_get (D := (dC, dI)) (ci := 11) (v := .int (v 5)) (C := RX11) (T := TX11) (N := 79) hx hb hts inB_11 hown hE.1 hP 0 rfl rfl 6 (by decide) (hts _ k_1326) (fun _ h9 => h9) rfl dX11_sign_36 ?_
        refine lv_bipush (v := 62) hx hb dX11_sign_39 (by decide) ?_
        refine lv_icmp_eq (tgt := 98) hx hb dX11_sign_41 (by decide) (fun c8 => ?_) (fun c8 => ?_)
        · skip
          have zc8 : (v 5).toInt = 62 := by rw [fa_eq, show (62 : Int32).toInt = 62 from by decide] at c8; exact c8
          refine lv_aload_n hx hb dX11_sign_98 rfl (lv_at hl 0 rfl) ?_
          refine va_get (D := (dC, dI)) (ci := 11) (v := .int (v 5)) (C := RX11) (T := TX11) (N := 79) hx hb hts inB_11 hown hE.1 hP 0 rfl rfl 6 (by decide) (hts _ k_1326) (fun _ h9 => h9) rfl dX11_sign_99 ?_
          refine lv_goto (tgt := 106) hx hb dX11_sign_102 (by decide) ?_
          exact ret (v 5) () _ _ _ _ _ _ rfl ⟨(gsY_X11_sign_1_q3 hG2 hG5 c7 c8), (by show (v 5).toInt = 0 ∨ 37 ≤ (v 5).toInt; omega), ⟨by omega, by omega⟩⟩ hP hD hS dX11_sign_106 (Nat.le_refl _) (Nat.le_refl _)
        · skip
          have zc8 : ¬ ((v 5).toInt = 62) := by rw [fa_eq, show (62 : Int32).toInt = 62 from by decide] at c8; exact c8
          refine lv_aload_n hx hb dX11_sign_44 rfl (lv_at hl 0 rfl) ?_
          refine va_get (D := (dC, dI)) (ci := 11) (v := .int (v 5)) (C := RX11) (T := TX11) (N := 79) hx hb hts inB_11 hown hE.1 hP 0 rfl rfl 6 (by decide) (hts _ k_1326) (fun _ h9 => h9) rfl dX11_sign_45 ?_
          refine lv_bipush (v := 61) hx hb dX11_sign_48 (by decide) ?_
          refine lv_icmp_eq (tgt := 98) hx hb dX11_sign_50 (by decide) (fun c9 => ?_) (fun c9 => ?_)
          · skip
            have zc9 : (v 5).toInt = 61 := by rw [fa_eq, show (61 : Int32).toInt = 61 from by decide] at c9; exact c9
            refine lv_aload_n hx hb dX11_sign_98 rfl (lv_at hl 0 rfl) ?_
            refine va_get (D := (dC, dI)) (ci := 11) (v := .int (v 5)) (C := RX11) (T := TX11) (N := 79) hx hb hts inB_11 hown hE.1 hP 0 rfl rfl 6 (by decide) (hts _ k_1326) (fun _ h9 => h9) rfl dX11_sign_99 ?_
            refine lv_goto (tgt := 106) hx hb dX11_sign_102 (by decide) ?_
            exact ret (v 5) () _ _ _ _ _ _ rfl ⟨(gsY_X11_sign_1_q4 hG2 hG5 c7 c8 c9), (by show (v 5).toInt = 0 ∨ 37 ≤ (v 5).toInt; omega), ⟨by omega, by omega⟩⟩ hP hD hS dX11_sign_106 (Nat.le_refl _) (Nat.le_refl _)
          · skip
            have zc9 : ¬ ((v 5).toInt = 61) := by rw [fa_eq, show (61 : Int32).toInt = 61 from by decide] at c9; exact c9
            refine lv_aload_n hx hb dX11_sign_53 rfl (lv_at hl 0 rfl) ?_
            refine va_get (D := (dC, dI)) (ci := 11) (v := .int (v 5)) (C := RX11) (T := TX11) (N := 79) hx hb hts inB_11 hown hE.1 hP 0 rfl rfl 6 (by decide) (hts _ k_1326) (fun _ h9 => h9) rfl dX11_sign_54 ?_
            refine lv_bipush (v := 43) hx hb dX11_sign_57 (by decide) ?_
            refine lv_icmp_eq (tgt := 98) hx hb dX11_sign_59 (by decide) (fun c10 => ?_) (fun c10 => ?_)
            · skip
              have zc10 : (v 5).toInt = 43 := by rw [fa_eq, show (43 : Int32).toInt = 43 from by decide] at c10; exact c10
              refine lv_aload_n hx hb dX11_sign_98 rfl (lv_at hl 0 rfl) ?_
              refine va_get (D := (dC, dI)) (ci := 11) (v := .int (v 5)) (C := RX11) (T := TX11) (N := 79) hx hb hts inB_11 hown hE.1 hP 0 rfl rfl 6 (by decide) (hts _ k_1326) (fun _ h9 => h9) rfl dX11_sign_99 ?_
              refine lv_goto (tgt := 106) hx hb dX11_sign_102 (by decide) ?_
              exact ret (v 5) () _ _ _ _ _ _ rfl ⟨(gsY_X11_sign_1_q5 hG2 hG5 c7 c8 c9 c10), (by show (v 5).toInt = 0 ∨ 37 ≤ (v 5).toInt; omega), ⟨by omega, by omega⟩⟩ hP hD hS dX11_sign_106 (Nat.le_refl _) (Nat.le_refl _)
            · skip
              have zc10 : ¬ ((v 5).toInt = 43) := by rw [fa_eq, show (43 : Int32).toInt = 43 from by decide] at c10; exact c10
              refine lv_aload_n hx hb dX11_sign_62 rfl (lv_at hl 0 rfl) ?_
              refine va_get (D := (dC, dI)) (ci := 11) (v := .int (v 5)) (C := RX11) (T := TX11) (N := 79) hx hb hts inB_11 hown hE.1 hP 0 rfl rfl 6 (by decide) (hts _ k_1326) (fun _ h9 => h9) rfl dX11_sign_63 ?_
              refine lv_bipush (v := 45) hx hb dX11_sign_66 (by decide) ?_
              refine lv_icmp_eq (tgt := 98) hx hb dX11_sign_68 (by decide) (fun c11 => ?_) (fun c11 => ?_)
              · skip
                have zc11 : (v 5).toInt = 45 := by rw [fa_eq, show (45 : Int32).toInt = 45 from by decide] at c11; exact c11
                refine lv_aload_n hx hb dX11_sign_98 rfl (lv_at hl 0 rfl) ?_
                refine va_get (D := (dC, dI)) (ci := 11) (v := .int (v 5)) (C := RX11) (T := TX11) (N := 79) hx hb hts inB_11 hown hE.1 hP 0 rfl rfl 6 (by decide) (hts _ k_1326) (fun _ h9 => h9) rfl dX11_sign_99 ?_
                refine lv_goto (tgt := 106) hx hb dX11_sign_102 (by decide) ?_
                exact ret (v 5) () _ _ _ _ _ _ rfl ⟨(gsY_X11_sign_1_q6 hG2 hG5 c7 c8 c9 c10 c11), (by show (v 5).toInt = 0 ∨ 37 ≤ (v 5).toInt; omega), ⟨by omega, by omega⟩⟩ hP hD hS dX11_sign_106 (Nat.le_refl _) (Nat.le_refl _)
              · skip
                have zc11 : ¬ ((v 5).toInt = 45) := by rw [fa_eq, show (45 : Int32).toInt = 45 from by decide] at c11; exact c11
                refine lv_aload_n hx hb dX11_sign_71 rfl (lv_at hl 0 rfl) ?_
                refine va_get (D := (dC, dI)) (ci := 11) (v := .int (v 5)) (C := RX11) (T := TX11) (N := 79) hx hb hts inB_11 hown hE.1 hP 0 rfl rfl 6 (by decide) (hts _ k_1326) (fun _ h9 => h9) rfl dX11_sign_72 ?_
                refine lv_bipush (v := 42) hx hb dX11_sign_75 (by decide) ?_
                refine lv_icmp_eq (tgt := 98) hx hb dX11_sign_77 (by decide) (fun c12 => ?_) (fun c12 => ?_)
                · skip
                  have zc12 : (v 5).toInt = 42 := by rw [fa_eq, show (42 : Int32).toInt = 42 from by decide] at c12; exact c12
                  refine lv_aload_n hx hb dX11_sign_98 rfl (lv_at hl 0 rfl) ?_
                  refine va_get (D := (dC, dI)) (ci := 11) (v := .int (v 5)) (C := RX11) (T := TX11) (N := 79) hx hb hts inB_11 hown hE.1 hP 0 rfl rfl 6 (by decide) (hts _ k_1326) (fun _ h9 => h9) rfl dX11_sign_99 ?_
                  refine lv_goto (tgt := 106) hx hb dX11_sign_102 (by decide) ?_
                  exact ret (v 5) () _ _ _ _ _ _ rfl ⟨(gsY_X11_sign_1_q7 hG2 hG5 c7 c8 c9 c10 c11 c12), (by show (v 5).toInt = 0 ∨ 37 ≤ (v 5).toInt; omega), ⟨by omega, by omega⟩⟩ hP hD hS dX11_sign_106 (Nat.le_refl _) (Nat.le_refl _)
                · skip
                  have zc12 : ¬ ((v 5).toInt = 42) := by rw [fa_eq, show (42 : Int32).toInt = 42 from by decide] at c12; exact c12
                  refine lv_aload_n hx hb dX11_sign_80 rfl (lv_at hl 0 rfl) ?_
                  refine va_get (D := (dC, dI)) (ci := 11) (v := .int (v 5)) (C := RX11) (T := TX11) (N := 79) hx hb hts inB_11 hown hE.1 hP 0 rfl rfl 6 (by decide) (hts _ k_1326) (fun _ h9 => h9) rfl dX11_sign_81 ?_
                  refine lv_bipush (v := 47) hx hb dX11_sign_84 (by decide) ?_
                  refine lv_icmp_eq (tgt := 98) hx hb dX11_sign_86 (by decide) (fun c13 => ?_) (fun c13 => ?_)
                  · skip
                    have zc13 : (v 5).toInt = 47 := by rw [fa_eq, show (47 : Int32).toInt = 47 from by decide] at c13; exact c13
                    refine lv_aload_n hx hb dX11_sign_98 rfl (lv_at hl 0 rfl) ?_
                    refine va_get (D := (dC, dI)) (ci := 11) (v := .int (v 5)) (C := RX11) (T := TX11) (N := 79) hx hb hts inB_11 hown hE.1 hP 0 rfl rfl 6 (by decide) (hts _ k_1326) (fun _ h9 => h9) rfl dX11_sign_99 ?_
                    refine lv_goto (tgt := 106) hx hb dX11_sign_102 (by decide) ?_
                    exact ret (v 5) () _ _ _ _ _ _ rfl ⟨(gsY_X11_sign_1_q8 hG2 hG5 c7 c8 c9 c10 c11 c12 c13), (by show (v 5).toInt = 0 ∨ 37 ≤ (v 5).toInt; omega), ⟨by omega, by omega⟩⟩ hP hD hS dX11_sign_106 (Nat.le_refl _) (Nat.le_refl _)
                  · skip
                    have zc13 : ¬ ((v 5).toInt = 47) := by rw [fa_eq, show (47 : Int32).toInt = 47 from by decide] at c13; exact c13
                    refine lv_aload_n hx hb dX11_sign_89 rfl (lv_at hl 0 rfl) ?_
                    refine va_get (D := (dC, dI)) (ci := 11) (v := .int (v 5)) (C := RX11) (T := TX11) (N := 79) hx hb hts inB_11 hown hE.1 hP 0 rfl rfl 6 (by decide) (hts _ k_1326) (fun _ h9 => h9) rfl dX11_sign_90 ?_
                    refine lv_bipush (v := 37) hx hb dX11_sign_93 (by decide) ?_
                    refine lv_icmp_ne (tgt := 105) hx hb dX11_sign_95 (by decide) (fun c14 => ?_) (fun c14 => ?_)
                    · skip
                      have zc14 : ¬ ((v 5).toInt = 37) := by rw [fa_eq, show (37 : Int32).toInt = 37 from by decide] at c14; exact c14
                      refine lv_iconst (v := 0) hx hb dX11_sign_105 (by decide) ?_
                      exact ret 0 () _ _ _ _ _ _ rfl ⟨(gsY_X11_sign_1_q9 hG2 hG5 c7 c8 c9 c10 c11 c12 c13 c14), (by have q9 : (0 : Int32).toInt = 0 := (by decide); show (0 : Int32).toInt = 0 ∨ 37 ≤ (0 : Int32).toInt; omega), ⟨by decide, by decide⟩⟩ hP hD hS dX11_sign_106 (Nat.le_refl _) (Nat.le_refl _)
                    · skip
                      have zc14 : (v 5).toInt = 37 := by rw [fa_eq, show (37 : Int32).toInt = 37 from by decide] at c14; exact c14
                      refine lv_aload_n hx hb dX11_sign_98 rfl (lv_at hl 0 rfl) ?_
                      refine va_get (D := (dC, dI)) (ci := 11) (v := .int (v 5)) (C := RX11) (T := TX11) (N := 79) hx hb hts inB_11 hown hE.1 hP 0 rfl rfl 6 (by decide) (hts _ k_1326) (fun _ h9 => h9) rfl dX11_sign_99 ?_
                      refine lv_goto (tgt := 106) hx hb dX11_sign_102 (by decide) ?_
                      exact ret (v 5) () _ _ _ _ _ _ rfl ⟨(gsY_X11_sign_1_q10 hG2 hG5 c7 c8 c9 c10 c11 c12 c13 c14), (by show (v 5).toInt = 0 ∨ 37 ≤ (v 5).toInt; omega), ⟨by omega, by omega⟩⟩ hP hD hS dX11_sign_106 (Nat.le_refl _) (Nat.le_refl _)
set_option maxHeartbeats 4000000 in
set_option maxRecDepth 100000 in
theorem sY_X11_hasRelation_1 (NF : Nat) (l : Launch) (dC : Nat → ClassId) (dI : Nat → Nat → Nat) (cy : Nat → ClassId) (y0 : Nat) (r : Nat → Nat)  (v : Nat → Int32) (f : Nat → Nat → Int32) (w : Int64) (g : Nat → Int64) (hIv : YI v) (hCf : YC f) (hRf : progOK (f 4) (f 5) (v 9).toInt.toNat)  : ctI l (dC, dI) cy yX11_hasRelation cX11_hasRelation 2 .boolean 2 80 0 0 Unit [.ref y0] (YW cy y0 r v f w g) (fun r u => gsY_X11_hasRelation_1 NF v f w g = r ∧ ((r = 1) ∨ (r = 0))) (fun u => YW cy y0 r v f w g) := by
  refine ctI_of (by decide) (Nat.le_of_ble_eq_true rfl) (fun p e s m below meth c A ls Q hx hb hml hts hown hE hP hD hA hl ret => ?_)
  have hUv : (v 35).toInt + (v 36).toInt ≤ 40 := hIv.2
  have hown : s.vm.findClass RX11 = some m.cls := hown
  have hS : va_S A s.heap s.heap [] := va_S.rf
  have hl : lv_has ls 2 [(0, .ref y0)] := hl
  refine lv_aload_n hx hb dX11_hasRelation_0 rfl (lv_at hl 0 rfl) ?_
  refine va_get (D := (dC, dI)) (ci := 11) (v := .int (v 10)) (C := RX11) (T := TX11) (N := 79) hx hb hts inB_11 hown hE.1 hP 0 rfl rfl 19 (by decide) (hts _ k_1339) (fun _ h9 => h9) rfl dX11_hasRelation_1 ?_
  have b10_v : 0 ≤ (v 10).toInt ∧ (v 10).toInt ≤ 160 := YIb.b hIv.1 10 (by decide)
  refine lv_iconst (v := 1) hx hb dX11_hasRelation_4 (by decide) ?_
  refine lv_isub hx hb dX11_hasRelation_5 ?_
  refine lv_topi (fun t1 et1 => ?_)
  have rg2 := fb_rng (v 10)
  have zt1 : t1.toInt = (v 10).toInt - 1 := by rw [et1]; exact sub_i rfl (by decide) (by omega) (by omega)
  refine lv_istore_n (lv' := [(1, .int t1), (0, .ref y0)]) hx hb dX11_hasRelation_6 rfl hl (by decide) rfl (fun ls hl => ?_)
  have lp3 : ∀ (n3 : Nat) (l1_3 : Int32), gsY_X11_hasRelation_1_L3 NF v f w g n3 l1_3 = (gsY_X11_hasRelation_1 NF v f w g) → ((-2147483648 : Int) ≤ l1_3.toInt ∧ l1_3.toInt ≤ 159) → (l1_3.toInt + 2147483648).toNat < n3 → ∀ (H : Heap) (locs : List Loc) (ls : Array Slot), va_P (dC, dI) vwCl (YW cy y0 r v f w g) H → va_D A (YW cy y0 r v f w g) → va_S A s.heap H locs → lv_has ls 2 [(1, .int l1_3), (0, .ref y0)] → W p l e { frames := 2, cells := 0, slots := 0, locals := 80 } s m ([.ref y0] : List Value).toArray below meth c H locs 0 0 Q (F0 m 7 ls []) := by
    intro n3
    induction n3 with
    | zero => intro l1_3 hT3 hr1_3 hm; exact absurd hm (Nat.not_lt_zero _)
    | succ n3 ih3 =>
      intro l1_3 hT3 hr1_3 hm3 H locs ls hP hD hS hl
      refine lv_iload_n hx hb dX11_hasRelation_7 rfl (lv_at hl 0 rfl) ?_
      refine lv_if_lt (tgt := 41) hx hb dX11_hasRelation_8 (by decide) (fun c4 => ?_) (fun c4 => ?_)
      · skip
        have zc4 : l1_3.toInt < 0 := by rw [fa_lt, show (0 : Int32).toInt = 0 from by decide] at c4; exact c4
        refine lv_iload_n hx hb dX11_hasRelation_41 rfl (lv_at hl 0 rfl) ?_
        refine lv_if_lt (tgt := 73) hx hb dX11_hasRelation_42 (by decide) (fun c5 => ?_) (fun c5 => ?_)
        · skip
          have zc5 : l1_3.toInt < 0 := by rw [fa_lt, show (0 : Int32).toInt = 0 from by decide] at c5; exact c5
          refine lv_iconst (v := 0) hx hb dX11_hasRelation_73 (by decide) ?_
          exact ret 0 () _ _ _ _ _ _ rfl ⟨(hT3.symm.trans (gsY_X11_hasRelation_1_q0 c4 c5)), (Or.inr rfl)⟩ hP hD hS dX11_hasRelation_74 (Nat.le_refl _) (Nat.le_refl _)
        · skip
          have zc5 : ¬ (l1_3.toInt < 0) := by rw [fa_lt, show (0 : Int32).toInt = 0 from by decide] at c5; exact c5
          refine lv_aload_n hx hb dX11_hasRelation_45 rfl (lv_at hl 1 rfl) ?_
          refine va_get (D := (dC, dI)) (ci := 11) (v := .ref (r 15)) (C := RX11) (T := TX11) (N := 79) hx hb hts inB_11 hown hE.1 hP 0 rfl rfl 15 (by decide) (hts _ k_1335) (fun _ h9 => h9) rfl dX11_hasRelation_46 ?_
          refine lv_iload_n hx hb dX11_hasRelation_49 rfl (lv_at hl 0 rfl) ?_
          refine ldI hx hb hE hP 7 rfl (vp_in_iff.mpr ⟨by omega, by omega⟩) rfl rfl dX11_hasRelation_50 ?_
          refine lv_topi (fun t6 et6 => ?_)
          refine lv_bipush (v := 20) hx hb dX11_hasRelation_51 (by decide) ?_
          refine lv_icmp_eq (tgt := 73) hx hb dX11_hasRelation_53 (by decide) (fun c7 => ?_) (fun c7 => ?_)
          · skip
            have zc7 : t6.toInt = 20 := by rw [fa_eq, show (20 : Int32).toInt = 20 from by decide] at c7; exact c7
            refine lv_iconst (v := 0) hx hb dX11_hasRelation_73 (by decide) ?_
            exact ret 0 () _ _ _ _ _ _ rfl ⟨(hT3.symm.trans (gsY_X11_hasRelation_1_q1 c4 c5 et6 c7)), (Or.inr rfl)⟩ hP hD hS dX11_hasRelation_74 (Nat.le_refl _) (Nat.le_refl _)
          · skip
            have zc7 : ¬ (t6.toInt = 20) := by rw [fa_eq, show (20 : Int32).toInt = 20 from by decide] at c7; exact c7
            refine lv_aload_n hx hb dX11_hasRelation_56 rfl (lv_at hl 1 rfl) ?_
            refine va_get (D := (dC, dI)) (ci := 11) (v := .ref (r 15)) (C := RX11) (T := TX11) (N := 79) hx hb hts inB_11 hown hE.1 hP 0 rfl rfl 15 (by decide) (hts _ k_1335) (fun _ h9 => h9) rfl dX11_hasRelation_57 ?_
            refine lv_iload_n hx hb dX11_hasRelation_60 rfl (lv_at hl 0 rfl) ?_
            refine ldI hx hb hE hP 7 rfl (vp_in_iff.mpr ⟨by omega, by omega⟩) rfl rfl dX11_hasRelation_61 ?_
            refine tI (y := t6) et6.symm ?_
            refine cbSi (n := 1) (rest := []) hx hb hml hown hts hE hP hD hS hA (sY_X11_tight_1 NF l dC dI cy y0 r t6 v f w g hIv hCf hRf ) k_1677 k_1678 k_114 k_1679 (by decide +kernel) ⟨Nat.le_of_ble_eq_true rfl, Nat.le_of_ble_eq_true rfl⟩ (rfl) hl.1 rfl (Nat.le_of_ble_eq_true rfl) dX11_hasRelation_62 (fun r8 u H locs hw hP hD hS => ?_)
            obtain ⟨hG9, hw⟩ := hw
            refine lv_iconst (v := 4) hx hb dX11_hasRelation_65 (by decide) ?_
            refine lv_icmp_ne (tgt := 73) hx hb dX11_hasRelation_66 (by decide) (fun c10 => ?_) (fun c10 => ?_)
            · skip
              have zc10 : ¬ (r8.toInt = 4) := by rw [fa_eq, show (4 : Int32).toInt = 4 from by decide] at c10; exact c10
              refine lv_iconst (v := 0) hx hb dX11_hasRelation_73 (by decide) ?_
              exact ret 0 () _ _ _ _ _ _ rfl ⟨(hT3.symm.trans (gsY_X11_hasRelation_1_q2 c4 c5 et6 c7 hG9.symm c10)), (Or.inr rfl)⟩ hP hD hS dX11_hasRelation_74 (Nat.le_refl _) (Nat.le_refl _)
            · skip
              have zc10 : r8.toInt = 4 := by rw [fa_eq, show (4 : Int32).toInt = 4 from by decide] at c10; exact c10
              refine lv_iconst (v := 1) hx hb dX11_hasRelation_69 (by decide) ?_
              refine lv_goto (tgt := 74) hx hb dX11_hasRelation_70 (by decide) ?_
              exact ret 1 () _ _ _ _ _ _ rfl ⟨(hT3.symm.trans (gsY_X11_hasRelation_1_q3 c4 c5 et6 c7 hG9.symm c10)), (Or.inl rfl)⟩ hP hD hS dX11_hasRelation_74 (Nat.le_refl _) (Nat.le_refl _)
      · skip
        have zc4 : ¬ (l1_3.toInt < 0) := by rw [fa_lt, show (0 : Int32).toInt = 0 from by decide] at c4; exact c4
        refine lv_aload_n hx hb dX11_hasRelation_11 rfl (lv_at hl 1 rfl) ?_
        refine va_get (D := (dC, dI)) (ci := 11) (v := .ref (r 15)) (C := RX11) (T := TX11) (N := 79) hx hb hts inB_11 hown hE.1 hP 0 rfl rfl 15 (by decide) (hts _ k_1335) (fun _ h9 => h9) rfl dX11_hasRelation_12 ?_
        refine lv_iload_n hx hb dX11_hasRelation_15 rfl (lv_at hl 0 rfl) ?_
        refine ldI hx hb hE hP 7 rfl (vp_in_iff.mpr ⟨by omega, by omega⟩) rfl rfl dX11_hasRelation_16 ?_
        refine lv_topi (fun t11 et11 => ?_)
        refine lv_bipush (v := 20) hx hb dX11_hasRelation_17 (by decide) ?_
        refine lv_icmp_eq (tgt := 41) hx hb dX11_hasRelation_19 (by decide) (fun c12 => ?_) (fun c12 => ?_)
        · skip
          have zc12 : t11.toInt = 20 := by rw [fa_eq, show (20 : Int32).toInt = 20 from by decide] at c12; exact c12
          refine lv_iload_n hx hb dX11_hasRelation_41 rfl (lv_at hl 0 rfl) ?_
          refine lv_if_lt (tgt := 73) hx hb dX11_hasRelation_42 (by decide) (fun c13 => ?_) (fun c13 => ?_)
          · skip
            have zc13 : l1_3.toInt < 0 := by rw [fa_lt, show (0 : Int32).toInt = 0 from by decide] at c13; exact c13
            refine lv_iconst (v := 0) hx hb dX11_hasRelation_73 (by decide) ?_
            exact ret 0 () _ _ _ _ _ _ rfl ⟨(hT3.symm.trans (gsY_X11_hasRelation_1_q4 c4 et11 c12 c13)), (Or.inr rfl)⟩ hP hD hS dX11_hasRelation_74 (Nat.le_refl _) (Nat.le_refl _)
          · skip
            have zc13 : ¬ (l1_3.toInt < 0) := by rw [fa_lt, show (0 : Int32).toInt = 0 from by decide] at c13; exact c13
            refine lv_aload_n hx hb dX11_hasRelation_45 rfl (lv_at hl 1 rfl) ?_
            refine va_get (D := (dC, dI)) (ci := 11) (v := .ref (r 15)) (C := RX11) (T := TX11) (N := 79) hx hb hts inB_11 hown hE.1 hP 0 rfl rfl 15 (by decide) (hts _ k_1335) (fun _ h9 => h9) rfl dX11_hasRelation_46 ?_
            refine lv_iload_n hx hb dX11_hasRelation_49 rfl (lv_at hl 0 rfl) ?_
            refine ldI hx hb hE hP 7 rfl (vp_in_iff.mpr ⟨by omega, by omega⟩) rfl rfl dX11_hasRelation_50 ?_
            refine tI (y := t11) et11.symm ?_
            refine lv_bipush (v := 20) hx hb dX11_hasRelation_51 (by decide) ?_
            refine lv_icmp_eq (tgt := 73) hx hb dX11_hasRelation_53 (by decide) (fun c14 => ?_) (fun c14 => ?_)
            · skip
              have zc14 : t11.toInt = 20 := by rw [fa_eq, show (20 : Int32).toInt = 20 from by decide] at c14; exact c14
              refine lv_iconst (v := 0) hx hb dX11_hasRelation_73 (by decide) ?_
              exact ret 0 () _ _ _ _ _ _ rfl ⟨(hT3.symm.trans (gsY_X11_hasRelation_1_q5 c4 et11 c12 c13 c14)), (Or.inr rfl)⟩ hP hD hS dX11_hasRelation_74 (Nat.le_refl _) (Nat.le_refl _)
            · skip
              have zc14 : ¬ (t11.toInt = 20) := by rw [fa_eq, show (20 : Int32).toInt = 20 from by decide] at c14; exact c14
              refine lv_aload_n hx hb dX11_hasRelation_56 rfl (lv_at hl 1 rfl) ?_
              refine va_get (D := (dC, dI)) (ci := 11) (v := .ref (r 15)) (C := RX11) (T := TX11) (N := 79) hx hb hts inB_11 hown hE.1 hP 0 rfl rfl 15 (by decide) (hts _ k_1335) (fun _ h9 => h9) rfl dX11_hasRelation_57 ?_
              refine lv_iload_n hx hb dX11_hasRelation_60 rfl (lv_at hl 0 rfl) ?_
              refine ldI hx hb hE hP 7 rfl (vp_in_iff.mpr ⟨by omega, by omega⟩) rfl rfl dX11_hasRelation_61 ?_
              refine tI (y := t11) et11.symm ?_
              refine cbSi (n := 1) (rest := []) hx hb hml hown hts hE hP hD hS hA (sY_X11_tight_1 NF l dC dI cy y0 r t11 v f w g hIv hCf hRf ) k_1677 k_1678 k_114 k_1679 (by decide +kernel) ⟨Nat.le_of_ble_eq_true rfl, Nat.le_of_ble_eq_true rfl⟩ (rfl) hl.1 rfl (Nat.le_of_ble_eq_true rfl) dX11_hasRelation_62 (fun r15 u H locs hw hP hD hS => ?_)
              obtain ⟨hG16, hw⟩ := hw
              refine lv_iconst (v := 4) hx hb dX11_hasRelation_65 (by decide) ?_
              refine lv_icmp_ne (tgt := 73) hx hb dX11_hasRelation_66 (by decide) (fun c17 => ?_) (fun c17 => ?_)
              · skip
                have zc17 : ¬ (r15.toInt = 4) := by rw [fa_eq, show (4 : Int32).toInt = 4 from by decide] at c17; exact c17
                refine lv_iconst (v := 0) hx hb dX11_hasRelation_73 (by decide) ?_
                exact ret 0 () _ _ _ _ _ _ rfl ⟨(hT3.symm.trans (gsY_X11_hasRelation_1_q6 c4 et11 c12 c13 c14 hG16.symm c17)), (Or.inr rfl)⟩ hP hD hS dX11_hasRelation_74 (Nat.le_refl _) (Nat.le_refl _)
              · skip
                have zc17 : r15.toInt = 4 := by rw [fa_eq, show (4 : Int32).toInt = 4 from by decide] at c17; exact c17
                refine lv_iconst (v := 1) hx hb dX11_hasRelation_69 (by decide) ?_
                refine lv_goto (tgt := 74) hx hb dX11_hasRelation_70 (by decide) ?_
                exact ret 1 () _ _ _ _ _ _ rfl ⟨(hT3.symm.trans (gsY_X11_hasRelation_1_q7 c4 et11 c12 c13 c14 hG16.symm c17)), (Or.inl rfl)⟩ hP hD hS dX11_hasRelation_74 (Nat.le_refl _) (Nat.le_refl _)
        · skip
          have zc12 : ¬ (t11.toInt = 20) := by rw [fa_eq, show (20 : Int32).toInt = 20 from by decide] at c12; exact c12
          refine lv_aload_n hx hb dX11_hasRelation_22 rfl (lv_at hl 1 rfl) ?_
          refine va_get (D := (dC, dI)) (ci := 11) (v := .ref (r 15)) (C := RX11) (T := TX11) (N := 79) hx hb hts inB_11 hown hE.1 hP 0 rfl rfl 15 (by decide) (hts _ k_1335) (fun _ h9 => h9) rfl dX11_hasRelation_23 ?_
          refine lv_iload_n hx hb dX11_hasRelation_26 rfl (lv_at hl 0 rfl) ?_
          refine ldI hx hb hE hP 7 rfl (vp_in_iff.mpr ⟨by omega, by omega⟩) rfl rfl dX11_hasRelation_27 ?_
          refine tI (y := t11) et11.symm ?_
          refine cbSi (n := 1) (rest := []) hx hb hml hown hts hE hP hD hS hA (sY_X11_tight_1 NF l dC dI cy y0 r t11 v f w g hIv hCf hRf ) k_1677 k_1678 k_114 k_1679 (by decide +kernel) ⟨Nat.le_of_ble_eq_true rfl, Nat.le_of_ble_eq_true rfl⟩ (rfl) hl.1 rfl (Nat.le_of_ble_eq_true rfl) dX11_hasRelation_28 (fun r18 u H locs hw hP hD hS => ?_)
          obtain ⟨hG19, hw⟩ := hw
          refine lv_iconst (v := 4) hx hb dX11_hasRelation_31 (by decide) ?_
          refine lv_icmp_le (tgt := 41) hx hb dX11_hasRelation_32 (by decide) (fun c20 => ?_) (fun c20 => ?_)
          · skip
            have zc20 : r18.toInt ≤ 4 := by rw [fa_le, show (4 : Int32).toInt = 4 from by decide] at c20; exact c20
            refine lv_iload_n hx hb dX11_hasRelation_41 rfl (lv_at hl 0 rfl) ?_
            refine lv_if_lt (tgt := 73) hx hb dX11_hasRelation_42 (by decide) (fun c21 => ?_) (fun c21 => ?_)
            · skip
              have zc21 : l1_3.toInt < 0 := by rw [fa_lt, show (0 : Int32).toInt = 0 from by decide] at c21; exact c21
              refine lv_iconst (v := 0) hx hb dX11_hasRelation_73 (by decide) ?_
              exact ret 0 () _ _ _ _ _ _ rfl ⟨(hT3.symm.trans (gsY_X11_hasRelation_1_q8 c4 et11 c12 hG19.symm c20 c21)), (Or.inr rfl)⟩ hP hD hS dX11_hasRelation_74 (Nat.le_refl _) (Nat.le_refl _)
            · skip
              have zc21 : ¬ (l1_3.toInt < 0) := by rw [fa_lt, show (0 : Int32).toInt = 0 from by decide] at c21; exact c21
              refine lv_aload_n hx hb dX11_hasRelation_45 rfl (lv_at hl 1 rfl) ?_
              refine va_get (D := (dC, dI)) (ci := 11) (v := .ref (r 15)) (C := RX11) (T := TX11) (N := 79) hx hb hts inB_11 hown hE.1 hP 0 rfl rfl 15 (by decide) (hts _ k_1335) (fun _ h9 => h9) rfl dX11_hasRelation_46 ?_
              refine lv_iload_n hx hb dX11_hasRelation_49 rfl (lv_at hl 0 rfl) ?_
              refine ldI hx hb hE hP 7 rfl (vp_in_iff.mpr ⟨by omega, by omega⟩) rfl rfl dX11_hasRelation_50 ?_
              refine tI (y := t11) et11.symm ?_
              refine lv_bipush (v := 20) hx hb dX11_hasRelation_51 (by decide) ?_
              refine lv_icmp_eq (tgt := 73) hx hb dX11_hasRelation_53 (by decide) (fun c22 => ?_) (fun c22 => ?_)
              · skip
                have zc22 : t11.toInt = 20 := by rw [fa_eq, show (20 : Int32).toInt = 20 from by decide] at c22; exact c22
                refine lv_iconst (v := 0) hx hb dX11_hasRelation_73 (by decide) ?_
                exact ret 0 () _ _ _ _ _ _ rfl ⟨(hT3.symm.trans (gsY_X11_hasRelation_1_q9 c4 et11 c12 hG19.symm c20 c21 c22)), (Or.inr rfl)⟩ hP hD hS dX11_hasRelation_74 (Nat.le_refl _) (Nat.le_refl _)
              · skip
                have zc22 : ¬ (t11.toInt = 20) := by rw [fa_eq, show (20 : Int32).toInt = 20 from by decide] at c22; exact c22
                refine lv_aload_n hx hb dX11_hasRelation_56 rfl (lv_at hl 1 rfl) ?_
                refine va_get (D := (dC, dI)) (ci := 11) (v := .ref (r 15)) (C := RX11) (T := TX11) (N := 79) hx hb hts inB_11 hown hE.1 hP 0 rfl rfl 15 (by decide) (hts _ k_1335) (fun _ h9 => h9) rfl dX11_hasRelation_57 ?_
                refine lv_iload_n hx hb dX11_hasRelation_60 rfl (lv_at hl 0 rfl) ?_
                refine ldI hx hb hE hP 7 rfl (vp_in_iff.mpr ⟨by omega, by omega⟩) rfl rfl dX11_hasRelation_61 ?_
                refine tI (y := t11) et11.symm ?_
                refine cbSi (n := 1) (rest := []) hx hb hml hown hts hE hP hD hS hA (sY_X11_tight_1 NF l dC dI cy y0 r t11 v f w g hIv hCf hRf ) k_1677 k_1678 k_114 k_1679 (by decide +kernel) ⟨Nat.le_of_ble_eq_true rfl, Nat.le_of_ble_eq_true rfl⟩ (rfl) hl.1 rfl (Nat.le_of_ble_eq_true rfl) dX11_hasRelation_62 (fun r23 u H locs hw hP hD hS => ?_)
                obtain ⟨hG24, hw⟩ := hw
                refine lv_iconst (v := 4) hx hb dX11_hasRelation_65 (by decide) ?_
                refine lv_icmp_ne (tgt := 73) hx hb dX11_hasRelation_66 (by decide) (fun c25 => ?_) (fun c25 => ?_)
                · skip
                  have zc25 : ¬ (r23.toInt = 4) := by rw [fa_eq, show (4 : Int32).toInt = 4 from by decide] at c25; exact c25
                  refine lv_iconst (v := 0) hx hb dX11_hasRelation_73 (by decide) ?_
                  exact ret 0 () _ _ _ _ _ _ rfl ⟨(hT3.symm.trans (gsY_X11_hasRelation_1_q10 c4 et11 c12 hG19.symm c20 c21 c22 hG24.symm c25)), (Or.inr rfl)⟩ hP hD hS dX11_hasRelation_74 (Nat.le_refl _) (Nat.le_refl _)
                · skip
                  have zc25 : r23.toInt = 4 := by rw [fa_eq, show (4 : Int32).toInt = 4 from by decide] at c25; exact c25
                  refine lv_iconst (v := 1) hx hb dX11_hasRelation_69 (by decide) ?_
                  refine lv_goto (tgt := 74) hx hb dX11_hasRelation_70 (by decide) ?_
                  exact ret 1 () _ _ _ _ _ _ rfl ⟨(hT3.symm.trans (gsY_X11_hasRelation_1_q11 c4 et11 c12 hG19.symm c20 c21 c22 hG24.symm c25)), (Or.inl rfl)⟩ hP hD hS dX11_hasRelation_74 (Nat.le_refl _) (Nat.le_refl _)
          · skip
            have zc20 : ¬ (r18.toInt ≤ 4) := by rw [fa_le, show (4 : Int32).toInt = 4 from by decide] at c20; exact c20
            obtain ⟨t26, et26⟩ : ∃ y : Int32, y = l1_3 + (-1) := ⟨_, rfl⟩
            have rg27 := fb_rng l1_3
            have zt26 : t26.toInt = l1_3.toInt + (-1) := by rw [et26]; exact add_i rfl (by decide) (by omega) (by omega)
            refine lv_iinc (v := t26) (lv' := [(1, .int t26), (0, .ref y0)]) hx hb dX11_hasRelation_35 hl (k := 0) rfl (by rw [et26]; rfl) (by decide) rfl (fun ls hl => ?_)
            refine lv_goto (tgt := 7) hx hb dX11_hasRelation_38 (by decide) ?_
            have rg28 := fb_rng t26
            exact ih3 t26 ((gsY_X11_hasRelation_1_q12 c4 et11 c12 hG19.symm c20 et26).symm.trans hT3) ⟨show (-2147483648 : Int) ≤ t26.toInt by omega, show t26.toInt ≤ (159 : Int) by omega⟩ (by show (t26.toInt + 2147483648).toNat < n3; omega) _ _ _ hP hD hS (lv_sub hl [0, 1] rfl)
  have rg29 := fb_rng t1
  exact lp3 (4294967296 + NF) t1 (gsY_X11_hasRelation_1_q13 et1).symm ⟨show (-2147483648 : Int) ≤ t1.toInt by omega, show t1.toInt ≤ (159 : Int) by omega⟩ (by have qr0 := fb_rng t1; show (t1.toInt + 2147483648).toNat < 4294967296 + NF; omega) _ _ _ hP hD hS (lv_sub hl [0, 1] rfl)
