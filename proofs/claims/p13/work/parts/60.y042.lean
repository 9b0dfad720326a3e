set_option maxHeartbeats 4000000 in
set_option maxRecDepth 100000 in
theorem sY_X11_cloth_1 (l : Launch) (dC : Nat → ClassId) (dI : Nat → Nat → Nat) (cy : Nat → ClassId) (y0 : Nat) (r : Nat → Nat)  (v : Nat → Int32) (f : Nat → Nat → Int32) (w : Int64) (g : Nat → Int64) (hIv : YI v) (hCf : YC f) (hRf : progOK (f 4) (f 5) (v 9).toInt.toNat)  : ctI l (dC, dI) cy yX11_cloth cX11_cloth 3 .int 3 105 0 0 ((Nat → Int32) × (Nat → Nat → Int32) × (Int64) × (Nat → Int64)) [.ref y0] (YW cy y0 r v f w g) (fun r u => KV [] u.1 v ∧ KF [29] u.2.1 f ∧ YI u.1 ∧ YC u.2.1 ∧ progOK (u.2.1 4) (u.2.1 5) (u.1 9).toInt.toNat ∧ u.1 0 = v 0 ∧ u.1 1 = v 1 ∧ u.1 2 = v 2 ∧ u.1 3 = v 3 ∧ u.1 4 = v 4 ∧ u.1 5 = v 5 ∧ u.1 8 = v 8 ∧ u.1 9 = v 9 ∧ u.1 10 = v 10 ∧ u.1 13 = v 13 ∧ u.1 14 = v 14 ∧ u.1 15 = v 15 ∧ u.1 17 = v 17 ∧ u.1 18 = v 18 ∧ u.1 24 = v 24 ∧ u.1 25 = v 25 ∧ u.1 35 = v 35 ∧ u.1 36 = v 36 ∧ u.1 38 = v 38 ∧ u.1 39 = v 39) (fun u => YW cy y0 r u.1 u.2.1 u.2.2.1 u.2.2.2) := by
  refine ctI_of (by decide) (Nat.le_of_ble_eq_true rfl) (fun p e s m below meth c A ls Q hx hb hml hts hown hE hP hD hA hl ret => ?_)
  have hUv : (v 35).toInt + (v 36).toInt ≤ 40 := hIv.2
  have hM_v : KV [] v v := fun _ _ => rfl
  have hA_f : KF [29] f f := fun _ _ => rfl
  have hown : s.vm.findClass RX11 = some m.cls := hown
  have hS : va_S A s.heap s.heap [] := va_S.rf
  have hl : lv_has ls 3 [(0, .ref y0)] := hl
  refine lv_aload_n hx hb dX11_cloth_0 rfl (lv_at hl 0 rfl) ?_
  refine va_get (D := (dC, dI)) (ci := 11) (v := .ref (r 68)) (C := RX11) (T := TX11) (N := 79) hx hb hts inB_11 hown hE.1 hP 0 rfl rfl 68 (by decide) (hts _ k_1388) (fun _ h9 => h9) rfl dX11_cloth_1 ?_
  refine lv_iconst (v := 0) hx hb dX11_cloth_4 (by decide) ?_
  refine lv_iconst (v := 0) hx hb dX11_cloth_5 (by decide) ?_
  refine stI hx hb hE hP hD hS 30 rfl (vp_in_nI (n := 0) (by decide) (by decide)) rfl dX11_cloth_6 (fun H locs hP hD hS => ?_)
  obtain ⟨f1, ef1, hP, hD⟩ : ∃ fz9, fz9 = upd2 f 29 (upd (f 29) (0 : Int32).toNatClampNeg 0) ∧ va_P (dC, dI) vwCl (YW cy y0 r v fz9 w g) H ∧ va_D A (YW cy y0 r v fz9 w g) := ⟨_, rfl, hP, hD⟩
  have hCf1 : YC f1 := by rw [ef1]; exact hCf
  have hRf1 : progOK (f1 4) (f1 5) (v 9).toInt.toNat := by rw [ef1]; exact hRf
  have hA_f1 : KF [29] f1 f := by rw [ef1]; exact KF.up hA_f rfl
  refine lv_iconst (v := 1) hx hb dX11_cloth_7 (by decide) ?_
  refine lv_istore_n (lv' := [(1, .int 1), (0, .ref y0)]) hx hb dX11_cloth_8 rfl hl (by decide) rfl (fun ls hl => ?_)
  have lp2 : ∀ (n2 : Nat) (l1_2 : Int32) (v2 : Nat → Int32) (f2 : Nat → Nat → Int32) (w2 : Int64) (g2 : Nat → Int64), YI v2 → YC f2 → progOK (f2 4) (f2 5) (v2 9).toInt.toNat → v2 0 = (v 0) → v2 1 = (v 1) → v2 2 = (v 2) → v2 3 = (v 3) → v2 4 = (v 4) → v2 5 = (v 5) → v2 8 = (v 8) → v2 9 = (v 9) → v2 10 = (v 10) → v2 13 = (v 13) → v2 14 = (v 14) → v2 15 = (v 15) → v2 17 = (v 17) → v2 18 = (v 18) → v2 24 = (v 24) → v2 25 = (v 25) → v2 35 = (v 35) → v2 36 = (v 36) → v2 38 = (v 38) → v2 39 = (v 39) → ((1 : Int) ≤ l1_2.toInt ∧ l1_2.toInt ≤ 2147483647) → KV [] v2 v → KF [29] f2 f → (2147483647 - l1_2.toInt).toNat < n2 → ∀ (H : Heap) (locs : List Loc) (ls : Array Slot), va_P (dC, dI) vwCl (YW cy y0 r v2 f2 w2 g2) H → va_D A (YW cy y0 r v2 f2 w2 g2) → va_S A s.heap H locs → lv_has ls 3 [(1, .int l1_2), (0, .ref y0)] → W p l e { frames := 3, cells := 0, slots := 0, locals := 105 } s m ([.ref y0] : List Value).toArray below meth c H locs 0 0 Q (F0 m 9 ls []) := by
    intro n2
    induction n2 with
    | zero => intro l1_2 v2 f2 w2 g2 hIv2 hCf2 hRf2 hq0_v2 hq1_v2 hq2_v2 hq3_v2 hq4_v2 hq5_v2 hq8_v2 hq9_v2 hq10_v2 hq13_v2 hq14_v2 hq15_v2 hq17_v2 hq18_v2 hq24_v2 hq25_v2 hq35_v2 hq36_v2 hq38_v2 hq39_v2 hr1_2 hM_v2 hA_f2 hm; exact absurd hm (Nat.not_lt_zero _)
    | succ n2 ih2 =>
      intro l1_2 v2 f2 w2 g2 hIv2 hCf2 hRf2 hq0_v2 hq1_v2 hq2_v2 hq3_v2 hq4_v2 hq5_v2 hq8_v2 hq9_v2 hq10_v2 hq13_v2 hq14_v2 hq15_v2 hq17_v2 hq18_v2 hq24_v2 hq25_v2 hq35_v2 hq36_v2 hq38_v2 hq39_v2 hr1_2 hM_v2 hA_f2 hm2 H locs ls hP hD hS hl
      have hUv2 : (v2 35).toInt + (v2 36).toInt ≤ 40 := hIv2.2
      have zq9_v2 := congrArg Int32.toInt hq9_v2
      refine lv_iload_n hx hb dX11_cloth_9 rfl (lv_at hl 0 rfl) ?_
      refine lv_iconst (v := 1) hx hb dX11_cloth_10 (by decide) ?_
      refine lv_aload_n hx hb dX11_cloth_11 rfl (lv_at hl 1 rfl) ?_
      refine va_get (D := (dC, dI)) (ci := 11) (v := .int (v2 25)) (C := RX11) (T := TX11) (N := 79) hx hb hts inB_11 hown hE.1 hP 0 rfl rfl 49 (by decide) (hts _ k_1369) (fun _ h9 => h9) rfl dX11_cloth_12 ?_
      refine tI (y := (v 25)) hq25_v2 ?_
      have b25_v : 0 ≤ (v 25).toInt ∧ (v 25).toInt ≤ 6 := YIb.b hIv.1 25 (by decide)
      refine lv_ishl hx hb dX11_cloth_15 ?_
      refine lv_topi (fun t3 et3 => ?_)
      have zt3 : 1 ≤ t3.toInt ∧ t3.toInt ≤ 64 := by rw [et3]; exact shl1_rng6 (by omega) (by omega)
      refine lv_icmp_ge (tgt := 86) hx hb dX11_cloth_16 (by decide) (fun c4 => ?_) (fun c4 => ?_)
      · skip
        have zc4 : t3.toInt ≤ l1_2.toInt := by rw [fa_le] at c4; exact c4
        have rg5 := fb_rng l1_2
        have rg6 := fb_rng t3
        refine lv_aload_n hx hb dX11_cloth_86 rfl (lv_at hl 1 rfl) ?_
        refine va_get (D := (dC, dI)) (ci := 11) (v := .ref (r 68)) (C := RX11) (T := TX11) (N := 79) hx hb hts inB_11 hown hE.1 hP 0 rfl rfl 68 (by decide) (hts _ k_1388) (fun _ h9 => h9) rfl dX11_cloth_87 ?_
        refine lv_iconst (v := 1) hx hb dX11_cloth_90 (by decide) ?_
        refine lv_aload_n hx hb dX11_cloth_91 rfl (lv_at hl 1 rfl) ?_
        refine va_get (D := (dC, dI)) (ci := 11) (v := .int (v2 25)) (C := RX11) (T := TX11) (N := 79) hx hb hts inB_11 hown hE.1 hP 0 rfl rfl 49 (by decide) (hts _ k_1369) (fun _ h9 => h9) rfl dX11_cloth_92 ?_
        refine tI (y := (v 25)) hq25_v2 ?_
        refine lv_ishl hx hb dX11_cloth_95 ?_
        refine tI (y := t3) et3.symm ?_
        refine lv_iconst (v := 1) hx hb dX11_cloth_96 (by decide) ?_
        refine lv_isub hx hb dX11_cloth_97 ?_
        refine lv_topi (fun t7 et7 => ?_)
        have zt7 : t7.toInt = t3.toInt - 1 := by rw [et7]; exact sub_i rfl (by decide) (by omega) (by omega)
        refine ldI hx hb hE hP 30 rfl (vp_in_iff.mpr ⟨by omega, by omega⟩) rfl rfl dX11_cloth_98 ?_
        refine lv_topi (fun t8 et8 => ?_)
        refine lv_istore_n (lv' := [(1, .int t8), (0, .ref y0)]) hx hb dX11_cloth_99 rfl hl (by decide) rfl (fun ls hl => ?_)
        refine lv_iload_n hx hb dX11_cloth_100 rfl (lv_at hl 0 rfl) ?_
        refine lv_ldcw (v := 1000000) hx hb hown (hts _ k_1927) dX11_cloth_101 ?_
        refine lv_icmp_lt (tgt := 111) hx hb dX11_cloth_104 (by decide) (fun c9 => ?_) (fun c9 => ?_)
        · skip
          have zc9 : t8.toInt < 1000000 := by rw [fa_lt, show (1000000 : Int32).toInt = 1000000 from by decide] at c9; exact c9
          refine lv_iload_n hx hb dX11_cloth_111 rfl (lv_at hl 0 rfl) ?_
          exact ret t8 (v2, f2, w2, g2) _ _ _ _ _ _ rfl ⟨hM_v2, hA_f2, hIv2, hCf2, hRf2, (show v2 0 = v 0 from hq0_v2), (show v2 1 = v 1 from hq1_v2), (show v2 2 = v 2 from hq2_v2), (show v2 3 = v 3 from hq3_v2), (show v2 4 = v 4 from hq4_v2), (show v2 5 = v 5 from hq5_v2), (show v2 8 = v 8 from hq8_v2), (show v2 9 = v 9 from hq9_v2), (show v2 10 = v 10 from hq10_v2), (show v2 13 = v 13 from hq13_v2), (show v2 14 = v 14 from hq14_v2), (show v2 15 = v 15 from hq15_v2), (show v2 17 = v 17 from hq17_v2), (show v2 18 = v 18 from hq18_v2), (show v2 24 = v 24 from hq24_v2), (show v2 25 = v 25 from hq25_v2), (show v2 35 = v 35 from hq35_v2), (show v2 36 = v 36 from hq36_v2), (show v2 38 = v 38 from hq38_v2), (show v2 39 = v 39 from hq39_v2)⟩ hP hD hS dX11_cloth_112 (Nat.le_refl _) (Nat.le_refl _)
        · skip
          have zc9 : ¬ (t8.toInt < 1000000) := by rw [fa_lt, show (1000000 : Int32).toInt = 1000000 from by decide] at c9; exact c9
          refine lv_iconst (v := (-1)) hx hb dX11_cloth_107 (by decide) ?_
          refine lv_goto (tgt := 112) hx hb dX11_cloth_108 (by decide) ?_
          exact ret (-1) (v2, f2, w2, g2) _ _ _ _ _ _ rfl ⟨hM_v2, hA_f2, hIv2, hCf2, hRf2, (show v2 0 = v 0 from hq0_v2), (show v2 1 = v 1 from hq1_v2), (show v2 2 = v 2 from hq2_v2), (show v2 3 = v 3 from hq3_v2), (show v2 4 = v 4 from hq4_v2), (show v2 5 = v 5 from hq5_v2), (show v2 8 = v 8 from hq8_v2), (show v2 9 = v 9 from hq9_v2), (show v2 10 = v 10 from hq10_v2), (show v2 13 = v 13 from hq13_v2), (show v2 14 = v 14 from hq14_v2), (show v2 15 = v 15 from hq15_v2), (show v2 17 = v 17 from hq17_v2), (show v2 18 = v 18 from hq18_v2), (show v2 24 = v 24 from hq24_v2), (show v2 25 = v 25 from hq25_v2), (show v2 35 = v 35 from hq35_v2), (show v2 36 = v 36 from hq36_v2), (show v2 38 = v 38 from hq38_v2), (show v2 39 = v 39 from hq39_v2)⟩ hP hD hS dX11_cloth_112 (Nat.le_refl _) (Nat.le_refl _)
      · skip
        have zc4 : ¬ (t3.toInt ≤ l1_2.toInt) := by rw [fa_le] at c4; exact c4
        have rg10 := fb_rng l1_2
        have rg11 := fb_rng t3
        refine lv_aload_n hx hb dX11_cloth_19 rfl (lv_at hl 1 rfl) ?_
        refine va_get (D := (dC, dI)) (ci := 11) (v := .ref (r 68)) (C := RX11) (T := TX11) (N := 79) hx hb hts inB_11 hown hE.1 hP 0 rfl rfl 68 (by decide) (hts _ k_1388) (fun _ h9 => h9) rfl dX11_cloth_20 ?_
        refine lv_iload_n hx hb dX11_cloth_23 rfl (lv_at hl 0 rfl) ?_
        refine lv_ldcw (v := 1000000) hx hb hown (hts _ k_1927) dX11_cloth_24 ?_
        refine stI hx hb hE hP hD hS 30 rfl (vp_in_iff.mpr ⟨by omega, by omega⟩) rfl dX11_cloth_27 (fun H locs hP hD hS => ?_)
        obtain ⟨f12, ef12, hP, hD⟩ : ∃ fz9, fz9 = upd2 f2 29 (upd (f2 29) l1_2.toNatClampNeg 1000000) ∧ va_P (dC, dI) vwCl (YW cy y0 r v2 fz9 w2 g2) H ∧ va_D A (YW cy y0 r v2 fz9 w2 g2) := ⟨_, rfl, hP, hD⟩
        have hCf12 : YC f12 := by rw [ef12]; exact hCf2
        have hRf12 : progOK (f12 4) (f12 5) (v2 9).toInt.toNat := by rw [ef12]; exact hRf2
        have hA_f12 : KF [29] f12 f := by rw [ef12]; exact KF.up hA_f2 rfl
        refine lv_iconst (v := 1) hx hb dX11_cloth_28 (by decide) ?_
        refine lv_istore_n (lv' := [(2, .int 1), (1, .int l1_2), (0, .ref y0)]) hx hb dX11_cloth_29 rfl hl (by decide) rfl (fun ls hl => ?_)
        have lp13 : ∀ (n13 : Nat) (l2_13 : Int32) (v13 : Nat → Int32) (f13 : Nat → Nat → Int32) (w13 : Int64) (g13 : Nat → Int64), YI v13 → YC f13 → progOK (f13 4) (f13 5) (v13 9).toInt.toNat → v13 0 = (v 0) → v13 1 = (v 1) → v13 2 = (v 2) → v13 3 = (v 3) → v13 4 = (v 4) → v13 5 = (v 5) → v13 8 = (v 8) → v13 9 = (v 9) → v13 10 = (v 10) → v13 13 = (v 13) → v13 14 = (v 14) → v13 15 = (v 15) → v13 17 = (v 17) → v13 18 = (v 18) → v13 24 = (v 24) → v13 25 = (v 25) → v13 35 = (v 35) → v13 36 = (v 36) → v13 38 = (v 38) → v13 39 = (v 39) → ((1 : Int) ≤ l2_13.toInt ∧ l2_13.toInt ≤ 2147483647) → KV [] v13 v → KF [29] f13 f → (2147483647 - l2_13.toInt).toNat < n13 → ∀ (H : Heap) (locs : List Loc) (ls : Array Slot), va_P (dC, dI) vwCl (YW cy y0 r v13 f13 w13 g13) H → va_D A (YW cy y0 r v13 f13 w13 g13) → va_S A s.heap H locs → lv_has ls 3 [(2, .int l2_13), (1, .int l1_2), (0, .ref y0)] → W p l e { frames := 3, cells := 0, slots := 0, locals := 105 } s m ([.ref y0] : List Value).toArray below meth c H locs 0 0 Q (F0 m 30 ls []) := by
          intro n13
          induction n13 with
          | zero => intro l2_13 v13 f13 w13 g13 hIv13 hCf13 hRf13 hq0_v13 hq1_v13 hq2_v13 hq3_v13 hq4_v13 hq5_v13 hq8_v13 hq9_v13 hq10_v13 hq13_v13 hq14_v13 hq15_v13 hq17_v13 hq18_v13 hq24_v13 hq25_v13 hq35_v13 hq36_v13 hq38_v13 hq39_v13 hr2_13 hM_v13 hA_f13 hm; exact absurd hm (Nat.not_lt_zero _)
          | succ n13 ih13 =>
            intro l2_13 v13 f13 w13 g13 hIv13 hCf13 hRf13 hq0_v13 hq1_v13 hq2_v13 hq3_v13 hq4_v13 hq5_v13 hq8_v13 hq9_v13 hq10_v13 hq13_v13 hq14_v13 hq15_v13 hq17_v13 hq18_v13 hq24_v13 hq25_v13 hq35_v13 hq36_v13 hq38_v13 hq39_v13 hr2_13 hM_v13 hA_f13 hm13 H locs ls hP hD hS hl
            have hUv13 : (v13 35).toInt + (v13 36).toInt ≤ 40 := hIv13.2
            have zq9_v13 := congrArg Int32.toInt hq9_v13
            refine lv_iload_n hx hb dX11_cloth_30 rfl (lv_at hl 0 rfl) ?_
            refine lv_iload_n hx hb dX11_cloth_31 rfl (lv_at hl 1 rfl) ?_
            refine lv_icmp_gt (tgt := 80) hx hb dX11_cloth_32 (by decide) (fun c14 => ?_) (fun c14 => ?_)
            · skip
              have zc14 : l1_2.toInt < l2_13.toInt := by rw [fa_lt] at c14; exact c14
              have rg15 := fb_rng l2_13
              obtain ⟨t16, et16⟩ : ∃ y : Int32, y = l1_2 + 1 := ⟨_, rfl⟩
              have zt16 : t16.toInt = l1_2.toInt + 1 := by rw [et16]; exact add_i rfl (by decide) (by omega) (by omega)
              refine lv_iinc (v := t16) (lv' := [(1, .int t16), (2, .int l2_13), (0, .ref y0)]) hx hb dX11_cloth_80 hl (k := 1) rfl (by rw [et16]; rfl) (by decide) rfl (fun ls hl => ?_)
              refine lv_goto (tgt := 9) hx hb dX11_cloth_83 (by decide) ?_
              have rg17 := fb_rng t16
              exact ih2 t16 v13 f13 w13 g13 hIv13 hCf13 hRf13 hq0_v13 hq1_v13 hq2_v13 hq3_v13 hq4_v13 hq5_v13 hq8_v13 hq9_v13 hq10_v13 hq13_v13 hq14_v13 hq15_v13 hq17_v13 hq18_v13 hq24_v13 hq25_v13 hq35_v13 hq36_v13 hq38_v13 hq39_v13 ⟨show (1 : Int) ≤ t16.toInt by omega, show t16.toInt ≤ (2147483647 : Int) by omega⟩ hM_v13 hA_f13 (by show (2147483647 - t16.toInt).toNat < n2; omega) _ _ _ hP hD hS (lv_sub hl [0, 2] rfl)
            · skip
              have zc14 : ¬ (l1_2.toInt < l2_13.toInt) := by rw [fa_lt] at c14; exact c14
              have rg18 := fb_rng l2_13
              refine lv_iload_n hx hb dX11_cloth_35 rfl (lv_at hl 0 rfl) ?_
              refine lv_iload_n hx hb dX11_cloth_36 rfl (lv_at hl 1 rfl) ?_
              refine lv_iconst (v := (-1)) hx hb dX11_cloth_37 (by decide) ?_
              refine lv_ixor hx hb dX11_cloth_38 ?_
              refine lv_topi (fun t19 et19 => ?_)
              refine lv_iand hx hb dX11_cloth_39 ?_
              refine lv_topi (fun t20 et20 => ?_)
              have zt20 : 0 ≤ t20.toInt ∧ t20.toInt ≤ 63 := by rw [et20]; exact and_left (by omega) (by omega)
              refine lv_if_ne (tgt := 74) hx hb dX11_cloth_40 (by decide) (fun c21 => ?_) (fun c21 => ?_)
              · skip
                have zc21 : ¬ (t20.toInt = 0) := by rw [fa_eq, show (0 : Int32).toInt = 0 from by decide] at c21; exact c21
                obtain ⟨t22, et22⟩ : ∃ y : Int32, y = l2_13 + 1 := ⟨_, rfl⟩
                have zt22 : t22.toInt = l2_13.toInt + 1 := by rw [et22]; exact add_i rfl (by decide) (by omega) (by omega)
                refine lv_iinc (v := t22) (lv' := [(2, .int t22), (1, .int l1_2), (0, .ref y0)]) hx hb dX11_cloth_74 hl (k := 0) rfl (by rw [et22]; rfl) (by decide) rfl (fun ls hl => ?_)
                refine lv_goto (tgt := 30) hx hb dX11_cloth_77 (by decide) ?_
                have rg23 := fb_rng t22
                exact ih13 t22 v13 f13 w13 g13 hIv13 hCf13 hRf13 hq0_v13 hq1_v13 hq2_v13 hq3_v13 hq4_v13 hq5_v13 hq8_v13 hq9_v13 hq10_v13 hq13_v13 hq14_v13 hq15_v13 hq17_v13 hq18_v13 hq24_v13 hq25_v13 hq35_v13 hq36_v13 hq38_v13 hq39_v13 ⟨show (1 : Int) ≤ t22.toInt by omega, show t22.toInt ≤ (2147483647 : Int) by omega⟩ hM_v13 hA_f13 (by show (2147483647 - t22.toInt).toNat < n13; omega) _ _ _ hP hD hS (lv_sub hl [0, 1, 2] rfl)
              · skip
                have zc21 : t20.toInt = 0 := by rw [fa_eq, show (0 : Int32).toInt = 0 from by decide] at c21; exact c21
                refine lv_aload_n hx hb dX11_cloth_43 rfl (lv_at hl 2 rfl) ?_
                refine va_get (D := (dC, dI)) (ci := 11) (v := .ref (r 68)) (C := RX11) (T := TX11) (N := 79) hx hb hts inB_11 hown hE.1 hP 0 rfl rfl 68 (by decide) (hts _ k_1388) (fun _ h9 => h9) rfl dX11_cloth_44 ?_
                refine lv_iload_n hx hb dX11_cloth_47 rfl (lv_at hl 1 rfl) ?_
                refine lv_aload_n hx hb dX11_cloth_48 rfl (lv_at hl 2 rfl) ?_
                refine va_get (D := (dC, dI)) (ci := 11) (v := .ref (r 68)) (C := RX11) (T := TX11) (N := 79) hx hb hts inB_11 hown hE.1 hP 0 rfl rfl 68 (by decide) (hts _ k_1388) (fun _ h9 => h9) rfl dX11_cloth_49 ?_
                refine lv_iload_n hx hb dX11_cloth_52 rfl (lv_at hl 1 rfl) ?_
                refine ldI hx hb hE hP 30 rfl (vp_in_iff.mpr ⟨by omega, by omega⟩) rfl rfl dX11_cloth_53 ?_
                refine lv_topi (fun t24 et24 => ?_)
                refine lv_aload_n hx hb dX11_cloth_54 rfl (lv_at hl 2 rfl) ?_
                refine lv_iload_n hx hb dX11_cloth_55 rfl (lv_at hl 0 rfl) ?_
                refine cbVi (n := 1) (rest := [.int t24, .int l1_2, .ref (r 68)]) hx hb hml hown hts hE hP hD hS hA (sY_X11_rowOf_1 l dC dI cy y0 r l2_13 v13 f13 w13 g13 hIv13 hCf13 hRf13 ) k_1928 k_1930 k_89 k_114 k_1931 (by decide +kernel) ⟨Nat.le_of_ble_eq_true rfl, Nat.le_of_ble_eq_true rfl⟩ 0 11 rfl rfl (rfl) hl.1 rfl (Nat.le_of_ble_eq_true rfl) dX11_cloth_56 (fun r25 u H locs hw hP hD hS => ?_)
                refine lv_aload_n hx hb dX11_cloth_59 rfl (lv_at hl 2 rfl) ?_
                refine va_get (D := (dC, dI)) (ci := 11) (v := .ref (r 68)) (C := RX11) (T := TX11) (N := 79) hx hb hts inB_11 hown hE.1 hP 0 rfl rfl 68 (by decide) (hts _ k_1388) (fun _ h9 => h9) rfl dX11_cloth_60 ?_
                refine lv_iload_n hx hb dX11_cloth_63 rfl (lv_at hl 1 rfl) ?_
                refine lv_iload_n hx hb dX11_cloth_64 rfl (lv_at hl 0 rfl) ?_
                refine lv_iconst (v := (-1)) hx hb dX11_cloth_65 (by decide) ?_
                refine lv_ixor hx hb dX11_cloth_66 ?_
                refine lv_topi (fun t26 et26 => ?_)
                refine lv_iand hx hb dX11_cloth_67 ?_
                refine lv_topi (fun t27 et27 => ?_)
                have zt27 : 0 ≤ t27.toInt ∧ t27.toInt ≤ 63 := by rw [et27]; exact and_left (by omega) (by omega)
                refine ldI hx hb hE hP 30 rfl (vp_in_iff.mpr ⟨by omega, by omega⟩) rfl rfl dX11_cloth_68 ?_
                refine lv_topi (fun t28 et28 => ?_)
                refine lv_iadd hx hb dX11_cloth_69 ?_
                refine lv_topi (fun t29 et29 => ?_)
                refine cbSi (n := 2) (rest := [.int l1_2, .ref (r 68)]) hx hb hml hown hts hE hP hD hS hA (sY_X11_lesser_1 0 l dC dI cy y0 r t24 t29 v13 f13 w13 g13 hIv13 hCf13 hRf13 ) k_1799 k_1800 k_114 k_1801 (by decide +kernel) ⟨Nat.le_of_ble_eq_true rfl, Nat.le_of_ble_eq_true rfl⟩ (rfl) hl.1 rfl (Nat.le_of_ble_eq_true rfl) dX11_cloth_70 (fun r30 u H locs hw hP hD hS => ?_)
                obtain ⟨hG31, hw⟩ := hw
                obtain ⟨pp32, pp33⟩ := hw
                have pp32 : r30.toInt ≤ t24.toInt := pp32
                have pp33 : r30.toInt ≤ t29.toInt := pp33
                refine stI hx hb hE hP hD hS 30 rfl (vp_in_iff.mpr ⟨by omega, by omega⟩) rfl dX11_cloth_73 (fun H locs hP hD hS => ?_)
                obtain ⟨f34, ef34, hP, hD⟩ : ∃ fz9, fz9 = upd2 f13 29 (upd (f13 29) l1_2.toNatClampNeg r30) ∧ va_P (dC, dI) vwCl (YW cy y0 r v13 fz9 w13 g13) H ∧ va_D A (YW cy y0 r v13 fz9 w13 g13) := ⟨_, rfl, hP, hD⟩
                have hCf34 : YC f34 := by rw [ef34]; exact hCf13
                have hRf34 : progOK (f34 4) (f34 5) (v13 9).toInt.toNat := by rw [ef34]; exact hRf13
                have hA_f34 : KF [29] f34 f := by rw [ef34]; exact KF.up hA_f13 rfl
                obtain ⟨t35, et35⟩ : ∃ y : Int32, y = l2_13 + 1 := ⟨_, rfl⟩
                have zt35 : t35.toInt = l2_13.toInt + 1 := by rw [et35]; exact add_i rfl (by decide) (by omega) (by omega)
                refine lv_iinc (v := t35) (lv' := [(2, .int t35), (1, .int l1_2), (0, .ref y0)]) hx hb dX11_cloth_74 hl (k := 0) rfl (by rw [et35]; rfl) (by decide) rfl (fun ls hl => ?_)
                refine lv_goto (tgt := 30) hx hb dX11_cloth_77 (by decide) ?_
                have rg36 := fb_rng t35
                exact ih13 t35 v13 f34 w13 g13 hIv13 hCf34 hRf34 hq0_v13 hq1_v13 hq2_v13 hq3_v13 hq4_v13 hq5_v13 hq8_v13 hq9_v13 hq10_v13 hq13_v13 hq14_v13 hq15_v13 hq17_v13 hq18_v13 hq24_v13 hq25_v13 hq35_v13 hq36_v13 hq38_v13 hq39_v13 ⟨show (1 : Int) ≤ t35.toInt by omega, show t35.toInt ≤ (2147483647 : Int) by omega⟩ hM_v13 hA_f34 (by show (2147483647 - t35.toInt).toNat < n13; omega) _ _ _ hP hD hS (lv_sub hl [0, 1, 2] rfl)
        exact lp13 _ 1 v2 f12 w2 g2 hIv2 hCf12 hRf12 hq0_v2 hq1_v2 hq2_v2 hq3_v2 hq4_v2 hq5_v2 hq8_v2 hq9_v2 hq10_v2 hq13_v2 hq14_v2 hq15_v2 hq17_v2 hq18_v2 hq24_v2 hq25_v2 hq35_v2 hq36_v2 hq38_v2 hq39_v2 ⟨by decide, by decide⟩ hM_v2 hA_f12 (Nat.lt_succ_self _) _ _ _ hP hD hS (lv_sub hl [0, 1, 2] rfl)
  exact lp2 _ 1 v f1 w g hIv hCf1 hRf1 rfl rfl rfl rfl rfl rfl rfl rfl rfl rfl rfl rfl rfl rfl rfl rfl rfl rfl rfl rfl ⟨by decide, by decide⟩ hM_v hA_f1 (Nat.lt_succ_self _) _ _ _ hP hD hS (lv_sub hl [0, 1] rfl)
set_option maxHeartbeats 4000000 in
set_option maxRecDepth 100000 in
theorem sY_X11_areTaken_1 (l : Launch) (dC : Nat → ClassId) (dI : Nat → Nat → Nat) (cy : Nat → ClassId) (y0 : Nat) (r : Nat → Nat) (p1 : Int32) (p2 : Int32) (v : Nat → Int32) (f : Nat → Nat → Int32) (w : Int64) (g : Nat → Int64) (hIv : YI v) (hCf : YC f) (hRf : progOK (f 4) (f 5) (v 9).toInt.toNat) (hp1 : (0 : Int) ≤ p1.toInt ∧ p1.toInt ≤ 5) (hp2 : (0 : Int) ≤ p2.toInt ∧ p2.toInt ≤ 5) : ctI l (dC, dI) cy yX11_areTaken cX11_areTaken 3 .boolean 2 80 0 0 Unit [.ref y0, .int p1, .int p2] (YW cy y0 r v f w g) (fun r u => ((r = 1) ∨ (r = 0))) (fun u => YW cy y0 r v f w g) := by
  refine ctI_of (by decide) (Nat.le_of_ble_eq_true rfl) (fun p e s m below meth c A ls Q hx hb hml hts hown hE hP hD hA hl ret => ?_)
  have hUv : (v 35).toInt + (v 36).toInt ≤ 40 := hIv.2
  have hown : s.vm.findClass RX11 = some m.cls := hown
  have hS : va_S A s.heap s.heap [] := va_S.rf
  have hl : lv_has ls 3 [(0, .ref y0), (1, .int p1), (2, .int p2)] := hl
  refine lv_aload_n hx hb dX11_areTaken_0 rfl (lv_at hl 0 rfl) ?_
  refine va_get (D := (dC, dI)) (ci := 11) (v := .ref (r 34)) (C := RX11) (T := TX11) (N := 79) hx hb hts inB_11 hown hE.1 hP 0 rfl rfl 34 (by decide) (hts _ k_1354) (fun _ h9 => h9) rfl dX11_areTaken_1 ?_
  refine lv_iload_n hx hb dX11_areTaken_4 rfl (lv_at hl 1 rfl) ?_
  refine ldI hx hb hE hP 17 rfl (vp_in_iff.mpr ⟨by omega, by omega⟩) rfl rfl dX11_areTaken_5 ?_
  refine lv_topi (fun t1 et1 => ?_)
  refine lv_aload_n hx hb dX11_areTaken_6 rfl (lv_at hl 0 rfl) ?_
  refine va_get (D := (dC, dI)) (ci := 11) (v := .ref (r 34)) (C := RX11) (T := TX11) (N := 79) hx hb hts inB_11 hown hE.1 hP 0 rfl rfl 34 (by decide) (hts _ k_1354) (fun _ h9 => h9) rfl dX11_areTaken_7 ?_
  refine lv_iload_n hx hb dX11_areTaken_10 rfl (lv_at hl 2 rfl) ?_
  refine ldI hx hb hE hP 17 rfl (vp_in_iff.mpr ⟨by omega, by omega⟩) rfl rfl dX11_areTaken_11 ?_
  refine lv_topi (fun t2 et2 => ?_)
  refine lv_isub hx hb dX11_areTaken_12 ?_
  refine lv_topi (fun t3 et3 => ?_)
  refine cbSi (n := 1) (rest := []) hx hb hml hown hts hE hP hD hS hA (sY_X11_plain_1 l dC dI cy y0 r t3 v f w g hIv hCf hRf ) k_1920 k_1921 k_114 k_1922 (by decide +kernel) ⟨Nat.le_of_ble_eq_true rfl, Nat.le_of_ble_eq_true rfl⟩ (rfl) hl.1 rfl (Nat.le_of_ble_eq_true rfl) dX11_areTaken_13 (fun r4 u H locs hw hP hD hS => ?_)
  refine lv_aload_n hx hb dX11_areTaken_16 rfl (lv_at hl 0 rfl) ?_
  refine va_get (D := (dC, dI)) (ci := 11) (v := .int (v 28)) (C := RX11) (T := TX11) (N := 79) hx hb hts inB_11 hown hE.1 hP 0 rfl rfl 52 (by decide) (hts _ k_1372) (fun _ h9 => h9) rfl dX11_areTaken_17 ?_
  refine lv_icmp_gt (tgt := 27) hx hb dX11_areTaken_20 (by decide) (fun c5 => ?_) (fun c5 => ?_)
  · skip
    have zc5 : (v 28).toInt < r4.toInt := by rw [fa_lt] at c5; exact c5
    have rg6 := fb_rng r4
    have rg7 := fb_rng (v 28)
    refine lv_iconst (v := 0) hx hb dX11_areTaken_27 (by decide) ?_
    exact ret 0 () _ _ _ _ _ _ rfl (Or.inr rfl) hP hD hS dX11_areTaken_28 (Nat.le_refl _) (Nat.le_refl _)
  · skip
    have zc5 : ¬ ((v 28).toInt < r4.toInt) := by rw [fa_lt] at c5; exact c5
    have rg8 := fb_rng r4
    have rg9 := fb_rng (v 28)
    refine lv_iconst (v := 1) hx hb dX11_areTaken_23 (by decide) ?_
    refine lv_goto (tgt := 28) hx hb dX11_areTaken_24 (by decide) ?_
    exact ret 1 () _ _ _ _ _ _ rfl (Or.inl rfl) hP hD hS dX11_areTaken_28 (Nat.le_refl _) (Nat.le_refl _)
