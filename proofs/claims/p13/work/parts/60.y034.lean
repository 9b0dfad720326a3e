set_option maxHeartbeats 4000000 in
set_option maxRecDepth 100000 in
theorem sY_X11_layDress_1 (l : Launch) (dC : Nat → ClassId) (dI : Nat → Nat → Nat) (cy : Nat → ClassId) (y0 : Nat) (r : Nat → Nat) (p1 : Int32) (v : Nat → Int32) (f : Nat → Nat → Int32) (w : Int64) (g : Nat → Int64) (hIv : YI v) (hCf : YC f) (hRf : progOK (f 4) (f 5) (v 9).toInt.toNat) (hp1 : (0 : Int) ≤ p1.toInt ∧ p1.toInt ≤ 2147483647) : ctI l (dC, dI) cy yX11_layDress cX11_layDress 7 .int 1 60 0 0 ((Nat → Int32) × (Nat → Nat → Int32) × (Int64) × (Nat → Int64)) [.ref y0, .int p1] (YW cy y0 r v f w g) (fun r u => KV [] u.1 v ∧ KF [27] u.2.1 f ∧ YI u.1 ∧ YC u.2.1 ∧ progOK (u.2.1 4) (u.2.1 5) (u.1 9).toInt.toNat ∧ u.1 0 = v 0 ∧ u.1 1 = v 1 ∧ u.1 2 = v 2 ∧ u.1 3 = v 3 ∧ u.1 4 = v 4 ∧ u.1 5 = v 5 ∧ u.1 8 = v 8 ∧ u.1 9 = v 9 ∧ u.1 10 = v 10 ∧ u.1 13 = v 13 ∧ u.1 14 = v 14 ∧ u.1 15 = v 15 ∧ u.1 17 = v 17 ∧ u.1 18 = v 18 ∧ u.1 24 = v 24 ∧ u.1 25 = v 25 ∧ u.1 35 = v 35 ∧ u.1 36 = v 36 ∧ u.1 38 = v 38 ∧ u.1 39 = v 39) (fun u => YW cy y0 r u.1 u.2.1 u.2.2.1 u.2.2.2) := by
  refine ctI_of (by decide) (Nat.le_of_ble_eq_true rfl) (fun p e s m below meth c A ls Q hx hb hml hts hown hE hP hD hA hl ret => ?_)
  have hUv : (v 35).toInt + (v 36).toInt ≤ 40 := hIv.2
  have hM_v : KV [] v v := fun _ _ => rfl
  have hA_f : KF [27] f f := fun _ _ => rfl
  have hown : s.vm.findClass RX11 = some m.cls := hown
  have hS : va_S A s.heap s.heap [] := va_S.rf
  have hl : lv_has ls 7 [(0, .ref y0), (1, .int p1)] := hl
  refine lv_iload_n hx hb dX11_layDress_0 rfl (lv_at hl 1 rfl) ?_
  refine lv_istore_n (lv' := [(2, .int p1), (0, .ref y0), (1, .int p1)]) hx hb dX11_layDress_1 rfl hl (by decide) rfl (fun ls hl => ?_)
  refine lv_iconst (v := 0) hx hb dX11_layDress_2 (by decide) ?_
  refine lv_istore_n (lv' := [(3, .int 0), (2, .int p1), (0, .ref y0), (1, .int p1)]) hx hb dX11_layDress_3 rfl hl (by decide) rfl (fun ls hl => ?_)
  refine lv_iconst (v := 0) hx hb dX11_layDress_4 (by decide) ?_
  refine lv_istore (lv' := [(4, .int 0), (3, .int 0), (2, .int p1), (0, .ref y0), (1, .int p1)]) hx hb dX11_layDress_5 hl (by decide) rfl (fun ls hl => ?_)
  refine lv_aload_n hx hb dX11_layDress_7 rfl (lv_at hl 3 rfl) ?_
  refine va_get (D := (dC, dI)) (ci := 11) (v := .int (v 24)) (C := RX11) (T := TX11) (N := 79) hx hb hts inB_11 hown hE.1 hP 0 rfl rfl 48 (by decide) (hts _ k_1368) (fun _ h9 => h9) rfl dX11_layDress_8 ?_
  have b24_v : 0 ≤ (v 24).toInt ∧ (v 24).toInt ≤ 6 := YIb.b hIv.1 24 (by decide)
  refine lv_iconst (v := 1) hx hb dX11_layDress_11 (by decide) ?_
  refine lv_isub hx hb dX11_layDress_12 ?_
  refine lv_topi (fun t1 et1 => ?_)
  have rg2 := fb_rng (v 24)
  have zt1 : t1.toInt = (v 24).toInt - 1 := by rw [et1]; exact sub_i rfl (by decide) (by omega) (by omega)
  refine lv_istore (lv' := [(5, .int t1), (4, .int 0), (3, .int 0), (2, .int p1), (0, .ref y0), (1, .int p1)]) hx hb dX11_layDress_13 hl (by decide) rfl (fun ls hl => ?_)
  have lp3 : ∀ (n3 : Nat) (l2_3 : Int32) (l3_3 : Int32) (l4_3 : Int32) (l5_3 : Int32) (v3 : Nat → Int32) (f3 : Nat → Nat → Int32) (w3 : Int64) (g3 : Nat → Int64), YI v3 → YC f3 → progOK (f3 4) (f3 5) (v3 9).toInt.toNat → v3 0 = (v 0) → v3 1 = (v 1) → v3 2 = (v 2) → v3 3 = (v 3) → v3 4 = (v 4) → v3 5 = (v 5) → v3 8 = (v 8) → v3 9 = (v 9) → v3 10 = (v 10) → v3 13 = (v 13) → v3 14 = (v 14) → v3 15 = (v 15) → v3 17 = (v 17) → v3 18 = (v 18) → v3 24 = (v 24) → v3 25 = (v 25) → v3 35 = (v 35) → v3 36 = (v 36) → v3 38 = (v 38) → v3 39 = (v 39) → ((0 : Int) ≤ l2_3.toInt ∧ l2_3.toInt ≤ 2147483647) → ((-2147483648 : Int) ≤ l5_3.toInt ∧ l5_3.toInt ≤ 5) → KV [] v3 v → KF [27] f3 f → (l5_3.toInt + 2147483648).toNat < n3 → ∀ (H : Heap) (locs : List Loc) (ls : Array Slot), va_P (dC, dI) vwCl (YW cy y0 r v3 f3 w3 g3) H → va_D A (YW cy y0 r v3 f3 w3 g3) → va_S A s.heap H locs → lv_has ls 7 [(5, .int l5_3), (4, .int l4_3), (3, .int l3_3), (2, .int l2_3), (0, .ref y0), (1, .int p1)] → W p l e { frames := 1, cells := 0, slots := 0, locals := 60 } s m ([.ref y0, .int p1] : List Value).toArray below meth c H locs 0 0 Q (F0 m 15 ls []) := by
    intro n3
    induction n3 with
    | zero => intro l2_3 l3_3 l4_3 l5_3 v3 f3 w3 g3 hIv3 hCf3 hRf3 hq0_v3 hq1_v3 hq2_v3 hq3_v3 hq4_v3 hq5_v3 hq8_v3 hq9_v3 hq10_v3 hq13_v3 hq14_v3 hq15_v3 hq17_v3 hq18_v3 hq24_v3 hq25_v3 hq35_v3 hq36_v3 hq38_v3 hq39_v3 hr2_3 hr5_3 hM_v3 hA_f3 hm; exact absurd hm (Nat.not_lt_zero _)
    | succ n3 ih3 =>
      intro l2_3 l3_3 l4_3 l5_3 v3 f3 w3 g3 hIv3 hCf3 hRf3 hq0_v3 hq1_v3 hq2_v3 hq3_v3 hq4_v3 hq5_v3 hq8_v3 hq9_v3 hq10_v3 hq13_v3 hq14_v3 hq15_v3 hq17_v3 hq18_v3 hq24_v3 hq25_v3 hq35_v3 hq36_v3 hq38_v3 hq39_v3 hr2_3 hr5_3 hM_v3 hA_f3 hm3 H locs ls hP hD hS hl
      have hUv3 : (v3 35).toInt + (v3 36).toInt ≤ 40 := hIv3.2
      have zq9_v3 := congrArg Int32.toInt hq9_v3
      refine lv_iload hx hb dX11_layDress_15 (lv_at hl 0 rfl) ?_
      refine lv_if_lt (tgt := 121) hx hb dX11_layDress_17 (by decide) (fun c4 => ?_) (fun c4 => ?_)
      · skip
        have zc4 : l5_3.toInt < 0 := by rw [fa_lt, show (0 : Int32).toInt = 0 from by decide] at c4; exact c4
        refine lv_iload hx hb dX11_layDress_121 (lv_at hl 1 rfl) ?_
        exact ret l4_3 (v3, f3, w3, g3) _ _ _ _ _ _ rfl ⟨hM_v3, hA_f3, hIv3, hCf3, hRf3, (show v3 0 = v 0 from hq0_v3), (show v3 1 = v 1 from hq1_v3), (show v3 2 = v 2 from hq2_v3), (show v3 3 = v 3 from hq3_v3), (show v3 4 = v 4 from hq4_v3), (show v3 5 = v 5 from hq5_v3), (show v3 8 = v 8 from hq8_v3), (show v3 9 = v 9 from hq9_v3), (show v3 10 = v 10 from hq10_v3), (show v3 13 = v 13 from hq13_v3), (show v3 14 = v 14 from hq14_v3), (show v3 15 = v 15 from hq15_v3), (show v3 17 = v 17 from hq17_v3), (show v3 18 = v 18 from hq18_v3), (show v3 24 = v 24 from hq24_v3), (show v3 25 = v 25 from hq25_v3), (show v3 35 = v 35 from hq35_v3), (show v3 36 = v 36 from hq36_v3), (show v3 38 = v 38 from hq38_v3), (show v3 39 = v 39 from hq39_v3)⟩ hP hD hS dX11_layDress_123 (Nat.le_refl _) (Nat.le_refl _)
      · skip
        have zc4 : ¬ (l5_3.toInt < 0) := by rw [fa_lt, show (0 : Int32).toInt = 0 from by decide] at c4; exact c4
        refine lv_iload_n hx hb dX11_layDress_20 rfl (lv_at hl 3 rfl) ?_
        refine lv_aload_n hx hb dX11_layDress_21 rfl (lv_at hl 4 rfl) ?_
        refine va_get (D := (dC, dI)) (ci := 11) (v := .int (v3 25)) (C := RX11) (T := TX11) (N := 79) hx hb hts inB_11 hown hE.1 hP 0 rfl rfl 49 (by decide) (hts _ k_1369) (fun _ h9 => h9) rfl dX11_layDress_22 ?_
        refine tI (y := (v 25)) hq25_v3 ?_
        have b25_v : 0 ≤ (v 25).toInt ∧ (v 25).toInt ≤ 6 := YIb.b hIv.1 25 (by decide)
        refine lv_iconst (v := 1) hx hb dX11_layDress_25 (by decide) ?_
        refine lv_iadd hx hb dX11_layDress_26 ?_
        refine lv_topi (fun t5 et5 => ?_)
        have rg6 := fb_rng (v 25)
        have zt5 : t5.toInt = (v 25).toInt + 1 := by rw [et5]; exact add_i rfl (by decide) (by omega) (by omega)
        refine lv_irem hx hb dX11_layDress_27 (ne0 (by omega)) ?_
        refine lv_topi (fun t7 et7 => ?_)
        have zt7 : 0 ≤ t7.toInt ∧ t7.toInt < t5.toInt := by rw [et7]; exact rem_rng (zx := l2_3.toInt) (zy := t5.toInt) rfl rfl (by omega) (by omega)
        refine lv_istore (lv' := [(6, .int t7), (5, .int l5_3), (4, .int l4_3), (3, .int l3_3), (2, .int l2_3), (0, .ref y0), (1, .int p1)]) hx hb dX11_layDress_28 hl (by decide) rfl (fun ls hl => ?_)
        refine lv_iload_n hx hb dX11_layDress_30 rfl (lv_at hl 4 rfl) ?_
        refine lv_aload_n hx hb dX11_layDress_31 rfl (lv_at hl 5 rfl) ?_
        refine va_get (D := (dC, dI)) (ci := 11) (v := .int (v3 25)) (C := RX11) (T := TX11) (N := 79) hx hb hts inB_11 hown hE.1 hP 0 rfl rfl 49 (by decide) (hts _ k_1369) (fun _ h9 => h9) rfl dX11_layDress_32 ?_
        refine tI (y := (v 25)) hq25_v3 ?_
        refine lv_iconst (v := 1) hx hb dX11_layDress_35 (by decide) ?_
        refine lv_iadd hx hb dX11_layDress_36 ?_
        refine tI (y := t5) et5.symm ?_
        refine lv_idiv hx hb dX11_layDress_37 (ne0 (by omega)) ?_
        refine lv_topi (fun t8 et8 => ?_)
        have zt8 : 0 ≤ t8.toInt ∧ t8.toInt ≤ l2_3.toInt := by rw [et8]; exact div_rng (zx := l2_3.toInt) (zy := t5.toInt) rfl rfl (by omega) (by omega)
        refine lv_istore_n (lv' := [(2, .int t8), (6, .int t7), (5, .int l5_3), (4, .int l4_3), (3, .int l3_3), (0, .ref y0), (1, .int p1)]) hx hb dX11_layDress_38 rfl hl (by decide) rfl (fun ls hl => ?_)
        refine lv_aload_n hx hb dX11_layDress_39 rfl (lv_at hl 5 rfl) ?_
        refine va_get (D := (dC, dI)) (ci := 11) (v := .ref (r 65)) (C := RX11) (T := TX11) (N := 79) hx hb hts inB_11 hown hE.1 hP 0 rfl rfl 65 (by decide) (hts _ k_1385) (fun _ h9 => h9) rfl dX11_layDress_40 ?_
        refine lv_iload hx hb dX11_layDress_43 (lv_at hl 2 rfl) ?_
        refine lv_iload hx hb dX11_layDress_45 (lv_at hl 1 rfl) ?_
        refine lv_aload_n hx hb dX11_layDress_47 rfl (lv_at hl 5 rfl) ?_
        refine va_get (D := (dC, dI)) (ci := 11) (v := .int (v3 25)) (C := RX11) (T := TX11) (N := 79) hx hb hts inB_11 hown hE.1 hP 0 rfl rfl 49 (by decide) (hts _ k_1369) (fun _ h9 => h9) rfl dX11_layDress_48 ?_
        refine tI (y := (v 25)) hq25_v3 ?_
        refine lv_icmp_ne (tgt := 58) hx hb dX11_layDress_51 (by decide) (fun c9 => ?_) (fun c9 => ?_)
        · skip
          have zc9 : ¬ (t7.toInt = (v 25).toInt) := by rw [fa_eq] at c9; exact c9
          have rg10 := fb_rng t7
          refine lv_iload hx hb dX11_layDress_58 (lv_at hl 1 rfl) ?_
          refine stI hx hb hE hP hD hS 28 rfl (vp_in_iff.mpr ⟨by omega, by omega⟩) rfl dX11_layDress_60 (fun H locs hP hD hS => ?_)
          obtain ⟨f11, ef11, hP, hD⟩ : ∃ fz9, fz9 = upd2 f3 27 (upd (f3 27) l5_3.toNatClampNeg t7) ∧ va_P (dC, dI) vwCl (YW cy y0 r v3 fz9 w3 g3) H ∧ va_D A (YW cy y0 r v3 fz9 w3 g3) := ⟨_, rfl, hP, hD⟩
          have hCf11 : YC f11 := by rw [ef11]; exact ⟨hCf3.1, hCf3.2.1, hCf3.2.2.1, (rng_st hCf3.2.2.2.1 (by show -1 ≤ t7.toInt ∧ t7.toInt ≤ 5; omega)), hCf3.2.2.2.2.1, hCf3.2.2.2.2.2⟩
          have hRf11 : progOK (f11 4) (f11 5) (v3 9).toInt.toNat := by rw [ef11]; exact hRf3
          have hA_f11 : KF [27] f11 f := by rw [ef11]; exact KF.up hA_f3 rfl
          refine lv_iload hx hb dX11_layDress_61 (lv_at hl 1 rfl) ?_
          refine lv_aload_n hx hb dX11_layDress_63 rfl (lv_at hl 5 rfl) ?_
          refine va_get (D := (dC, dI)) (ci := 11) (v := .int (v3 25)) (C := RX11) (T := TX11) (N := 79) hx hb hts inB_11 hown hE.1 hP 0 rfl rfl 49 (by decide) (hts _ k_1369) (fun _ h9 => h9) rfl dX11_layDress_64 ?_
          refine tI (y := (v 25)) hq25_v3 ?_
          refine lv_icmp_ne (tgt := 73) hx hb dX11_layDress_67 (by decide) (fun c12 => ?_) (fun c12 => ?_)
          · skip
            have zc12 : ¬ (t7.toInt = (v 25).toInt) := by rw [fa_eq] at c12; exact c12
            refine lv_iload_n hx hb dX11_layDress_73 rfl (lv_at hl 4 rfl) ?_
            refine lv_iload hx hb dX11_layDress_74 (lv_at hl 1 rfl) ?_
            refine lv_ishr hx hb dX11_layDress_76 ?_
            refine lv_topi (fun t13 et13 => ?_)
            refine lv_iconst (v := 1) hx hb dX11_layDress_77 (by decide) ?_
            refine lv_iand hx hb dX11_layDress_78 ?_
            refine lv_topi (fun t14 et14 => ?_)
            have zt14 : 0 ≤ t14.toInt ∧ t14.toInt < 2 := by rw [et14]; exact and_rng _ (k := 1) (by decide) (by decide)
            refine lv_iconst (v := 1) hx hb dX11_layDress_79 (by decide) ?_
            refine lv_icmp_eq (tgt := 103) hx hb dX11_layDress_80 (by decide) (fun c15 => ?_) (fun c15 => ?_)
            · skip
              have zc15 : t14.toInt = 1 := by rw [fa_eq, show (1 : Int32).toInt = 1 from by decide] at c15; exact c15
              refine lv_iconst (v := (-1)) hx hb dX11_layDress_103 (by decide) ?_
              exact ret (-1) (v3, f11, w3, g3) _ _ _ _ _ _ rfl ⟨hM_v3, hA_f11, hIv3, hCf11, hRf11, (show v3 0 = v 0 from hq0_v3), (show v3 1 = v 1 from hq1_v3), (show v3 2 = v 2 from hq2_v3), (show v3 3 = v 3 from hq3_v3), (show v3 4 = v 4 from hq4_v3), (show v3 5 = v 5 from hq5_v3), (show v3 8 = v 8 from hq8_v3), (show v3 9 = v 9 from hq9_v3), (show v3 10 = v 10 from hq10_v3), (show v3 13 = v 13 from hq13_v3), (show v3 14 = v 14 from hq14_v3), (show v3 15 = v 15 from hq15_v3), (show v3 17 = v 17 from hq17_v3), (show v3 18 = v 18 from hq18_v3), (show v3 24 = v 24 from hq24_v3), (show v3 25 = v 25 from hq25_v3), (show v3 35 = v 35 from hq35_v3), (show v3 36 = v 36 from hq36_v3), (show v3 38 = v 38 from hq38_v3), (show v3 39 = v 39 from hq39_v3)⟩ hP hD hS dX11_layDress_104 (Nat.le_refl _) (Nat.le_refl _)
            · skip
              have zc15 : ¬ (t14.toInt = 1) := by rw [fa_eq, show (1 : Int32).toInt = 1 from by decide] at c15; exact c15
              refine lv_aload_n hx hb dX11_layDress_83 rfl (lv_at hl 5 rfl) ?_
              refine va_get (D := (dC, dI)) (ci := 11) (v := .ref (r 66)) (C := RX11) (T := TX11) (N := 79) hx hb hts inB_11 hown hE.1 hP 0 rfl rfl 66 (by decide) (hts _ k_1386) (fun _ h9 => h9) rfl dX11_layDress_84 ?_
              refine lv_bipush (v := 6) hx hb dX11_layDress_87 (by decide) ?_
              refine lv_iload hx hb dX11_layDress_89 (lv_at hl 2 rfl) ?_
              refine lv_imul hx hb dX11_layDress_91 ?_
              refine lv_topi (fun t16 et16 => ?_)
              have rg17 := fb_rng l5_3
              have zt16 : t16.toInt = 6 * l5_3.toInt := by rw [et16]; exact mul_i (by decide) rfl (by omega) (by omega)
              refine lv_iload hx hb dX11_layDress_92 (lv_at hl 1 rfl) ?_
              refine lv_iadd hx hb dX11_layDress_94 ?_
              refine lv_topi (fun t18 et18 => ?_)
              have rg19 := fb_rng t16
              have zt18 : t18.toInt = t16.toInt + t7.toInt := by rw [et18]; exact add_i rfl rfl (by omega) (by omega)
              refine ldI hx hb hE hP 29 rfl (vp_in_iff.mpr ⟨by omega, by omega⟩) rfl rfl dX11_layDress_95 ?_
              refine lv_topi (fun t20 et20 => ?_)
              refine lv_aload_n hx hb dX11_layDress_96 rfl (lv_at hl 5 rfl) ?_
              refine va_get (D := (dC, dI)) (ci := 11) (v := .int (v3 26)) (C := RX11) (T := TX11) (N := 79) hx hb hts inB_11 hown hE.1 hP 0 rfl rfl 50 (by decide) (hts _ k_1370) (fun _ h9 => h9) rfl dX11_layDress_97 ?_
              refine lv_icmp_le (tgt := 105) hx hb dX11_layDress_100 (by decide) (fun c21 => ?_) (fun c21 => ?_)
              · skip
                have zc21 : t20.toInt ≤ (v3 26).toInt := by rw [fa_le] at c21; exact c21
                have rg22 := fb_rng t20
                have rg23 := fb_rng (v3 26)
                refine lv_iload_n hx hb dX11_layDress_105 rfl (lv_at hl 4 rfl) ?_
                refine lv_iconst (v := 1) hx hb dX11_layDress_106 (by decide) ?_
                refine lv_iload hx hb dX11_layDress_107 (lv_at hl 1 rfl) ?_
                refine lv_ishl hx hb dX11_layDress_109 ?_
                refine lv_topi (fun t24 et24 => ?_)
                have zt24 : 1 ≤ t24.toInt ∧ t24.toInt ≤ 64 := by rw [et24]; exact shl1_rng6 (by omega) (by omega)
                refine lv_ior hx hb dX11_layDress_110 ?_
                refine lv_topi (fun t25 et25 => ?_)
                refine lv_istore_n (lv' := [(3, .int t25), (2, .int t8), (6, .int t7), (5, .int l5_3), (4, .int l4_3), (0, .ref y0), (1, .int p1)]) hx hb dX11_layDress_111 rfl hl (by decide) rfl (fun ls hl => ?_)
                obtain ⟨t26, et26⟩ : ∃ y : Int32, y = l4_3 + 1 := ⟨_, rfl⟩
                refine lv_iinc (v := t26) (lv' := [(4, .int t26), (3, .int t25), (2, .int t8), (6, .int t7), (5, .int l5_3), (0, .ref y0), (1, .int p1)]) hx hb dX11_layDress_112 hl (k := 4) rfl (by rw [et26]; rfl) (by decide) rfl (fun ls hl => ?_)
                obtain ⟨t27, et27⟩ : ∃ y : Int32, y = l5_3 + (-1) := ⟨_, rfl⟩
                have zt27 : t27.toInt = l5_3.toInt + (-1) := by rw [et27]; exact add_i rfl (by decide) (by omega) (by omega)
                refine lv_iinc (v := t27) (lv' := [(5, .int t27), (4, .int t26), (3, .int t25), (2, .int t8), (6, .int t7), (0, .ref y0), (1, .int p1)]) hx hb dX11_layDress_115 hl (k := 4) rfl (by rw [et27]; rfl) (by decide) rfl (fun ls hl => ?_)
                refine lv_goto (tgt := 15) hx hb dX11_layDress_118 (by decide) ?_
                have rg28 := fb_rng t8
                have rg29 := fb_rng t27
                exact ih3 t8 t25 t26 t27 v3 f11 w3 g3 hIv3 hCf11 hRf11 hq0_v3 hq1_v3 hq2_v3 hq3_v3 hq4_v3 hq5_v3 hq8_v3 hq9_v3 hq10_v3 hq13_v3 hq14_v3 hq15_v3 hq17_v3 hq18_v3 hq24_v3 hq25_v3 hq35_v3 hq36_v3 hq38_v3 hq39_v3 ⟨show (0 : Int) ≤ t8.toInt by omega, show t8.toInt ≤ (2147483647 : Int) by omega⟩ ⟨show (-2147483648 : Int) ≤ t27.toInt by omega, show t27.toInt ≤ (5 : Int) by omega⟩ hM_v3 hA_f11 (by show (t27.toInt + 2147483648).toNat < n3; omega) _ _ _ hP hD hS (lv_sub hl [0, 1, 2, 3, 5, 6] rfl)
              · skip
                have zc21 : ¬ (t20.toInt ≤ (v3 26).toInt) := by rw [fa_le] at c21; exact c21
                have rg30 := fb_rng t20
                have rg31 := fb_rng (v3 26)
                refine lv_iconst (v := (-1)) hx hb dX11_layDress_103 (by decide) ?_
                exact ret (-1) (v3, f11, w3, g3) _ _ _ _ _ _ rfl ⟨hM_v3, hA_f11, hIv3, hCf11, hRf11, (show v3 0 = v 0 from hq0_v3), (show v3 1 = v 1 from hq1_v3), (show v3 2 = v 2 from hq2_v3), (show v3 3 = v 3 from hq3_v3), (show v3 4 = v 4 from hq4_v3), (show v3 5 = v 5 from hq5_v3), (show v3 8 = v 8 from hq8_v3), (show v3 9 = v 9 from hq9_v3), (show v3 10 = v 10 from hq10_v3), (show v3 13 = v 13 from hq13_v3), (show v3 14 = v 14 from hq14_v3), (show v3 15 = v 15 from hq15_v3), (show v3 17 = v 17 from hq17_v3), (show v3 18 = v 18 from hq18_v3), (show v3 24 = v 24 from hq24_v3), (show v3 25 = v 25 from hq25_v3), (show v3 35 = v 35 from hq35_v3), (show v3 36 = v 36 from hq36_v3), (show v3 38 = v 38 from hq38_v3), (show v3 39 = v 39 from hq39_v3)⟩ hP hD hS dX11_layDress_104 (Nat.le_refl _) (Nat.le_refl _)
          · skip
            have zc12 : t7.toInt = (v 25).toInt := by rw [fa_eq] at c12; exact c12
            refine lv_goto (tgt := 115) hx hb dX11_layDress_70 (by decide) ?_
            obtain ⟨t32, et32⟩ : ∃ y : Int32, y = l5_3 + (-1) := ⟨_, rfl⟩
            have rg33 := fb_rng l5_3
            have zt32 : t32.toInt = l5_3.toInt + (-1) := by rw [et32]; exact add_i rfl (by decide) (by omega) (by omega)
            refine lv_iinc (v := t32) (lv' := [(5, .int t32), (2, .int t8), (6, .int t7), (4, .int l4_3), (3, .int l3_3), (0, .ref y0), (1, .int p1)]) hx hb dX11_layDress_115 hl (k := 2) rfl (by rw [et32]; rfl) (by decide) rfl (fun ls hl => ?_)
            refine lv_goto (tgt := 15) hx hb dX11_layDress_118 (by decide) ?_
            have rg34 := fb_rng t8
            have rg35 := fb_rng t32
            exact ih3 t8 l3_3 l4_3 t32 v3 f11 w3 g3 hIv3 hCf11 hRf11 hq0_v3 hq1_v3 hq2_v3 hq3_v3 hq4_v3 hq5_v3 hq8_v3 hq9_v3 hq10_v3 hq13_v3 hq14_v3 hq15_v3 hq17_v3 hq18_v3 hq24_v3 hq25_v3 hq35_v3 hq36_v3 hq38_v3 hq39_v3 ⟨show (0 : Int) ≤ t8.toInt by omega, show t8.toInt ≤ (2147483647 : Int) by omega⟩ ⟨show (-2147483648 : Int) ≤ t32.toInt by omega, show t32.toInt ≤ (5 : Int) by omega⟩ hM_v3 hA_f11 (by show (t32.toInt + 2147483648).toNat < n3; omega) _ _ _ hP hD hS (lv_sub hl [0, 3, 4, 1, 5, 6] rfl)
        · skip
          have zc9 : t7.toInt = (v 25).toInt := by rw [fa_eq] at c9; exact c9
          have rg36 := fb_rng t7
          refine lv_iconst (v := (-1)) hx hb dX11_layDress_54 (by decide) ?_
          refine lv_goto (tgt := 60) hx hb dX11_layDress_55 (by decide) ?_
          refine stI hx hb hE hP hD hS 28 rfl (vp_in_iff.mpr ⟨by omega, by omega⟩) rfl dX11_layDress_60 (fun H locs hP hD hS => ?_)
          obtain ⟨f37, ef37, hP, hD⟩ : ∃ fz9, fz9 = upd2 f3 27 (upd (f3 27) l5_3.toNatClampNeg (-1)) ∧ va_P (dC, dI) vwCl (YW cy y0 r v3 fz9 w3 g3) H ∧ va_D A (YW cy y0 r v3 fz9 w3 g3) := ⟨_, rfl, hP, hD⟩
          have hCf37 : YC f37 := by rw [ef37]; exact ⟨hCf3.1, hCf3.2.1, hCf3.2.2.1, (rng_st hCf3.2.2.2.1 (by have q9 : ((-1) : Int32).toInt = -1 := (by decide); show -1 ≤ ((-1) : Int32).toInt ∧ ((-1) : Int32).toInt ≤ 5; omega)), hCf3.2.2.2.2.1, hCf3.2.2.2.2.2⟩
          have hRf37 : progOK (f37 4) (f37 5) (v3 9).toInt.toNat := by rw [ef37]; exact hRf3
          have hA_f37 : KF [27] f37 f := by rw [ef37]; exact KF.up hA_f3 rfl
          refine lv_iload hx hb dX11_layDress_61 (lv_at hl 1 rfl) ?_
          refine lv_aload_n hx hb dX11_layDress_63 rfl (lv_at hl 5 rfl) ?_
          refine va_get (D := (dC, dI)) (ci := 11) (v := .int (v3 25)) (C := RX11) (T := TX11) (N := 79) hx hb hts inB_11 hown hE.1 hP 0 rfl rfl 49 (by decide) (hts _ k_1369) (fun _ h9 => h9) rfl dX11_layDress_64 ?_
          refine tI (y := (v 25)) hq25_v3 ?_
          refine lv_icmp_ne (tgt := 73) hx hb dX11_layDress_67 (by decide) (fun c38 => ?_) (fun c38 => ?_)
          · skip
            have zc38 : ¬ (t7.toInt = (v 25).toInt) := by rw [fa_eq] at c38; exact c38
            refine lv_iload_n hx hb dX11_layDress_73 rfl (lv_at hl 4 rfl) ?_
            refine lv_iload hx hb dX11_layDress_74 (lv_at hl 1 rfl) ?_
            refine lv_ishr hx hb dX11_layDress_76 ?_
            refine lv_topi (fun t39 et39 => ?_)
            refine lv_iconst (v := 1) hx hb dX11_layDress_77 (by decide) ?_
            refine lv_iand hx hb dX11_layDress_78 ?_
            refine lv_topi (fun t40 et40 => ?_)
            have zt40 : 0 ≤ t40.toInt ∧ t40.toInt < 2 := by rw [et40]; exact and_rng _ (k := 1) (by decide) (by decide)
            refine lv_iconst (v := 1) hx hb dX11_layDress_79 (by decide) ?_
            refine lv_icmp_eq (tgt := 103) hx hb dX11_layDress_80 (by decide) (fun c41 => ?_) (fun c41 => ?_)
            · skip
              have zc41 : t40.toInt = 1 := by rw [fa_eq, show (1 : Int32).toInt = 1 from by decide] at c41; exact c41
              refine lv_iconst (v := (-1)) hx hb dX11_layDress_103 (by decide) ?_
              exact ret (-1) (v3, f37, w3, g3) _ _ _ _ _ _ rfl ⟨hM_v3, hA_f37, hIv3, hCf37, hRf37, (show v3 0 = v 0 from hq0_v3), (show v3 1 = v 1 from hq1_v3), (show v3 2 = v 2 from hq2_v3), (show v3 3 = v 3 from hq3_v3), (show v3 4 = v 4 from hq4_v3), (show v3 5 = v 5 from hq5_v3), (show v3 8 = v 8 from hq8_v3), (show v3 9 = v 9 from hq9_v3), (show v3 10 = v 10 from hq10_v3), (show v3 13 = v 13 from hq13_v3), (show v3 14 = v 14 from hq14_v3), (show v3 15 = v 15 from hq15_v3), (show v3 17 = v 17 from hq17_v3), (show v3 18 = v 18 from hq18_v3), (show v3 24 = v 24 from hq24_v3), (show v3 25 = v 25 from hq25_v3), (show v3 35 = v 35 from hq35_v3), (show v3 36 = v 36 from hq36_v3), (show v3 38 = v 38 from hq38_v3), (show v3 39 = v 39 from hq39_v3)⟩ hP hD hS dX11_layDress_104 (Nat.le_refl _) (Nat.le_refl _)
            · skip
              have zc41 : ¬ (t40.toInt = 1) := by rw [fa_eq, show (1 : Int32).toInt = 1 from by decide] at c41; exact c41
              refine lv_aload_n hx hb dX11_layDress_83 rfl (lv_at hl 5 rfl) ?_
              refine va_get (D := (dC, dI)) (ci := 11) (v := .ref (r 66)) (C := RX11) (T := TX11) (N := 79) hx hb hts inB_11 hown hE.1 hP 0 rfl rfl 66 (by decide) (hts _ k_1386) (fun _ h9 => h9) rfl dX11_layDress_84 ?_
              refine lv_bipush (v := 6) hx hb dX11_layDress_87 (by decide) ?_
              refine lv_iload hx hb dX11_layDress_89 (lv_at hl 2 rfl) ?_
              refine lv_imul hx hb dX11_layDress_91 ?_
              refine lv_topi (fun t42 et42 => ?_)
              have rg43 := fb_rng l5_3
              have zt42 : t42.toInt = 6 * l5_3.toInt := by rw [et42]; exact mul_i (by decide) rfl (by omega) (by omega)
              refine lv_iload hx hb dX11_layDress_92 (lv_at hl 1 rfl) ?_
              refine lv_iadd hx hb dX11_layDress_94 ?_
              refine lv_topi (fun t44 et44 => ?_)
              have rg45 := fb_rng t42
              have zt44 : t44.toInt = t42.toInt + t7.toInt := by rw [et44]; exact add_i rfl rfl (by omega) (by omega)
              refine ldI hx hb hE hP 29 rfl (vp_in_iff.mpr ⟨by omega, by omega⟩) rfl rfl dX11_layDress_95 ?_
              refine lv_topi (fun t46 et46 => ?_)
              refine lv_aload_n hx hb dX11_layDress_96 rfl (lv_at hl 5 rfl) ?_
              refine va_get (D := (dC, dI)) (ci := 11) (v := .int (v3 26)) (C := RX11) (T := TX11) (N := 79) hx hb hts inB_11 hown hE.1 hP 0 rfl rfl 50 (by decide) (hts _ k_1370) (fun _ h9 => h9) rfl dX11_layDress_97 ?_
              refine lv_icmp_le (tgt := 105) hx hb dX11_layDress_100 (by decide) (fun c47 => ?_) (fun c47 => ?_)
              · skip
                have zc47 : t46.toInt ≤ (v3 26).toInt := by rw [fa_le] at c47; exact c47
                have rg48 := fb_rng t46
                have rg49 := fb_rng (v3 26)
                refine lv_iload_n hx hb dX11_layDress_105 rfl (lv_at hl 4 rfl) ?_
                refine lv_iconst (v := 1) hx hb dX11_layDress_106 (by decide) ?_
                refine lv_iload hx hb dX11_layDress_107 (lv_at hl 1 rfl) ?_
                refine lv_ishl hx hb dX11_layDress_109 ?_
                refine lv_topi (fun t50 et50 => ?_)
                have zt50 : 1 ≤ t50.toInt ∧ t50.toInt ≤ 64 := by rw [et50]; exact shl1_rng6 (by omega) (by omega)
                refine lv_ior hx hb dX11_layDress_110 ?_
                refine lv_topi (fun t51 et51 => ?_)
                refine lv_istore_n (lv' := [(3, .int t51), (2, .int t8), (6, .int t7), (5, .int l5_3), (4, .int l4_3), (0, .ref y0), (1, .int p1)]) hx hb dX11_layDress_111 rfl hl (by decide) rfl (fun ls hl => ?_)
                obtain ⟨t52, et52⟩ : ∃ y : Int32, y = l4_3 + 1 := ⟨_, rfl⟩
                refine lv_iinc (v := t52) (lv' := [(4, .int t52), (3, .int t51), (2, .int t8), (6, .int t7), (5, .int l5_3), (0, .ref y0), (1, .int p1)]) hx hb dX11_layDress_112 hl (k := 4) rfl (by rw [et52]; rfl) (by decide) rfl (fun ls hl => ?_)
                obtain ⟨t53, et53⟩ : ∃ y : Int32, y = l5_3 + (-1) := ⟨_, rfl⟩
                have zt53 : t53.toInt = l5_3.toInt + (-1) := by rw [et53]; exact add_i rfl (by decide) (by omega) (by omega)
                refine lv_iinc (v := t53) (lv' := [(5, .int t53), (4, .int t52), (3, .int t51), (2, .int t8), (6, .int t7), (0, .ref y0), (1, .int p1)]) hx hb dX11_layDress_115 hl (k := 4) rfl (by rw [et53]; rfl) (by decide) rfl (fun ls hl => ?_)
                refine lv_goto (tgt := 15) hx hb dX11_layDress_118 (by decide) ?_
                have rg54 := fb_rng t8
                have rg55 := fb_rng t53
                exact ih3 t8 t51 t52 t53 v3 f37 w3 g3 hIv3 hCf37 hRf37 hq0_v3 hq1_v3 hq2_v3 hq3_v3 hq4_v3 hq5_v3 hq8_v3 hq9_v3 hq10_v3 hq13_v3 hq14_v3 hq15_v3 hq17_v3 hq18_v3 hq24_v3 hq25_v3 hq35_v3 hq36_v3 hq38_v3 hq39_v3 ⟨show (0 : Int) ≤ t8.toInt by omega, show t8.toInt ≤ (2147483647 : Int) by omega⟩ ⟨show (-2147483648 : Int) ≤ t53.toInt by omega, show t53.toInt ≤ (5 : Int) by omega⟩ hM_v3 hA_f37 (by show (t53.toInt + 2147483648).toNat < n3; omega) _ _ _ hP hD hS (lv_sub hl [0, 1, 2, 3, 5, 6] rfl)
              · skip
                have zc47 : ¬ (t46.toInt ≤ (v3 26).toInt) := by rw [fa_le] at c47; exact c47
                have rg56 := fb_rng t46
                have rg57 := fb_rng (v3 26)
                refine lv_iconst (v := (-1)) hx hb dX11_layDress_103 (by decide) ?_
                exact ret (-1) (v3, f37, w3, g3) _ _ _ _ _ _ rfl ⟨hM_v3, hA_f37, hIv3, hCf37, hRf37, (show v3 0 = v 0 from hq0_v3), (show v3 1 = v 1 from hq1_v3), (show v3 2 = v 2 from hq2_v3), (show v3 3 = v 3 from hq3_v3), (show v3 4 = v 4 from hq4_v3), (show v3 5 = v 5 from hq5_v3), (show v3 8 = v 8 from hq8_v3), (show v3 9 = v 9 from hq9_v3), (show v3 10 = v 10 from hq10_v3), (show v3 13 = v 13 from hq13_v3), (show v3 14 = v 14 from hq14_v3), (show v3 15 = v 15 from hq15_v3), (show v3 17 = v 17 from hq17_v3), (show v3 18 = v 18 from hq18_v3), (show v3 24 = v 24 from hq24_v3), (show v3 25 = v 25 from hq25_v3), (show v3 35 = v 35 from hq35_v3), (show v3 36 = v 36 from hq36_v3), (show v3 38 = v 38 from hq38_v3), (show v3 39 = v 39 from hq39_v3)⟩ hP hD hS dX11_layDress_104 (Nat.le_refl _) (Nat.le_refl _)
          · skip
            have zc38 : t7.toInt = (v 25).toInt := by rw [fa_eq] at c38; exact c38
            refine lv_goto (tgt := 115) hx hb dX11_layDress_70 (by decide) ?_
            obtain ⟨t58, et58⟩ : ∃ y : Int32, y = l5_3 + (-1) := ⟨_, rfl⟩
            have rg59 := fb_rng l5_3
            have zt58 : t58.toInt = l5_3.toInt + (-1) := by rw [et58]; exact add_i rfl (by decide) (by omega) (by omega)
            refine lv_iinc (v := t58) (lv' := [(5, .int t58), (2, .int t8), (6, .int t7), (4, .int l4_3), (3, .int l3_3), (0, .ref y0), (1, .int p1)]) hx hb dX11_layDress_115 hl (k := 2) rfl (by rw [et58]; rfl) (by decide) rfl (fun ls hl => ?_)
            refine lv_goto (tgt := 15) hx hb dX11_layDress_118 (by decide) ?_
            have rg60 := fb_rng t8
            have rg61 := fb_rng t58
            exact ih3 t8 l3_3 l4_3 t58 v3 f37 w3 g3 hIv3 hCf37 hRf37 hq0_v3 hq1_v3 hq2_v3 hq3_v3 hq4_v3 hq5_v3 hq8_v3 hq9_v3 hq10_v3 hq13_v3 hq14_v3 hq15_v3 hq17_v3 hq18_v3 hq24_v3 hq25_v3 hq35_v3 hq36_v3 hq38_v3 hq39_v3 ⟨show (0 : Int) ≤ t8.toInt by omega, show t8.toInt ≤ (2147483647 : Int) by omega⟩ ⟨show (-2147483648 : Int) ≤ t58.toInt by omega, show t58.toInt ≤ (5 : Int) by omega⟩ hM_v3 hA_f37 (by show (t58.toInt + 2147483648).toNat < n3; omega) _ _ _ hP hD hS (lv_sub hl [0, 3, 4, 1, 5, 6] rfl)
  have rg62 := fb_rng p1
  have rg63 := fb_rng t1
  exact lp3 _ p1 0 0 t1 v f w g hIv hCf hRf rfl rfl rfl rfl rfl rfl rfl rfl rfl rfl rfl rfl rfl rfl rfl rfl rfl rfl rfl rfl ⟨show (0 : Int) ≤ p1.toInt by omega, show p1.toInt ≤ (2147483647 : Int) by omega⟩ ⟨show (-2147483648 : Int) ≤ t1.toInt by omega, show t1.toInt ≤ (5 : Int) by omega⟩ hM_v hA_f (Nat.lt_succ_self _) _ _ _ hP hD hS (lv_sub hl [0, 1, 2, 3, 4, 5] rfl)
set_option maxHeartbeats 4000000 in
set_option maxRecDepth 100000 in
theorem sY_X11_illOfRow_1 (l : Launch) (dC : Nat → ClassId) (dI : Nat → Nat → Nat) (cy : Nat → ClassId) (y0 : Nat) (r : Nat → Nat)  (v : Nat → Int32) (f : Nat → Nat → Int32) (w : Int64) (g : Nat → Int64) (hIv : YI v) (hCf : YC f) (hRf : progOK (f 4) (f 5) (v 9).toInt.toNat)  : ctI l (dC, dI) cy yX11_illOfRow cX11_illOfRow 3 .int 1 60 0 0 Unit [.ref y0] (YW cy y0 r v f w g) (fun r u => True) (fun u => YW cy y0 r v f w g) := by
  refine ctI_of (by decide) (Nat.le_of_ble_eq_true rfl) (fun p e s m below meth c A ls Q hx hb hml hts hown hE hP hD hA hl ret => ?_)
  have hUv : (v 35).toInt + (v 36).toInt ≤ 40 := hIv.2
  have hown : s.vm.findClass RX11 = some m.cls := hown
  have hS : va_S A s.heap s.heap [] := va_S.rf
  have hl : lv_has ls 3 [(0, .ref y0)] := hl
  refine lv_iconst (v := 0) hx hb dX11_illOfRow_0 (by decide) ?_
  refine lv_istore_n (lv' := [(1, .int 0), (0, .ref y0)]) hx hb dX11_illOfRow_1 rfl hl (by decide) rfl (fun ls hl => ?_)
  refine lv_iconst (v := 0) hx hb dX11_illOfRow_2 (by decide) ?_
  refine lv_istore_n (lv' := [(2, .int 0), (1, .int 0), (0, .ref y0)]) hx hb dX11_illOfRow_3 rfl hl (by decide) rfl (fun ls hl => ?_)
  have lp1 : ∀ (n1 : Nat) (l1_1 : Int32) (l2_1 : Int32), ((0 : Int) ≤ l2_1.toInt ∧ l2_1.toInt ≤ 2147483647) → (2147483647 - l2_1.toInt).toNat < n1 → ∀ (H : Heap) (locs : List Loc) (ls : Array Slot), va_P (dC, dI) vwCl (YW cy y0 r v f w g) H → va_D A (YW cy y0 r v f w g) → va_S A s.heap H locs → lv_has ls 3 [(2, .int l2_1), (1, .int l1_1), (0, .ref y0)] → W p l e { frames := 1, cells := 0, slots := 0, locals := 60 } s m ([.ref y0] : List Value).toArray below meth c H locs 0 0 Q (F0 m 4 ls []) := by
    intro n1
    induction n1 with
    | zero => intro l1_1 l2_1 hr2_1 hm; exact absurd hm (Nat.not_lt_zero _)
    | succ n1 ih1 =>
      intro l1_1 l2_1 hr2_1 hm1 H locs ls hP hD hS hl
      refine lv_iload_n hx hb dX11_illOfRow_4 rfl (lv_at hl 0 rfl) ?_
      refine lv_aload_n hx hb dX11_illOfRow_5 rfl (lv_at hl 2 rfl) ?_
      refine va_get (D := (dC, dI)) (ci := 11) (v := .int (v 24)) (C := RX11) (T := TX11) (N := 79) hx hb hts inB_11 hown hE.1 hP 0 rfl rfl 48 (by decide) (hts _ k_1368) (fun _ h9 => h9) rfl dX11_illOfRow_6 ?_
      have b24_v : 0 ≤ (v 24).toInt ∧ (v 24).toInt ≤ 6 := YIb.b hIv.1 24 (by decide)
      refine lv_icmp_ge (tgt := 50) hx hb dX11_illOfRow_9 (by decide) (fun c2 => ?_) (fun c2 => ?_)
      · skip
        have zc2 : (v 24).toInt ≤ l2_1.toInt := by rw [fa_le] at c2; exact c2
        have rg3 := fb_rng l2_1
        have rg4 := fb_rng (v 24)
        refine lv_iload_n hx hb dX11_illOfRow_50 rfl (lv_at hl 1 rfl) ?_
        exact ret l1_1 () _ _ _ _ _ _ rfl trivial hP hD hS dX11_illOfRow_51 (Nat.le_refl _) (Nat.le_refl _)
      · skip
        have zc2 : ¬ ((v 24).toInt ≤ l2_1.toInt) := by rw [fa_le] at c2; exact c2
        have rg5 := fb_rng l2_1
        have rg6 := fb_rng (v 24)
        refine lv_iload_n hx hb dX11_illOfRow_12 rfl (lv_at hl 1 rfl) ?_
        refine lv_aload_n hx hb dX11_illOfRow_13 rfl (lv_at hl 2 rfl) ?_
        refine va_get (D := (dC, dI)) (ci := 11) (v := .ref (r 65)) (C := RX11) (T := TX11) (N := 79) hx hb hts inB_11 hown hE.1 hP 0 rfl rfl 65 (by decide) (hts _ k_1385) (fun _ h9 => h9) rfl dX11_illOfRow_14 ?_
        refine lv_iload_n hx hb dX11_illOfRow_17 rfl (lv_at hl 0 rfl) ?_
        refine ldI hx hb hE hP 28 rfl (vp_in_iff.mpr ⟨by omega, by omega⟩) rfl rfl dX11_illOfRow_18 ?_
        refine lv_topi (fun t7 et7 => ?_)
        have zt7 : -1 ≤ t7.toInt ∧ t7.toInt ≤ 5 := by rw [et7]; exact hCf.2.2.2.1 l2_1.toInt.toNat (show l2_1.toInt.toNat < 6 by omega)
        refine lv_if_ge (tgt := 26) hx hb dX11_illOfRow_19 (by decide) (fun c8 => ?_) (fun c8 => ?_)
        · skip
          have zc8 : 0 ≤ t7.toInt := by rw [fa_le, show (0 : Int32).toInt = 0 from by decide] at c8; exact c8
          refine lv_aload_n hx hb dX11_illOfRow_26 rfl (lv_at hl 2 rfl) ?_
          refine va_get (D := (dC, dI)) (ci := 11) (v := .ref (r 66)) (C := RX11) (T := TX11) (N := 79) hx hb hts inB_11 hown hE.1 hP 0 rfl rfl 66 (by decide) (hts _ k_1386) (fun _ h9 => h9) rfl dX11_illOfRow_27 ?_
          refine lv_bipush (v := 6) hx hb dX11_illOfRow_30 (by decide) ?_
          refine lv_iload_n hx hb dX11_illOfRow_32 rfl (lv_at hl 0 rfl) ?_
          refine lv_imul hx hb dX11_illOfRow_33 ?_
          refine lv_topi (fun t9 et9 => ?_)
          have zt9 : t9.toInt = 6 * l2_1.toInt := by rw [et9]; exact mul_i (by decide) rfl (by omega) (by omega)
          refine lv_aload_n hx hb dX11_illOfRow_34 rfl (lv_at hl 2 rfl) ?_
          refine va_get (D := (dC, dI)) (ci := 11) (v := .ref (r 65)) (C := RX11) (T := TX11) (N := 79) hx hb hts inB_11 hown hE.1 hP 0 rfl rfl 65 (by decide) (hts _ k_1385) (fun _ h9 => h9) rfl dX11_illOfRow_35 ?_
          refine lv_iload_n hx hb dX11_illOfRow_38 rfl (lv_at hl 0 rfl) ?_
          refine ldI hx hb hE hP 28 rfl (vp_in_iff.mpr ⟨by omega, by omega⟩) rfl rfl dX11_illOfRow_39 ?_
          refine tI (y := t7) et7.symm ?_
          refine lv_iadd hx hb dX11_illOfRow_40 ?_
          refine lv_topi (fun t10 et10 => ?_)
          have rg11 := fb_rng t9
          have rg12 := fb_rng t7
          have zt10 : t10.toInt = t9.toInt + t7.toInt := by rw [et10]; exact add_i rfl rfl (by omega) (by omega)
          refine ldI hx hb hE hP 29 rfl (vp_in_iff.mpr ⟨by omega, by omega⟩) rfl rfl dX11_illOfRow_41 ?_
          refine lv_topi (fun t13 et13 => ?_)
          refine lv_iadd hx hb dX11_illOfRow_42 ?_
          refine lv_topi (fun t14 et14 => ?_)
          refine lv_istore_n (lv' := [(1, .int t14), (2, .int l2_1), (0, .ref y0)]) hx hb dX11_illOfRow_43 rfl hl (by decide) rfl (fun ls hl => ?_)
          obtain ⟨t15, et15⟩ : ∃ y : Int32, y = l2_1 + 1 := ⟨_, rfl⟩
          have zt15 : t15.toInt = l2_1.toInt + 1 := by rw [et15]; exact add_i rfl (by decide) (by omega) (by omega)
          refine lv_iinc (v := t15) (lv' := [(2, .int t15), (1, .int t14), (0, .ref y0)]) hx hb dX11_illOfRow_44 hl (k := 1) rfl (by rw [et15]; rfl) (by decide) rfl (fun ls hl => ?_)
          refine lv_goto (tgt := 4) hx hb dX11_illOfRow_47 (by decide) ?_
          have rg16 := fb_rng t15
          exact ih1 t14 t15 ⟨show (0 : Int) ≤ t15.toInt by omega, show t15.toInt ≤ (2147483647 : Int) by omega⟩ (by show (2147483647 - t15.toInt).toNat < n1; omega) _ _ _ hP hD hS (lv_sub hl [0, 1, 2] rfl)
        · skip
          have zc8 : ¬ (0 ≤ t7.toInt) := by rw [fa_le, show (0 : Int32).toInt = 0 from by decide] at c8; exact c8
          refine lv_iconst (v := 0) hx hb dX11_illOfRow_22 (by decide) ?_
          refine lv_goto (tgt := 42) hx hb dX11_illOfRow_23 (by decide) ?_
          refine lv_iadd hx hb dX11_illOfRow_42 ?_
          refine lv_topi (fun t17 et17 => ?_)
          have rg18 := fb_rng l1_1
          have zt17 : t17.toInt = l1_1.toInt + 0 := by rw [et17]; exact add_i rfl (by decide) (by omega) (by omega)
          refine lv_istore_n (lv' := [(1, .int t17), (2, .int l2_1), (0, .ref y0)]) hx hb dX11_illOfRow_43 rfl hl (by decide) rfl (fun ls hl => ?_)
          obtain ⟨t19, et19⟩ : ∃ y : Int32, y = l2_1 + 1 := ⟨_, rfl⟩
          have zt19 : t19.toInt = l2_1.toInt + 1 := by rw [et19]; exact add_i rfl (by decide) (by omega) (by omega)
          refine lv_iinc (v := t19) (lv' := [(2, .int t19), (1, .int t17), (0, .ref y0)]) hx hb dX11_illOfRow_44 hl (k := 1) rfl (by rw [et19]; rfl) (by decide) rfl (fun ls hl => ?_)
          refine lv_goto (tgt := 4) hx hb dX11_illOfRow_47 (by decide) ?_
          have rg20 := fb_rng t19
          exact ih1 t17 t19 ⟨show (0 : Int) ≤ t19.toInt by omega, show t19.toInt ≤ (2147483647 : Int) by omega⟩ (by show (2147483647 - t19.toInt).toNat < n1; omega) _ _ _ hP hD hS (lv_sub hl [0, 1, 2] rfl)
  exact lp1 _ 0 0 ⟨by decide, by decide⟩ (Nat.lt_succ_self _) _ _ _ hP hD hS (lv_sub hl [0, 1, 2] rfl)
