set_option maxHeartbeats 4000000 in
set_option maxRecDepth 100000 in
theorem sY_X11_layColours_1 (l : Launch) (dC : Nat → ClassId) (dI : Nat → Nat → Nat) (cy : Nat → ClassId) (y0 : Nat) (r : Nat → Nat) (p1 : Int32) (p2 : Int32) (v : Nat → Int32) (f : Nat → Nat → Int32) (w : Int64) (g : Nat → Int64) (hIv : YI v) (hCf : YC f) (hRf : progOK (f 4) (f 5) (v 9).toInt.toNat) (hp1 : (1 : Int) ≤ p1.toInt ∧ p1.toInt ≤ 6) (hp2 : (0 : Int) ≤ p2.toInt ∧ p2.toInt ≤ 2147483647) : ctI l (dC, dI) cy yX11_layColours cX11_layColours 7 .boolean 3 102 0 0 ((Nat → Int32) × (Nat → Nat → Int32) × (Int64) × (Nat → Int64)) [.ref y0, .int p1, .int p2] (YW cy y0 r v f w g) (fun r u => KV [] u.1 v ∧ KF [27] u.2.1 f ∧ YI u.1 ∧ YC u.2.1 ∧ progOK (u.2.1 4) (u.2.1 5) (u.1 9).toInt.toNat ∧ u.1 0 = v 0 ∧ u.1 1 = v 1 ∧ u.1 2 = v 2 ∧ u.1 3 = v 3 ∧ u.1 4 = v 4 ∧ u.1 5 = v 5 ∧ u.1 8 = v 8 ∧ u.1 9 = v 9 ∧ u.1 10 = v 10 ∧ u.1 13 = v 13 ∧ u.1 14 = v 14 ∧ u.1 15 = v 15 ∧ u.1 17 = v 17 ∧ u.1 18 = v 18 ∧ u.1 24 = v 24 ∧ u.1 25 = v 25 ∧ u.1 35 = v 35 ∧ u.1 36 = v 36 ∧ u.1 38 = v 38 ∧ u.1 39 = v 39 ∧ ((r = 1) ∨ (r = 0))) (fun u => YW cy y0 r u.1 u.2.1 u.2.2.1 u.2.2.2) := by
  refine ctI_of (by decide) (Nat.le_of_ble_eq_true rfl) (fun p e s m below meth c A ls Q hx hb hml hts hown hE hP hD hA hl ret => ?_)
  have hUv : (v 35).toInt + (v 36).toInt ≤ 40 := hIv.2
  have hM_v : KV [] v v := fun _ _ => rfl
  have hA_f : KF [27] f f := fun _ _ => rfl
  have hown : s.vm.findClass RX11 = some m.cls := hown
  have hS : va_S A s.heap s.heap [] := va_S.rf
  have hl : lv_has ls 7 [(0, .ref y0), (1, .int p1), (2, .int p2)] := hl
  refine lv_iload_n hx hb dX11_layColours_0 rfl (lv_at hl 2 rfl) ?_
  refine lv_istore_n (lv' := [(3, .int p2), (0, .ref y0), (1, .int p1), (2, .int p2)]) hx hb dX11_layColours_1 rfl hl (by decide) rfl (fun ls hl => ?_)
  refine lv_aload_n hx hb dX11_layColours_2 rfl (lv_at hl 1 rfl) ?_
  refine va_get (D := (dC, dI)) (ci := 11) (v := .int (v 24)) (C := RX11) (T := TX11) (N := 79) hx hb hts inB_11 hown hE.1 hP 0 rfl rfl 48 (by decide) (hts _ k_1368) (fun _ h9 => h9) rfl dX11_layColours_3 ?_
  have b24_v : 0 ≤ (v 24).toInt ∧ (v 24).toInt ≤ 6 := YIb.b hIv.1 24 (by decide)
  refine lv_iconst (v := 1) hx hb dX11_layColours_6 (by decide) ?_
  refine lv_isub hx hb dX11_layColours_7 ?_
  refine lv_topi (fun t1 et1 => ?_)
  have rg2 := fb_rng (v 24)
  have zt1 : t1.toInt = (v 24).toInt - 1 := by rw [et1]; exact sub_i rfl (by decide) (by omega) (by omega)
  refine lv_istore (lv' := [(4, .int t1), (3, .int p2), (0, .ref y0), (1, .int p1), (2, .int p2)]) hx hb dX11_layColours_8 hl (by decide) rfl (fun ls hl => ?_)
  have lp3 : ∀ (n3 : Nat) (l3_3 : Int32) (l4_3 : Int32) (v3 : Nat → Int32) (f3 : Nat → Nat → Int32) (w3 : Int64) (g3 : Nat → Int64), YI v3 → YC f3 → progOK (f3 4) (f3 5) (v3 9).toInt.toNat → v3 0 = (v 0) → v3 1 = (v 1) → v3 2 = (v 2) → v3 3 = (v 3) → v3 4 = (v 4) → v3 5 = (v 5) → v3 8 = (v 8) → v3 9 = (v 9) → v3 10 = (v 10) → v3 13 = (v 13) → v3 14 = (v 14) → v3 15 = (v 15) → v3 17 = (v 17) → v3 18 = (v 18) → v3 24 = (v 24) → v3 25 = (v 25) → v3 35 = (v 35) → v3 36 = (v 36) → v3 38 = (v 38) → v3 39 = (v 39) → ((0 : Int) ≤ l3_3.toInt ∧ l3_3.toInt ≤ 2147483647) → ((-2147483648 : Int) ≤ l4_3.toInt ∧ l4_3.toInt ≤ 5) → KV [] v3 v → KF [27] f3 f → (l4_3.toInt + 2147483648).toNat < n3 → ∀ (H : Heap) (locs : List Loc) (ls : Array Slot), va_P (dC, dI) vwCl (YW cy y0 r v3 f3 w3 g3) H → va_D A (YW cy y0 r v3 f3 w3 g3) → va_S A s.heap H locs → lv_has ls 7 [(4, .int l4_3), (3, .int l3_3), (0, .ref y0), (1, .int p1), (2, .int p2)] → W p l e { frames := 3, cells := 0, slots := 0, locals := 102 } s m ([.ref y0, .int p1, .int p2] : List Value).toArray below meth c H locs 0 0 Q (F0 m 10 ls []) := by
    intro n3
    induction n3 with
    | zero => intro l3_3 l4_3 v3 f3 w3 g3 hIv3 hCf3 hRf3 hq0_v3 hq1_v3 hq2_v3 hq3_v3 hq4_v3 hq5_v3 hq8_v3 hq9_v3 hq10_v3 hq13_v3 hq14_v3 hq15_v3 hq17_v3 hq18_v3 hq24_v3 hq25_v3 hq35_v3 hq36_v3 hq38_v3 hq39_v3 hr3_3 hr4_3 hM_v3 hA_f3 hm; exact absurd hm (Nat.not_lt_zero _)
    | succ n3 ih3 =>
      intro l3_3 l4_3 v3 f3 w3 g3 hIv3 hCf3 hRf3 hq0_v3 hq1_v3 hq2_v3 hq3_v3 hq4_v3 hq5_v3 hq8_v3 hq9_v3 hq10_v3 hq13_v3 hq14_v3 hq15_v3 hq17_v3 hq18_v3 hq24_v3 hq25_v3 hq35_v3 hq36_v3 hq38_v3 hq39_v3 hr3_3 hr4_3 hM_v3 hA_f3 hm3 H locs ls hP hD hS hl
      have hUv3 : (v3 35).toInt + (v3 36).toInt ≤ 40 := hIv3.2
      have zq9_v3 := congrArg Int32.toInt hq9_v3
      refine lv_iload hx hb dX11_layColours_10 (lv_at hl 0 rfl) ?_
      refine lv_if_lt (tgt := 35) hx hb dX11_layColours_12 (by decide) (fun c4 => ?_) (fun c4 => ?_)
      · skip
        have zc4 : l4_3.toInt < 0 := by rw [fa_lt, show (0 : Int32).toInt = 0 from by decide] at c4; exact c4
        refine lv_iconst (v := 1) hx hb dX11_layColours_35 (by decide) ?_
        refine lv_istore (lv' := [(4, .int 1), (3, .int l3_3), (0, .ref y0), (1, .int p1), (2, .int p2)]) hx hb dX11_layColours_36 hl (by decide) rfl (fun ls hl => ?_)
        refine lv_iconst (v := 0) hx hb dX11_layColours_38 (by decide) ?_
        refine lv_istore (lv' := [(5, .int 0), (4, .int 1), (3, .int l3_3), (0, .ref y0), (1, .int p1), (2, .int p2)]) hx hb dX11_layColours_39 hl (by decide) rfl (fun ls hl => ?_)
        have lp5 : ∀ (n5 : Nat) (l4_5 : Int32) (l5_5 : Int32), ((0 : Int) ≤ l4_5.toInt ∧ l4_5.toInt ≤ 1) → ((0 : Int) ≤ l5_5.toInt ∧ l5_5.toInt ≤ 2147483647) → (2147483647 - l5_5.toInt).toNat < n5 → ∀ (H : Heap) (locs : List Loc) (ls : Array Slot), va_P (dC, dI) vwCl (YW cy y0 r v3 f3 w3 g3) H → va_D A (YW cy y0 r v3 f3 w3 g3) → va_S A s.heap H locs → lv_has ls 7 [(5, .int l5_5), (4, .int l4_5), (3, .int l3_3), (0, .ref y0), (1, .int p1), (2, .int p2)] → W p l e { frames := 3, cells := 0, slots := 0, locals := 102 } s m ([.ref y0, .int p1, .int p2] : List Value).toArray below meth c H locs 0 0 Q (F0 m 41 ls []) := by
          intro n5
          induction n5 with
          | zero => intro l4_5 l5_5 hr4_5 hr5_5 hm; exact absurd hm (Nat.not_lt_zero _)
          | succ n5 ih5 =>
            intro l4_5 l5_5 hr4_5 hr5_5 hm5 H locs ls hP hD hS hl
            refine lv_iload hx hb dX11_layColours_41 (lv_at hl 0 rfl) ?_
            refine lv_aload_n hx hb dX11_layColours_43 rfl (lv_at hl 3 rfl) ?_
            refine va_get (D := (dC, dI)) (ci := 11) (v := .int (v3 24)) (C := RX11) (T := TX11) (N := 79) hx hb hts inB_11 hown hE.1 hP 0 rfl rfl 48 (by decide) (hts _ k_1368) (fun _ h9 => h9) rfl dX11_layColours_44 ?_
            refine tI (y := (v 24)) hq24_v3 ?_
            have b24_v : 0 ≤ (v 24).toInt ∧ (v 24).toInt ≤ 6 := YIb.b hIv.1 24 (by decide)
            refine lv_icmp_ge (tgt := 112) hx hb dX11_layColours_47 (by decide) (fun c6 => ?_) (fun c6 => ?_)
            · skip
              have zc6 : (v 24).toInt ≤ l5_5.toInt := by rw [fa_le] at c6; exact c6
              have rg7 := fb_rng l5_5
              refine lv_iload hx hb dX11_layColours_112 (lv_at hl 1 rfl) ?_
              rcases b01 (x := l4_5) (by omega) (by omega) with h8 | h8
              · skip
                refine tI (y := 1) h8 ?_
                exact ret 1 (v3, f3, w3, g3) _ _ _ _ _ _ rfl ⟨hM_v3, hA_f3, hIv3, hCf3, hRf3, (show v3 0 = v 0 from hq0_v3), (show v3 1 = v 1 from hq1_v3), (show v3 2 = v 2 from hq2_v3), (show v3 3 = v 3 from hq3_v3), (show v3 4 = v 4 from hq4_v3), (show v3 5 = v 5 from hq5_v3), (show v3 8 = v 8 from hq8_v3), (show v3 9 = v 9 from hq9_v3), (show v3 10 = v 10 from hq10_v3), (show v3 13 = v 13 from hq13_v3), (show v3 14 = v 14 from hq14_v3), (show v3 15 = v 15 from hq15_v3), (show v3 17 = v 17 from hq17_v3), (show v3 18 = v 18 from hq18_v3), (show v3 24 = v 24 from hq24_v3), (show v3 25 = v 25 from hq25_v3), (show v3 35 = v 35 from hq35_v3), (show v3 36 = v 36 from hq36_v3), (show v3 38 = v 38 from hq38_v3), (show v3 39 = v 39 from hq39_v3), (Or.inl rfl)⟩ hP hD hS dX11_layColours_114 (Nat.le_refl _) (Nat.le_refl _)
              · skip
                refine tI (y := 0) h8 ?_
                exact ret 0 (v3, f3, w3, g3) _ _ _ _ _ _ rfl ⟨hM_v3, hA_f3, hIv3, hCf3, hRf3, (show v3 0 = v 0 from hq0_v3), (show v3 1 = v 1 from hq1_v3), (show v3 2 = v 2 from hq2_v3), (show v3 3 = v 3 from hq3_v3), (show v3 4 = v 4 from hq4_v3), (show v3 5 = v 5 from hq5_v3), (show v3 8 = v 8 from hq8_v3), (show v3 9 = v 9 from hq9_v3), (show v3 10 = v 10 from hq10_v3), (show v3 13 = v 13 from hq13_v3), (show v3 14 = v 14 from hq14_v3), (show v3 15 = v 15 from hq15_v3), (show v3 17 = v 17 from hq17_v3), (show v3 18 = v 18 from hq18_v3), (show v3 24 = v 24 from hq24_v3), (show v3 25 = v 25 from hq25_v3), (show v3 35 = v 35 from hq35_v3), (show v3 36 = v 36 from hq36_v3), (show v3 38 = v 38 from hq38_v3), (show v3 39 = v 39 from hq39_v3), (Or.inr rfl)⟩ hP hD hS dX11_layColours_114 (Nat.le_refl _) (Nat.le_refl _)
            · skip
              have zc6 : ¬ ((v 24).toInt ≤ l5_5.toInt) := by rw [fa_le] at c6; exact c6
              have rg9 := fb_rng l5_5
              refine lv_iconst (v := 0) hx hb dX11_layColours_50 (by decide) ?_
              refine lv_istore (lv' := [(6, .int 0), (5, .int l5_5), (4, .int l4_5), (3, .int l3_3), (0, .ref y0), (1, .int p1), (2, .int p2)]) hx hb dX11_layColours_51 hl (by decide) rfl (fun ls hl => ?_)
              have lp10 : ∀ (n10 : Nat) (l4_10 : Int32) (l6_10 : Int32), ((0 : Int) ≤ l4_10.toInt ∧ l4_10.toInt ≤ 1) → ((0 : Int) ≤ l6_10.toInt ∧ l6_10.toInt ≤ 2147483647) → (2147483647 - l6_10.toInt).toNat < n10 → ∀ (H : Heap) (locs : List Loc) (ls : Array Slot), va_P (dC, dI) vwCl (YW cy y0 r v3 f3 w3 g3) H → va_D A (YW cy y0 r v3 f3 w3 g3) → va_S A s.heap H locs → lv_has ls 7 [(6, .int l6_10), (5, .int l5_5), (4, .int l4_10), (3, .int l3_3), (0, .ref y0), (1, .int p1), (2, .int p2)] → W p l e { frames := 3, cells := 0, slots := 0, locals := 102 } s m ([.ref y0, .int p1, .int p2] : List Value).toArray below meth c H locs 0 0 Q (F0 m 53 ls []) := by
                intro n10
                induction n10 with
                | zero => intro l4_10 l6_10 hr4_10 hr6_10 hm; exact absurd hm (Nat.not_lt_zero _)
                | succ n10 ih10 =>
                  intro l4_10 l6_10 hr4_10 hr6_10 hm10 H locs ls hP hD hS hl
                  refine lv_iload hx hb dX11_layColours_53 (lv_at hl 0 rfl) ?_
                  refine lv_iload hx hb dX11_layColours_55 (lv_at hl 1 rfl) ?_
                  refine lv_icmp_ge (tgt := 106) hx hb dX11_layColours_57 (by decide) (fun c11 => ?_) (fun c11 => ?_)
                  · skip
                    have zc11 : l5_5.toInt ≤ l6_10.toInt := by rw [fa_le] at c11; exact c11
                    have rg12 := fb_rng l6_10
                    obtain ⟨t13, et13⟩ : ∃ y : Int32, y = l5_5 + 1 := ⟨_, rfl⟩
                    have zt13 : t13.toInt = l5_5.toInt + 1 := by rw [et13]; exact add_i rfl (by decide) (by omega) (by omega)
                    refine lv_iinc (v := t13) (lv' := [(5, .int t13), (6, .int l6_10), (4, .int l4_10), (3, .int l3_3), (0, .ref y0), (1, .int p1), (2, .int p2)]) hx hb dX11_layColours_106 hl (k := 1) rfl (by rw [et13]; rfl) (by decide) rfl (fun ls hl => ?_)
                    refine lv_goto (tgt := 41) hx hb dX11_layColours_109 (by decide) ?_
                    have rg14 := fb_rng l4_10
                    have rg15 := fb_rng t13
                    exact ih5 l4_10 t13 ⟨show (0 : Int) ≤ l4_10.toInt by omega, show l4_10.toInt ≤ (1 : Int) by omega⟩ ⟨show (0 : Int) ≤ t13.toInt by omega, show t13.toInt ≤ (2147483647 : Int) by omega⟩ (by show (2147483647 - t13.toInt).toNat < n5; omega) _ _ _ hP hD hS (lv_sub hl [0, 2, 3, 4, 5, 6] rfl)
                  · skip
                    have zc11 : ¬ (l5_5.toInt ≤ l6_10.toInt) := by rw [fa_le] at c11; exact c11
                    have rg16 := fb_rng l6_10
                    refine lv_iload hx hb dX11_layColours_60 (lv_at hl 2 rfl) ?_
                    refine lv_if_eq (tgt := 97) hx hb dX11_layColours_62 (by decide) (fun c17 => ?_) (fun c17 => ?_)
                    · skip
                      have zc17 : l4_10.toInt = 0 := by rw [fa_eq, show (0 : Int32).toInt = 0 from by decide] at c17; exact c17
                      refine lv_iconst (v := 0) hx hb dX11_layColours_97 (by decide) ?_
                      refine lv_istore (lv' := [(4, .int 0), (6, .int l6_10), (5, .int l5_5), (3, .int l3_3), (0, .ref y0), (1, .int p1), (2, .int p2)]) hx hb dX11_layColours_98 hl (by decide) rfl (fun ls hl => ?_)
                      obtain ⟨t18, et18⟩ : ∃ y : Int32, y = l6_10 + 1 := ⟨_, rfl⟩
                      have zt18 : t18.toInt = l6_10.toInt + 1 := by rw [et18]; exact add_i rfl (by decide) (by omega) (by omega)
                      refine lv_iinc (v := t18) (lv' := [(6, .int t18), (4, .int 0), (5, .int l5_5), (3, .int l3_3), (0, .ref y0), (1, .int p1), (2, .int p2)]) hx hb dX11_layColours_100 hl (k := 1) rfl (by rw [et18]; rfl) (by decide) rfl (fun ls hl => ?_)
                      refine lv_goto (tgt := 53) hx hb dX11_layColours_103 (by decide) ?_
                      have rg19 := fb_rng t18
                      exact ih10 0 t18 ⟨by decide, by decide⟩ ⟨show (0 : Int) ≤ t18.toInt by omega, show t18.toInt ≤ (2147483647 : Int) by omega⟩ (by show (2147483647 - t18.toInt).toNat < n10; omega) _ _ _ hP hD hS (lv_sub hl [0, 2, 1, 3, 4, 5, 6] rfl)
                    · skip
                      have zc17 : ¬ (l4_10.toInt = 0) := by rw [fa_eq, show (0 : Int32).toInt = 0 from by decide] at c17; exact c17
                      refine lv_aload_n hx hb dX11_layColours_65 rfl (lv_at hl 4 rfl) ?_
                      refine va_get (D := (dC, dI)) (ci := 11) (v := .ref (r 65)) (C := RX11) (T := TX11) (N := 79) hx hb hts inB_11 hown hE.1 hP 0 rfl rfl 65 (by decide) (hts _ k_1385) (fun _ h9 => h9) rfl dX11_layColours_66 ?_
                      refine lv_iload hx hb dX11_layColours_69 (lv_at hl 1 rfl) ?_
                      refine ldI hx hb hE hP 28 rfl (vp_in_iff.mpr ⟨by omega, by omega⟩) rfl rfl dX11_layColours_71 ?_
                      refine lv_topi (fun t20 et20 => ?_)
                      have zt20 : -1 ≤ t20.toInt ∧ t20.toInt ≤ 5 := by rw [et20]; exact hCf3.2.2.2.1 l5_5.toInt.toNat (show l5_5.toInt.toNat < 6 by omega)
                      refine lv_aload_n hx hb dX11_layColours_72 rfl (lv_at hl 4 rfl) ?_
                      refine va_get (D := (dC, dI)) (ci := 11) (v := .ref (r 65)) (C := RX11) (T := TX11) (N := 79) hx hb hts inB_11 hown hE.1 hP 0 rfl rfl 65 (by decide) (hts _ k_1385) (fun _ h9 => h9) rfl dX11_layColours_73 ?_
                      refine lv_iload hx hb dX11_layColours_76 (lv_at hl 0 rfl) ?_
                      refine ldI hx hb hE hP 28 rfl (vp_in_iff.mpr ⟨by omega, by omega⟩) rfl rfl dX11_layColours_78 ?_
                      refine lv_topi (fun t21 et21 => ?_)
                      have zt21 : -1 ≤ t21.toInt ∧ t21.toInt ≤ 5 := by rw [et21]; exact hCf3.2.2.2.1 l6_10.toInt.toNat (show l6_10.toInt.toNat < 6 by omega)
                      refine lv_icmp_ne (tgt := 93) hx hb dX11_layColours_79 (by decide) (fun c22 => ?_) (fun c22 => ?_)
                      · skip
                        have zc22 : ¬ (t20.toInt = t21.toInt) := by rw [fa_eq] at c22; exact c22
                        have rg23 := fb_rng t20
                        have rg24 := fb_rng t21
                        refine lv_iconst (v := 1) hx hb dX11_layColours_93 (by decide) ?_
                        refine lv_goto (tgt := 98) hx hb dX11_layColours_94 (by decide) ?_
                        refine lv_istore (lv' := [(4, .int 1), (6, .int l6_10), (5, .int l5_5), (3, .int l3_3), (0, .ref y0), (1, .int p1), (2, .int p2)]) hx hb dX11_layColours_98 hl (by decide) rfl (fun ls hl => ?_)
                        obtain ⟨t25, et25⟩ : ∃ y : Int32, y = l6_10 + 1 := ⟨_, rfl⟩
                        have zt25 : t25.toInt = l6_10.toInt + 1 := by rw [et25]; exact add_i rfl (by decide) (by omega) (by omega)
                        refine lv_iinc (v := t25) (lv' := [(6, .int t25), (4, .int 1), (5, .int l5_5), (3, .int l3_3), (0, .ref y0), (1, .int p1), (2, .int p2)]) hx hb dX11_layColours_100 hl (k := 1) rfl (by rw [et25]; rfl) (by decide) rfl (fun ls hl => ?_)
                        refine lv_goto (tgt := 53) hx hb dX11_layColours_103 (by decide) ?_
                        have rg26 := fb_rng t25
                        exact ih10 1 t25 ⟨by decide, by decide⟩ ⟨show (0 : Int) ≤ t25.toInt by omega, show t25.toInt ≤ (2147483647 : Int) by omega⟩ (by show (2147483647 - t25.toInt).toNat < n10; omega) _ _ _ hP hD hS (lv_sub hl [0, 2, 1, 3, 4, 5, 6] rfl)
                      · skip
                        have zc22 : t20.toInt = t21.toInt := by rw [fa_eq] at c22; exact c22
                        have rg27 := fb_rng t20
                        have rg28 := fb_rng t21
                        refine lv_aload_n hx hb dX11_layColours_82 rfl (lv_at hl 4 rfl) ?_
                        refine lv_iload hx hb dX11_layColours_83 (lv_at hl 1 rfl) ?_
                        refine lv_iload hx hb dX11_layColours_85 (lv_at hl 0 rfl) ?_
                        refine cbVi (n := 2) (rest := []) hx hb hml hown hts hE hP hD hS hA (sY_X11_areTaken_1 l dC dI cy y0 r l5_5 l6_10 v3 f3 w3 g3 hIv3 hCf3 hRf3 ⟨show (0 : Int) ≤ l5_5.toInt by omega, show l5_5.toInt ≤ (5 : Int) by omega⟩ ⟨show (0 : Int) ≤ l6_10.toInt by omega, show l6_10.toInt ≤ (5 : Int) by omega⟩) k_1940 k_1942 k_91 k_114 k_1943 (by decide +kernel) ⟨Nat.le_of_ble_eq_true rfl, Nat.le_of_ble_eq_true rfl⟩ 0 11 rfl rfl (rfl) hl.1 rfl (Nat.le_of_ble_eq_true rfl) dX11_layColours_87 (fun r29 u H locs hw hP hD hS => ?_)
                        rcases hw with ⟨g30⟩ | ⟨g30⟩
                        · skip
                          subst g30
                          refine lv_if_ne (tgt := 97) hx hb dX11_layColours_90 (by decide) (fun _ => ?_) (fun c0 => absurd c0 (by decide))
                          refine lv_iconst (v := 0) hx hb dX11_layColours_97 (by decide) ?_
                          refine lv_istore (lv' := [(4, .int 0), (6, .int l6_10), (5, .int l5_5), (3, .int l3_3), (0, .ref y0), (1, .int p1), (2, .int p2)]) hx hb dX11_layColours_98 hl (by decide) rfl (fun ls hl => ?_)
                          obtain ⟨t31, et31⟩ : ∃ y : Int32, y = l6_10 + 1 := ⟨_, rfl⟩
                          have zt31 : t31.toInt = l6_10.toInt + 1 := by rw [et31]; exact add_i rfl (by decide) (by omega) (by omega)
                          refine lv_iinc (v := t31) (lv' := [(6, .int t31), (4, .int 0), (5, .int l5_5), (3, .int l3_3), (0, .ref y0), (1, .int p1), (2, .int p2)]) hx hb dX11_layColours_100 hl (k := 1) rfl (by rw [et31]; rfl) (by decide) rfl (fun ls hl => ?_)
                          refine lv_goto (tgt := 53) hx hb dX11_layColours_103 (by decide) ?_
                          have rg32 := fb_rng t31
                          exact ih10 0 t31 ⟨by decide, by decide⟩ ⟨show (0 : Int) ≤ t31.toInt by omega, show t31.toInt ≤ (2147483647 : Int) by omega⟩ (by show (2147483647 - t31.toInt).toNat < n10; omega) _ _ _ hP hD hS (lv_sub hl [0, 2, 1, 3, 4, 5, 6] rfl)
                        · skip
                          subst g30
                          refine lv_if_ne (tgt := 97) hx hb dX11_layColours_90 (by decide) (fun c0 => absurd (by decide) c0) (fun _ => ?_)
                          refine lv_iconst (v := 1) hx hb dX11_layColours_93 (by decide) ?_
                          refine lv_goto (tgt := 98) hx hb dX11_layColours_94 (by decide) ?_
                          refine lv_istore (lv' := [(4, .int 1), (6, .int l6_10), (5, .int l5_5), (3, .int l3_3), (0, .ref y0), (1, .int p1), (2, .int p2)]) hx hb dX11_layColours_98 hl (by decide) rfl (fun ls hl => ?_)
                          obtain ⟨t33, et33⟩ : ∃ y : Int32, y = l6_10 + 1 := ⟨_, rfl⟩
                          have zt33 : t33.toInt = l6_10.toInt + 1 := by rw [et33]; exact add_i rfl (by decide) (by omega) (by omega)
                          refine lv_iinc (v := t33) (lv' := [(6, .int t33), (4, .int 1), (5, .int l5_5), (3, .int l3_3), (0, .ref y0), (1, .int p1), (2, .int p2)]) hx hb dX11_layColours_100 hl (k := 1) rfl (by rw [et33]; rfl) (by decide) rfl (fun ls hl => ?_)
                          refine lv_goto (tgt := 53) hx hb dX11_layColours_103 (by decide) ?_
                          have rg34 := fb_rng t33
                          exact ih10 1 t33 ⟨by decide, by decide⟩ ⟨show (0 : Int) ≤ t33.toInt by omega, show t33.toInt ≤ (2147483647 : Int) by omega⟩ (by show (2147483647 - t33.toInt).toNat < n10; omega) _ _ _ hP hD hS (lv_sub hl [0, 2, 1, 3, 4, 5, 6] rfl)
              have rg35 := fb_rng l4_5
              exact lp10 _ l4_5 0 ⟨show (0 : Int) ≤ l4_5.toInt by omega, show l4_5.toInt ≤ (1 : Int) by omega⟩ ⟨by decide, by decide⟩ (Nat.lt_succ_self _) _ _ _ hP hD hS (lv_sub hl [0, 1, 2, 3, 4, 5, 6] rfl)
        exact lp5 _ 1 0 ⟨by decide, by decide⟩ ⟨by decide, by decide⟩ (Nat.lt_succ_self _) _ _ _ hP hD hS (lv_sub hl [0, 1, 2, 3, 4, 5] rfl)
      · skip
        have zc4 : ¬ (l4_3.toInt < 0) := by rw [fa_lt, show (0 : Int32).toInt = 0 from by decide] at c4; exact c4
        refine lv_aload_n hx hb dX11_layColours_15 rfl (lv_at hl 2 rfl) ?_
        refine va_get (D := (dC, dI)) (ci := 11) (v := .ref (r 65)) (C := RX11) (T := TX11) (N := 79) hx hb hts inB_11 hown hE.1 hP 0 rfl rfl 65 (by decide) (hts _ k_1385) (fun _ h9 => h9) rfl dX11_layColours_16 ?_
        refine lv_iload hx hb dX11_layColours_19 (lv_at hl 0 rfl) ?_
        refine lv_iload_n hx hb dX11_layColours_21 rfl (lv_at hl 1 rfl) ?_
        refine lv_iload_n hx hb dX11_layColours_22 rfl (lv_at hl 3 rfl) ?_
        refine lv_irem hx hb dX11_layColours_23 (ne0 (by omega)) ?_
        refine lv_topi (fun t36 et36 => ?_)
        have zt36 : 0 ≤ t36.toInt ∧ t36.toInt < p1.toInt := by rw [et36]; exact rem_rng (zx := l3_3.toInt) (zy := p1.toInt) rfl rfl (by omega) (by omega)
        refine stI hx hb hE hP hD hS 28 rfl (vp_in_iff.mpr ⟨by omega, by omega⟩) rfl dX11_layColours_24 (fun H locs hP hD hS => ?_)
        obtain ⟨f37, ef37, hP, hD⟩ : ∃ fz9, fz9 = upd2 f3 27 (upd (f3 27) l4_3.toNatClampNeg t36) ∧ va_P (dC, dI) vwCl (YW cy y0 r v3 fz9 w3 g3) H ∧ va_D A (YW cy y0 r v3 fz9 w3 g3) := ⟨_, rfl, hP, hD⟩
        have hCf37 : YC f37 := by rw [ef37]; exact ⟨hCf3.1, hCf3.2.1, hCf3.2.2.1, (rng_st hCf3.2.2.2.1 (by show -1 ≤ t36.toInt ∧ t36.toInt ≤ 5; omega)), hCf3.2.2.2.2.1, hCf3.2.2.2.2.2⟩
        have hRf37 : progOK (f37 4) (f37 5) (v3 9).toInt.toNat := by rw [ef37]; exact hRf3
        have hA_f37 : KF [27] f37 f := by rw [ef37]; exact KF.up hA_f3 rfl
        refine lv_iload_n hx hb dX11_layColours_25 rfl (lv_at hl 1 rfl) ?_
        refine lv_iload_n hx hb dX11_layColours_26 rfl (lv_at hl 3 rfl) ?_
        refine lv_idiv hx hb dX11_layColours_27 (ne0 (by omega)) ?_
        refine lv_topi (fun t38 et38 => ?_)
        have zt38 : 0 ≤ t38.toInt ∧ t38.toInt ≤ l3_3.toInt := by rw [et38]; exact div_rng (zx := l3_3.toInt) (zy := p1.toInt) rfl rfl (by omega) (by omega)
        refine lv_istore_n (lv' := [(3, .int t38), (4, .int l4_3), (0, .ref y0), (1, .int p1), (2, .int p2)]) hx hb dX11_layColours_28 rfl hl (by decide) rfl (fun ls hl => ?_)
        obtain ⟨t39, et39⟩ : ∃ y : Int32, y = l4_3 + (-1) := ⟨_, rfl⟩
        have rg40 := fb_rng l4_3
        have zt39 : t39.toInt = l4_3.toInt + (-1) := by rw [et39]; exact add_i rfl (by decide) (by omega) (by omega)
        refine lv_iinc (v := t39) (lv' := [(4, .int t39), (3, .int t38), (0, .ref y0), (1, .int p1), (2, .int p2)]) hx hb dX11_layColours_29 hl (k := 1) rfl (by rw [et39]; rfl) (by decide) rfl (fun ls hl => ?_)
        refine lv_goto (tgt := 10) hx hb dX11_layColours_32 (by decide) ?_
        have rg41 := fb_rng t38
        have rg42 := fb_rng t39
        exact ih3 t38 t39 v3 f37 w3 g3 hIv3 hCf37 hRf37 hq0_v3 hq1_v3 hq2_v3 hq3_v3 hq4_v3 hq5_v3 hq8_v3 hq9_v3 hq10_v3 hq13_v3 hq14_v3 hq15_v3 hq17_v3 hq18_v3 hq24_v3 hq25_v3 hq35_v3 hq36_v3 hq38_v3 hq39_v3 ⟨show (0 : Int) ≤ t38.toInt by omega, show t38.toInt ≤ (2147483647 : Int) by omega⟩ ⟨show (-2147483648 : Int) ≤ t39.toInt by omega, show t39.toInt ≤ (5 : Int) by omega⟩ hM_v3 hA_f37 (by show (t39.toInt + 2147483648).toNat < n3; omega) _ _ _ hP hD hS (lv_sub hl [0, 1, 2, 3, 4] rfl)
  have rg43 := fb_rng p2
  have rg44 := fb_rng t1
  exact lp3 _ p2 t1 v f w g hIv hCf hRf rfl rfl rfl rfl rfl rfl rfl rfl rfl rfl rfl rfl rfl rfl rfl rfl rfl rfl rfl rfl ⟨show (0 : Int) ≤ p2.toInt by omega, show p2.toInt ≤ (2147483647 : Int) by omega⟩ ⟨show (-2147483648 : Int) ≤ t1.toInt by omega, show t1.toInt ≤ (5 : Int) by omega⟩ hM_v hA_f (Nat.lt_succ_self _) _ _ _ hP hD hS (lv_sub hl [0, 1, 2, 3, 4] rfl)
