set_option maxHeartbeats 4000000 in
set_option maxRecDepth 100000 in
theorem sY_X11_layColours_1 (l : Launch) (dC : Nat → ClassId) (dI : Nat → Nat → Nat) (cy : Nat → ClassId) (y0 : Nat) (r : Nat → Nat) (p1 : Int32) (p2 : Int32) (v : Nat → Int32) (f : Nat → Nat → Int32) (w : Int64) (g : Nat → Int64) (hIv : YI v) (hCf : YC f) (hRf : progOK (f 4) (f 5) (v 9).toInt.toNat) (hp1 : (1 : Int) ≤ p1.toInt ∧ p1.toInt ≤ 6) (hp2 : (0 : Int) ≤ p2.toInt ∧ p2.toInt ≤ 2147483647) : ctI l (dC, dI) cy yX11_layColours cX11_layColours 7 .boolean 3 102 0 0 ((Nat → Int32) × (Nat → Nat → Int32) × (Int64) × (Nat → Int64)) [.ref y0, .int p1, .int p2] (YW cy y0 r v f w g) (fun r u => KV [] u.1 v ∧ KF [27] u.2.1 f ∧ YI u.1 ∧ YC u.2.1 ∧ progOK (u.2.1 4) (u.2.1 5) (u.1 9).toInt.toNat ∧ u.1 0 = v 0 ∧ u.1 1 = v 1 ∧ u.1 2 = v 2 ∧ u.1 3 = v 3 ∧ u.1 4 = v 4 ∧ u.1 5 = v 5 ∧ u.1 8 = v 8 ∧ u.1 9 = v 9 ∧ u.1 10 = v 10 ∧ u.1 13 = v 13 ∧ u.1 14 = v 14 ∧ u.1 15 = v 15 ∧ u.1 17 = v 17 ∧ u.1 18 = v 18 ∧ u.1 24 = v 24 ∧ u.1 25 = v 25 ∧ u.1 35 = v 35 ∧ u.1 36 = v 36 ∧ u.1 38 = v 38 ∧ u.1 39 = v 39 ∧ ((r = 1) ∨ (r = 0))) (fun u => YW cy y0 r u.1 u.2.1 u.2.2.1 u.2.2.2) := by
  refine ctI_of (by decide) (Nat.le_of_ble_eq_true rfl) (fun p e s m below meth c A ls Q hx hb hml hts hown hE hP hD hA hl ret => ?_)
  have hUv : (v 35).toInt + (v 36).toInt ≤ 40 := hIv.2
  have hM_v : KV [] v v := fun _ _ => rfl
  have hA_f : KF [27] f f := fun _ _ => rfl
  have hown : s.vm.findClass RX11 = some m.cls := hown
  have hS : va_S A s.heap s.heap [] := va_S.rf
  have hl : lv_has ls 7 [(0, .ref y0), (1, .int p1), (2, .int p2)] := hl
  refine lv_iload_n hx hb dX11_layColours_0 rfl (lv_at hl 2 rfl) ?_
  refine lv_istore_n (lv' := [(3, .int p2), (0, .ref y0), (1, .int p1), (2, .int p2)]) hx hb dX11_layColours_1 rfl hl (by decide) rfl (fun ls hl => ?_)
  refine lv_aload_n hx hb dX11_layColours_2 rfl (lv_at hl 1 rfl) ?_
  refine va_get (D := (dC, dI)) (ci := 11) (v := .int (v 24)) (C := RX11) (T := TX11) (N := 79) hx hb hts inB_11 hown hE.1 hP 0 rfl rfl 48 (by decide) (hts _ k_1368) (fun _ h9 => h9) rfl dX11_layColours_3 ?_
  have b24_v : 0 ≤ (v 24).toInt ∧ (v 24).toInt ≤ 6 := YIb.b hIv.1 24 (by decide)
  refine lv_iconst (v := 1) hx hb dX11_layColours_6 (by decide) ?_
  refine lv_isub hx hb dX11_layColours_7 ?_
  refine lv_topi (fun t1 et1 => ?_)
  have rg2 := fb_rng (v 24)
  have zt1 : t1.toInt = (v 24).toInt - 1 := by rw [et1]; exact sub_i rfl (by decide) (by omega) (by omega)
  refine lv_istore (lv' := [(4, .int t1), (3, .int p2), (0, .ref y0), (1, .int p1), (2, .int p2)]) hx hb dX11_layColours_8 hl (by decide) rfl (fun ls hl => ?_)
  have lp3 : ∀ (n3 : Nat) (l3_3 : Int32) (l4_3 : Int32) (v3 : Nat → Int32) (f3 : Nat → Nat → Int32) (w3 : Int64) (g3 : Nat → Int64), YI v3 → YC f3 → progOK (f3 4) (f3 5) (v3 9).toInt.toNat → v3 0 = (v 0) → v3 1 = (v 1) → v3 2 = (v 2) → v3 3 = (v 3) → v3 4 = (v 4) → v3 5 = (v 5) → v3 8 = (v 8) → v3 9 = (v 9) → v3 10 = (v 10) → v3 13 = (v 13) → v3 14 = (v 14) → v3 15 = (v 15) → v3 17 = (v 17) → v3 18 = (v 18) → v3 24 = (v 24) → v3 25 = (v 25) → v3 35 = (v 35) → v3 36 = (v 36) → v3 38 = (v 38) → v3 39 = (v 39) → ((0 : Int) ≤ l3_3.toInt ∧ l3_3.toInt ≤ 2147483647) → ((-2147483648 : Int) ≤ l4_3.toInt ∧ l4_3.toInt ≤ 5) → KV [] v3 v → KF [27] f3 f → (l4_3.toInt + 2147483648).toNat < n3 → ∀ (H : Heap) (locs : List Loc) (ls : Array Slot), va_P (dC, dI) vwCl (YW cy y0 r v3 f3 w3 g3) H → va_D A (YW cy y0 r v3 f3 w3 g3) → va_S A s.heap H locs → lv_has ls 7 [(4, .int l4_3), (3, .int l3_3), (0, .ref y0), (1, .int p1), (2, .int p2)] → W p l e { frames := 3, cells := 0, slots := 0, locals := 102 } s m ([.ref y0, .int p1, .int p2] : List Value).toArray below meth c H locs 0 0 Q (F0 m 10 ls []) := by
    intro n3
    induction n3 with
    | zero => intro l3_3 l4_3 v3 f3 w3 g3 hIv3 hCf3 hRf3 hq0_v3 hq1_v3 hq2_v3 hq3_v3 hq4_v3 hq5_v3 hq8_v3 hq9_v3 hq10_v3 hq13_v3 hq14_v3 hq15_v3 hq17_v3 hq18_v3 hq24_v3 hq25_v3 hq35_v3 hq36_v3 hq38_v3 hq39_v3 hr3_3 hr4_3 hM_v3 hA_f3 hm; exact absurd hm (Nat.not_lt_zero _)
    | succ n3 ih3 =>
      intro l3_3 l4_3 v3 f3 w3 g3 hIv3 hCf3 hRf3 hq0_v3 hq1_v3 hq2_v3 hq3_v3 hq4_v3 hq5_v3 hq8_v3 hq9_v3 hq10_v3 hq13_v3 hq14_v3 hq15_v3 hq17_v3 hq18_v3 hq24_v3 hq25_v3 hq35_v3 hq36_v3 hq38_v3 hq39_v3 hr3_3 hr4_3 hM_v3 hA_f3 hm3 H locs ls hP hD hS hl
      have hUv3 : (v3 35).toInt + (v3 36).toInt ≤ 40 := hIv3.2
      have zq9_v3 := congrArg Int32.toInt hq9_v3
      refine lv_iload hx hb dX11_layColours_10 (lv_at hl 0 rfl) ?_
      refine lv_if_lt (tgt := 35) hx hb dX11_layColours_12 (by decide) (fun c4 => ?_) (fun c4 => ?_)
      · skip
        have zc4 : l4_3.toInt < 0 := by rw [fa_lt, show (0 : Int32).toInt = 0 from by decide] at c4; exact c4
        refine lv_iconst (v := 1) hx hb dX11_layColours_35 (by decide) ?_
        refine lv_istore (lv' := [(4, .int 1), (3, .int l3_3), (0, .ref y0), (1, .int p1), (2, .int p2)]) hx hb dX11_layColours_36 hl (by decide) rfl (fun ls hl => ?_)
        refine lv_iconst (v := 0) hx hb dX11_layColours_38 (by decide) ?_
        refine lv_istore (lv' := [(5, .int 0), (4, .int 1), (3, .int l3_3), (0, .ref y0), (1, .int p1), (2, .int p2)]) hx hb dX11_layColours_39 hl (by decide) rfl (fun ls hl => ?_)
        have lp5 : ∀ (n5 : Nat) (l4_5 : Int32) (l5_5 : Int32), ((0 : Int) ≤ l4_5.toInt ∧ l4_5.toInt ≤ 1) → ((0 : Int) ≤ l5_5.toInt ∧ l5_5.toInt ≤ 2147483647) → (2147483647 - l5_5.toInt).toNat < n5 → ∀ (H : Heap) (locs : List Loc) (ls : Array Slot), va_P (dC, dI) vwCl (YW cy y0 r v3 f3 w3 g3) H → va_D A (YW cy y0 r v3 f3 w3 g3) → va_S A s.heap H locs → lv_has ls 7 [(5, .int l5_5), (4, .int l4_5), (3, .int l3_3), (0, .ref y0), (1, .int p1), (2, .int p2)] → W p l e { frames := 3, cells := 0, slots := 0, locals := 102 } s m ([.ref y0, .int p1, .int p2] : List Value).toArray below meth c H locs 0 0 Q (F0 m 41 ls []) := by
          intro n5
          induction n5 with
          | zero => intro l4_5 l5_5 hr4_5 hr5_5 hm; exact absurd hm (Nat.not_lt_zero _)
          | succ n5 ih5 =>
            intro l4_5 l5_5 hr4_5 hr5_5 hm5 H locs ls hP hD hS hl
            refine lv_iload hx hb dX11_layColours_41 (lv_at hl 0 rfl) ?_
            refine lv_aload_n hx hb dX11_layColours_43 rfl (lv_at hl 3 rfl) ?_
            refine va_get (D := (dC, dI)) (ci := 11) (v := .int (v3 24)) (C := RX11) (T := TX11) (N := 79) hx hb hts inB_11 hown hE.1 hP 0 rfl rfl 48 (by decide) (hts _ k_1368) (fun _ h9 => h9) rfl dX11_layColours_44 ?_
            refine tI (y := (v 24)) hq24_v3 ?_
            have b24_v : 0 ≤ (v 24).toInt ∧ (v 24).toInt ≤ 6 := YIb.b hIv.1 24 (by decide)
            refine lv_icmp_ge (tgt := 112) hx hb dX11_layColours_47 (by decide) (fun c6 => ?_) (fun c6 => ?_)
            · skip
              have zc6 : (v 24).toInt ≤ l5_5.toInt := by rw [fa_le] at c6; exact c6
              have rg7 := fb_rng l5_5
              refine lv_iload hx hb dX11_layColours_112 (lv_at hl 1 rfl) ?_
              rcases b01 (x := l4_5) (by omega) (by omega) with h8 | h8
              · skip
                refine tI (y := 1) h8 ?_
                exact ret 1 (v3, f3, w3, g3) _ _ _ _ _ _ rfl ⟨hM_v3, hA_f3, hIv3, hCf3, hRf3, (show v3 0 = v 0 from hq0_v3), (show v3 1 = v 1 from hq1_v3), (show v3 2 = v 2 from hq2_v3), (show v3 3 = v 3 from hq3_v3), (show v3 4 = v 4 from hq4_v3), (show v3 5 = v 5 from hq5_v3), (show v3 8 = v 8 from hq8_v3), (show v3 9 = v 9 from hq9_v3), (show v3 10 = v 10 from hq10_v3), (show v3 13 = v 13 from hq13_v3), (show v3 14 = v 14 from hq14_v3), (show v3 15 = v 15 from hq15_v3), (show v3 17 = v 17 from hq17_v3), (show v3 18 = v 18 from hq18_v3), (show v3 24 = v 24 from hq24_v3), (show v3 25 = v 25 from hq25_v3), (show v3 35 = v 35 from hq35_v3), (show v3 36 = v 36 from hq36_v3), (show v3 38 = v 38 from hq38_v3), (show v3 39 = v 39 from hq39_v3), (Or.inl rfl)⟩ hP hD hS dX11_layColours_114 (Nat.le_refl _) (Nat.le_refl _)
              · skip
                refine tI (y := 0) h8 ?_
                exact ret 0 (v3, f3, w3, g3) _ _ _ _ _ _ rfl ⟨hM_v3, hA_f3, hIv3, hCf3, hRf3, (show v3 0 = v 0 from hq0_v3), (show v3 1 = v 1 from hq1_v3), (show v3 2 = v 2 from hq2_v3), (show v3 3 = v 3 from hq3_v3), (show v3 4 = v 4 from hq4_v3), (show v3 5 = v 5 from hq5_v3), (show v3 8 = v 8 from hq8_v3), (show v3 9 = v 9 from hq9_v3), (show v3 10 = v 10 from hq10_v3), (show v3 13 = v 13 from hq13_v3), (show v3 14 = v 14 from hq14_v3), (show v3 15 = v 15 from hq15_v3), (show v3 17 = v 17 from hq17_v3), (show v3 18 = v 18 from hq18_v3), (show v3 24 = v 24 from hq24_v3), (show v3 25 = v 25 from hq25_v3), (show v3 35 = v 35 from hq35_v3), (show v3 36 = v 36 from hq36_v3), (show v3 38 = v 38 from hq38_v3), (show v3 39 = v 39 from hq39_v3), (Or.inr rfl)⟩ hP hD hS dX11_layColours_114 (Nat.le_refl _) (Nat.le_refl _)
            · skip
              have zc6 : ¬ ((v 24).toInt ≤ l5_5.toInt) := by rw [fa_le] at c6; exact c6
              have rg9 := fb_rng l5_5
              refine lv_iconst (v := 0) hx hb dX11_layColours_50 (by decide) ?_
              refine lv_istore (lv' := [(6, .int 0), (5, .int l5_5), (4, .int l4_5), (3, .int l3_3), (0, .ref y0), (1, .int p1), (2, .int p2)]) hx hb dX11_layColours_51 hl (by decide) rfl (fun ls hl => ?_)
              have lp10 : ∀ (n10 : Nat) (l4_10 : Int32) (l6_10 : Int32), ((0 : Int) ≤ l4_10.toInt ∧ l4_10.toInt ≤ 1) → ((0 : Int) ≤ l6_10.toInt ∧ l6_10.toInt ≤ 2147483647) → (2147483647 - l6_10.toInt).toNat < n10 → ∀ (H : Heap) (locs : List Loc) (ls : Array Slot), va_P (dC, dI) vwCl (YW cy y0 r v3 f3 w3 g3) H → va_D A (YW cy y0 r v3 f3 w3 g3) → va_S A s.heap H locs → lv_has ls 7 [(6, .int l6_10), (5, .int l5_5), (4, .int l4_10), (3, .int l3_3), (0, .ref y0), (1, .int p1), (2, .int p2)] → W p l e { frames := 3, cells := 0, slots := 0, locals := 102 } s m ([.ref y0, .int p1, .int p2] : List Value).toArray below meth c H locs 0 0 Q (F0 m 53 ls []) := by
                intro n10
                induction n10 with
                | zero => intro l4_10 l6_10 hr4_10 hr6_10 hm; exact absurd hm (Nat.not_lt_zero _)
                | succ n10 ih10 =>
                  intro l4_10 l6_10 hr4_10 hr6_10 hm10 H locs ls hP hD hS hl
                  refine lv_iload hx hb dX11_layColours_53 (lv_at hl 0 rfl) ?_
                  refine lv_iload hx hb dX11_layColours_55 (lv_at hl 1 rfl) ?_
                  refine lv_icmp_ge (tgt := 106) hx hb dX11_layColours_57 (by decide) (fun c11 => ?_) (fun c11 => ?_)
                  · skip
                    have zc11 : l5_5.toInt ≤ l6_10.toInt := by rw [fa_le] at c11; exact c11
                    have rg12 := fb_rng l6_10
                    obtain ⟨t13, et13⟩ : ∃ y : Int32, y = l5_5 + 1 := ⟨_, rfl⟩
                    have zt13 : t13.toInt = l5_5.toInt + 1 := by rw [et13]; exact add_i rfl (by decide) (by omega) (by omega)
                    refine lv_iinc (v := t13) (lv' := [(5, .int t13), (6, .int l6_10), (4, .int l4_10), (3, .int l3_3), (0, .ref y0), (1, .int p1), (2, .int p2)]) hx hb dX11_layColours_106 hl (k := 1) rfl (by rw [et13]; rfl) (by decide) rfl (fun ls hl => ?_)
                    refine lv_goto (tgt := 41) hx hb dX11_layColours_109 (by decide) ?_
                    have rg14 := fb_rng l4_10
                    have rg15 := fb_rng t13
                    exact ih5 l4_10 t13 ⟨show (0 : Int) ≤ l4_10.toInt by omega, show l4_10.toInt ≤ (1 : Int) by omega⟩ ⟨show (0 : Int) ≤ t13.toInt by omega, show t13.toInt ≤ (2147483647 : Int) by omega⟩ (by show (2147483647 - t13.toInt).toNat < n5; omega) _ _ _ hP hD hS (lv_sub hl [0, 2, 3, 4, 5, 6] rfl)
                  · skip
                    have zc11 : ¬ (l5_5.toInt ≤ l6_10.toInt) := by rw [fa_le] at c11; exact c11
                    have rg16 := fb_rng l6_10
                    refine lv_iload hx hb dX11_layColours_60 (lv_at hl 2 rfl) ?_
                    refine lv_if_eq (tgt := 97) hx hb dX11_layColours_62 (by decide) (fun c17 => ?_) (fun c17 => ?_)
                    · skip
                      have zc17 : l4_10.toInt = 0 := by rw [fa_eq, show (0 : Int32).toInt = 0 from by decide] at c17; exact c17
                      refine lv_iconst (v := 0) hx hb dX11_layColours_97 (by decide) ?_
                      refine lv_istore (lv' := [(4, .int 0), (6, .int l6_10), (5, .int l5_5), (3, .int l3_3), (0, .ref y0), (1, .int p1), (2, .int p2)]) hx hb dX11_layColours_98 hl (by decide) rfl (fun ls hl => ?_)
                      obtain ⟨t18, et18⟩ : ∃ y : Int32, y = l6_10 + 1 := ⟨_, rfl⟩
                      have zt18 : t18.toInt = l6_10.toInt + 1 := by rw [et18]; exact add_i rfl (by decide) (by omega) (by omega)
                      refine lv_iinc (v := t18) (lv' := [(6, .int t18), (4, .int 0), (5, .int l5_5), (3, .int l3_3), (0, .ref y0), (1, .int p1), (2, .int p2)]) hx hb dX11_layColours_100 hl (k := 1) rfl (by rw [et18]; rfl) (by decide) rfl (fun ls hl => ?_)
                      refine lv_goto (tgt := 53) hx hb dX11_layColours_103 (by decide) ?_
                      have rg19 := fb_rng t18
                      exact ih10 0 t18 ⟨by decide, by decide⟩ ⟨show (0 : Int) ≤ t18.toInt by omega, show t18.toInt ≤ (2147483647 : Int) by omega⟩ (by show (2147483647 - t18.toInt).toNat < n10; omega) _ _ _ hP hD hS (lv_sub hl [0, 2, 1, 3, 4, 5, 6] rfl)
                    · skip
                      have zc17 : ¬ (l4_10.toInt = 0) := by rw [fa_eq, show (0 : Int32).toInt = 0 from by decide] at c17; exact c17
                      refine lv_aload_n hx hb dX11_layColours_65 rfl (lv_at hl 4 rfl) ?_
                      refine va_get (D := (dC, dI)) (ci := 11) (v := .ref (r 65)) (C := RX11) (T := TX11) (N := 79) hx hb hts inB_11 hown hE.1 hP 0 rfl rfl 65 (by decide) (hts _ k_1385) (fun _ h9 => h9) rfl dX11_layColours_66 ?_
                      refine lv_iload hx hb dX11_layColours_69 (lv_at hl 1 rfl) ?_
                      refine ldI hx hb hE hP 28 rfl (vp_in_iff.mpr ⟨by omega, by omega⟩) rfl rfl dX11_layColours_71 ?_
                      refine lv_topi (fun t20 et20 => ?_)
                      have zt20 : -1 ≤ t20.toInt ∧ t20.toInt ≤ 5 := by rw [et20]; exact hCf3.2.2.2.1 l5_5.toInt.toNat (show l5_5.toInt.toNat < 6 by omega)
                      refine lv_aload_n hx hb dX11_layColours_72 rfl (lv_at hl 4 rfl) ?_
                      refine va_get (D := (dC, dI)) (ci := 11) (v := .ref (r 65)) (C := RX11) (T := TX11) (N := 79) hx hb hts inB_11 hown hE.1 hP 0 rfl rfl 65 (by decide) (hts _ k_1385) (fun _ h9 => h9) rfl dX11_layColours_73 ?_
                      refine lv_iload hx hb dX11_layColours_76 (lv_at hl 0 rfl) ?_
                      refine ldI hx hb hE hP 28 rfl (vp_in_iff.mpr ⟨by omega, by omega⟩) rfl rfl dX11_layColours_78 ?_
                      refine lv_topi (fun t21 et21 => ?_)
                      have zt21 : -1 ≤ t21.toInt ∧ t21.toInt ≤ 5 := by rw [et21]; exact hCf3.2.2.2.1 l6_10.toInt.toNat (show l6_10.toInt.toNat < 6 by omega)
                      refine lv_icmp_ne (tgt := 93) hx hb dX11_layColours_79 (by decide) (fun c22 => ?_) (fun c22 => ?_)
                      · skip
                        have zc22 : ¬ (t20.toInt = t21.toInt) := by rw [fa_eq] at c22; exact c22
                        have rg23 := fb_rng t20
                        have rg24 := fb_rng t21
                        refine lv_iconst (v := 1) hx hb dX11_layColours_93 (by decide) ?_
                        refine lv_goto (tgt := 98) hx hb dX11_layColours_94 (by decide) ?_
                        refine lv_istore (lv' := [(4, .int 1), (6, .int l6_10), (5, .int l5_5), (3, .int l3_3), (0, .ref y0), (1, .int p1), (2, .int p2)]) hx hb dX11_layColours_98 hl (by decide) rfl (fun ls hl => ?_)
                        obtain ⟨t25, et25⟩ : ∃ y : Int32, y = l6_10 + 1 := ⟨_, rfl⟩
                        have zt25 : t25.toInt = l6_10.toInt + 1 := by rw [et25]; exact add_i rfl (by decide) (by omega) (by omega)
                        refine lv_iinc (v := t25) (lv' := [(6, .int t25), (4, .int 1), (5, .int l5_5), (3, .int l3_3), (0, .ref y0), (1, .int p1), (2, .int p2)]) hx hb dX11_layColours_100 hl (k := 1) rfl (by rw [et25]; rfl) (by decide) rfl (fun ls hl => ?_)
                        refine lv_goto (tgt := 53) hx hb dX11_layColours_103 (by decide) ?_
                        have rg26 := fb_rng t25
                        exact ih10 1 t25 ⟨by decide, by decide⟩ ⟨show (0 : Int) ≤ t25.toInt by omega, show t25.toInt ≤ (2147483647 : Int) by omega⟩ (by show (2147483647 - t25.toInt).toNat < n10; omega) _ _ _ hP hD hS (lv_sub hl [0, 2, 1, 3, 4, 5, 6] rfl)
                      · skip
                        have zc22 : t20.toInt = t21.toInt := by rw [fa_eq] at c22; exact c22
                        have rg27 := fb_rng t20
                        have rg28 := fb_rng t21
                        refine lv_aload_n hx hb dX11_layColours_82 rfl (lv_at hl 4 rfl) ?_
                        refine lv_iload hx hb dX11_layColours_83 (lv_at hl 1 rfl) ?_
                        refine lv_iload hx hb dX11_layColours_85 (lv_at hl 0 rfl) ?_
                        refine cbVi (n := 2) (rest := []) hx hb hml hown hts hE hP hD hS hA (sY_X11_areTaken_1 l dC dI cy y0 r l5_5 l6_10 v3 f3 w3 g3 hIv3 hCf3 hRf3 ⟨show (0 : Int) ≤ l5_5.toInt by omega, show l5_5.toInt ≤ (5 : Int) by omega⟩ ⟨show (0 : Int) ≤ l6_10.toInt by omega, show l6_10.toInt ≤ (5 : Int) by omega⟩) k_1940 k_1942 k_91 k_114 k_1943 (by decide +kernel) ⟨Nat.le_of_ble_eq_true rfl, Nat.le_of_ble_eq_true rfl⟩ 0 11 rfl rfl (rfl) hl.1 rfl (Nat.le_of_ble_eq_true rfl) dX11_layColours_87 (fun r29 u H locs hw hP hD hS => ?_)
                        rcases hw with ⟨g30⟩ | ⟨g30⟩
                        · skip
                          subst g30
                          refine lv_if_ne (tgt := 97) hx hb dX11_layColours_90 (by decide) (fun _ => ?_) (fun c0 => absurd c0 (by decide))
                          refine lv_iconst (v := 0) hx hb dX11_layColours_97 (by decide) ?_
                          refine lv_istore (lv' := [(4, .int 0), (6, .int l6_10), (5, .int l5_5), (3, .int l3_3), (0, .ref y0), (1, .int p1), (2, .int p2)]) hx hb dX11_layColours_98 hl (by decide) rfl (fun ls hl => ?_)
                          obtain ⟨t31, et31⟩ : ∃ y : Int32, y = l6_10 + 1 := ⟨_, rfl⟩
                          have zt31 : t31.toInt = l6_10.toInt + 1 := by rw [et31]; exact add_i rfl (by decide) (by omega) (by omega)
                          refine lv_iinc (v := t31) (lv' := [(6, .int t31), (4, .int 0), (5, .int l5_5), (3, .int l3_3), (0, .ref y0), (1, .int p1), (2, .int p2)]) hx hb dX11_layColours_100 hl (k := 1) rfl (by rw [et31]; rfl) (by decide) rfl (fun ls hl => ?_)
                          refine lv_goto (tgt := 53) hx hb dX11_layColours_103 (by decide) ?_
                          have rg32 := fb_rng t31
                          exact ih10 0 t31 ⟨by decide, by decide⟩ ⟨show (0 : Int) ≤ t31.toInt by omega, show t31.toInt ≤ (2147483647 : Int) by omega⟩ (by show (2147483647 - t31.toInt).toNat < n10; omega) _ _ _ hP hD hS (lv_sub hl [0, 2, 1, 3, 4, 5, 6] rfl)
                        · skip
                          subst g30
                          refine lv_if_ne (tgt := 97) hx hb dX11_layColours_90 (by decide) (fun c0 => absurd (by decide) c0) (fun _ => ?_)
                          refine lv_iconst (v := 1) hx hb dX11_layColours_93 (by decide) ?_
                          refine lv_goto (tgt := 98) hx hb dX11_layColours_94 (by decide) ?_
                          refine lv_istore (lv' := [(4, .int 1), (6, .int l6_10), (5, .int l5_5), (3, .int l3_3), (0, .ref y0), (1, .int p1), (2, .int p2)]) hx hb dX11_layColours_98 hl (by decide) rfl (fun ls hl => ?_)
                          obtain ⟨t33, et33⟩ : ∃ y : Int32, y = l6_10 + 1 := ⟨_, rfl⟩
                          have zt33 : t33.toInt = l6_10.toInt + 1 := by rw [et33]; exact add_i rfl (by decide) (by omega) (by omega)
                          refine lv_iinc (v := t33) (lv' := [(6, .int t33), (4, .int 1), (5, .int l5_5), (3, .int l3_3), (0, .ref y0), (1, .int p1), (2, .int p2)]) hx hb dX11_layColours_100 hl (k := 1) rfl (by rw [et33]; rfl) (by decide) rfl (fun ls hl => ?_)
                          refine lv_goto (tgt := 53) hx hb dX11_layColours_103 (by decide) ?_
                          have rg34 := fb_rng t33
                          exact ih10 1 t33 ⟨by decide, by decide⟩ ⟨show (0 : Int) ≤ t33.toInt by omega, show t33.toInt ≤ (2147483647 : Int) by omega⟩ (by show (2147483647 - t33.toInt).toNat < n10; omega) _ _ _ hP hD hS (lv_sub hl [0, 2, 1, 3, 4, 5, 6] rfl)
              have rg35 := fb_rng l4_5
              exact lp10 _ l4_5 0 ⟨show (0 : Int) ≤ l4_5.toInt by omega, show l4_5.toInt ≤ (1 : Int) by omega⟩ ⟨by decide, by decide⟩ (Nat.lt_succ_self _) _ _ _ hP hD hS (lv_sub hl [0, 1, 2, 3, 4, 5, 6] rfl)
        exact lp5 _ 1 0 ⟨by decide, by decide⟩ ⟨by decide, by decide⟩ (Nat.lt_succ_self _) _ _ _ hP hD hS (lv_sub hl [0, 1, 2, 3, 4, 5] rfl)
      · skip
        have zc4 : ¬ (l4_3.toInt < 0) := by rw [fa_lt, show (0 : Int32).toInt = 0 from by decide] at c4; exact c4
        refine lv_aload_n hx hb dX11_layColours_15 rfl (lv_at hl 2 rfl) ?_
        refine va_get (D := (dC, dI)) (ci := 11) (v := .ref (r 65)) (C := RX11) (T := TX11) (N := 79) hx hb hts inB_11 hown hE.1 hP 0 rfl rfl 65 (by decide) (hts _ k_1385) (fun _ h9 => h9) rfl dX11_layColours_16 ?_
        refine lv_iload hx hb dX11_layColours_19 (lv_at hl 0 rfl) ?_
        refine lv_iload_n hx hb dX11_layColours_21 rfl (lv_at hl 1 rfl) ?_
        refine lv_iload_n hx hb dX11_layColours_22 rfl (lv_at hl 3 rfl) ?_
        refine lv_irem hx hb dX11_layColours_23 (ne0 (by omega)) ?_
        refine lv_topi (fun t36 et36 => ?_)
        have zt36 : 0 ≤ t36.toInt ∧ t36.toInt < p1.toInt := by rw [et36]; exact rem_rng (zx := l3_3.toInt) (zy := p1.toInt) rfl rfl (by omega) (by omega)
        refine stI hx hb hE hP hD hS 28 rfl (vp_in_iff.mpr ⟨by omega, by omega⟩) rfl dX11_layColours_24 (fun H locs hP hD hS => ?_)
        obtain ⟨f37, ef37, hP, hD⟩ : ∃ fz9, fz9 = upd2 f3 27 (upd (f3 27) l4_3.toNatClampNeg t36) ∧ va_P (dC, dI) vwCl (YW cy y0 r v3 fz9 w3 g3) H ∧ va_D A (YW cy y0 r v3 fz9 w3 g3) := ⟨_, rfl, hP, hD⟩
        have hCf37 : YC f37 := by rw [ef37]; exact ⟨hCf3.1, hCf3.2.1, hCf3.2.2.1, (rng_st hCf3.2.2.2.1 (by show -1 ≤ t36.toInt ∧ t36.toInt ≤ 5; omega)), hCf3.2.2.2.2.1, hCf3.2.2.2.2.2⟩
        have hRf37 : progOK (f37 4) (f37 5) (v3 9).toInt.toNat := by rw [ef37]; exact hRf3
        have hA_f37 : KF [27] f37 f := by rw [ef37]; exact KF.up hA_f3 rfl
        refine lv_iload_n hx hb dX11_layColours_25 rfl (lv_at hl 1 rfl) ?_
        refine lv_iload_n hx hb dX11_layColours_26 rfl (lv_at hl 3 rfl) ?_
        refine lv_idiv hx hb dX11_layColours_27 (ne0 (by omega)) ?_
        refine lv_topi (fun t38 et38 => ?_)
        have zt38 : 0 ≤ t38.toInt ∧ t38.toInt ≤ l3_3.toInt := by rw [et38]; exact div_rng (zx := l3_3.toInt) (zy := p1.toInt) rfl rfl (by omega) (by omega)
        refine lv_istore_n (lv' := [(3, .int t38), (4, .int l4_3), (0, .ref y0), (1, .int p1), (2, .int p2)]) hx hb dX11_layColours_28 rfl hl (by decide) rfl (fun ls hl => ?_)
        obtain ⟨t39, et39⟩ : ∃ y : Int32, y = l4_3 + (-1) := ⟨_, rfl⟩
        have rg40 := fb_rng l4_3
        have zt39 : t39.toInt = l4_3.toInt + (-1) := by rw [et39]; exact add_i rfl (by decide) (by omega) (by omega)
        refine lv_iinc (v := t39) (lv' := [(4, .int t39), (3, .int t38), (0, .ref y0), (1, .int p1), (2, .int p2)]) hx hb dX11_layColours_29 hl (k := 1) rfl (by rw [et39]; rfl) (by decide) rfl (fun ls hl => ?_)
        refine lv_goto (tgt := 10) hx hb dX11_layColours_32 (by decide) ?_
        have rg41 := fb_rng t38
        have rg42 := fb_rng t39
        exact ih3 t38 t39 v3 f37 w3 g3 hIv3 hCf37 hRf37 hq0_v3 hq1_v3 hq2_v3 hq3_v3 hq4_v3 hq5_v3 hq8_v3 hq9_v3 hq10_v3 hq13_v3 hq14_v3 hq15_v3 hq17_v3 hq18_v3 hq24_v3 hq25_v3 hq35_v3 hq36_v3 hq38_v3 hq39_v3 ⟨show (0 : Int) ≤ t38.toInt by omega, show t38.toInt ≤ (2147483647 : Int) by omega⟩ ⟨show (-2147483648 : Int) ≤ t39.toInt by omega, show t39.toInt ≤ (5 : Int) by omega⟩ hM_v3 hA_f37 (by show (t39.toInt + 2147483648).toNat < n3; omega) _ _ _ hP hD hS (lv_sub hl [0, 1, 2, 3, 4] rfl)
  have rg43 := fb_rng p2
  have rg44 := fb_rng t1
  exact lp3 _ p2 t1 v f w g hIv hCf hRf rfl rfl rfl rfl rfl rfl rfl rfl rfl rfl rfl rfl rfl rfl rfl rfl rfl rfl rfl rfl ⟨show (0 : Int) ≤ p2.toInt by omega, show p2.toInt ≤ (2147483647 : Int) by omega⟩ ⟨show (-2147483648 : Int) ≤ t1.toInt by omega, show t1.toInt ≤ (5 : Int) by omega⟩ hM_v hA_f (Nat.lt_succ_self _) _ _ _ hP hD hS (lv_sub hl [0, 1, 2, 3, 4] rfl)
set_option maxHeartbeats 4000000 in
set_option maxRecDepth 100000 in
theorem sY_X11_buttons_1 (l : Launch) (dC : Nat → ClassId) (dI : Nat → Nat → Nat) (cy : Nat → ClassId) (y0 : Nat) (r : Nat → Nat)  (v : Nat → Int32) (f : Nat → Nat → Int32) (w : Int64) (g : Nat → Int64) (hIv : YI v) (hCf : YC f) (hRf : progOK (f 4) (f 5) (v 9).toInt.toNat)  : ctI l (dC, dI) cy yX11_buttons cX11_buttons 4 .int 4 128 0 0 ((Nat → Int32) × (Nat → Nat → Int32) × (Int64) × (Nat → Int64)) [.ref y0] (YW cy y0 r v f w g) (fun r u => KV [37] u.1 v ∧ KF [26, 27] u.2.1 f ∧ YI u.1 ∧ YC u.2.1 ∧ progOK (u.2.1 4) (u.2.1 5) (u.1 9).toInt.toNat ∧ u.1 0 = v 0 ∧ u.1 1 = v 1 ∧ u.1 2 = v 2 ∧ u.1 3 = v 3 ∧ u.1 4 = v 4 ∧ u.1 5 = v 5 ∧ u.1 8 = v 8 ∧ u.1 9 = v 9 ∧ u.1 10 = v 10 ∧ u.1 13 = v 13 ∧ u.1 14 = v 14 ∧ u.1 15 = v 15 ∧ u.1 17 = v 17 ∧ u.1 18 = v 18 ∧ u.1 24 = v 24 ∧ u.1 25 = v 25 ∧ u.1 35 = v 35 ∧ u.1 36 = v 36 ∧ u.1 38 = v 38 ∧ u.1 39 = v 39) (fun u => YW cy y0 r u.1 u.2.1 u.2.2.1 u.2.2.2) := by
  refine ctI_of (by decide) (Nat.le_of_ble_eq_true rfl) (fun p e s m below meth c A ls Q hx hb hml hts hown hE hP hD hA hl ret => ?_)
  have hUv : (v 35).toInt + (v 36).toInt ≤ 40 := hIv.2
  have hM_v : KV [37] v v := fun _ _ => rfl
  have hA_f : KF [26, 27] f f := fun _ _ => rfl
  have hown : s.vm.findClass RX11 = some m.cls := hown
  have hS : va_S A s.heap s.heap [] := va_S.rf
  have hl : lv_has ls 4 [(0, .ref y0)] := hl
  refine lv_aload_n hx hb dX11_buttons_0 rfl (lv_at hl 0 rfl) ?_
  refine lv_aload_n hx hb dX11_buttons_1 rfl (lv_at hl 0 rfl) ?_
  refine va_get (D := (dC, dI)) (ci := 11) (v := .int (v 24)) (C := RX11) (T := TX11) (N := 79) hx hb hts inB_11 hown hE.1 hP 0 rfl rfl 48 (by decide) (hts _ k_1368) (fun _ h9 => h9) rfl dX11_buttons_2 ?_
  have b24_v : 0 ≤ (v 24).toInt ∧ (v 24).toInt ≤ 6 := YIb.b hIv.1 24 (by decide)
  refine va_put (D := (dC, dI)) (ci := 11) (v := .int (v 24)) (ty := tyX11 67) (C := RX11) (T := TX11) (N := 79) hx hb hts inB_11 tyX11 tyX11_ok nmX11 hown hE.1 hP hD hS 0 rfl rfl 67 (by decide) (hts _ k_1387) (fun _ h9 => h9) rfl (tyX11_ok 67 (by decide)) rfl rfl (Nat.le_of_ble_eq_true rfl) dX11_buttons_5 (fun H locs hP hD hS => ?_)
  have hP : va_P (dC, dI) vwCl (YW cy y0 r (upd v 37 (v 24)) f w g) H := hP
  have hD : va_D A (YW cy y0 r (upd v 37 (v 24)) f w g) := hD
  refine lv_iconst (v := 1) hx hb dX11_buttons_8 (by decide) ?_
  refine lv_istore_n (lv' := [(1, .int 1), (0, .ref y0)]) hx hb dX11_buttons_9 rfl hl (by decide) rfl (fun ls hl => ?_)
  have lp1 : ∀ (n1 : Nat) (l1_1 : Int32) (v1 : Nat → Int32) (f1 : Nat → Nat → Int32) (w1 : Int64) (g1 : Nat → Int64), YI v1 → YC f1 → progOK (f1 4) (f1 5) (v1 9).toInt.toNat → v1 0 = (v 0) → v1 1 = (v 1) → v1 2 = (v 2) → v1 3 = (v 3) → v1 4 = (v 4) → v1 5 = (v 5) → v1 8 = (v 8) → v1 9 = (v 9) → v1 10 = (v 10) → v1 13 = (v 13) → v1 14 = (v 14) → v1 15 = (v 15) → v1 17 = (v 17) → v1 18 = (v 18) → v1 24 = (v 24) → v1 25 = (v 25) → v1 35 = (v 35) → v1 36 = (v 36) → v1 38 = (v 38) → v1 39 = (v 39) → ((1 : Int) ≤ l1_1.toInt ∧ l1_1.toInt ≤ 2147483647) → KV [37] v1 v → KF [26, 27] f1 f → (2147483647 - l1_1.toInt).toNat < n1 → ∀ (H : Heap) (locs : List Loc) (ls : Array Slot), va_P (dC, dI) vwCl (YW cy y0 r v1 f1 w1 g1) H → va_D A (YW cy y0 r v1 f1 w1 g1) → va_S A s.heap H locs → lv_has ls 4 [(1, .int l1_1), (0, .ref y0)] → W p l e { frames := 4, cells := 0, slots := 0, locals := 128 } s m ([.ref y0] : List Value).toArray below meth c H locs 0 0 Q (F0 m 10 ls []) := by
    intro n1
    induction n1 with
    | zero => intro l1_1 v1 f1 w1 g1 hIv1 hCf1 hRf1 hq0_v1 hq1_v1 hq2_v1 hq3_v1 hq4_v1 hq5_v1 hq8_v1 hq9_v1 hq10_v1 hq13_v1 hq14_v1 hq15_v1 hq17_v1 hq18_v1 hq24_v1 hq25_v1 hq35_v1 hq36_v1 hq38_v1 hq39_v1 hr1_1 hM_v1 hA_f1 hm; exact absurd hm (Nat.not_lt_zero _)
    | succ n1 ih1 =>
      intro l1_1 v1 f1 w1 g1 hIv1 hCf1 hRf1 hq0_v1 hq1_v1 hq2_v1 hq3_v1 hq4_v1 hq5_v1 hq8_v1 hq9_v1 hq10_v1 hq13_v1 hq14_v1 hq15_v1 hq17_v1 hq18_v1 hq24_v1 hq25_v1 hq35_v1 hq36_v1 hq38_v1 hq39_v1 hr1_1 hM_v1 hA_f1 hm1 H locs ls hP hD hS hl
      have hUv1 : (v1 35).toInt + (v1 36).toInt ≤ 40 := hIv1.2
      have zq9_v1 := congrArg Int32.toInt hq9_v1
      refine lv_iload_n hx hb dX11_buttons_10 rfl (lv_at hl 0 rfl) ?_
      refine lv_aload_n hx hb dX11_buttons_11 rfl (lv_at hl 1 rfl) ?_
      refine va_get (D := (dC, dI)) (ci := 11) (v := .int (v1 24)) (C := RX11) (T := TX11) (N := 79) hx hb hts inB_11 hown hE.1 hP 0 rfl rfl 48 (by decide) (hts _ k_1368) (fun _ h9 => h9) rfl dX11_buttons_12 ?_
      refine tI (y := (v 24)) hq24_v1 ?_
      have b24_v : 0 ≤ (v 24).toInt ∧ (v 24).toInt ≤ 6 := YIb.b hIv.1 24 (by decide)
      refine lv_icmp_gt (tgt := 86) hx hb dX11_buttons_15 (by decide) (fun c2 => ?_) (fun c2 => ?_)
      · skip
        have zc2 : (v 24).toInt < l1_1.toInt := by rw [fa_lt] at c2; exact c2
        have rg3 := fb_rng l1_1
        have rg4 := fb_rng (v 24)
        refine lv_iconst (v := 0) hx hb dX11_buttons_86 (by decide) ?_
        exact ret 0 (v1, f1, w1, g1) _ _ _ _ _ _ rfl ⟨hM_v1, hA_f1, hIv1, hCf1, hRf1, (show v1 0 = v 0 from hq0_v1), (show v1 1 = v 1 from hq1_v1), (show v1 2 = v 2 from hq2_v1), (show v1 3 = v 3 from hq3_v1), (show v1 4 = v 4 from hq4_v1), (show v1 5 = v 5 from hq5_v1), (show v1 8 = v 8 from hq8_v1), (show v1 9 = v 9 from hq9_v1), (show v1 10 = v 10 from hq10_v1), (show v1 13 = v 13 from hq13_v1), (show v1 14 = v 14 from hq14_v1), (show v1 15 = v 15 from hq15_v1), (show v1 17 = v 17 from hq17_v1), (show v1 18 = v 18 from hq18_v1), (show v1 24 = v 24 from hq24_v1), (show v1 25 = v 25 from hq25_v1), (show v1 35 = v 35 from hq35_v1), (show v1 36 = v 36 from hq36_v1), (show v1 38 = v 38 from hq38_v1), (show v1 39 = v 39 from hq39_v1)⟩ hP hD hS dX11_buttons_87 (Nat.le_refl _) (Nat.le_refl _)
      · skip
        have zc2 : ¬ ((v 24).toInt < l1_1.toInt) := by rw [fa_lt] at c2; exact c2
        have rg5 := fb_rng l1_1
        have rg6 := fb_rng (v 24)
        refine lv_iconst (v := 0) hx hb dX11_buttons_18 (by decide) ?_
        refine lv_istore_n (lv' := [(2, .int 0), (1, .int l1_1), (0, .ref y0)]) hx hb dX11_buttons_19 rfl hl (by decide) rfl (fun ls hl => ?_)
        have lp7 : ∀ (n7 : Nat) (l2_7 : Int32) (v7 : Nat → Int32) (f7 : Nat → Nat → Int32) (w7 : Int64) (g7 : Nat → Int64), YI v7 → YC f7 → progOK (f7 4) (f7 5) (v7 9).toInt.toNat → v7 0 = (v 0) → v7 1 = (v 1) → v7 2 = (v 2) → v7 3 = (v 3) → v7 4 = (v 4) → v7 5 = (v 5) → v7 8 = (v 8) → v7 9 = (v 9) → v7 10 = (v 10) → v7 13 = (v 13) → v7 14 = (v 14) → v7 15 = (v 15) → v7 17 = (v 17) → v7 18 = (v 18) → v7 24 = (v 24) → v7 25 = (v 25) → v7 35 = (v 35) → v7 36 = (v 36) → v7 38 = (v 38) → v7 39 = (v 39) → ((0 : Int) ≤ l2_7.toInt ∧ l2_7.toInt ≤ 2147483647) → KV [37] v7 v → KF [26, 27] f7 f → (2147483647 - l2_7.toInt).toNat < n7 → ∀ (H : Heap) (locs : List Loc) (ls : Array Slot), va_P (dC, dI) vwCl (YW cy y0 r v7 f7 w7 g7) H → va_D A (YW cy y0 r v7 f7 w7 g7) → va_S A s.heap H locs → lv_has ls 4 [(2, .int l2_7), (1, .int l1_1), (0, .ref y0)] → W p l e { frames := 4, cells := 0, slots := 0, locals := 128 } s m ([.ref y0] : List Value).toArray below meth c H locs 0 0 Q (F0 m 20 ls []) := by
          intro n7
          induction n7 with
          | zero => intro l2_7 v7 f7 w7 g7 hIv7 hCf7 hRf7 hq0_v7 hq1_v7 hq2_v7 hq3_v7 hq4_v7 hq5_v7 hq8_v7 hq9_v7 hq10_v7 hq13_v7 hq14_v7 hq15_v7 hq17_v7 hq18_v7 hq24_v7 hq25_v7 hq35_v7 hq36_v7 hq38_v7 hq39_v7 hr2_7 hM_v7 hA_f7 hm; exact absurd hm (Nat.not_lt_zero _)
          | succ n7 ih7 =>
            intro l2_7 v7 f7 w7 g7 hIv7 hCf7 hRf7 hq0_v7 hq1_v7 hq2_v7 hq3_v7 hq4_v7 hq5_v7 hq8_v7 hq9_v7 hq10_v7 hq13_v7 hq14_v7 hq15_v7 hq17_v7 hq18_v7 hq24_v7 hq25_v7 hq35_v7 hq36_v7 hq38_v7 hq39_v7 hr2_7 hM_v7 hA_f7 hm7 H locs ls hP hD hS hl
            have hUv7 : (v7 35).toInt + (v7 36).toInt ≤ 40 := hIv7.2
            have zq9_v7 := congrArg Int32.toInt hq9_v7
            refine lv_iload_n hx hb dX11_buttons_20 rfl (lv_at hl 0 rfl) ?_
            refine lv_iload_n hx hb dX11_buttons_21 rfl (lv_at hl 1 rfl) ?_
            refine lv_aload_n hx hb dX11_buttons_22 rfl (lv_at hl 2 rfl) ?_
            refine va_get (D := (dC, dI)) (ci := 11) (v := .int (v7 24)) (C := RX11) (T := TX11) (N := 79) hx hb hts inB_11 hown hE.1 hP 0 rfl rfl 48 (by decide) (hts _ k_1368) (fun _ h9 => h9) rfl dX11_buttons_23 ?_
            refine tI (y := (v 24)) hq24_v7 ?_
            have b24_v : 0 ≤ (v 24).toInt ∧ (v 24).toInt ≤ 6 := YIb.b hIv.1 24 (by decide)
            refine cbSi (n := 2) (rest := [.int l2_7]) hx hb hml hown hts hE hP hD hS hA (sY_X11_power_1 0 l dC dI cy y0 r l1_1 (v 24) v7 f7 w7 g7 hIv7 hCf7 hRf7 ) k_1877 k_1878 k_114 k_1879 (by decide +kernel) ⟨Nat.le_of_ble_eq_true rfl, Nat.le_of_ble_eq_true rfl⟩ (rfl) hl.1 rfl (Nat.le_of_ble_eq_true rfl) dX11_buttons_26 (fun r8 u H locs hw hP hD hS => ?_)
            have hG9 := hw
            refine lv_icmp_ge (tgt := 80) hx hb dX11_buttons_29 (by decide) (fun c10 => ?_) (fun c10 => ?_)
            · skip
              have zc10 : r8.toInt ≤ l2_7.toInt := by rw [fa_le] at c10; exact c10
              have rg11 := fb_rng l2_7
              have rg12 := fb_rng r8
              obtain ⟨t13, et13⟩ : ∃ y : Int32, y = l1_1 + 1 := ⟨_, rfl⟩
              have zt13 : t13.toInt = l1_1.toInt + 1 := by rw [et13]; exact add_i rfl (by decide) (by omega) (by omega)
              refine lv_iinc (v := t13) (lv' := [(1, .int t13), (2, .int l2_7), (0, .ref y0)]) hx hb dX11_buttons_80 hl (k := 1) rfl (by rw [et13]; rfl) (by decide) rfl (fun ls hl => ?_)
              refine lv_goto (tgt := 10) hx hb dX11_buttons_83 (by decide) ?_
              have rg14 := fb_rng t13
              exact ih1 t13 v7 f7 w7 g7 hIv7 hCf7 hRf7 hq0_v7 hq1_v7 hq2_v7 hq3_v7 hq4_v7 hq5_v7 hq8_v7 hq9_v7 hq10_v7 hq13_v7 hq14_v7 hq15_v7 hq17_v7 hq18_v7 hq24_v7 hq25_v7 hq35_v7 hq36_v7 hq38_v7 hq39_v7 ⟨show (1 : Int) ≤ t13.toInt by omega, show t13.toInt ≤ (2147483647 : Int) by omega⟩ hM_v7 hA_f7 (by show (2147483647 - t13.toInt).toNat < n1; omega) _ _ _ hP hD hS (lv_sub hl [0, 2] rfl)
            · skip
              have zc10 : ¬ (r8.toInt ≤ l2_7.toInt) := by rw [fa_le] at c10; exact c10
              have rg15 := fb_rng l2_7
              have rg16 := fb_rng r8
              refine lv_aload_n hx hb dX11_buttons_32 rfl (lv_at hl 2 rfl) ?_
              refine lv_iload_n hx hb dX11_buttons_33 rfl (lv_at hl 1 rfl) ?_
              refine lv_iload_n hx hb dX11_buttons_34 rfl (lv_at hl 0 rfl) ?_
              refine cbVi (n := 2) (rest := []) hx hb hml hown hts hE hP hD hS hA (sY_X11_layColours_1 l dC dI cy y0 r l1_1 l2_7 v7 f7 w7 g7 hIv7 hCf7 hRf7 ⟨show (1 : Int) ≤ l1_1.toInt by omega, show l1_1.toInt ≤ (6 : Int) by omega⟩ ⟨show (0 : Int) ≤ l2_7.toInt by omega, show l2_7.toInt ≤ (2147483647 : Int) by omega⟩) k_1936 k_1938 k_90 k_114 k_1939 (by decide +kernel) ⟨Nat.le_of_ble_eq_true rfl, Nat.le_of_ble_eq_true rfl⟩ 0 11 rfl rfl (rfl) hl.1 rfl (Nat.le_of_ble_eq_true rfl) dX11_buttons_35 (fun r17 u H locs hw hP hD hS => ?_)
              obtain ⟨v18, f19, w20, g21⟩ := u
              obtain ⟨kV_v18, kF_f19, hIv18, hCf19, hRf19, hk0_v18, hk1_v18, hk2_v18, hk3_v18, hk4_v18, hk5_v18, hk8_v18, hk9_v18, hk10_v18, hk13_v18, hk14_v18, hk15_v18, hk17_v18, hk18_v18, hk24_v18, hk25_v18, hk35_v18, hk36_v18, hk38_v18, hk39_v18, hw⟩ := hw
              have hM_v18 : KV [37] v18 v := KV.tr kV_v18 hM_v7 rfl
              have hA_f19 : KF [26, 27] f19 f := KF.tr kF_f19 hA_f7 rfl
              have hP : va_P (dC, dI) vwCl (YW cy y0 r v18 f19 w20 g21) H := hP
              have hD : va_D A (YW cy y0 r v18 f19 w20 g21) := hD
              have hUv18 : (v18 35).toInt + (v18 36).toInt ≤ 40 := hIv18.2
              have hq0_v18 : v18 0 = (v 0) := hk0_v18.trans hq0_v7
              have hq1_v18 : v18 1 = (v 1) := hk1_v18.trans hq1_v7
              have hq2_v18 : v18 2 = (v 2) := hk2_v18.trans hq2_v7
              have hq3_v18 : v18 3 = (v 3) := hk3_v18.trans hq3_v7
              have hq4_v18 : v18 4 = (v 4) := hk4_v18.trans hq4_v7
              have hq5_v18 : v18 5 = (v 5) := hk5_v18.trans hq5_v7
              have hq8_v18 : v18 8 = (v 8) := hk8_v18.trans hq8_v7
              have hq9_v18 : v18 9 = (v 9) := hk9_v18.trans hq9_v7
              have zq9_v18 := congrArg Int32.toInt hq9_v18
              have hq10_v18 : v18 10 = (v 10) := hk10_v18.trans hq10_v7
              have hq13_v18 : v18 13 = (v 13) := hk13_v18.trans hq13_v7
              have hq14_v18 : v18 14 = (v 14) := hk14_v18.trans hq14_v7
              have hq15_v18 : v18 15 = (v 15) := hk15_v18.trans hq15_v7
              have hq17_v18 : v18 17 = (v 17) := hk17_v18.trans hq17_v7
              have hq18_v18 : v18 18 = (v 18) := hk18_v18.trans hq18_v7
              have hq24_v18 : v18 24 = (v 24) := hk24_v18.trans hq24_v7
              have hq25_v18 : v18 25 = (v 25) := hk25_v18.trans hq25_v7
              have hq35_v18 : v18 35 = (v 35) := hk35_v18.trans hq35_v7
              have hq36_v18 : v18 36 = (v 36) := hk36_v18.trans hq36_v7
              have hq38_v18 : v18 38 = (v 38) := hk38_v18.trans hq38_v7
              have hq39_v18 : v18 39 = (v 39) := hk39_v18.trans hq39_v7
              rcases hw with ⟨g22⟩ | ⟨g22⟩
              · skip
                subst g22
                refine lv_if_ne (tgt := 44) hx hb dX11_buttons_38 (by decide) (fun _ => ?_) (fun c0 => absurd c0 (by decide))
                refine lv_iconst (v := 0) hx hb dX11_buttons_44 (by decide) ?_
                refine lv_istore_n (lv' := [(3, .int 0), (2, .int l2_7), (1, .int l1_1), (0, .ref y0)]) hx hb dX11_buttons_45 rfl hl (by decide) rfl (fun ls hl => ?_)
                have lp23 : ∀ (n23 : Nat) (l3_23 : Int32) (v23 : Nat → Int32) (f23 : Nat → Nat → Int32) (w23 : Int64) (g23 : Nat → Int64), YI v23 → YC f23 → progOK (f23 4) (f23 5) (v23 9).toInt.toNat → v23 0 = (v 0) → v23 1 = (v 1) → v23 2 = (v 2) → v23 3 = (v 3) → v23 4 = (v 4) → v23 5 = (v 5) → v23 8 = (v 8) → v23 9 = (v 9) → v23 10 = (v 10) → v23 13 = (v 13) → v23 14 = (v 14) → v23 15 = (v 15) → v23 17 = (v 17) → v23 18 = (v 18) → v23 24 = (v 24) → v23 25 = (v 25) → v23 35 = (v 35) → v23 36 = (v 36) → v23 38 = (v 38) → v23 39 = (v 39) → ((0 : Int) ≤ l3_23.toInt ∧ l3_23.toInt ≤ 2147483647) → KV [37] v23 v → KF [26, 27] f23 f → (2147483647 - l3_23.toInt).toNat < n23 → ∀ (H : Heap) (locs : List Loc) (ls : Array Slot), va_P (dC, dI) vwCl (YW cy y0 r v23 f23 w23 g23) H → va_D A (YW cy y0 r v23 f23 w23 g23) → va_S A s.heap H locs → lv_has ls 4 [(3, .int l3_23), (2, .int l2_7), (1, .int l1_1), (0, .ref y0)] → W p l e { frames := 4, cells := 0, slots := 0, locals := 128 } s m ([.ref y0] : List Value).toArray below meth c H locs 0 0 Q (F0 m 46 ls []) := by
                  intro n23
                  induction n23 with
                  | zero => intro l3_23 v23 f23 w23 g23 hIv23 hCf23 hRf23 hq0_v23 hq1_v23 hq2_v23 hq3_v23 hq4_v23 hq5_v23 hq8_v23 hq9_v23 hq10_v23 hq13_v23 hq14_v23 hq15_v23 hq17_v23 hq18_v23 hq24_v23 hq25_v23 hq35_v23 hq36_v23 hq38_v23 hq39_v23 hr3_23 hM_v23 hA_f23 hm; exact absurd hm (Nat.not_lt_zero _)
                  | succ n23 ih23 =>
                    intro l3_23 v23 f23 w23 g23 hIv23 hCf23 hRf23 hq0_v23 hq1_v23 hq2_v23 hq3_v23 hq4_v23 hq5_v23 hq8_v23 hq9_v23 hq10_v23 hq13_v23 hq14_v23 hq15_v23 hq17_v23 hq18_v23 hq24_v23 hq25_v23 hq35_v23 hq36_v23 hq38_v23 hq39_v23 hr3_23 hM_v23 hA_f23 hm23 H locs ls hP hD hS hl
                    have hUv23 : (v23 35).toInt + (v23 36).toInt ≤ 40 := hIv23.2
                    have zq9_v23 := congrArg Int32.toInt hq9_v23
                    refine lv_iload_n hx hb dX11_buttons_46 rfl (lv_at hl 0 rfl) ?_
                    refine lv_aload_n hx hb dX11_buttons_47 rfl (lv_at hl 3 rfl) ?_
                    refine va_get (D := (dC, dI)) (ci := 11) (v := .int (v23 24)) (C := RX11) (T := TX11) (N := 79) hx hb hts inB_11 hown hE.1 hP 0 rfl rfl 48 (by decide) (hts _ k_1368) (fun _ h9 => h9) rfl dX11_buttons_48 ?_
                    refine tI (y := (v 24)) hq24_v23 ?_
                    have b24_v : 0 ≤ (v 24).toInt ∧ (v 24).toInt ≤ 6 := YIb.b hIv.1 24 (by decide)
                    refine lv_icmp_ge (tgt := 72) hx hb dX11_buttons_51 (by decide) (fun c24 => ?_) (fun c24 => ?_)
                    · skip
                      have zc24 : (v 24).toInt ≤ l3_23.toInt := by rw [fa_le] at c24; exact c24
                      have rg25 := fb_rng l3_23
                      refine lv_iload_n hx hb dX11_buttons_72 rfl (lv_at hl 2 rfl) ?_
                      exact ret l1_1 (v23, f23, w23, g23) _ _ _ _ _ _ rfl ⟨hM_v23, hA_f23, hIv23, hCf23, hRf23, hq0_v23, hq1_v23, hq2_v23, hq3_v23, hq4_v23, hq5_v23, hq8_v23, hq9_v23, hq10_v23, hq13_v23, hq14_v23, hq15_v23, hq17_v23, hq18_v23, hq24_v23, hq25_v23, hq35_v23, hq36_v23, hq38_v23, hq39_v23⟩ hP hD hS dX11_buttons_73 (Nat.le_refl _) (Nat.le_refl _)
                    · skip
                      have zc24 : ¬ ((v 24).toInt ≤ l3_23.toInt) := by rw [fa_le] at c24; exact c24
                      have rg26 := fb_rng l3_23
                      refine lv_aload_n hx hb dX11_buttons_54 rfl (lv_at hl 3 rfl) ?_
                      refine va_get (D := (dC, dI)) (ci := 11) (v := .ref (r 64)) (C := RX11) (T := TX11) (N := 79) hx hb hts inB_11 hown hE.1 hP 0 rfl rfl 64 (by decide) (hts _ k_1384) (fun _ h9 => h9) rfl dX11_buttons_55 ?_
                      refine lv_iload_n hx hb dX11_buttons_58 rfl (lv_at hl 0 rfl) ?_
                      refine lv_aload_n hx hb dX11_buttons_59 rfl (lv_at hl 3 rfl) ?_
                      refine va_get (D := (dC, dI)) (ci := 11) (v := .ref (r 65)) (C := RX11) (T := TX11) (N := 79) hx hb hts inB_11 hown hE.1 hP 0 rfl rfl 65 (by decide) (hts _ k_1385) (fun _ h9 => h9) rfl dX11_buttons_60 ?_
                      refine lv_iload_n hx hb dX11_buttons_63 rfl (lv_at hl 0 rfl) ?_
                      refine ldI hx hb hE hP 28 rfl (vp_in_iff.mpr ⟨by omega, by omega⟩) rfl rfl dX11_buttons_64 ?_
                      refine lv_topi (fun t27 et27 => ?_)
                      have zt27 : -1 ≤ t27.toInt ∧ t27.toInt ≤ 5 := by rw [et27]; exact hCf23.2.2.2.1 l3_23.toInt.toNat (show l3_23.toInt.toNat < 6 by omega)
                      refine stI hx hb hE hP hD hS 27 rfl (vp_in_iff.mpr ⟨by omega, by omega⟩) rfl dX11_buttons_65 (fun H locs hP hD hS => ?_)
                      obtain ⟨f28, ef28, hP, hD⟩ : ∃ fz9, fz9 = upd2 f23 26 (upd (f23 26) l3_23.toNatClampNeg t27) ∧ va_P (dC, dI) vwCl (YW cy y0 r v23 fz9 w23 g23) H ∧ va_D A (YW cy y0 r v23 fz9 w23 g23) := ⟨_, rfl, hP, hD⟩
                      have hCf28 : YC f28 := by rw [ef28]; exact hCf23
                      have hRf28 : progOK (f28 4) (f28 5) (v23 9).toInt.toNat := by rw [ef28]; exact hRf23
                      have hA_f28 : KF [26, 27] f28 f := by rw [ef28]; exact KF.up hA_f23 rfl
                      obtain ⟨t29, et29⟩ : ∃ y : Int32, y = l3_23 + 1 := ⟨_, rfl⟩
                      have zt29 : t29.toInt = l3_23.toInt + 1 := by rw [et29]; exact add_i rfl (by decide) (by omega) (by omega)
                      refine lv_iinc (v := t29) (lv' := [(3, .int t29), (2, .int l2_7), (1, .int l1_1), (0, .ref y0)]) hx hb dX11_buttons_66 hl (k := 0) rfl (by rw [et29]; rfl) (by decide) rfl (fun ls hl => ?_)
                      refine lv_goto (tgt := 46) hx hb dX11_buttons_69 (by decide) ?_
                      have rg30 := fb_rng t29
                      exact ih23 t29 v23 f28 w23 g23 hIv23 hCf28 hRf28 hq0_v23 hq1_v23 hq2_v23 hq3_v23 hq4_v23 hq5_v23 hq8_v23 hq9_v23 hq10_v23 hq13_v23 hq14_v23 hq15_v23 hq17_v23 hq18_v23 hq24_v23 hq25_v23 hq35_v23 hq36_v23 hq38_v23 hq39_v23 ⟨show (0 : Int) ≤ t29.toInt by omega, show t29.toInt ≤ (2147483647 : Int) by omega⟩ hM_v23 hA_f28 (by show (2147483647 - t29.toInt).toNat < n23; omega) _ _ _ hP hD hS (lv_sub hl [0, 1, 2, 3] rfl)
                exact lp23 _ 0 v18 f19 w20 g21 hIv18 hCf19 hRf19 hq0_v18 hq1_v18 hq2_v18 hq3_v18 hq4_v18 hq5_v18 hq8_v18 hq9_v18 hq10_v18 hq13_v18 hq14_v18 hq15_v18 hq17_v18 hq18_v18 hq24_v18 hq25_v18 hq35_v18 hq36_v18 hq38_v18 hq39_v18 ⟨by decide, by decide⟩ hM_v18 hA_f19 (Nat.lt_succ_self _) _ _ _ hP hD hS (lv_sub hl [0, 1, 2, 3] rfl)
              · skip
                subst g22
                refine lv_if_ne (tgt := 44) hx hb dX11_buttons_38 (by decide) (fun c0 => absurd (by decide) c0) (fun _ => ?_)
                refine lv_goto (tgt := 74) hx hb dX11_buttons_41 (by decide) ?_
                obtain ⟨t31, et31⟩ : ∃ y : Int32, y = l2_7 + 1 := ⟨_, rfl⟩
                have zt31 : t31.toInt = l2_7.toInt + 1 := by rw [et31]; exact add_i rfl (by decide) (by omega) (by omega)
                refine lv_iinc (v := t31) (lv' := [(2, .int t31), (1, .int l1_1), (0, .ref y0)]) hx hb dX11_buttons_74 hl (k := 0) rfl (by rw [et31]; rfl) (by decide) rfl (fun ls hl => ?_)
                refine lv_goto (tgt := 20) hx hb dX11_buttons_77 (by decide) ?_
                have rg32 := fb_rng t31
                exact ih7 t31 v18 f19 w20 g21 hIv18 hCf19 hRf19 hq0_v18 hq1_v18 hq2_v18 hq3_v18 hq4_v18 hq5_v18 hq8_v18 hq9_v18 hq10_v18 hq13_v18 hq14_v18 hq15_v18 hq17_v18 hq18_v18 hq24_v18 hq25_v18 hq35_v18 hq36_v18 hq38_v18 hq39_v18 ⟨show (0 : Int) ≤ t31.toInt by omega, show t31.toInt ≤ (2147483647 : Int) by omega⟩ hM_v18 hA_f19 (by show (2147483647 - t31.toInt).toNat < n7; omega) _ _ _ hP hD hS (lv_sub hl [0, 1, 2] rfl)
        exact lp7 _ 0 v1 f1 w1 g1 hIv1 hCf1 hRf1 hq0_v1 hq1_v1 hq2_v1 hq3_v1 hq4_v1 hq5_v1 hq8_v1 hq9_v1 hq10_v1 hq13_v1 hq14_v1 hq15_v1 hq17_v1 hq18_v1 hq24_v1 hq25_v1 hq35_v1 hq36_v1 hq38_v1 hq39_v1 ⟨by decide, by decide⟩ hM_v1 hA_f1 (Nat.lt_succ_self _) _ _ _ hP hD hS (lv_sub hl [0, 1, 2] rfl)
  exact lp1 _ 1 (upd v 37 (v 24)) f w g ⟨(YIb.upd (j := 37) (x := (v 24)) hIv.1 (show (0 : Int) ≤ (v 24).toInt by omega) (show (v 24).toInt ≤ (6 : Int) by omega)), hIv.2⟩ hCf hRf rfl rfl rfl rfl rfl rfl rfl rfl rfl rfl rfl rfl rfl rfl rfl rfl rfl rfl rfl rfl ⟨by decide, by decide⟩ (KV.up (j := 37) (x := (v 24)) hM_v rfl) hA_f (Nat.lt_succ_self _) _ _ _ hP hD hS (lv_sub hl [0, 1] rfl)
set_option maxHeartbeats 4000000 in
set_option maxRecDepth 100000 in
theorem sY_X11_freeCoats_1 (l : Launch) (dC : Nat → ClassId) (dI : Nat → Nat → Nat) (cy : Nat → ClassId) (y0 : Nat) (r : Nat → Nat)  (v : Nat → Int32) (f : Nat → Nat → Int32) (w : Int64) (g : Nat → Int64) (hIv : YI v) (hCf : YC f) (hRf : progOK (f 4) (f 5) (v 9).toInt.toNat)  : ctI l (dC, dI) cy yX11_freeCoats cX11_freeCoats 3 .int 2 83 0 0 Unit [.ref y0] (YW cy y0 r v f w g) (fun r u => True) (fun u => YW cy y0 r v f w g) := by
  refine ctI_of (by decide) (Nat.le_of_ble_eq_true rfl) (fun p e s m below meth c A ls Q hx hb hml hts hown hE hP hD hA hl ret => ?_)
  have hUv : (v 35).toInt + (v 36).toInt ≤ 40 := hIv.2
  have hown : s.vm.findClass RX11 = some m.cls := hown
  have hS : va_S A s.heap s.heap [] := va_S.rf
  have hl : lv_has ls 3 [(0, .ref y0)] := hl
  refine lv_iconst (v := 0) hx hb dX11_freeCoats_0 (by decide) ?_
  refine lv_istore_n (lv' := [(1, .int 0), (0, .ref y0)]) hx hb dX11_freeCoats_1 rfl hl (by decide) rfl (fun ls hl => ?_)
  refine lv_iconst (v := 0) hx hb dX11_freeCoats_2 (by decide) ?_
  refine lv_istore_n (lv' := [(2, .int 0), (1, .int 0), (0, .ref y0)]) hx hb dX11_freeCoats_3 rfl hl (by decide) rfl (fun ls hl => ?_)
  have lp1 : ∀ (n1 : Nat) (l1_1 : Int32) (l2_1 : Int32), ((0 : Int) ≤ l2_1.toInt ∧ l2_1.toInt ≤ 2147483647) → (2147483647 - l2_1.toInt).toNat < n1 → ∀ (H : Heap) (locs : List Loc) (ls : Array Slot), va_P (dC, dI) vwCl (YW cy y0 r v f w g) H → va_D A (YW cy y0 r v f w g) → va_S A s.heap H locs → lv_has ls 3 [(2, .int l2_1), (1, .int l1_1), (0, .ref y0)] → W p l e { frames := 2, cells := 0, slots := 0, locals := 83 } s m ([.ref y0] : List Value).toArray below meth c H locs 0 0 Q (F0 m 4 ls []) := by
    intro n1
    induction n1 with
    | zero => intro l1_1 l2_1 hr2_1 hm; exact absurd hm (Nat.not_lt_zero _)
    | succ n1 ih1 =>
      intro l1_1 l2_1 hr2_1 hm1 H locs ls hP hD hS hl
      refine lv_iload_n hx hb dX11_freeCoats_4 rfl (lv_at hl 0 rfl) ?_
      refine lv_aload_n hx hb dX11_freeCoats_5 rfl (lv_at hl 2 rfl) ?_
      refine va_get (D := (dC, dI)) (ci := 11) (v := .int (v 25)) (C := RX11) (T := TX11) (N := 79) hx hb hts inB_11 hown hE.1 hP 0 rfl rfl 49 (by decide) (hts _ k_1369) (fun _ h9 => h9) rfl dX11_freeCoats_6 ?_
      have b25_v : 0 ≤ (v 25).toInt ∧ (v 25).toInt ≤ 6 := YIb.b hIv.1 25 (by decide)
      refine lv_icmp_ge (tgt := 39) hx hb dX11_freeCoats_9 (by decide) (fun c2 => ?_) (fun c2 => ?_)
      · skip
        have zc2 : (v 25).toInt ≤ l2_1.toInt := by rw [fa_le] at c2; exact c2
        have rg3 := fb_rng l2_1
        have rg4 := fb_rng (v 25)
        refine lv_iload_n hx hb dX11_freeCoats_39 rfl (lv_at hl 1 rfl) ?_
        exact ret l1_1 () _ _ _ _ _ _ rfl trivial hP hD hS dX11_freeCoats_40 (Nat.le_refl _) (Nat.le_refl _)
      · skip
        have zc2 : ¬ ((v 25).toInt ≤ l2_1.toInt) := by rw [fa_le] at c2; exact c2
        have rg5 := fb_rng l2_1
        have rg6 := fb_rng (v 25)
        refine lv_iload_n hx hb dX11_freeCoats_12 rfl (lv_at hl 1 rfl) ?_
        refine lv_aload_n hx hb dX11_freeCoats_13 rfl (lv_at hl 2 rfl) ?_
        refine lv_iload_n hx hb dX11_freeCoats_14 rfl (lv_at hl 0 rfl) ?_
        refine cbVi (n := 1) (rest := [.int l1_1]) hx hb hml hown hts hE hP hD hS hA (sY_X11_wearer_1 0 l dC dI cy y0 r l2_1 v f w g hIv hCf hRf ) k_1775 k_1777 k_76 k_114 k_1778 (by decide +kernel) ⟨Nat.le_of_ble_eq_true rfl, Nat.le_of_ble_eq_true rfl⟩ 0 11 rfl rfl (rfl) hl.1 rfl (Nat.le_of_ble_eq_true rfl) dX11_freeCoats_15 (fun r7 u H locs hw hP hD hS => ?_)
        have hG8 := hw
        refine lv_if_ge (tgt := 25) hx hb dX11_freeCoats_18 (by decide) (fun c9 => ?_) (fun c9 => ?_)
        · skip
          have zc9 : 0 ≤ r7.toInt := by rw [fa_le, show (0 : Int32).toInt = 0 from by decide] at c9; exact c9
          refine lv_iconst (v := 0) hx hb dX11_freeCoats_25 (by decide) ?_
          have lt10 : (0 : Int32).toInt = 0 := by decide
          refine cbSi (n := 1) (rest := [.int l1_1]) hx hb hml hown hts hE hP hD hS hA (sY_X11_truth_1 0 l dC dI cy y0 r 0 v f w g hIv hCf hRf ) k_1761 k_1762 k_114 k_1763 (by decide +kernel) ⟨Nat.le_of_ble_eq_true rfl, Nat.le_of_ble_eq_true rfl⟩ (rfl) hl.1 rfl (Nat.le_of_ble_eq_true rfl) dX11_freeCoats_26 (fun r11 u H locs hw hP hD hS => ?_)
          obtain ⟨hG12, hw⟩ := hw
          refine lv_iload_n hx hb dX11_freeCoats_29 rfl (lv_at hl 0 rfl) ?_
          refine lv_ishl hx hb dX11_freeCoats_30 ?_
          refine lv_topi (fun t13 et13 => ?_)
          have zt13 : 0 ≤ t13.toInt ∧ t13.toInt ≤ 32 := by rw [et13]; exact shl01_rng (by omega) (by omega) (by omega) (by omega)
          refine lv_ior hx hb dX11_freeCoats_31 ?_
          refine lv_topi (fun t14 et14 => ?_)
          refine lv_istore_n (lv' := [(1, .int t14), (2, .int l2_1), (0, .ref y0)]) hx hb dX11_freeCoats_32 rfl hl (by decide) rfl (fun ls hl => ?_)
          obtain ⟨t15, et15⟩ : ∃ y : Int32, y = l2_1 + 1 := ⟨_, rfl⟩
          have zt15 : t15.toInt = l2_1.toInt + 1 := by rw [et15]; exact add_i rfl (by decide) (by omega) (by omega)
          refine lv_iinc (v := t15) (lv' := [(2, .int t15), (1, .int t14), (0, .ref y0)]) hx hb dX11_freeCoats_33 hl (k := 1) rfl (by rw [et15]; rfl) (by decide) rfl (fun ls hl => ?_)
          refine lv_goto (tgt := 4) hx hb dX11_freeCoats_36 (by decide) ?_
          have rg16 := fb_rng t15
          exact ih1 t14 t15 ⟨show (0 : Int) ≤ t15.toInt by omega, show t15.toInt ≤ (2147483647 : Int) by omega⟩ (by show (2147483647 - t15.toInt).toNat < n1; omega) _ _ _ hP hD hS (lv_sub hl [0, 1, 2] rfl)
        · skip
          have zc9 : ¬ (0 ≤ r7.toInt) := by rw [fa_le, show (0 : Int32).toInt = 0 from by decide] at c9; exact c9
          refine lv_iconst (v := 1) hx hb dX11_freeCoats_21 (by decide) ?_
          refine lv_goto (tgt := 26) hx hb dX11_freeCoats_22 (by decide) ?_
          have lt17 : (1 : Int32).toInt = 1 := by decide
          refine cbSi (n := 1) (rest := [.int l1_1]) hx hb hml hown hts hE hP hD hS hA (sY_X11_truth_1 0 l dC dI cy y0 r 1 v f w g hIv hCf hRf ) k_1761 k_1762 k_114 k_1763 (by decide +kernel) ⟨Nat.le_of_ble_eq_true rfl, Nat.le_of_ble_eq_true rfl⟩ (rfl) hl.1 rfl (Nat.le_of_ble_eq_true rfl) dX11_freeCoats_26 (fun r18 u H locs hw hP hD hS => ?_)
          obtain ⟨hG19, hw⟩ := hw
          refine lv_iload_n hx hb dX11_freeCoats_29 rfl (lv_at hl 0 rfl) ?_
          refine lv_ishl hx hb dX11_freeCoats_30 ?_
          refine lv_topi (fun t20 et20 => ?_)
          have zt20 : 0 ≤ t20.toInt ∧ t20.toInt ≤ 32 := by rw [et20]; exact shl01_rng (by omega) (by omega) (by omega) (by omega)
          refine lv_ior hx hb dX11_freeCoats_31 ?_
          refine lv_topi (fun t21 et21 => ?_)
          refine lv_istore_n (lv' := [(1, .int t21), (2, .int l2_1), (0, .ref y0)]) hx hb dX11_freeCoats_32 rfl hl (by decide) rfl (fun ls hl => ?_)
          obtain ⟨t22, et22⟩ : ∃ y : Int32, y = l2_1 + 1 := ⟨_, rfl⟩
          have zt22 : t22.toInt = l2_1.toInt + 1 := by rw [et22]; exact add_i rfl (by decide) (by omega) (by omega)
          refine lv_iinc (v := t22) (lv' := [(2, .int t22), (1, .int t21), (0, .ref y0)]) hx hb dX11_freeCoats_33 hl (k := 1) rfl (by rw [et22]; rfl) (by decide) rfl (fun ls hl => ?_)
          refine lv_goto (tgt := 4) hx hb dX11_freeCoats_36 (by decide) ?_
          have rg23 := fb_rng t22
          exact ih1 t21 t22 ⟨show (0 : Int) ≤ t22.toInt by omega, show t22.toInt ≤ (2147483647 : Int) by omega⟩ (by show (2147483647 - t22.toInt).toNat < n1; omega) _ _ _ hP hD hS (lv_sub hl [0, 1, 2] rfl)
  exact lp1 _ 0 0 ⟨by decide, by decide⟩ (Nat.lt_succ_self _) _ _ _ hP hD hS (lv_sub hl [0, 1, 2] rfl)
set_option maxHeartbeats 4000000 in
set_option maxRecDepth 100000 in
theorem sY_X11_reached_1 (l : Launch) (dC : Nat → ClassId) (dI : Nat → Nat → Nat) (cy : Nat → ClassId) (y0 : Nat) (r : Nat → Nat) (p1 : Int32) (p2 : Int32) (p3 : Int32) (v : Nat → Int32) (f : Nat → Nat → Int32) (w : Int64) (g : Nat → Int64) (hIv : YI v) (hCf : YC f) (hRf : progOK (f 4) (f 5) (v 9).toInt.toNat) (hp1 : (0 : Int) ≤ p1.toInt ∧ p1.toInt ≤ 5) (hp2 : (0 : Int) ≤ p2.toInt ∧ p2.toInt ≤ 5) : ctI l (dC, dI) cy yX11_reached cX11_reached 4 .int 1 60 0 0 Unit [.ref y0, .int p1, .int p2, .int p3] (YW cy y0 r v f w g) (fun r u => True) (fun u => YW cy y0 r v f w g) := by
  refine ctI_of (by decide) (Nat.le_of_ble_eq_true rfl) (fun p e s m below meth c A ls Q hx hb hml hts hown hE hP hD hA hl ret => ?_)
  have hUv : (v 35).toInt + (v 36).toInt ≤ 40 := hIv.2
  have hown : s.vm.findClass RX11 = some m.cls := hown
  have hS : va_S A s.heap s.heap [] := va_S.rf
  have hl : lv_has ls 4 [(0, .ref y0), (1, .int p1), (2, .int p2), (3, .int p3)] := hl
  refine lv_iload_n hx hb dX11_reached_0 rfl (lv_at hl 2 rfl) ?_
  refine lv_iload_n hx hb dX11_reached_1 rfl (lv_at hl 3 rfl) ?_
  refine lv_icmp_ne (tgt := 11) hx hb dX11_reached_2 (by decide) (fun c1 => ?_) (fun c1 => ?_)
  · skip
    have zc1 : ¬ (p2.toInt = p3.toInt) := by rw [fa_eq] at c1; exact c1
    have rg2 := fb_rng p2
    have rg3 := fb_rng p3
    refine lv_aload_n hx hb dX11_reached_11 rfl (lv_at hl 0 rfl) ?_
    refine va_get (D := (dC, dI)) (ci := 11) (v := .ref (r 66)) (C := RX11) (T := TX11) (N := 79) hx hb hts inB_11 hown hE.1 hP 0 rfl rfl 66 (by decide) (hts _ k_1386) (fun _ h9 => h9) rfl dX11_reached_12 ?_
    refine lv_bipush (v := 6) hx hb dX11_reached_15 (by decide) ?_
    refine lv_iload_n hx hb dX11_reached_17 rfl (lv_at hl 1 rfl) ?_
    refine lv_imul hx hb dX11_reached_18 ?_
    refine lv_topi (fun t4 et4 => ?_)
    have rg5 := fb_rng p1
    have zt4 : t4.toInt = 6 * p1.toInt := by rw [et4]; exact mul_i (by decide) rfl (by omega) (by omega)
    refine lv_iload_n hx hb dX11_reached_19 rfl (lv_at hl 2 rfl) ?_
    refine lv_iadd hx hb dX11_reached_20 ?_
    refine lv_topi (fun t6 et6 => ?_)
    have rg7 := fb_rng t4
    have zt6 : t6.toInt = t4.toInt + p2.toInt := by rw [et6]; exact add_i rfl rfl (by omega) (by omega)
    refine ldI hx hb hE hP 29 rfl (vp_in_iff.mpr ⟨by omega, by omega⟩) rfl rfl dX11_reached_21 ?_
    refine lv_topi (fun t8 et8 => ?_)
    exact ret t8 () _ _ _ _ _ _ rfl trivial hP hD hS dX11_reached_22 (Nat.le_refl _) (Nat.le_refl _)
  · skip
    have zc1 : p2.toInt = p3.toInt := by rw [fa_eq] at c1; exact c1
    have rg9 := fb_rng p2
    have rg10 := fb_rng p3
    refine lv_sipush (v := 1000) hx hb dX11_reached_5 (by decide) ?_
    refine lv_goto (tgt := 22) hx hb dX11_reached_8 (by decide) ?_
    exact ret 1000 () _ _ _ _ _ _ rfl trivial hP hD hS dX11_reached_22 (Nat.le_refl _) (Nat.le_refl _)
set_option maxHeartbeats 4000000 in
set_option maxRecDepth 100000 in
theorem sY_X11_isRest_1 (l : Launch) (dC : Nat → ClassId) (dI : Nat → Nat → Nat) (cy : Nat → ClassId) (y0 : Nat) (r : Nat → Nat) (p1 : Int32) (p2 : Int32) (p3 : Int32) (p4 : Int32) (p5 : Int32) (v : Nat → Int32) (f : Nat → Nat → Int32) (w : Int64) (g : Nat → Int64) (hIv : YI v) (hCf : YC f) (hRf : progOK (f 4) (f 5) (v 9).toInt.toNat) (hp1 : (0 : Int) ≤ p1.toInt ∧ p1.toInt ≤ 5) (hp2 : (0 : Int) ≤ p2.toInt ∧ p2.toInt ≤ 5) (hp3 : (0 : Int) ≤ p3.toInt ∧ p3.toInt ≤ 5) (hp4 : (0 : Int) ≤ p4.toInt ∧ p4.toInt ≤ 5) : ctI l (dC, dI) cy yX11_isRest cX11_isRest 8 .boolean 2 83 0 0 Unit [.ref y0, .int p1, .int p2, .int p3, .int p4, .int p5] (YW cy y0 r v f w g) (fun r u => ((r = 1) ∨ (r = 0))) (fun u => YW cy y0 r v f w g) := by
  refine ctI_of (by decide) (Nat.le_of_ble_eq_true rfl) (fun p e s m below meth c A ls Q hx hb hml hts hown hE hP hD hA hl ret => ?_)
  have hUv : (v 35).toInt + (v 36).toInt ≤ 40 := hIv.2
  have hown : s.vm.findClass RX11 = some m.cls := hown
  have hS : va_S A s.heap s.heap [] := va_S.rf
  have hl : lv_has ls 8 [(0, .ref y0), (1, .int p1), (2, .int p2), (3, .int p3), (4, .int p4), (5, .int p5)] := hl
  refine lv_iconst (v := 1) hx hb dX11_isRest_0 (by decide) ?_
  refine lv_istore (lv' := [(6, .int 1), (0, .ref y0), (1, .int p1), (2, .int p2), (3, .int p3), (4, .int p4), (5, .int p5)]) hx hb dX11_isRest_1 hl (by decide) rfl (fun ls hl => ?_)
  refine lv_iconst (v := 0) hx hb dX11_isRest_3 (by decide) ?_
  refine lv_istore (lv' := [(7, .int 0), (6, .int 1), (0, .ref y0), (1, .int p1), (2, .int p2), (3, .int p3), (4, .int p4), (5, .int p5)]) hx hb dX11_isRest_4 hl (by decide) rfl (fun ls hl => ?_)
  have lp1 : ∀ (n1 : Nat) (l6_1 : Int32) (l7_1 : Int32), ((0 : Int) ≤ l6_1.toInt ∧ l6_1.toInt ≤ 1) → ((0 : Int) ≤ l7_1.toInt ∧ l7_1.toInt ≤ 2147483647) → (2147483647 - l7_1.toInt).toNat < n1 → ∀ (H : Heap) (locs : List Loc) (ls : Array Slot), va_P (dC, dI) vwCl (YW cy y0 r v f w g) H → va_D A (YW cy y0 r v f w g) → va_S A s.heap H locs → lv_has ls 8 [(7, .int l7_1), (6, .int l6_1), (0, .ref y0), (1, .int p1), (2, .int p2), (3, .int p3), (4, .int p4), (5, .int p5)] → W p l e { frames := 2, cells := 0, slots := 0, locals := 83 } s m ([.ref y0, .int p1, .int p2, .int p3, .int p4, .int p5] : List Value).toArray below meth c H locs 0 0 Q (F0 m 6 ls []) := by
    intro n1
    induction n1 with
    | zero => intro l6_1 l7_1 hr6_1 hr7_1 hm; exact absurd hm (Nat.not_lt_zero _)
    | succ n1 ih1 =>
      intro l6_1 l7_1 hr6_1 hr7_1 hm1 H locs ls hP hD hS hl
      refine lv_iload hx hb dX11_isRest_6 (lv_at hl 0 rfl) ?_
      refine lv_aload_n hx hb dX11_isRest_8 rfl (lv_at hl 2 rfl) ?_
      refine va_get (D := (dC, dI)) (ci := 11) (v := .int (v 25)) (C := RX11) (T := TX11) (N := 79) hx hb hts inB_11 hown hE.1 hP 0 rfl rfl 49 (by decide) (hts _ k_1369) (fun _ h9 => h9) rfl dX11_isRest_9 ?_
      have b25_v : 0 ≤ (v 25).toInt ∧ (v 25).toInt ≤ 6 := YIb.b hIv.1 25 (by decide)
      refine lv_icmp_ge (tgt := 85) hx hb dX11_isRest_12 (by decide) (fun c2 => ?_) (fun c2 => ?_)
      · skip
        have zc2 : (v 25).toInt ≤ l7_1.toInt := by rw [fa_le] at c2; exact c2
        have rg3 := fb_rng l7_1
        have rg4 := fb_rng (v 25)
        refine lv_iload hx hb dX11_isRest_85 (lv_at hl 1 rfl) ?_
        rcases b01 (x := l6_1) (by omega) (by omega) with h5 | h5
        · skip
          refine tI (y := 1) h5 ?_
          exact ret 1 () _ _ _ _ _ _ rfl (Or.inl rfl) hP hD hS dX11_isRest_87 (Nat.le_refl _) (Nat.le_refl _)
        · skip
          refine tI (y := 0) h5 ?_
          exact ret 0 () _ _ _ _ _ _ rfl (Or.inr rfl) hP hD hS dX11_isRest_87 (Nat.le_refl _) (Nat.le_refl _)
      · skip
        have zc2 : ¬ ((v 25).toInt ≤ l7_1.toInt) := by rw [fa_le] at c2; exact c2
        have rg6 := fb_rng l7_1
        have rg7 := fb_rng (v 25)
        refine lv_iload hx hb dX11_isRest_15 (lv_at hl 7 rfl) ?_
        refine lv_iload hx hb dX11_isRest_17 (lv_at hl 0 rfl) ?_
        refine lv_ishr hx hb dX11_isRest_19 ?_
        refine lv_topi (fun t8 et8 => ?_)
        refine lv_iconst (v := 1) hx hb dX11_isRest_20 (by decide) ?_
        refine lv_iand hx hb dX11_isRest_21 ?_
        refine lv_topi (fun t9 et9 => ?_)
        have zt9 : 0 ≤ t9.toInt ∧ t9.toInt < 2 := by rw [et9]; exact and_rng _ (k := 1) (by decide) (by decide)
        refine lv_if_ne (tgt := 28) hx hb dX11_isRest_22 (by decide) (fun c10 => ?_) (fun c10 => ?_)
        · skip
          have zc10 : ¬ (t9.toInt = 0) := by rw [fa_eq, show (0 : Int32).toInt = 0 from by decide] at c10; exact c10
          refine lv_iload hx hb dX11_isRest_28 (lv_at hl 1 rfl) ?_
          refine lv_if_eq (tgt := 76) hx hb dX11_isRest_30 (by decide) (fun c11 => ?_) (fun c11 => ?_)
          · skip
            have zc11 : l6_1.toInt = 0 := by rw [fa_eq, show (0 : Int32).toInt = 0 from by decide] at c11; exact c11
            refine lv_iconst (v := 0) hx hb dX11_isRest_76 (by decide) ?_
            refine lv_istore (lv' := [(6, .int 0), (7, .int l7_1), (0, .ref y0), (1, .int p1), (2, .int p2), (3, .int p3), (4, .int p4), (5, .int p5)]) hx hb dX11_isRest_77 hl (by decide) rfl (fun ls hl => ?_)
            obtain ⟨t12, et12⟩ : ∃ y : Int32, y = l7_1 + 1 := ⟨_, rfl⟩
            have zt12 : t12.toInt = l7_1.toInt + 1 := by rw [et12]; exact add_i rfl (by decide) (by omega) (by omega)
            refine lv_iinc (v := t12) (lv' := [(7, .int t12), (6, .int 0), (0, .ref y0), (1, .int p1), (2, .int p2), (3, .int p3), (4, .int p4), (5, .int p5)]) hx hb dX11_isRest_79 hl (k := 1) rfl (by rw [et12]; rfl) (by decide) rfl (fun ls hl => ?_)
            refine lv_goto (tgt := 6) hx hb dX11_isRest_82 (by decide) ?_
            have rg13 := fb_rng t12
            exact ih1 0 t12 ⟨by decide, by decide⟩ ⟨show (0 : Int) ≤ t12.toInt by omega, show t12.toInt ≤ (2147483647 : Int) by omega⟩ (by show (2147483647 - t12.toInt).toNat < n1; omega) _ _ _ hP hD hS (lv_sub hl [0, 1, 2, 3, 4, 5, 6, 7] rfl)
          · skip
            have zc11 : ¬ (l6_1.toInt = 0) := by rw [fa_eq, show (0 : Int32).toInt = 0 from by decide] at c11; exact c11
            refine lv_aload_n hx hb dX11_isRest_33 rfl (lv_at hl 2 rfl) ?_
            refine lv_iload_n hx hb dX11_isRest_34 rfl (lv_at hl 3 rfl) ?_
            refine lv_iload hx hb dX11_isRest_35 (lv_at hl 0 rfl) ?_
            refine lv_iload hx hb dX11_isRest_37 (lv_at hl 6 rfl) ?_
            refine cbVi (n := 3) (rest := []) hx hb hml hown hts hE hP hD hS hA (sY_X11_reached_1 l dC dI cy y0 r p1 l7_1 p4 v f w g hIv hCf hRf ⟨show (0 : Int) ≤ p1.toInt by omega, show p1.toInt ≤ (5 : Int) by omega⟩ ⟨show (0 : Int) ≤ l7_1.toInt by omega, show l7_1.toInt ≤ (5 : Int) by omega⟩) k_1956 k_1958 k_94 k_114 k_1959 (by decide +kernel) ⟨Nat.le_of_ble_eq_true rfl, Nat.le_of_ble_eq_true rfl⟩ 0 11 rfl rfl (rfl) hl.1 rfl (Nat.le_of_ble_eq_true rfl) dX11_isRest_39 (fun r14 u H locs hw hP hD hS => ?_)
            refine lv_aload_n hx hb dX11_isRest_42 rfl (lv_at hl 2 rfl) ?_
            refine lv_iload_n hx hb dX11_isRest_43 rfl (lv_at hl 3 rfl) ?_
            refine lv_iload_n hx hb dX11_isRest_44 rfl (lv_at hl 5 rfl) ?_
            refine lv_iload hx hb dX11_isRest_45 (lv_at hl 6 rfl) ?_
            refine cbVi (n := 3) (rest := [.int r14]) hx hb hml hown hts hE hP hD hS hA (sY_X11_reached_1 l dC dI cy y0 r p1 p3 p4 v f w g hIv hCf hRf ⟨show (0 : Int) ≤ p1.toInt by omega, show p1.toInt ≤ (5 : Int) by omega⟩ ⟨show (0 : Int) ≤ p3.toInt by omega, show p3.toInt ≤ (5 : Int) by omega⟩) k_1956 k_1958 k_94 k_114 k_1959 (by decide +kernel) ⟨Nat.le_of_ble_eq_true rfl, Nat.le_of_ble_eq_true rfl⟩ 0 11 rfl rfl (rfl) hl.1 rfl (Nat.le_of_ble_eq_true rfl) dX11_isRest_47 (fun r15 u H locs hw hP hD hS => ?_)
            refine lv_icmp_lt (tgt := 76) hx hb dX11_isRest_50 (by decide) (fun c16 => ?_) (fun c16 => ?_)
            · skip
              have zc16 : r14.toInt < r15.toInt := by rw [fa_lt] at c16; exact c16
              have rg17 := fb_rng r14
              have rg18 := fb_rng r15
              refine lv_iconst (v := 0) hx hb dX11_isRest_76 (by decide) ?_
              refine lv_istore (lv' := [(6, .int 0), (7, .int l7_1), (0, .ref y0), (1, .int p1), (2, .int p2), (3, .int p3), (4, .int p4), (5, .int p5)]) hx hb dX11_isRest_77 hl (by decide) rfl (fun ls hl => ?_)
              obtain ⟨t19, et19⟩ : ∃ y : Int32, y = l7_1 + 1 := ⟨_, rfl⟩
              have zt19 : t19.toInt = l7_1.toInt + 1 := by rw [et19]; exact add_i rfl (by decide) (by omega) (by omega)
              refine lv_iinc (v := t19) (lv' := [(7, .int t19), (6, .int 0), (0, .ref y0), (1, .int p1), (2, .int p2), (3, .int p3), (4, .int p4), (5, .int p5)]) hx hb dX11_isRest_79 hl (k := 1) rfl (by rw [et19]; rfl) (by decide) rfl (fun ls hl => ?_)
              refine lv_goto (tgt := 6) hx hb dX11_isRest_82 (by decide) ?_
              have rg20 := fb_rng t19
              exact ih1 0 t19 ⟨by decide, by decide⟩ ⟨show (0 : Int) ≤ t19.toInt by omega, show t19.toInt ≤ (2147483647 : Int) by omega⟩ (by show (2147483647 - t19.toInt).toNat < n1; omega) _ _ _ hP hD hS (lv_sub hl [0, 1, 2, 3, 4, 5, 6, 7] rfl)
            · skip
              have zc16 : ¬ (r14.toInt < r15.toInt) := by rw [fa_lt] at c16; exact c16
              have rg21 := fb_rng r14
              have rg22 := fb_rng r15
              refine lv_aload_n hx hb dX11_isRest_53 rfl (lv_at hl 2 rfl) ?_
              refine lv_iload_n hx hb dX11_isRest_54 rfl (lv_at hl 4 rfl) ?_
              refine lv_iload hx hb dX11_isRest_55 (lv_at hl 0 rfl) ?_
              refine lv_iload_n hx hb dX11_isRest_57 rfl (lv_at hl 5 rfl) ?_
              refine cbVi (n := 3) (rest := []) hx hb hml hown hts hE hP hD hS hA (sY_X11_reached_1 l dC dI cy y0 r p2 l7_1 p3 v f w g hIv hCf hRf ⟨show (0 : Int) ≤ p2.toInt by omega, show p2.toInt ≤ (5 : Int) by omega⟩ ⟨show (0 : Int) ≤ l7_1.toInt by omega, show l7_1.toInt ≤ (5 : Int) by omega⟩) k_1956 k_1958 k_94 k_114 k_1959 (by decide +kernel) ⟨Nat.le_of_ble_eq_true rfl, Nat.le_of_ble_eq_true rfl⟩ 0 11 rfl rfl (rfl) hl.1 rfl (Nat.le_of_ble_eq_true rfl) dX11_isRest_58 (fun r23 u H locs hw hP hD hS => ?_)
              refine lv_aload_n hx hb dX11_isRest_61 rfl (lv_at hl 2 rfl) ?_
              refine lv_iload_n hx hb dX11_isRest_62 rfl (lv_at hl 4 rfl) ?_
              refine lv_iload hx hb dX11_isRest_63 (lv_at hl 6 rfl) ?_
              refine lv_iload_n hx hb dX11_isRest_65 rfl (lv_at hl 5 rfl) ?_
              refine cbVi (n := 3) (rest := [.int r23]) hx hb hml hown hts hE hP hD hS hA (sY_X11_reached_1 l dC dI cy y0 r p2 p4 p3 v f w g hIv hCf hRf ⟨show (0 : Int) ≤ p2.toInt by omega, show p2.toInt ≤ (5 : Int) by omega⟩ ⟨show (0 : Int) ≤ p4.toInt by omega, show p4.toInt ≤ (5 : Int) by omega⟩) k_1956 k_1958 k_94 k_114 k_1959 (by decide +kernel) ⟨Nat.le_of_ble_eq_true rfl, Nat.le_of_ble_eq_true rfl⟩ 0 11 rfl rfl (rfl) hl.1 rfl (Nat.le_of_ble_eq_true rfl) dX11_isRest_66 (fun r24 u H locs hw hP hD hS => ?_)
              refine lv_icmp_lt (tgt := 76) hx hb dX11_isRest_69 (by decide) (fun c25 => ?_) (fun c25 => ?_)
              · skip
                have zc25 : r23.toInt < r24.toInt := by rw [fa_lt] at c25; exact c25
                have rg26 := fb_rng r23
                have rg27 := fb_rng r24
                refine lv_iconst (v := 0) hx hb dX11_isRest_76 (by decide) ?_
                refine lv_istore (lv' := [(6, .int 0), (7, .int l7_1), (0, .ref y0), (1, .int p1), (2, .int p2), (3, .int p3), (4, .int p4), (5, .int p5)]) hx hb dX11_isRest_77 hl (by decide) rfl (fun ls hl => ?_)
                obtain ⟨t28, et28⟩ : ∃ y : Int32, y = l7_1 + 1 := ⟨_, rfl⟩
                have zt28 : t28.toInt = l7_1.toInt + 1 := by rw [et28]; exact add_i rfl (by decide) (by omega) (by omega)
                refine lv_iinc (v := t28) (lv' := [(7, .int t28), (6, .int 0), (0, .ref y0), (1, .int p1), (2, .int p2), (3, .int p3), (4, .int p4), (5, .int p5)]) hx hb dX11_isRest_79 hl (k := 1) rfl (by rw [et28]; rfl) (by decide) rfl (fun ls hl => ?_)
                refine lv_goto (tgt := 6) hx hb dX11_isRest_82 (by decide) ?_
                have rg29 := fb_rng t28
                exact ih1 0 t28 ⟨by decide, by decide⟩ ⟨show (0 : Int) ≤ t28.toInt by omega, show t28.toInt ≤ (2147483647 : Int) by omega⟩ (by show (2147483647 - t28.toInt).toNat < n1; omega) _ _ _ hP hD hS (lv_sub hl [0, 1, 2, 3, 4, 5, 6, 7] rfl)
              · skip
                have zc25 : ¬ (r23.toInt < r24.toInt) := by rw [fa_lt] at c25; exact c25
                have rg30 := fb_rng r23
                have rg31 := fb_rng r24
                refine lv_iconst (v := 1) hx hb dX11_isRest_72 (by decide) ?_
                refine lv_goto (tgt := 77) hx hb dX11_isRest_73 (by decide) ?_
                refine lv_istore (lv' := [(6, .int 1), (7, .int l7_1), (0, .ref y0), (1, .int p1), (2, .int p2), (3, .int p3), (4, .int p4), (5, .int p5)]) hx hb dX11_isRest_77 hl (by decide) rfl (fun ls hl => ?_)
                obtain ⟨t32, et32⟩ : ∃ y : Int32, y = l7_1 + 1 := ⟨_, rfl⟩
                have zt32 : t32.toInt = l7_1.toInt + 1 := by rw [et32]; exact add_i rfl (by decide) (by omega) (by omega)
                refine lv_iinc (v := t32) (lv' := [(7, .int t32), (6, .int 1), (0, .ref y0), (1, .int p1), (2, .int p2), (3, .int p3), (4, .int p4), (5, .int p5)]) hx hb dX11_isRest_79 hl (k := 1) rfl (by rw [et32]; rfl) (by decide) rfl (fun ls hl => ?_)
                refine lv_goto (tgt := 6) hx hb dX11_isRest_82 (by decide) ?_
                have rg33 := fb_rng t32
                exact ih1 1 t32 ⟨by decide, by decide⟩ ⟨show (0 : Int) ≤ t32.toInt by omega, show t32.toInt ≤ (2147483647 : Int) by omega⟩ (by show (2147483647 - t32.toInt).toNat < n1; omega) _ _ _ hP hD hS (lv_sub hl [0, 1, 2, 3, 4, 5, 6, 7] rfl)
        · skip
          have zc10 : t9.toInt = 0 := by rw [fa_eq, show (0 : Int32).toInt = 0 from by decide] at c10; exact c10
          refine lv_goto (tgt := 79) hx hb dX11_isRest_25 (by decide) ?_
          obtain ⟨t34, et34⟩ : ∃ y : Int32, y = l7_1 + 1 := ⟨_, rfl⟩
          have zt34 : t34.toInt = l7_1.toInt + 1 := by rw [et34]; exact add_i rfl (by decide) (by omega) (by omega)
          refine lv_iinc (v := t34) (lv' := [(7, .int t34), (6, .int l6_1), (0, .ref y0), (1, .int p1), (2, .int p2), (3, .int p3), (4, .int p4), (5, .int p5)]) hx hb dX11_isRest_79 hl (k := 0) rfl (by rw [et34]; rfl) (by decide) rfl (fun ls hl => ?_)
          refine lv_goto (tgt := 6) hx hb dX11_isRest_82 (by decide) ?_
          have rg35 := fb_rng l6_1
          have rg36 := fb_rng t34
          exact ih1 l6_1 t34 ⟨show (0 : Int) ≤ l6_1.toInt by omega, show l6_1.toInt ≤ (1 : Int) by omega⟩ ⟨show (0 : Int) ≤ t34.toInt by omega, show t34.toInt ≤ (2147483647 : Int) by omega⟩ (by show (2147483647 - t34.toInt).toNat < n1; omega) _ _ _ hP hD hS (lv_sub hl [0, 1, 2, 3, 4, 5, 6, 7] rfl)
  exact lp1 _ 1 0 ⟨by decide, by decide⟩ ⟨by decide, by decide⟩ (Nat.lt_succ_self _) _ _ _ hP hD hS (lv_sub hl [0, 1, 2, 3, 4, 5, 6, 7] rfl)
set_option maxHeartbeats 4000000 in
set_option maxRecDepth 100000 in
theorem sY_X11_reach_1 (l : Launch) (dC : Nat → ClassId) (dI : Nat → Nat → Nat) (cy : Nat → ClassId) (y0 : Nat) (r : Nat → Nat) (p1 : Int32) (p2 : Int32) (v : Nat → Int32) (f : Nat → Nat → Int32) (w : Int64) (g : Nat → Int64) (hIv : YI v) (hCf : YC f) (hRf : progOK (f 4) (f 5) (v 9).toInt.toNat)  : ctI l (dC, dI) cy yX11_reach cX11_reach 7 .int 5 148 0 0 ((Nat → Int32) × (Nat → Nat → Int32) × (Int64) × (Nat → Int64)) [.ref y0, .int p1, .int p2] (YW cy y0 r v f w g) (fun r u => KV [37] u.1 v ∧ KF [7, 8, 24, 26, 28] u.2.1 f ∧ YI u.1 ∧ YC u.2.1 ∧ progOK (u.2.1 4) (u.2.1 5) (u.1 9).toInt.toNat ∧ u.1 0 = v 0 ∧ u.1 1 = v 1 ∧ u.1 2 = v 2 ∧ u.1 3 = v 3 ∧ u.1 4 = v 4 ∧ u.1 5 = v 5 ∧ u.1 8 = v 8 ∧ u.1 9 = v 9 ∧ u.1 10 = v 10 ∧ u.1 13 = v 13 ∧ u.1 14 = v 14 ∧ u.1 15 = v 15 ∧ u.1 17 = v 17 ∧ u.1 18 = v 18 ∧ u.1 24 = v 24 ∧ u.1 25 = v 25 ∧ u.1 35 = v 35 ∧ u.1 36 = v 36 ∧ u.1 38 = v 38 ∧ u.1 39 = v 39) (fun u => YW cy y0 r u.1 u.2.1 u.2.2.1 u.2.2.2) := by
  refine ctI_of (by decide) (Nat.le_of_ble_eq_true rfl) (fun p e s m below meth c A ls Q hx hb hml hts hown hE hP hD hA hl ret => ?_)
  have hUv : (v 35).toInt + (v 36).toInt ≤ 40 := hIv.2
  have hM_v : KV [37] v v := fun _ _ => rfl
  have hA_f : KF [7, 8, 24, 26, 28] f f := fun _ _ => rfl
  have hown : s.vm.findClass RX11 = some m.cls := hown
  have hS : va_S A s.heap s.heap [] := va_S.rf
  have hl : lv_has ls 7 [(0, .ref y0), (1, .int p1), (2, .int p2)] := hl
  refine lv_aload_n hx hb dX11_reach_0 rfl (lv_at hl 0 rfl) ?_
  refine lv_iconst (v := 0) hx hb dX11_reach_1 (by decide) ?_
  refine va_put (D := (dC, dI)) (ci := 11) (v := .int 0) (ty := tyX11 67) (C := RX11) (T := TX11) (N := 79) hx hb hts inB_11 tyX11 tyX11_ok nmX11 hown hE.1 hP hD hS 0 rfl rfl 67 (by decide) (hts _ k_1387) (fun _ h9 => h9) rfl (tyX11_ok 67 (by decide)) rfl rfl (Nat.le_of_ble_eq_true rfl) dX11_reach_2 (fun H locs hP hD hS => ?_)
  have hP : va_P (dC, dI) vwCl (YW cy y0 r (upd v 37 0) f w g) H := hP
  have hD : va_D A (YW cy y0 r (upd v 37 0) f w g) := hD
  refine lv_aload_n hx hb dX11_reach_5 rfl (lv_at hl 0 rfl) ?_
  refine cbVv (n := 0) (rest := []) hx hb hml hown hts hE hP hD hS hA (sY_X11_layIlls_1 l dC dI cy y0 r  (upd v 37 0) f w g ⟨(YIb.upd (j := 37) (x := 0) hIv.1 (by decide) (by decide)), hIv.2⟩ hCf hRf ) k_1873 k_1875 k_84 k_114 k_1876 (by decide +kernel) ⟨Nat.le_of_ble_eq_true rfl, Nat.le_of_ble_eq_true rfl⟩ 0 11 rfl rfl (rfl) hl.1 rfl (Nat.le_of_ble_eq_true rfl) dX11_reach_6 (fun u H locs hw hP hD hS => ?_)
  obtain ⟨v1, f2, w3, g4⟩ := u
  obtain ⟨kV_v1, kF_f2, hIv1, hCf2, hRf2, hk0_v1, hk1_v1, hk2_v1, hk3_v1, hk4_v1, hk5_v1, hk8_v1, hk9_v1, hk10_v1, hk13_v1, hk14_v1, hk15_v1, hk17_v1, hk18_v1, hk24_v1, hk25_v1, hk35_v1, hk36_v1, hk38_v1, hk39_v1⟩ := hw
  have hM_v1 : KV [37] v1 v := KV.tr kV_v1 (KV.up (j := 37) (x := 0) hM_v rfl) rfl
  have hA_f2 : KF [7, 8, 24, 26, 28] f2 f := KF.tr kF_f2 hA_f rfl
  have hP : va_P (dC, dI) vwCl (YW cy y0 r v1 f2 w3 g4) H := hP
  have hD : va_D A (YW cy y0 r v1 f2 w3 g4) := hD
  have hUv1 : (v1 35).toInt + (v1 36).toInt ≤ 40 := hIv1.2
  have hq0_v1 : v1 0 = (v 0) := hk0_v1
  have hq1_v1 : v1 1 = (v 1) := hk1_v1
  have hq2_v1 : v1 2 = (v 2) := hk2_v1
  have hq3_v1 : v1 3 = (v 3) := hk3_v1
  have hq4_v1 : v1 4 = (v 4) := hk4_v1
  have hq5_v1 : v1 5 = (v 5) := hk5_v1
  have hq8_v1 : v1 8 = (v 8) := hk8_v1
  have hq9_v1 : v1 9 = (v 9) := hk9_v1
  have zq9_v1 := congrArg Int32.toInt hq9_v1
  have hq10_v1 : v1 10 = (v 10) := hk10_v1
  have hq13_v1 : v1 13 = (v 13) := hk13_v1
  have hq14_v1 : v1 14 = (v 14) := hk14_v1
  have hq15_v1 : v1 15 = (v 15) := hk15_v1
  have hq17_v1 : v1 17 = (v 17) := hk17_v1
  have hq18_v1 : v1 18 = (v 18) := hk18_v1
  have hq24_v1 : v1 24 = (v 24) := hk24_v1
  have hq25_v1 : v1 25 = (v 25) := hk25_v1
  have hq35_v1 : v1 35 = (v 35) := hk35_v1
  have hq36_v1 : v1 36 = (v 36) := hk36_v1
  have hq38_v1 : v1 38 = (v 38) := hk38_v1
  have hq39_v1 : v1 39 = (v 39) := hk39_v1
  refine lv_aload_n hx hb dX11_reach_9 rfl (lv_at hl 0 rfl) ?_
  refine cbVi (n := 0) (rest := []) hx hb hml hown hts hE hP hD hS hA (sY_X11_freeCoats_1 l dC dI cy y0 r  v1 f2 w3 g4 hIv1 hCf2 hRf2 ) k_1948 k_1950 k_92 k_114 k_1951 (by decide +kernel) ⟨Nat.le_of_ble_eq_true rfl, Nat.le_of_ble_eq_true rfl⟩ 0 11 rfl rfl (rfl) hl.1 rfl (Nat.le_of_ble_eq_true rfl) dX11_reach_10 (fun r5 u H locs hw hP hD hS => ?_)
  refine lv_istore_n (lv' := [(3, .int r5), (0, .ref y0), (1, .int p1), (2, .int p2)]) hx hb dX11_reach_13 rfl hl (by decide) rfl (fun ls hl => ?_)
  refine lv_aload_n hx hb dX11_reach_14 rfl (lv_at hl 1 rfl) ?_
  refine lv_iload_n hx hb dX11_reach_15 rfl (lv_at hl 2 rfl) ?_
  refine cbVi (n := 1) (rest := []) hx hb hml hown hts hE hP hD hS hA (sY_X11_isMan_1 0 l dC dI cy y0 r p1 v1 f2 w3 g4 hIv1 hCf2 hRf2 ) k_1732 k_1734 k_70 k_114 k_1735 (by decide +kernel) ⟨Nat.le_of_ble_eq_true rfl, Nat.le_of_ble_eq_true rfl⟩ 0 11 rfl rfl (rfl) hl.1 rfl (Nat.le_of_ble_eq_true rfl) dX11_reach_16 (fun r6 u H locs hw hP hD hS => ?_)
  obtain ⟨hG7, hw⟩ := hw
  rcases hw with ⟨g8, g8_0, g8_1, g8_2⟩ | ⟨g8⟩
  · skip
    subst g8
    refine lv_if_eq (tgt := 39) hx hb dX11_reach_19 (by decide) (fun c0 => absurd c0 (by decide)) (fun _ => ?_)
    refine lv_aload_n hx hb dX11_reach_22 rfl (lv_at hl 1 rfl) ?_
    refine lv_iload_n hx hb dX11_reach_23 rfl (lv_at hl 3 rfl) ?_
    refine cbVi (n := 1) (rest := []) hx hb hml hown hts hE hP hD hS hA (sY_X11_isMan_1 0 l dC dI cy y0 r p2 v1 f2 w3 g4 hIv1 hCf2 hRf2 ) k_1732 k_1734 k_70 k_114 k_1735 (by decide +kernel) ⟨Nat.le_of_ble_eq_true rfl, Nat.le_of_ble_eq_true rfl⟩ 0 11 rfl rfl (rfl) hl.1 rfl (Nat.le_of_ble_eq_true rfl) dX11_reach_24 (fun r9 u H locs hw hP hD hS => ?_)
    obtain ⟨hG10, hw⟩ := hw
    rcases hw with ⟨g11, g11_0, g11_1, g11_2⟩ | ⟨g11⟩
    · skip
      subst g11
      refine lv_if_eq (tgt := 39) hx hb dX11_reach_27 (by decide) (fun c0 => absurd c0 (by decide)) (fun _ => ?_)
      refine lv_iload_n hx hb dX11_reach_30 rfl (lv_at hl 2 rfl) ?_
      refine lv_iload_n hx hb dX11_reach_31 rfl (lv_at hl 3 rfl) ?_
      refine lv_icmp_eq (tgt := 39) hx hb dX11_reach_32 (by decide) (fun c12 => ?_) (fun c12 => ?_)
      · skip
        have zc12 : p1.toInt = p2.toInt := by rw [fa_eq] at c12; exact c12
        have rg13 := fb_rng p1
        have rg14 := fb_rng p2
        refine lv_iconst (v := (-1)) hx hb dX11_reach_39 (by decide) ?_
        exact ret (-1) (v1, f2, w3, g4) _ _ _ _ _ _ rfl ⟨hM_v1, hA_f2, hIv1, hCf2, hRf2, hk0_v1, hk1_v1, hk2_v1, hk3_v1, hk4_v1, hk5_v1, hk8_v1, hk9_v1, hk10_v1, hk13_v1, hk14_v1, hk15_v1, hk17_v1, hk18_v1, hk24_v1, hk25_v1, hk35_v1, hk36_v1, hk38_v1, hk39_v1⟩ hP hD hS dX11_reach_40 (Nat.le_refl _) (Nat.le_refl _)
      · skip
        have zc12 : ¬ (p1.toInt = p2.toInt) := by rw [fa_eq] at c12; exact c12
        have rg15 := fb_rng p1
        have rg16 := fb_rng p2
        refine lv_iload_n hx hb dX11_reach_35 rfl (lv_at hl 0 rfl) ?_
        refine lv_if_ne (tgt := 41) hx hb dX11_reach_36 (by decide) (fun c17 => ?_) (fun c17 => ?_)
        · skip
          have zc17 : ¬ (r5.toInt = 0) := by rw [fa_eq, show (0 : Int32).toInt = 0 from by decide] at c17; exact c17
          refine lv_iconst (v := 0) hx hb dX11_reach_41 (by decide) ?_
          refine lv_istore (lv' := [(4, .int 0), (3, .int r5), (0, .ref y0), (1, .int p1), (2, .int p2)]) hx hb dX11_reach_42 hl (by decide) rfl (fun ls hl => ?_)
          refine lv_iconst (v := 0) hx hb dX11_reach_44 (by decide) ?_
          refine lv_istore (lv' := [(5, .int 0), (4, .int 0), (3, .int r5), (0, .ref y0), (1, .int p1), (2, .int p2)]) hx hb dX11_reach_45 hl (by decide) rfl (fun ls hl => ?_)
          have lp18 : ∀ (n18 : Nat) (l4_18 : Int32) (l5_18 : Int32) (v18 : Nat → Int32) (f18 : Nat → Nat → Int32) (w18 : Int64) (g18 : Nat → Int64), YI v18 → YC f18 → progOK (f18 4) (f18 5) (v18 9).toInt.toNat → v18 0 = (v 0) → v18 1 = (v 1) → v18 2 = (v 2) → v18 3 = (v 3) → v18 4 = (v 4) → v18 5 = (v 5) → v18 8 = (v 8) → v18 9 = (v 9) → v18 10 = (v 10) → v18 13 = (v 13) → v18 14 = (v 14) → v18 15 = (v 15) → v18 17 = (v 17) → v18 18 = (v 18) → v18 24 = (v 24) → v18 25 = (v 25) → v18 35 = (v 35) → v18 36 = (v 36) → v18 38 = (v 38) → v18 39 = (v 39) → ((0 : Int) ≤ l5_18.toInt ∧ l5_18.toInt ≤ 2147483647) → KV [37] v18 v → KF [7, 8, 24, 26, 28] f18 f → (2147483647 - l5_18.toInt).toNat < n18 → ∀ (H : Heap) (locs : List Loc) (ls : Array Slot), va_P (dC, dI) vwCl (YW cy y0 r v18 f18 w18 g18) H → va_D A (YW cy y0 r v18 f18 w18 g18) → va_S A s.heap H locs → lv_has ls 7 [(5, .int l5_18), (4, .int l4_18), (3, .int r5), (0, .ref y0), (1, .int p1), (2, .int p2)] → W p l e { frames := 5, cells := 0, slots := 0, locals := 148 } s m ([.ref y0, .int p1, .int p2] : List Value).toArray below meth c H locs 0 0 Q (F0 m 47 ls []) := by
            intro n18
            induction n18 with
            | zero => intro l4_18 l5_18 v18 f18 w18 g18 hIv18 hCf18 hRf18 hq0_v18 hq1_v18 hq2_v18 hq3_v18 hq4_v18 hq5_v18 hq8_v18 hq9_v18 hq10_v18 hq13_v18 hq14_v18 hq15_v18 hq17_v18 hq18_v18 hq24_v18 hq25_v18 hq35_v18 hq36_v18 hq38_v18 hq39_v18 hr5_18 hM_v18 hA_f18 hm; exact absurd hm (Nat.not_lt_zero _)
            | succ n18 ih18 =>
              intro l4_18 l5_18 v18 f18 w18 g18 hIv18 hCf18 hRf18 hq0_v18 hq1_v18 hq2_v18 hq3_v18 hq4_v18 hq5_v18 hq8_v18 hq9_v18 hq10_v18 hq13_v18 hq14_v18 hq15_v18 hq17_v18 hq18_v18 hq24_v18 hq25_v18 hq35_v18 hq36_v18 hq38_v18 hq39_v18 hr5_18 hM_v18 hA_f18 hm18 H locs ls hP hD hS hl
              have hUv18 : (v18 35).toInt + (v18 36).toInt ≤ 40 := hIv18.2
              have zq9_v18 := congrArg Int32.toInt hq9_v18
              refine lv_iload hx hb dX11_reach_47 (lv_at hl 0 rfl) ?_
              refine lv_aload_n hx hb dX11_reach_49 rfl (lv_at hl 3 rfl) ?_
              refine va_get (D := (dC, dI)) (ci := 11) (v := .int (v18 25)) (C := RX11) (T := TX11) (N := 79) hx hb hts inB_11 hown hE.1 hP 0 rfl rfl 49 (by decide) (hts _ k_1369) (fun _ h9 => h9) rfl dX11_reach_50 ?_
              refine tI (y := (v 25)) hq25_v18 ?_
              have b25_v : 0 ≤ (v 25).toInt ∧ (v 25).toInt ≤ 6 := YIb.b hIv.1 25 (by decide)
              refine lv_icmp_ge (tgt := 144) hx hb dX11_reach_53 (by decide) (fun c19 => ?_) (fun c19 => ?_)
              · skip
                have zc19 : (v 25).toInt ≤ l5_18.toInt := by rw [fa_le] at c19; exact c19
                have rg20 := fb_rng l5_18
                have rg21 := fb_rng (v 25)
                refine lv_iload hx hb dX11_reach_144 (lv_at hl 1 rfl) ?_
                exact ret l4_18 (v18, f18, w18, g18) _ _ _ _ _ _ rfl ⟨hM_v18, hA_f18, hIv18, hCf18, hRf18, hq0_v18, hq1_v18, hq2_v18, hq3_v18, hq4_v18, hq5_v18, hq8_v18, hq9_v18, hq10_v18, hq13_v18, hq14_v18, hq15_v18, hq17_v18, hq18_v18, hq24_v18, hq25_v18, hq35_v18, hq36_v18, hq38_v18, hq39_v18⟩ hP hD hS dX11_reach_146 (Nat.le_refl _) (Nat.le_refl _)
              · skip
                have zc19 : ¬ ((v 25).toInt ≤ l5_18.toInt) := by rw [fa_le] at c19; exact c19
                have rg22 := fb_rng l5_18
                have rg23 := fb_rng (v 25)
                refine lv_iconst (v := 0) hx hb dX11_reach_56 (by decide) ?_
                refine lv_istore (lv' := [(6, .int 0), (5, .int l5_18), (4, .int l4_18), (3, .int r5), (0, .ref y0), (1, .int p1), (2, .int p2)]) hx hb dX11_reach_57 hl (by decide) rfl (fun ls hl => ?_)
                have lp24 : ∀ (n24 : Nat) (l4_24 : Int32) (l6_24 : Int32) (v24 : Nat → Int32) (f24 : Nat → Nat → Int32) (w24 : Int64) (g24 : Nat → Int64), YI v24 → YC f24 → progOK (f24 4) (f24 5) (v24 9).toInt.toNat → v24 0 = (v 0) → v24 1 = (v 1) → v24 2 = (v 2) → v24 3 = (v 3) → v24 4 = (v 4) → v24 5 = (v 5) → v24 8 = (v 8) → v24 9 = (v 9) → v24 10 = (v 10) → v24 13 = (v 13) → v24 14 = (v 14) → v24 15 = (v 15) → v24 17 = (v 17) → v24 18 = (v 18) → v24 24 = (v 24) → v24 25 = (v 25) → v24 35 = (v 35) → v24 36 = (v 36) → v24 38 = (v 38) → v24 39 = (v 39) → ((0 : Int) ≤ l6_24.toInt ∧ l6_24.toInt ≤ 2147483647) → KV [37] v24 v → KF [7, 8, 24, 26, 28] f24 f → (2147483647 - l6_24.toInt).toNat < n24 → ∀ (H : Heap) (locs : List Loc) (ls : Array Slot), va_P (dC, dI) vwCl (YW cy y0 r v24 f24 w24 g24) H → va_D A (YW cy y0 r v24 f24 w24 g24) → va_S A s.heap H locs → lv_has ls 7 [(6, .int l6_24), (5, .int l5_18), (4, .int l4_24), (3, .int r5), (0, .ref y0), (1, .int p1), (2, .int p2)] → W p l e { frames := 5, cells := 0, slots := 0, locals := 148 } s m ([.ref y0, .int p1, .int p2] : List Value).toArray below meth c H locs 0 0 Q (F0 m 59 ls []) := by
                  intro n24
                  induction n24 with
                  | zero => intro l4_24 l6_24 v24 f24 w24 g24 hIv24 hCf24 hRf24 hq0_v24 hq1_v24 hq2_v24 hq3_v24 hq4_v24 hq5_v24 hq8_v24 hq9_v24 hq10_v24 hq13_v24 hq14_v24 hq15_v24 hq17_v24 hq18_v24 hq24_v24 hq25_v24 hq35_v24 hq36_v24 hq38_v24 hq39_v24 hr6_24 hM_v24 hA_f24 hm; exact absurd hm (Nat.not_lt_zero _)
                  | succ n24 ih24 =>
                    intro l4_24 l6_24 v24 f24 w24 g24 hIv24 hCf24 hRf24 hq0_v24 hq1_v24 hq2_v24 hq3_v24 hq4_v24 hq5_v24 hq8_v24 hq9_v24 hq10_v24 hq13_v24 hq14_v24 hq15_v24 hq17_v24 hq18_v24 hq24_v24 hq25_v24 hq35_v24 hq36_v24 hq38_v24 hq39_v24 hr6_24 hM_v24 hA_f24 hm24 H locs ls hP hD hS hl
                    have hUv24 : (v24 35).toInt + (v24 36).toInt ≤ 40 := hIv24.2
                    have zq9_v24 := congrArg Int32.toInt hq9_v24
                    refine lv_iload hx hb dX11_reach_59 (lv_at hl 0 rfl) ?_
                    refine lv_aload_n hx hb dX11_reach_61 rfl (lv_at hl 4 rfl) ?_
                    refine va_get (D := (dC, dI)) (ci := 11) (v := .int (v24 25)) (C := RX11) (T := TX11) (N := 79) hx hb hts inB_11 hown hE.1 hP 0 rfl rfl 49 (by decide) (hts _ k_1369) (fun _ h9 => h9) rfl dX11_reach_62 ?_
                    refine tI (y := (v 25)) hq25_v24 ?_
                    have b25_v : 0 ≤ (v 25).toInt ∧ (v 25).toInt ≤ 6 := YIb.b hIv.1 25 (by decide)
                    refine lv_icmp_ge (tgt := 138) hx hb dX11_reach_65 (by decide) (fun c25 => ?_) (fun c25 => ?_)
                    · skip
                      have zc25 : (v 25).toInt ≤ l6_24.toInt := by rw [fa_le] at c25; exact c25
                      have rg26 := fb_rng l6_24
                      obtain ⟨t27, et27⟩ : ∃ y : Int32, y = l5_18 + 1 := ⟨_, rfl⟩
                      have zt27 : t27.toInt = l5_18.toInt + 1 := by rw [et27]; exact add_i rfl (by decide) (by omega) (by omega)
                      refine lv_iinc (v := t27) (lv' := [(5, .int t27), (6, .int l6_24), (4, .int l4_24), (3, .int r5), (0, .ref y0), (1, .int p1), (2, .int p2)]) hx hb dX11_reach_138 hl (k := 1) rfl (by rw [et27]; rfl) (by decide) rfl (fun ls hl => ?_)
                      refine lv_goto (tgt := 47) hx hb dX11_reach_141 (by decide) ?_
                      have rg28 := fb_rng t27
                      exact ih18 l4_24 t27 v24 f24 w24 g24 hIv24 hCf24 hRf24 hq0_v24 hq1_v24 hq2_v24 hq3_v24 hq4_v24 hq5_v24 hq8_v24 hq9_v24 hq10_v24 hq13_v24 hq14_v24 hq15_v24 hq17_v24 hq18_v24 hq24_v24 hq25_v24 hq35_v24 hq36_v24 hq38_v24 hq39_v24 ⟨show (0 : Int) ≤ t27.toInt by omega, show t27.toInt ≤ (2147483647 : Int) by omega⟩ hM_v24 hA_f24 (by show (2147483647 - t27.toInt).toNat < n18; omega) _ _ _ hP hD hS (lv_sub hl [0, 2, 3, 4, 5, 6] rfl)
                    · skip
                      have zc25 : ¬ ((v 25).toInt ≤ l6_24.toInt) := by rw [fa_le] at c25; exact c25
                      have rg29 := fb_rng l6_24
                      refine lv_iload_n hx hb dX11_reach_68 rfl (lv_at hl 3 rfl) ?_
                      refine lv_iload hx hb dX11_reach_69 (lv_at hl 1 rfl) ?_
                      refine lv_ishr hx hb dX11_reach_71 ?_
                      refine lv_topi (fun t30 et30 => ?_)
                      refine lv_iconst (v := 1) hx hb dX11_reach_72 (by decide) ?_
                      refine lv_iand hx hb dX11_reach_73 ?_
                      refine lv_topi (fun t31 et31 => ?_)
                      have zt31 : 0 ≤ t31.toInt ∧ t31.toInt < 2 := by rw [et31]; exact and_rng _ (k := 1) (by decide) (by decide)
                      refine lv_if_eq (tgt := 132) hx hb dX11_reach_74 (by decide) (fun c32 => ?_) (fun c32 => ?_)
                      · skip
                        have zc32 : t31.toInt = 0 := by rw [fa_eq, show (0 : Int32).toInt = 0 from by decide] at c32; exact c32
                        obtain ⟨t33, et33⟩ : ∃ y : Int32, y = l6_24 + 1 := ⟨_, rfl⟩
                        have zt33 : t33.toInt = l6_24.toInt + 1 := by rw [et33]; exact add_i rfl (by decide) (by omega) (by omega)
                        refine lv_iinc (v := t33) (lv' := [(6, .int t33), (5, .int l5_18), (4, .int l4_24), (3, .int r5), (0, .ref y0), (1, .int p1), (2, .int p2)]) hx hb dX11_reach_132 hl (k := 0) rfl (by rw [et33]; rfl) (by decide) rfl (fun ls hl => ?_)
                        refine lv_goto (tgt := 59) hx hb dX11_reach_135 (by decide) ?_
                        have rg34 := fb_rng t33
                        exact ih24 l4_24 t33 v24 f24 w24 g24 hIv24 hCf24 hRf24 hq0_v24 hq1_v24 hq2_v24 hq3_v24 hq4_v24 hq5_v24 hq8_v24 hq9_v24 hq10_v24 hq13_v24 hq14_v24 hq15_v24 hq17_v24 hq18_v24 hq24_v24 hq25_v24 hq35_v24 hq36_v24 hq38_v24 hq39_v24 ⟨show (0 : Int) ≤ t33.toInt by omega, show t33.toInt ≤ (2147483647 : Int) by omega⟩ hM_v24 hA_f24 (by show (2147483647 - t33.toInt).toNat < n24; omega) _ _ _ hP hD hS (lv_sub hl [0, 1, 2, 3, 4, 5, 6] rfl)
                      · skip
                        have zc32 : ¬ (t31.toInt = 0) := by rw [fa_eq, show (0 : Int32).toInt = 0 from by decide] at c32; exact c32
                        refine lv_iload_n hx hb dX11_reach_77 rfl (lv_at hl 3 rfl) ?_
                        refine lv_iload hx hb dX11_reach_78 (lv_at hl 0 rfl) ?_
                        refine lv_ishr hx hb dX11_reach_80 ?_
                        refine lv_topi (fun t35 et35 => ?_)
                        refine lv_iconst (v := 1) hx hb dX11_reach_81 (by decide) ?_
                        refine lv_iand hx hb dX11_reach_82 ?_
                        refine lv_topi (fun t36 et36 => ?_)
                        have zt36 : 0 ≤ t36.toInt ∧ t36.toInt < 2 := by rw [et36]; exact and_rng _ (k := 1) (by decide) (by decide)
                        refine lv_if_eq (tgt := 132) hx hb dX11_reach_83 (by decide) (fun c37 => ?_) (fun c37 => ?_)
                        · skip
                          have zc37 : t36.toInt = 0 := by rw [fa_eq, show (0 : Int32).toInt = 0 from by decide] at c37; exact c37
                          obtain ⟨t38, et38⟩ : ∃ y : Int32, y = l6_24 + 1 := ⟨_, rfl⟩
                          have zt38 : t38.toInt = l6_24.toInt + 1 := by rw [et38]; exact add_i rfl (by decide) (by omega) (by omega)
                          refine lv_iinc (v := t38) (lv' := [(6, .int t38), (5, .int l5_18), (4, .int l4_24), (3, .int r5), (0, .ref y0), (1, .int p1), (2, .int p2)]) hx hb dX11_reach_132 hl (k := 0) rfl (by rw [et38]; rfl) (by decide) rfl (fun ls hl => ?_)
                          refine lv_goto (tgt := 59) hx hb dX11_reach_135 (by decide) ?_
                          have rg39 := fb_rng t38
                          exact ih24 l4_24 t38 v24 f24 w24 g24 hIv24 hCf24 hRf24 hq0_v24 hq1_v24 hq2_v24 hq3_v24 hq4_v24 hq5_v24 hq8_v24 hq9_v24 hq10_v24 hq13_v24 hq14_v24 hq15_v24 hq17_v24 hq18_v24 hq24_v24 hq25_v24 hq35_v24 hq36_v24 hq38_v24 hq39_v24 ⟨show (0 : Int) ≤ t38.toInt by omega, show t38.toInt ≤ (2147483647 : Int) by omega⟩ hM_v24 hA_f24 (by show (2147483647 - t38.toInt).toNat < n24; omega) _ _ _ hP hD hS (lv_sub hl [0, 1, 2, 3, 4, 5, 6] rfl)
                        · skip
                          have zc37 : ¬ (t36.toInt = 0) := by rw [fa_eq, show (0 : Int32).toInt = 0 from by decide] at c37; exact c37
                          refine lv_aload_n hx hb dX11_reach_86 rfl (lv_at hl 4 rfl) ?_
                          refine lv_iload_n hx hb dX11_reach_87 rfl (lv_at hl 5 rfl) ?_
                          refine lv_iload_n hx hb dX11_reach_88 rfl (lv_at hl 6 rfl) ?_
                          refine lv_iload hx hb dX11_reach_89 (lv_at hl 1 rfl) ?_
                          refine lv_iload hx hb dX11_reach_91 (lv_at hl 0 rfl) ?_
                          refine lv_iload_n hx hb dX11_reach_93 rfl (lv_at hl 3 rfl) ?_
                          refine cbVi (n := 5) (rest := []) hx hb hml hown hts hE hP hD hS hA (sY_X11_isRest_1 l dC dI cy y0 r p1 p2 l5_18 l6_24 r5 v24 f24 w24 g24 hIv24 hCf24 hRf24 ⟨show (0 : Int) ≤ p1.toInt by omega, show p1.toInt ≤ (5 : Int) by omega⟩ ⟨show (0 : Int) ≤ p2.toInt by omega, show p2.toInt ≤ (5 : Int) by omega⟩ ⟨show (0 : Int) ≤ l5_18.toInt by omega, show l5_18.toInt ≤ (5 : Int) by omega⟩ ⟨show (0 : Int) ≤ l6_24.toInt by omega, show l6_24.toInt ≤ (5 : Int) by omega⟩) k_1952 k_1954 k_93 k_114 k_1955 (by decide +kernel) ⟨Nat.le_of_ble_eq_true rfl, Nat.le_of_ble_eq_true rfl⟩ 0 11 rfl rfl (rfl) hl.1 rfl (Nat.le_of_ble_eq_true rfl) dX11_reach_94 (fun r40 u H locs hw hP hD hS => ?_)
                          rcases hw with ⟨g41⟩ | ⟨g41⟩
                          · skip
                            subst g41
                            refine lv_if_ne (tgt := 103) hx hb dX11_reach_97 (by decide) (fun _ => ?_) (fun c0 => absurd c0 (by decide))
                            refine lv_iload hx hb dX11_reach_103 (lv_at hl 2 rfl) ?_
                            refine lv_if_ne (tgt := 129) hx hb dX11_reach_105 (by decide) (fun c42 => ?_) (fun c42 => ?_)
                            · skip
                              have zc42 : ¬ (l4_24.toInt = 0) := by rw [fa_eq, show (0 : Int32).toInt = 0 from by decide] at c42; exact c42
                              obtain ⟨t43, et43⟩ : ∃ y : Int32, y = l4_24 + 1 := ⟨_, rfl⟩
                              refine lv_iinc (v := t43) (lv' := [(4, .int t43), (6, .int l6_24), (5, .int l5_18), (3, .int r5), (0, .ref y0), (1, .int p1), (2, .int p2)]) hx hb dX11_reach_129 hl (k := 2) rfl (by rw [et43]; rfl) (by decide) rfl (fun ls hl => ?_)
                              obtain ⟨t44, et44⟩ : ∃ y : Int32, y = l6_24 + 1 := ⟨_, rfl⟩
                              have zt44 : t44.toInt = l6_24.toInt + 1 := by rw [et44]; exact add_i rfl (by decide) (by omega) (by omega)
                              refine lv_iinc (v := t44) (lv' := [(6, .int t44), (4, .int t43), (5, .int l5_18), (3, .int r5), (0, .ref y0), (1, .int p1), (2, .int p2)]) hx hb dX11_reach_132 hl (k := 1) rfl (by rw [et44]; rfl) (by decide) rfl (fun ls hl => ?_)
                              refine lv_goto (tgt := 59) hx hb dX11_reach_135 (by decide) ?_
                              have rg45 := fb_rng t44
                              exact ih24 t43 t44 v24 f24 w24 g24 hIv24 hCf24 hRf24 hq0_v24 hq1_v24 hq2_v24 hq3_v24 hq4_v24 hq5_v24 hq8_v24 hq9_v24 hq10_v24 hq13_v24 hq14_v24 hq15_v24 hq17_v24 hq18_v24 hq24_v24 hq25_v24 hq35_v24 hq36_v24 hq38_v24 hq39_v24 ⟨show (0 : Int) ≤ t44.toInt by omega, show t44.toInt ≤ (2147483647 : Int) by omega⟩ hM_v24 hA_f24 (by show (2147483647 - t44.toInt).toNat < n24; omega) _ _ _ hP hD hS (lv_sub hl [0, 2, 1, 3, 4, 5, 6] rfl)
                            · skip
                              have zc42 : l4_24.toInt = 0 := by rw [fa_eq, show (0 : Int32).toInt = 0 from by decide] at c42; exact c42
                              refine lv_aload_n hx hb dX11_reach_108 rfl (lv_at hl 4 rfl) ?_
                              refine va_get (D := (dC, dI)) (ci := 11) (v := .ref (r 64)) (C := RX11) (T := TX11) (N := 79) hx hb hts inB_11 hown hE.1 hP 0 rfl rfl 64 (by decide) (hts _ k_1384) (fun _ h9 => h9) rfl dX11_reach_109 ?_
                              refine lv_iconst (v := 0) hx hb dX11_reach_112 (by decide) ?_
                              refine lv_iload hx hb dX11_reach_113 (lv_at hl 1 rfl) ?_
                              refine stI hx hb hE hP hD hS 27 rfl (vp_in_nI (n := 0) (by decide) (by decide)) rfl dX11_reach_115 (fun H locs hP hD hS => ?_)
                              obtain ⟨f46, ef46, hP, hD⟩ : ∃ fz9, fz9 = upd2 f24 26 (upd (f24 26) (0 : Int32).toNatClampNeg l5_18) ∧ va_P (dC, dI) vwCl (YW cy y0 r v24 fz9 w24 g24) H ∧ va_D A (YW cy y0 r v24 fz9 w24 g24) := ⟨_, rfl, hP, hD⟩
                              have hCf46 : YC f46 := by rw [ef46]; exact hCf24
                              have hRf46 : progOK (f46 4) (f46 5) (v24 9).toInt.toNat := by rw [ef46]; exact hRf24
                              have hA_f46 : KF [7, 8, 24, 26, 28] f46 f := by rw [ef46]; exact KF.up hA_f24 rfl
                              refine lv_aload_n hx hb dX11_reach_116 rfl (lv_at hl 4 rfl) ?_
                              refine va_get (D := (dC, dI)) (ci := 11) (v := .ref (r 64)) (C := RX11) (T := TX11) (N := 79) hx hb hts inB_11 hown hE.1 hP 0 rfl rfl 64 (by decide) (hts _ k_1384) (fun _ h9 => h9) rfl dX11_reach_117 ?_
                              refine lv_iconst (v := 1) hx hb dX11_reach_120 (by decide) ?_
                              refine lv_iload hx hb dX11_reach_121 (lv_at hl 0 rfl) ?_
                              refine stI hx hb hE hP hD hS 27 rfl (vp_in_nI (n := 1) (by decide) (by decide)) rfl dX11_reach_123 (fun H locs hP hD hS => ?_)
                              obtain ⟨f47, ef47, hP, hD⟩ : ∃ fz9, fz9 = upd2 f46 26 (upd (f46 26) (1 : Int32).toNatClampNeg l6_24) ∧ va_P (dC, dI) vwCl (YW cy y0 r v24 fz9 w24 g24) H ∧ va_D A (YW cy y0 r v24 fz9 w24 g24) := ⟨_, rfl, hP, hD⟩
                              have hCf47 : YC f47 := by rw [ef47]; exact hCf46
                              have hRf47 : progOK (f47 4) (f47 5) (v24 9).toInt.toNat := by rw [ef47]; exact hRf46
                              have hA_f47 : KF [7, 8, 24, 26, 28] f47 f := by rw [ef47]; exact KF.up hA_f46 rfl
                              refine lv_aload_n hx hb dX11_reach_124 rfl (lv_at hl 4 rfl) ?_
                              refine lv_iconst (v := 2) hx hb dX11_reach_125 (by decide) ?_
                              refine va_put (D := (dC, dI)) (ci := 11) (v := .int 2) (ty := tyX11 67) (C := RX11) (T := TX11) (N := 79) hx hb hts inB_11 tyX11 tyX11_ok nmX11 hown hE.1 hP hD hS 0 rfl rfl 67 (by decide) (hts _ k_1387) (fun _ h9 => h9) rfl (tyX11_ok 67 (by decide)) rfl rfl (Nat.le_of_ble_eq_true rfl) dX11_reach_126 (fun H locs hP hD hS => ?_)
                              have hP : va_P (dC, dI) vwCl (YW cy y0 r (upd v24 37 2) f47 w24 g24) H := hP
                              have hD : va_D A (YW cy y0 r (upd v24 37 2) f47 w24 g24) := hD
                              obtain ⟨t48, et48⟩ : ∃ y : Int32, y = l4_24 + 1 := ⟨_, rfl⟩
                              have rg49 := fb_rng l4_24
                              have zt48 : t48.toInt = l4_24.toInt + 1 := by rw [et48]; exact add_i rfl (by decide) (by omega) (by omega)
                              refine lv_iinc (v := t48) (lv' := [(4, .int t48), (6, .int l6_24), (5, .int l5_18), (3, .int r5), (0, .ref y0), (1, .int p1), (2, .int p2)]) hx hb dX11_reach_129 hl (k := 2) rfl (by rw [et48]; rfl) (by decide) rfl (fun ls hl => ?_)
                              obtain ⟨t50, et50⟩ : ∃ y : Int32, y = l6_24 + 1 := ⟨_, rfl⟩
                              have zt50 : t50.toInt = l6_24.toInt + 1 := by rw [et50]; exact add_i rfl (by decide) (by omega) (by omega)
                              refine lv_iinc (v := t50) (lv' := [(6, .int t50), (4, .int t48), (5, .int l5_18), (3, .int r5), (0, .ref y0), (1, .int p1), (2, .int p2)]) hx hb dX11_reach_132 hl (k := 1) rfl (by rw [et50]; rfl) (by decide) rfl (fun ls hl => ?_)
                              refine lv_goto (tgt := 59) hx hb dX11_reach_135 (by decide) ?_
                              have rg51 := fb_rng t50
                              exact ih24 t48 t50 (upd v24 37 2) f47 w24 g24 ⟨(YIb.upd (j := 37) (x := 2) hIv24.1 (by decide) (by decide)), hIv24.2⟩ hCf47 hRf47 hq0_v24 hq1_v24 hq2_v24 hq3_v24 hq4_v24 hq5_v24 hq8_v24 hq9_v24 hq10_v24 hq13_v24 hq14_v24 hq15_v24 hq17_v24 hq18_v24 hq24_v24 hq25_v24 hq35_v24 hq36_v24 hq38_v24 hq39_v24 ⟨show (0 : Int) ≤ t50.toInt by omega, show t50.toInt ≤ (2147483647 : Int) by omega⟩ (KV.up (j := 37) (x := 2) hM_v24 rfl) hA_f47 (by show (2147483647 - t50.toInt).toNat < n24; omega) _ _ _ hP hD hS (lv_sub hl [0, 2, 1, 3, 4, 5, 6] rfl)
                          · skip
                            subst g41
                            refine lv_if_ne (tgt := 103) hx hb dX11_reach_97 (by decide) (fun c0 => absurd (by decide) c0) (fun _ => ?_)
                            refine lv_goto (tgt := 132) hx hb dX11_reach_100 (by decide) ?_
                            obtain ⟨t52, et52⟩ : ∃ y : Int32, y = l6_24 + 1 := ⟨_, rfl⟩
                            have zt52 : t52.toInt = l6_24.toInt + 1 := by rw [et52]; exact add_i rfl (by decide) (by omega) (by omega)
                            refine lv_iinc (v := t52) (lv' := [(6, .int t52), (5, .int l5_18), (4, .int l4_24), (3, .int r5), (0, .ref y0), (1, .int p1), (2, .int p2)]) hx hb dX11_reach_132 hl (k := 0) rfl (by rw [et52]; rfl) (by decide) rfl (fun ls hl => ?_)
                            refine lv_goto (tgt := 59) hx hb dX11_reach_135 (by decide) ?_
                            have rg53 := fb_rng t52
                            exact ih24 l4_24 t52 v24 f24 w24 g24 hIv24 hCf24 hRf24 hq0_v24 hq1_v24 hq2_v24 hq3_v24 hq4_v24 hq5_v24 hq8_v24 hq9_v24 hq10_v24 hq13_v24 hq14_v24 hq15_v24 hq17_v24 hq18_v24 hq24_v24 hq25_v24 hq35_v24 hq36_v24 hq38_v24 hq39_v24 ⟨show (0 : Int) ≤ t52.toInt by omega, show t52.toInt ≤ (2147483647 : Int) by omega⟩ hM_v24 hA_f24 (by show (2147483647 - t52.toInt).toNat < n24; omega) _ _ _ hP hD hS (lv_sub hl [0, 1, 2, 3, 4, 5, 6] rfl)
                exact lp24 _ l4_18 0 v18 f18 w18 g18 hIv18 hCf18 hRf18 hq0_v18 hq1_v18 hq2_v18 hq3_v18 hq4_v18 hq5_v18 hq8_v18 hq9_v18 hq10_v18 hq13_v18 hq14_v18 hq15_v18 hq17_v18 hq18_v18 hq24_v18 hq25_v18 hq35_v18 hq36_v18 hq38_v18 hq39_v18 ⟨by decide, by decide⟩ hM_v18 hA_f18 (Nat.lt_succ_self _) _ _ _ hP hD hS (lv_sub hl [0, 1, 2, 3, 4, 5, 6] rfl)
          exact lp18 _ 0 0 v1 f2 w3 g4 hIv1 hCf2 hRf2 hq0_v1 hq1_v1 hq2_v1 hq3_v1 hq4_v1 hq5_v1 hq8_v1 hq9_v1 hq10_v1 hq13_v1 hq14_v1 hq15_v1 hq17_v1 hq18_v1 hq24_v1 hq25_v1 hq35_v1 hq36_v1 hq38_v1 hq39_v1 ⟨by decide, by decide⟩ hM_v1 hA_f2 (Nat.lt_succ_self _) _ _ _ hP hD hS (lv_sub hl [0, 1, 2, 3, 4, 5] rfl)
        · skip
          have zc17 : r5.toInt = 0 := by rw [fa_eq, show (0 : Int32).toInt = 0 from by decide] at c17; exact c17
          refine lv_iconst (v := (-1)) hx hb dX11_reach_39 (by decide) ?_
          exact ret (-1) (v1, f2, w3, g4) _ _ _ _ _ _ rfl ⟨hM_v1, hA_f2, hIv1, hCf2, hRf2, hk0_v1, hk1_v1, hk2_v1, hk3_v1, hk4_v1, hk5_v1, hk8_v1, hk9_v1, hk10_v1, hk13_v1, hk14_v1, hk15_v1, hk17_v1, hk18_v1, hk24_v1, hk25_v1, hk35_v1, hk36_v1, hk38_v1, hk39_v1⟩ hP hD hS dX11_reach_40 (Nat.le_refl _) (Nat.le_refl _)
    · skip
      subst g11
      refine lv_if_eq (tgt := 39) hx hb dX11_reach_27 (by decide) (fun _ => ?_) (fun c0 => absurd (by decide) c0)
      refine lv_iconst (v := (-1)) hx hb dX11_reach_39 (by decide) ?_
      exact ret (-1) (v1, f2, w3, g4) _ _ _ _ _ _ rfl ⟨hM_v1, hA_f2, hIv1, hCf2, hRf2, hk0_v1, hk1_v1, hk2_v1, hk3_v1, hk4_v1, hk5_v1, hk8_v1, hk9_v1, hk10_v1, hk13_v1, hk14_v1, hk15_v1, hk17_v1, hk18_v1, hk24_v1, hk25_v1, hk35_v1, hk36_v1, hk38_v1, hk39_v1⟩ hP hD hS dX11_reach_40 (Nat.le_refl _) (Nat.le_refl _)
  · skip
    subst g8
    refine lv_if_eq (tgt := 39) hx hb dX11_reach_19 (by decide) (fun _ => ?_) (fun c0 => absurd (by decide) c0)
    refine lv_iconst (v := (-1)) hx hb dX11_reach_39 (by decide) ?_
    exact ret (-1) (v1, f2, w3, g4) _ _ _ _ _ _ rfl ⟨hM_v1, hA_f2, hIv1, hCf2, hRf2, hk0_v1, hk1_v1, hk2_v1, hk3_v1, hk4_v1, hk5_v1, hk8_v1, hk9_v1, hk10_v1, hk13_v1, hk14_v1, hk15_v1, hk17_v1, hk18_v1, hk24_v1, hk25_v1, hk35_v1, hk36_v1, hk38_v1, hk39_v1⟩ hP hD hS dX11_reach_40 (Nat.le_refl _) (Nat.le_refl _)
set_option maxHeartbeats 4000000 in
set_option maxRecDepth 100000 in
theorem sY_X11_turning_1 (l : Launch) (dC : Nat → ClassId) (dI : Nat → Nat → Nat) (cy : Nat → ClassId) (y0 : Nat) (r : Nat → Nat)  (v : Nat → Int32) (f : Nat → Nat → Int32) (w : Int64) (g : Nat → Int64) (hIv : YI v) (hCf : YC f) (hRf : progOK (f 4) (f 5) (v 9).toInt.toNat)  : ctI l (dC, dI) cy yX11_turning cX11_turning 5 .int 7 191 0 0 ((Nat → Int32) × (Nat → Nat → Int32) × (Int64) × (Nat → Int64)) [.ref y0] (YW cy y0 r v f w g) (fun r u => KV [] u.1 v ∧ KF [7, 8, 24] u.2.1 f ∧ YI u.1 ∧ YC u.2.1 ∧ progOK (u.2.1 4) (u.2.1 5) (u.1 9).toInt.toNat ∧ u.1 0 = v 0 ∧ u.1 1 = v 1 ∧ u.1 2 = v 2 ∧ u.1 3 = v 3 ∧ u.1 4 = v 4 ∧ u.1 5 = v 5 ∧ u.1 8 = v 8 ∧ u.1 9 = v 9 ∧ u.1 10 = v 10 ∧ u.1 13 = v 13 ∧ u.1 14 = v 14 ∧ u.1 15 = v 15 ∧ u.1 17 = v 17 ∧ u.1 18 = v 18 ∧ u.1 24 = v 24 ∧ u.1 25 = v 25 ∧ u.1 35 = v 35 ∧ u.1 36 = v 36 ∧ u.1 38 = v 38 ∧ u.1 39 = v 39) (fun u => YW cy y0 r u.1 u.2.1 u.2.2.1 u.2.2.2) := by
  refine ctI_of (by decide) (Nat.le_of_ble_eq_true rfl) (fun p e s m below meth c A ls Q hx hb hml hts hown hE hP hD hA hl ret => ?_)
  have hUv : (v 35).toInt + (v 36).toInt ≤ 40 := hIv.2
  have hM_v : KV [] v v := fun _ _ => rfl
  have hA_f : KF [7, 8, 24] f f := fun _ _ => rfl
  have hown : s.vm.findClass RX11 = some m.cls := hown
  have hS : va_S A s.heap s.heap [] := va_S.rf
  have hl : lv_has ls 5 [(0, .ref y0)] := hl
  refine lv_iconst (v := (-1)) hx hb dX11_turning_0 (by decide) ?_
  refine lv_istore_n (lv' := [(1, .int (-1)), (0, .ref y0)]) hx hb dX11_turning_1 rfl hl (by decide) rfl (fun ls hl => ?_)
  refine lv_iconst (v := (-1)) hx hb dX11_turning_2 (by decide) ?_
  refine lv_istore_n (lv' := [(2, .int (-1)), (1, .int (-1)), (0, .ref y0)]) hx hb dX11_turning_3 rfl hl (by decide) rfl (fun ls hl => ?_)
  refine lv_iconst (v := 0) hx hb dX11_turning_4 (by decide) ?_
  refine lv_istore_n (lv' := [(3, .int 0), (2, .int (-1)), (1, .int (-1)), (0, .ref y0)]) hx hb dX11_turning_5 rfl hl (by decide) rfl (fun ls hl => ?_)
  have lp1 : ∀ (n1 : Nat) (l1_1 : Int32) (l2_1 : Int32) (l3_1 : Int32) (v1 : Nat → Int32) (f1 : Nat → Nat → Int32) (w1 : Int64) (g1 : Nat → Int64), YI v1 → YC f1 → progOK (f1 4) (f1 5) (v1 9).toInt.toNat → v1 0 = (v 0) → v1 1 = (v 1) → v1 2 = (v 2) → v1 3 = (v 3) → v1 4 = (v 4) → v1 5 = (v 5) → v1 8 = (v 8) → v1 9 = (v 9) → v1 10 = (v 10) → v1 13 = (v 13) → v1 14 = (v 14) → v1 15 = (v 15) → v1 17 = (v 17) → v1 18 = (v 18) → v1 24 = (v 24) → v1 25 = (v 25) → v1 35 = (v 35) → v1 36 = (v 36) → v1 38 = (v 38) → v1 39 = (v 39) → ((0 : Int) ≤ l3_1.toInt ∧ l3_1.toInt ≤ 2147483647) → KV [] v1 v → KF [7, 8, 24] f1 f → (2147483647 - l3_1.toInt).toNat < n1 → ∀ (H : Heap) (locs : List Loc) (ls : Array Slot), va_P (dC, dI) vwCl (YW cy y0 r v1 f1 w1 g1) H → va_D A (YW cy y0 r v1 f1 w1 g1) → va_S A s.heap H locs → lv_has ls 5 [(3, .int l3_1), (2, .int l2_1), (1, .int l1_1), (0, .ref y0)] → W p l e { frames := 7, cells := 0, slots := 0, locals := 191 } s m ([.ref y0] : List Value).toArray below meth c H locs 0 0 Q (F0 m 6 ls []) := by
    intro n1
    induction n1 with
    | zero => intro l1_1 l2_1 l3_1 v1 f1 w1 g1 hIv1 hCf1 hRf1 hq0_v1 hq1_v1 hq2_v1 hq3_v1 hq4_v1 hq5_v1 hq8_v1 hq9_v1 hq10_v1 hq13_v1 hq14_v1 hq15_v1 hq17_v1 hq18_v1 hq24_v1 hq25_v1 hq35_v1 hq36_v1 hq38_v1 hq39_v1 hr3_1 hM_v1 hA_f1 hm; exact absurd hm (Nat.not_lt_zero _)
    | succ n1 ih1 =>
      intro l1_1 l2_1 l3_1 v1 f1 w1 g1 hIv1 hCf1 hRf1 hq0_v1 hq1_v1 hq2_v1 hq3_v1 hq4_v1 hq5_v1 hq8_v1 hq9_v1 hq10_v1 hq13_v1 hq14_v1 hq15_v1 hq17_v1 hq18_v1 hq24_v1 hq25_v1 hq35_v1 hq36_v1 hq38_v1 hq39_v1 hr3_1 hM_v1 hA_f1 hm1 H locs ls hP hD hS hl
      have hUv1 : (v1 35).toInt + (v1 36).toInt ≤ 40 := hIv1.2
      have zq9_v1 := congrArg Int32.toInt hq9_v1
      refine lv_iload_n hx hb dX11_turning_6 rfl (lv_at hl 0 rfl) ?_
      refine lv_aload_n hx hb dX11_turning_7 rfl (lv_at hl 3 rfl) ?_
      refine va_get (D := (dC, dI)) (ci := 11) (v := .int (v1 25)) (C := RX11) (T := TX11) (N := 79) hx hb hts inB_11 hown hE.1 hP 0 rfl rfl 49 (by decide) (hts _ k_1369) (fun _ h9 => h9) rfl dX11_turning_8 ?_
      refine tI (y := (v 25)) hq25_v1 ?_
      have b25_v : 0 ≤ (v 25).toInt ∧ (v 25).toInt ≤ 6 := YIb.b hIv.1 25 (by decide)
      refine lv_icmp_ge (tgt := 75) hx hb dX11_turning_11 (by decide) (fun c2 => ?_) (fun c2 => ?_)
      · skip
        have zc2 : (v 25).toInt ≤ l3_1.toInt := by rw [fa_le] at c2; exact c2
        have rg3 := fb_rng l3_1
        have rg4 := fb_rng (v 25)
        refine lv_iload_n hx hb dX11_turning_75 rfl (lv_at hl 2 rfl) ?_
        exact ret l1_1 (v1, f1, w1, g1) _ _ _ _ _ _ rfl ⟨hM_v1, hA_f1, hIv1, hCf1, hRf1, (show v1 0 = v 0 from hq0_v1), (show v1 1 = v 1 from hq1_v1), (show v1 2 = v 2 from hq2_v1), (show v1 3 = v 3 from hq3_v1), (show v1 4 = v 4 from hq4_v1), (show v1 5 = v 5 from hq5_v1), (show v1 8 = v 8 from hq8_v1), (show v1 9 = v 9 from hq9_v1), (show v1 10 = v 10 from hq10_v1), (show v1 13 = v 13 from hq13_v1), (show v1 14 = v 14 from hq14_v1), (show v1 15 = v 15 from hq15_v1), (show v1 17 = v 17 from hq17_v1), (show v1 18 = v 18 from hq18_v1), (show v1 24 = v 24 from hq24_v1), (show v1 25 = v 25 from hq25_v1), (show v1 35 = v 35 from hq35_v1), (show v1 36 = v 36 from hq36_v1), (show v1 38 = v 38 from hq38_v1), (show v1 39 = v 39 from hq39_v1)⟩ hP hD hS dX11_turning_76 (Nat.le_refl _) (Nat.le_refl _)
      · skip
        have zc2 : ¬ ((v 25).toInt ≤ l3_1.toInt) := by rw [fa_le] at c2; exact c2
        have rg5 := fb_rng l3_1
        have rg6 := fb_rng (v 25)
        refine lv_aload_n hx hb dX11_turning_14 rfl (lv_at hl 3 rfl) ?_
        refine cbVv (n := 0) (rest := []) hx hb hml hown hts hE hP hD hS hA (sY_X11_fill_1 0 l dC dI cy y0 r  v1 f1 w1 g1 hIv1 hCf1 hRf1 ) k_1739 k_1741 k_71 k_114 k_1742 (by decide +kernel) ⟨Nat.le_of_ble_eq_true rfl, Nat.le_of_ble_eq_true rfl⟩ 0 11 rfl rfl (rfl) hl.1 rfl (Nat.le_of_ble_eq_true rfl) dX11_turning_15 (fun u H locs hw hP hD hS => ?_)
        obtain ⟨hG7, hw⟩ := hw
        obtain ⟨v8, f9, w10, g11⟩ := u
        obtain ⟨kV_v8, kF_f9, hIv8, hCf9, hRf9, hk0_v8, hk1_v8, hk2_v8, hk3_v8, hk4_v8, hk5_v8, hk8_v8, hk9_v8, hk10_v8, hk13_v8, hk14_v8, hk15_v8, hk17_v8, hk18_v8, hk24_v8, hk25_v8, hk35_v8, hk36_v8, hk38_v8, hk39_v8⟩ := hw
        have hM_v8 : KV [] v8 v := KV.tr kV_v8 hM_v1 rfl
        have hA_f9 : KF [7, 8, 24] f9 f := KF.tr kF_f9 hA_f1 rfl
        have hP : va_P (dC, dI) vwCl (YW cy y0 r v8 f9 w10 g11) H := hP
        have hD : va_D A (YW cy y0 r v8 f9 w10 g11) := hD
        have hUv8 : (v8 35).toInt + (v8 36).toInt ≤ 40 := hIv8.2
        have hq0_v8 : v8 0 = (v 0) := hk0_v8.trans hq0_v1
        have hq1_v8 : v8 1 = (v 1) := hk1_v8.trans hq1_v1
        have hq2_v8 : v8 2 = (v 2) := hk2_v8.trans hq2_v1
        have hq3_v8 : v8 3 = (v 3) := hk3_v8.trans hq3_v1
        have hq4_v8 : v8 4 = (v 4) := hk4_v8.trans hq4_v1
        have hq5_v8 : v8 5 = (v 5) := hk5_v8.trans hq5_v1
        have hq8_v8 : v8 8 = (v 8) := hk8_v8.trans hq8_v1
        have hq9_v8 : v8 9 = (v 9) := hk9_v8.trans hq9_v1
        have zq9_v8 := congrArg Int32.toInt hq9_v8
        have hq10_v8 : v8 10 = (v 10) := hk10_v8.trans hq10_v1
        have hq13_v8 : v8 13 = (v 13) := hk13_v8.trans hq13_v1
        have hq14_v8 : v8 14 = (v 14) := hk14_v8.trans hq14_v1
        have hq15_v8 : v8 15 = (v 15) := hk15_v8.trans hq15_v1
        have hq17_v8 : v8 17 = (v 17) := hk17_v8.trans hq17_v1
        have hq18_v8 : v8 18 = (v 18) := hk18_v8.trans hq18_v1
        have hq24_v8 : v8 24 = (v 24) := hk24_v8.trans hq24_v1
        have hq25_v8 : v8 25 = (v 25) := hk25_v8.trans hq25_v1
        have hq35_v8 : v8 35 = (v 35) := hk35_v8.trans hq35_v1
        have hq36_v8 : v8 36 = (v 36) := hk36_v8.trans hq36_v1
        have hq38_v8 : v8 38 = (v 38) := hk38_v8.trans hq38_v1
        have hq39_v8 : v8 39 = (v 39) := hk39_v8.trans hq39_v1
        refine lv_aload_n hx hb dX11_turning_18 rfl (lv_at hl 3 rfl) ?_
        refine va_get (D := (dC, dI)) (ci := 11) (v := .ref (r 60)) (C := RX11) (T := TX11) (N := 79) hx hb hts inB_11 hown hE.1 hP 0 rfl rfl 60 (by decide) (hts _ k_1380) (fun _ h9 => h9) rfl dX11_turning_19 ?_
        refine lv_bipush (v := 36) hx hb dX11_turning_22 (by decide) ?_
        refine ldI hx hb hE hP 25 rfl (vp_in_nI (n := 36) (by decide) (by decide)) rfl rfl dX11_turning_24 ?_
        refine lv_topi (fun t12 et12 => ?_)
        have zt12 : 36 % 39 < 6 ∨ 12 ≤ 36 % 39 ∨ (-1 ≤ t12.toInt ∧ t12.toInt ≤ 5) := by rw [et12]; exact wear_ld hCf9.2.1 (show 36 < 39 by omega)
        refine lv_iload_n hx hb dX11_turning_25 rfl (lv_at hl 0 rfl) ?_
        refine lv_ishr hx hb dX11_turning_26 ?_
        refine lv_topi (fun t13 et13 => ?_)
        refine lv_iconst (v := 1) hx hb dX11_turning_27 (by decide) ?_
        refine lv_iand hx hb dX11_turning_28 ?_
        refine lv_topi (fun t14 et14 => ?_)
        have zt14 : 0 ≤ t14.toInt ∧ t14.toInt < 2 := by rw [et14]; exact and_rng _ (k := 1) (by decide) (by decide)
        refine lv_iconst (v := 1) hx hb dX11_turning_29 (by decide) ?_
        refine lv_icmp_ne (tgt := 36) hx hb dX11_turning_30 (by decide) (fun c15 => ?_) (fun c15 => ?_)
        · skip
          have zc15 : ¬ (t14.toInt = 1) := by rw [fa_eq, show (1 : Int32).toInt = 1 from by decide] at c15; exact c15
          refine lv_aload_n hx hb dX11_turning_36 rfl (lv_at hl 3 rfl) ?_
          refine va_get (D := (dC, dI)) (ci := 11) (v := .ref (r 60)) (C := RX11) (T := TX11) (N := 79) hx hb hts inB_11 hown hE.1 hP 0 rfl rfl 60 (by decide) (hts _ k_1380) (fun _ h9 => h9) rfl dX11_turning_37 ?_
          refine lv_bipush (v := 30) hx hb dX11_turning_40 (by decide) ?_
          refine lv_iload_n hx hb dX11_turning_42 rfl (lv_at hl 0 rfl) ?_
          refine lv_iadd hx hb dX11_turning_43 ?_
          refine lv_topi (fun t16 et16 => ?_)
          have zt16 : t16.toInt = 30 + l3_1.toInt := by rw [et16]; exact add_i (by decide) rfl (by omega) (by omega)
          refine lv_iconst (v := 0) hx hb dX11_turning_44 (by decide) ?_
          refine stI hx hb hE hP hD hS 25 rfl (vp_in_iff.mpr ⟨by omega, by omega⟩) rfl dX11_turning_45 (fun H locs hP hD hS => ?_)
          obtain ⟨f17, ef17, hP, hD⟩ : ∃ fz9, fz9 = upd2 f9 24 (upd (f9 24) t16.toNatClampNeg 0) ∧ va_P (dC, dI) vwCl (YW cy y0 r v8 fz9 w10 g11) H ∧ va_D A (YW cy y0 r v8 fz9 w10 g11) := ⟨_, rfl, hP, hD⟩
          have hCf17 : YC f17 := by rw [ef17]; exact ⟨hCf9.1, (wear_st hCf9.2.1 (by have q9 : (0 : Int32).toInt = 0 := (by decide); show t16.toInt.toNat % 39 < 6 ∨ 12 ≤ t16.toInt.toNat % 39 ∨ (-1 ≤ (0 : Int32).toInt ∧ (0 : Int32).toInt ≤ 5); omega)), hCf9.2.2.1, hCf9.2.2.2.1, hCf9.2.2.2.2.1, hCf9.2.2.2.2.2⟩
          have hRf17 : progOK (f17 4) (f17 5) (v8 9).toInt.toNat := by rw [ef17]; exact hRf9
          have hA_f17 : KF [7, 8, 24] f17 f := by rw [ef17]; exact KF.up hA_f9 rfl
          refine lv_aload_n hx hb dX11_turning_46 rfl (lv_at hl 3 rfl) ?_
          refine cbVi (n := 0) (rest := []) hx hb hml hown hts hE hP hD hS hA (sY_X11_fittedOnes_1 0 l dC dI cy y0 r  v8 f17 w10 g11 hIv8 hCf17 hRf17 ) k_1809 k_1811 k_81 k_114 k_1812 (by decide +kernel) ⟨Nat.le_of_ble_eq_true rfl, Nat.le_of_ble_eq_true rfl⟩ 0 11 rfl rfl (rfl) hl.1 rfl (Nat.le_of_ble_eq_true rfl) dX11_turning_47 (fun r18 u H locs hw hP hD hS => ?_)
          obtain ⟨hG19, hw⟩ := hw
          obtain ⟨v20, f21, w22, g23⟩ := u
          obtain ⟨kV_v20, kF_f21, hIv20, hCf21, hRf21, hk0_v20, hk1_v20, hk2_v20, hk3_v20, hk4_v20, hk5_v20, hk8_v20, hk9_v20, hk10_v20, hk13_v20, hk14_v20, hk15_v20, hk17_v20, hk18_v20, hk24_v20, hk25_v20, hk35_v20, hk36_v20, hk38_v20, hk39_v20⟩ := hw
          have hM_v20 : KV [] v20 v := KV.tr kV_v20 hM_v8 rfl
          have hA_f21 : KF [7, 8, 24] f21 f := KF.tr kF_f21 hA_f17 rfl
          have hP : va_P (dC, dI) vwCl (YW cy y0 r v20 f21 w22 g23) H := hP
          have hD : va_D A (YW cy y0 r v20 f21 w22 g23) := hD
          have hUv20 : (v20 35).toInt + (v20 36).toInt ≤ 40 := hIv20.2
          have hq0_v20 : v20 0 = (v 0) := hk0_v20.trans hq0_v8
          have hq1_v20 : v20 1 = (v 1) := hk1_v20.trans hq1_v8
          have hq2_v20 : v20 2 = (v 2) := hk2_v20.trans hq2_v8
          have hq3_v20 : v20 3 = (v 3) := hk3_v20.trans hq3_v8
          have hq4_v20 : v20 4 = (v 4) := hk4_v20.trans hq4_v8
          have hq5_v20 : v20 5 = (v 5) := hk5_v20.trans hq5_v8
          have hq8_v20 : v20 8 = (v 8) := hk8_v20.trans hq8_v8
          have hq9_v20 : v20 9 = (v 9) := hk9_v20.trans hq9_v8
          have zq9_v20 := congrArg Int32.toInt hq9_v20
          have hq10_v20 : v20 10 = (v 10) := hk10_v20.trans hq10_v8
          have hq13_v20 : v20 13 = (v 13) := hk13_v20.trans hq13_v8
          have hq14_v20 : v20 14 = (v 14) := hk14_v20.trans hq14_v8
          have hq15_v20 : v20 15 = (v 15) := hk15_v20.trans hq15_v8
          have hq17_v20 : v20 17 = (v 17) := hk17_v20.trans hq17_v8
          have hq18_v20 : v20 18 = (v 18) := hk18_v20.trans hq18_v8
          have hq24_v20 : v20 24 = (v 24) := hk24_v20.trans hq24_v8
          have hq25_v20 : v20 25 = (v 25) := hk25_v20.trans hq25_v8
          have hq35_v20 : v20 35 = (v 35) := hk35_v20.trans hq35_v8
          have hq36_v20 : v20 36 = (v 36) := hk36_v20.trans hq36_v8
          have hq38_v20 : v20 38 = (v 38) := hk38_v20.trans hq38_v8
          have hq39_v20 : v20 39 = (v 39) := hk39_v20.trans hq39_v8
          refine cbSi (n := 1) (rest := []) hx hb hml hown hts hE hP hD hS hA (sY_X11_members_1 l dC dI cy y0 r r18 v20 f21 w22 g23 hIv20 hCf21 hRf21 ) k_1900 k_1901 k_114 k_1902 (by decide +kernel) ⟨Nat.le_of_ble_eq_true rfl, Nat.le_of_ble_eq_true rfl⟩ (rfl) hl.1 rfl (Nat.le_of_ble_eq_true rfl) dX11_turning_50 (fun r24 u H locs hw hP hD hS => ?_)
          refine lv_istore (lv' := [(4, .int r24), (3, .int l3_1), (2, .int l2_1), (1, .int l1_1), (0, .ref y0)]) hx hb dX11_turning_53 hl (by decide) rfl (fun ls hl => ?_)
          refine lv_iload hx hb dX11_turning_55 (lv_at hl 0 rfl) ?_
          refine lv_iload_n hx hb dX11_turning_57 rfl (lv_at hl 2 rfl) ?_
          refine lv_icmp_gt (tgt := 64) hx hb dX11_turning_58 (by decide) (fun c25 => ?_) (fun c25 => ?_)
          · skip
            have zc25 : l2_1.toInt < r24.toInt := by rw [fa_lt] at c25; exact c25
            have rg26 := fb_rng r24
            have rg27 := fb_rng l2_1
            refine lv_iload_n hx hb dX11_turning_64 rfl (lv_at hl 1 rfl) ?_
            refine lv_istore_n (lv' := [(1, .int l3_1), (4, .int r24), (3, .int l3_1), (2, .int l2_1), (0, .ref y0)]) hx hb dX11_turning_65 rfl hl (by decide) rfl (fun ls hl => ?_)
            refine lv_iload hx hb dX11_turning_66 (lv_at hl 1 rfl) ?_
            refine lv_istore_n (lv' := [(2, .int r24), (1, .int l3_1), (4, .int r24), (3, .int l3_1), (0, .ref y0)]) hx hb dX11_turning_68 rfl hl (by decide) rfl (fun ls hl => ?_)
            obtain ⟨t28, et28⟩ : ∃ y : Int32, y = l3_1 + 1 := ⟨_, rfl⟩
            have zt28 : t28.toInt = l3_1.toInt + 1 := by rw [et28]; exact add_i rfl (by decide) (by omega) (by omega)
            refine lv_iinc (v := t28) (lv' := [(3, .int t28), (2, .int r24), (1, .int l3_1), (4, .int r24), (0, .ref y0)]) hx hb dX11_turning_69 hl (k := 3) rfl (by rw [et28]; rfl) (by decide) rfl (fun ls hl => ?_)
            refine lv_goto (tgt := 6) hx hb dX11_turning_72 (by decide) ?_
            have rg29 := fb_rng t28
            exact ih1 l3_1 r24 t28 v20 f21 w22 g23 hIv20 hCf21 hRf21 hq0_v20 hq1_v20 hq2_v20 hq3_v20 hq4_v20 hq5_v20 hq8_v20 hq9_v20 hq10_v20 hq13_v20 hq14_v20 hq15_v20 hq17_v20 hq18_v20 hq24_v20 hq25_v20 hq35_v20 hq36_v20 hq38_v20 hq39_v20 ⟨show (0 : Int) ≤ t28.toInt by omega, show t28.toInt ≤ (2147483647 : Int) by omega⟩ hM_v20 hA_f21 (by show (2147483647 - t28.toInt).toNat < n1; omega) _ _ _ hP hD hS (lv_sub hl [0, 1, 2, 4] rfl)
          · skip
            have zc25 : ¬ (l2_1.toInt < r24.toInt) := by rw [fa_lt] at c25; exact c25
            have rg30 := fb_rng r24
            have rg31 := fb_rng l2_1
            refine lv_goto (tgt := 69) hx hb dX11_turning_61 (by decide) ?_
            obtain ⟨t32, et32⟩ : ∃ y : Int32, y = l3_1 + 1 := ⟨_, rfl⟩
            have zt32 : t32.toInt = l3_1.toInt + 1 := by rw [et32]; exact add_i rfl (by decide) (by omega) (by omega)
            refine lv_iinc (v := t32) (lv' := [(3, .int t32), (4, .int r24), (2, .int l2_1), (1, .int l1_1), (0, .ref y0)]) hx hb dX11_turning_69 hl (k := 1) rfl (by rw [et32]; rfl) (by decide) rfl (fun ls hl => ?_)
            refine lv_goto (tgt := 6) hx hb dX11_turning_72 (by decide) ?_
            have rg33 := fb_rng t32
            exact ih1 l1_1 l2_1 t32 v20 f21 w22 g23 hIv20 hCf21 hRf21 hq0_v20 hq1_v20 hq2_v20 hq3_v20 hq4_v20 hq5_v20 hq8_v20 hq9_v20 hq10_v20 hq13_v20 hq14_v20 hq15_v20 hq17_v20 hq18_v20 hq24_v20 hq25_v20 hq35_v20 hq36_v20 hq38_v20 hq39_v20 ⟨show (0 : Int) ≤ t32.toInt by omega, show t32.toInt ≤ (2147483647 : Int) by omega⟩ hM_v20 hA_f21 (by show (2147483647 - t32.toInt).toNat < n1; omega) _ _ _ hP hD hS (lv_sub hl [0, 2, 3, 4] rfl)
        · skip
          have zc15 : t14.toInt = 1 := by rw [fa_eq, show (1 : Int32).toInt = 1 from by decide] at c15; exact c15
          refine lv_goto (tgt := 69) hx hb dX11_turning_33 (by decide) ?_
          obtain ⟨t34, et34⟩ : ∃ y : Int32, y = l3_1 + 1 := ⟨_, rfl⟩
          have zt34 : t34.toInt = l3_1.toInt + 1 := by rw [et34]; exact add_i rfl (by decide) (by omega) (by omega)
          refine lv_iinc (v := t34) (lv' := [(3, .int t34), (2, .int l2_1), (1, .int l1_1), (0, .ref y0)]) hx hb dX11_turning_69 hl (k := 0) rfl (by rw [et34]; rfl) (by decide) rfl (fun ls hl => ?_)
          refine lv_goto (tgt := 6) hx hb dX11_turning_72 (by decide) ?_
          have rg35 := fb_rng t34
          exact ih1 l1_1 l2_1 t34 v8 f9 w10 g11 hIv8 hCf9 hRf9 hq0_v8 hq1_v8 hq2_v8 hq3_v8 hq4_v8 hq5_v8 hq8_v8 hq9_v8 hq10_v8 hq13_v8 hq14_v8 hq15_v8 hq17_v8 hq18_v8 hq24_v8 hq25_v8 hq35_v8 hq36_v8 hq38_v8 hq39_v8 ⟨show (0 : Int) ≤ t34.toInt by omega, show t34.toInt ≤ (2147483647 : Int) by omega⟩ hM_v8 hA_f9 (by show (2147483647 - t34.toInt).toNat < n1; omega) _ _ _ hP hD hS (lv_sub hl [0, 1, 2, 3] rfl)
  exact lp1 _ (-1) (-1) 0 v f w g hIv hCf hRf rfl rfl rfl rfl rfl rfl rfl rfl rfl rfl rfl rfl rfl rfl rfl rfl rfl rfl rfl rfl ⟨by decide, by decide⟩ hM_v hA_f (Nat.lt_succ_self _) _ _ _ hP hD hS (lv_sub hl [0, 1, 2, 3] rfl)
