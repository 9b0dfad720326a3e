set_option maxHeartbeats 4000000 in
set_option maxRecDepth 100000 in
theorem sX_X6_refuse_1 (l : Launch) (dC : Nat → ClassId) (dI : Nat → Nat → Nat) (cy : Nat → ClassId) (x0 : Nat) (x : Nat → Nat)  (v : Nat → Int32) (f : Nat → Nat → Int32) (hIv : XI v)  : ctI l (dC, dI) cy yX6_refuse cX6_refuse 1 .boolean 2 81 0 0 ((Nat → Int32) × (Nat → Nat → Int32)) [.ref (x 2)] (XW cy x0 x v f) (fun r u => XI u.1 ∧ u.1 0 = v 0 ∧ u.1 1 = v 1 ∧ u.1 9 = v 9 ∧ u.1 10 = v 10 ∧ u.1 31 = v 31 ∧ u.1 32 = v 32 ∧ ((r = 1) ∨ (r = 0))) (fun u => XW cy x0 x u.1 u.2) := by
  refine ctI_of (by decide) (Nat.le_of_ble_eq_true rfl) (fun p e s m below meth c A ls Q hx hb hml hts hown hE hP hD hA hl ret => ?_)
  have hown : s.vm.findClass RX6 = some m.cls := hown
  have hS : va_S A s.heap s.heap [] := va_S.rf
  have hl : lv_has ls 1 [(0, .ref (x 2))] := hl
  refine lv_aload_n hx hb dX6_refuse_0 rfl (lv_at hl 0 rfl) ?_
  refine lv_aload_n hx hb dX6_refuse_1 rfl (lv_at hl 0 rfl) ?_
  refine va_get (D := (dC, dI)) (ci := 6) (v := .ref (x 0)) (C := RX6) (T := TX6) (N := 7) hx hb hts inB_6 hown hE.1 hP 3 rfl rfl 0 (by decide) (hts _ k_265) (fun _ h9 => h9) rfl dX6_refuse_2 ?_
  refine va_getN (D := (dC, dI)) (ci := 9) (v := .int (v 2)) (C := RX9) (T := TX9) (N := 6) hx hb hts inB_9 hown hE.1 hP 1 rfl rfl 2 (by decide) (va_Nw.use rfl (hE.2 _ k_139)) (fun _ h9 => h9) rfl dX6_refuse_5 ?_
  refine lv_iconst (v := 1) hx hb dX6_refuse_8 (by decide) ?_
  refine lv_icmp_ne (tgt := 16) hx hb dX6_refuse_9 (by decide) (fun c1 => ?_) (fun c1 => ?_)
  · skip
    have zc1 : ¬ ((v 2).toInt = 1) := by rw [fa_eq, show (1 : Int32).toInt = 1 from by decide] at c1; exact c1
    refine lv_iconst (v := 2) hx hb dX6_refuse_16 (by decide) ?_
    refine cbVi (n := 1) (rest := []) hx hb hml hown hts hE hP hD hS hA (sX_X6_refuseAs_1 l dC dI cy x0 x 2 v f hIv ) k_695 k_697 k_7 k_103 k_698 (by decide +kernel) ⟨Nat.le_of_ble_eq_true rfl, Nat.le_of_ble_eq_true rfl⟩ 3 6 rfl rfl (rfl) hl.1 rfl (Nat.le_of_ble_eq_true rfl) dX6_refuse_17 (fun r2 u H locs hw hP hD hS => ?_)
    obtain ⟨v3, f4⟩ := u
    obtain ⟨hIv3, hk0_v3, hk1_v3, hk9_v3, hk10_v3, hk31_v3, hk32_v3, hw⟩ := hw
    have hP : va_P (dC, dI) vwCl (XW cy x0 x v3 f4) H := hP
    have hD : va_D A (XW cy x0 x v3 f4) := hD
    have hq0_v3 : v3 0 = (v 0) := hk0_v3
    have hq1_v3 : v3 1 = (v 1) := hk1_v3
    have hq9_v3 : v3 9 = (v 9) := hk9_v3
    have hq10_v3 : v3 10 = (v 10) := hk10_v3
    have hq31_v3 : v3 31 = (v 31) := hk31_v3
    have hq32_v3 : v3 32 = (v 32) := hk32_v3
    rcases hw with ⟨g5⟩ | ⟨g5⟩
    · skip
      subst g5
      exact ret 1 (v3, f4) _ _ _ _ _ _ rfl ⟨hIv3, hk0_v3, hk1_v3, hk9_v3, hk10_v3, hk31_v3, hk32_v3, (Or.inl rfl)⟩ hP hD hS dX6_refuse_20 (Nat.le_refl _) (Nat.le_refl _)
    · skip
      subst g5
      exact ret 0 (v3, f4) _ _ _ _ _ _ rfl ⟨hIv3, hk0_v3, hk1_v3, hk9_v3, hk10_v3, hk31_v3, hk32_v3, (Or.inr rfl)⟩ hP hD hS dX6_refuse_20 (Nat.le_refl _) (Nat.le_refl _)
  · skip
    have zc1 : (v 2).toInt = 1 := by rw [fa_eq, show (1 : Int32).toInt = 1 from by decide] at c1; exact c1
    refine lv_iconst (v := 1) hx hb dX6_refuse_12 (by decide) ?_
    refine lv_goto (tgt := 17) hx hb dX6_refuse_13 (by decide) ?_
    refine cbVi (n := 1) (rest := []) hx hb hml hown hts hE hP hD hS hA (sX_X6_refuseAs_1 l dC dI cy x0 x 1 v f hIv ) k_695 k_697 k_7 k_103 k_698 (by decide +kernel) ⟨Nat.le_of_ble_eq_true rfl, Nat.le_of_ble_eq_true rfl⟩ 3 6 rfl rfl (rfl) hl.1 rfl (Nat.le_of_ble_eq_true rfl) dX6_refuse_17 (fun r6 u H locs hw hP hD hS => ?_)
    obtain ⟨v7, f8⟩ := u
    obtain ⟨hIv7, hk0_v7, hk1_v7, hk9_v7, hk10_v7, hk31_v7, hk32_v7, hw⟩ := hw
    have hP : va_P (dC, dI) vwCl (XW cy x0 x v7 f8) H := hP
    have hD : va_D A (XW cy x0 x v7 f8) := hD
    have hq0_v7 : v7 0 = (v 0) := hk0_v7
    have hq1_v7 : v7 1 = (v 1) := hk1_v7
    have hq9_v7 : v7 9 = (v 9) := hk9_v7
    have hq10_v7 : v7 10 = (v 10) := hk10_v7
    have hq31_v7 : v7 31 = (v 31) := hk31_v7
    have hq32_v7 : v7 32 = (v 32) := hk32_v7
    rcases hw with ⟨g9⟩ | ⟨g9⟩
    · skip
      subst g9
      exact ret 1 (v7, f8) _ _ _ _ _ _ rfl ⟨hIv7, hk0_v7, hk1_v7, hk9_v7, hk10_v7, hk31_v7, hk32_v7, (Or.inl rfl)⟩ hP hD hS dX6_refuse_20 (Nat.le_refl _) (Nat.le_refl _)
    · skip
      subst g9
      exact ret 0 (v7, f8) _ _ _ _ _ _ rfl ⟨hIv7, hk0_v7, hk1_v7, hk9_v7, hk10_v7, hk31_v7, hk32_v7, (Or.inr rfl)⟩ hP hD hS dX6_refuse_20 (Nat.le_refl _) (Nat.le_refl _)
set_option maxHeartbeats 4000000 in
set_option maxRecDepth 100000 in
theorem sX_X6_name_1 (l : Launch) (dC : Nat → ClassId) (dI : Nat → Nat → Nat) (cy : Nat → ClassId) (x0 : Nat) (x : Nat → Nat) (p2 : Int32) (v : Nat → Int32) (f : Nat → Nat → Int32) (hIv : XI v)  : ctIS l (dC, dI) cy yX6_name cX6_name 4 .boolean 7 191 0 0 ((Nat → Int32) × (Nat → Nat → Int32)) [.ref (x 2), .ref (x 11), .int p2] (XW cy x0 x v f) (fun r u => XI u.1 ∧ u.1 0 = v 0 ∧ u.1 1 = v 1 ∧ u.1 9 = v 9 ∧ u.1 10 = v 10 ∧ u.1 31 = v 31 ∧ u.1 32 = v 32 ∧ ((r = 1) ∨ (r = 0))) (fun u => XW cy x0 x u.1 u.2) := by
  refine ctIS_of (by decide) (Nat.le_of_ble_eq_true rfl) (fun p e s m below meth c A ls Q hx hb hml hts hown hE hF hT hP hD hA hl ret => ?_)
  have hown : s.vm.findClass RX6 = some m.cls := hown
  have hS : va_S A s.heap s.heap [] := va_S.rf
  have hl : lv_has ls 4 [(0, .ref (x 2)), (1, .ref (x 11)), (2, .int p2)] := hl
  refine lv_aload_n hx hb dX6_name_0 rfl (lv_at hl 0 rfl) ?_
  refine va_get (D := (dC, dI)) (ci := 6) (v := .ref (x 0)) (C := RX6) (T := TX6) (N := 7) hx hb hts inB_6 hown hE.1 hP 3 rfl rfl 0 (by decide) (hts _ k_265) (fun _ h9 => h9) rfl dX6_name_1 ?_
  refine va_getN (D := (dC, dI)) (ci := 9) (v := .int (v 2)) (C := RX9) (T := TX9) (N := 6) hx hb hts inB_9 hown hE.1 hP 1 rfl rfl 2 (by decide) (va_Nw.use rfl (hE.2 _ k_139)) (fun _ h9 => h9) rfl dX6_name_4 ?_
  refine lv_iconst (v := 3) hx hb dX6_name_7 (by decide) ?_
  refine lv_icmp_eq (tgt := 16) hx hb dX6_name_8 (by decide) (fun c1 => ?_) (fun c1 => ?_)
  · skip
    have zc1 : (v 2).toInt = 3 := by rw [fa_eq, show (3 : Int32).toInt = 3 from by decide] at c1; exact c1
    refine lv_iconst (v := 0) hx hb dX6_name_16 (by decide) ?_
    refine lv_istore_n (lv' := [(3, .int 0), (0, .ref (x 2)), (1, .ref (x 11)), (2, .int p2)]) hx hb dX6_name_17 rfl hl (by decide) rfl (fun ls hl => ?_)
    have lp2 : ∀ (n2 : Nat) (l3_2 : Int32) (v2 : Nat → Int32) (f2 : Nat → Nat → Int32), XI v2 → v2 0 = (v 0) → v2 1 = (v 1) → v2 9 = (v 9) → v2 10 = (v 10) → v2 31 = (v 31) → v2 32 = (v 32) → ((0 : Int) ≤ l3_2.toInt ∧ l3_2.toInt ≤ 2147483647) → (2147483647 - l3_2.toInt).toNat < n2 → ∀ (H : Heap) (locs : List Loc) (ls : Array Slot), va_P (dC, dI) vwCl (XW cy x0 x v2 f2) H → va_D A (XW cy x0 x v2 f2) → va_S A s.heap H locs → lv_has ls 4 [(3, .int l3_2), (0, .ref (x 2)), (1, .ref (x 11)), (2, .int p2)] → W p l e { frames := 7, cells := 0, slots := 0, locals := 191 } s m ([.ref (x 2), .ref (x 11), .int p2] : List Value).toArray below meth c H locs 0 0 Q (F0 m 18 ls []) := by
      intro n2
      induction n2 with
      | zero => intro l3_2 v2 f2 hIv2 hq0_v2 hq1_v2 hq9_v2 hq10_v2 hq31_v2 hq32_v2 hr3_2 hm; exact absurd hm (Nat.not_lt_zero _)
      | succ n2 ih2 =>
        intro l3_2 v2 f2 hIv2 hq0_v2 hq1_v2 hq9_v2 hq10_v2 hq31_v2 hq32_v2 hr3_2 hm2 H locs ls hP hD hS hl
        refine lv_iload_n hx hb dX6_name_18 rfl (lv_at hl 0 rfl) ?_
        refine lv_iload_n hx hb dX6_name_19 rfl (lv_at hl 3 rfl) ?_
        refine lv_icmp_ge (tgt := 61) hx hb dX6_name_20 (by decide) (fun c3 => ?_) (fun c3 => ?_)
        · skip
          have zc3 : p2.toInt ≤ l3_2.toInt := by rw [fa_le] at c3; exact c3
          have rg4 := fb_rng l3_2
          have rg5 := fb_rng p2
          refine lv_iload_n hx hb dX6_name_61 rfl (lv_at hl 3 rfl) ?_
          refine lv_if_lt (tgt := 81) hx hb dX6_name_62 (by decide) (fun c6 => ?_) (fun c6 => ?_)
          · skip
            have zc6 : p2.toInt < 0 := by rw [fa_lt, show (0 : Int32).toInt = 0 from by decide] at c6; exact c6
            refine lv_aload_n hx hb dX6_name_81 rfl (lv_at hl 1 rfl) ?_
            refine va_get (D := (dC, dI)) (ci := 6) (v := .ref (x 0)) (C := RX6) (T := TX6) (N := 7) hx hb hts inB_6 hown hE.1 hP 3 rfl rfl 0 (by decide) (hts _ k_265) (fun _ h9 => h9) rfl dX6_name_82 ?_
            refine csVv (n := 0) (rest := []) hx hb hml hown hts hE hP hD hS hA hF hT (sX_X9_advance_1 l dC dI cy x0 x  v2 f2 hIv2 ) k_699 k_559 k_560 k_102 k_561 (by decide +kernel) ⟨Nat.le_of_ble_eq_true rfl, Nat.le_of_ble_eq_true rfl⟩ 1 9 rfl rfl (rfl) hl.1 rfl (Nat.le_of_ble_eq_true rfl) dX6_name_85 (fun u H locs hw hP hD hS => ?_)
            obtain ⟨v7, f8⟩ := u
            obtain ⟨hIv7, hk0_v7, hk1_v7, hk9_v7, hk10_v7, hk31_v7, hk32_v7⟩ := hw
            have hP : va_P (dC, dI) vwCl (XW cy x0 x v7 f8) H := hP
            have hD : va_D A (XW cy x0 x v7 f8) := hD
            have hq0_v7 : v7 0 = (v 0) := hk0_v7.trans hq0_v2
            have hq1_v7 : v7 1 = (v 1) := hk1_v7.trans hq1_v2
            have hq9_v7 : v7 9 = (v 9) := hk9_v7.trans hq9_v2
            have hq10_v7 : v7 10 = (v 10) := hk10_v7.trans hq10_v2
            have hq31_v7 : v7 31 = (v 31) := hk31_v7.trans hq31_v2
            have hq32_v7 : v7 32 = (v 32) := hk32_v7.trans hq32_v2
            refine lv_iconst (v := 1) hx hb dX6_name_88 (by decide) ?_
            exact ret 1 (v7, f8) _ _ _ _ _ _ rfl ⟨hIv7, (hk0_v7.trans (show v2 0 = v 0 from hq0_v2)), (hk1_v7.trans (show v2 1 = v 1 from hq1_v2)), (hk9_v7.trans (show v2 9 = v 9 from hq9_v2)), (hk10_v7.trans (show v2 10 = v 10 from hq10_v2)), (hk31_v7.trans (show v2 31 = v 31 from hq31_v2)), (hk32_v7.trans (show v2 32 = v 32 from hq32_v2)), (Or.inl rfl)⟩ hP hD hS dX6_name_89 (Nat.le_refl _) (Nat.le_refl _)
          · skip
            have zc6 : ¬ (p2.toInt < 0) := by rw [fa_lt, show (0 : Int32).toInt = 0 from by decide] at c6; exact c6
            refine lv_iload_n hx hb dX6_name_65 rfl (lv_at hl 3 rfl) ?_
            refine lv_aload_n hx hb dX6_name_66 rfl (lv_at hl 2 rfl) ?_
            refine va_alen (v := 6) hx hb hE.1 hP 12 1 rfl rfl rfl dX6_name_67 ?_
            refine lv_icmp_ge (tgt := 81) hx hb dX6_name_68 (by decide) (fun c9 => ?_) (fun c9 => ?_)
            · skip
              have zc9 : 6 ≤ p2.toInt := by rw [fa_le, show (6 : Int32).toInt = 6 from by decide] at c9; exact c9
              refine lv_aload_n hx hb dX6_name_81 rfl (lv_at hl 1 rfl) ?_
              refine va_get (D := (dC, dI)) (ci := 6) (v := .ref (x 0)) (C := RX6) (T := TX6) (N := 7) hx hb hts inB_6 hown hE.1 hP 3 rfl rfl 0 (by decide) (hts _ k_265) (fun _ h9 => h9) rfl dX6_name_82 ?_
              refine csVv (n := 0) (rest := []) hx hb hml hown hts hE hP hD hS hA hF hT (sX_X9_advance_1 l dC dI cy x0 x  v2 f2 hIv2 ) k_699 k_559 k_560 k_102 k_561 (by decide +kernel) ⟨Nat.le_of_ble_eq_true rfl, Nat.le_of_ble_eq_true rfl⟩ 1 9 rfl rfl (rfl) hl.1 rfl (Nat.le_of_ble_eq_true rfl) dX6_name_85 (fun u H locs hw hP hD hS => ?_)
              obtain ⟨v10, f11⟩ := u
              obtain ⟨hIv10, hk0_v10, hk1_v10, hk9_v10, hk10_v10, hk31_v10, hk32_v10⟩ := hw
              have hP : va_P (dC, dI) vwCl (XW cy x0 x v10 f11) H := hP
              have hD : va_D A (XW cy x0 x v10 f11) := hD
              have hq0_v10 : v10 0 = (v 0) := hk0_v10.trans hq0_v2
              have hq1_v10 : v10 1 = (v 1) := hk1_v10.trans hq1_v2
              have hq9_v10 : v10 9 = (v 9) := hk9_v10.trans hq9_v2
              have hq10_v10 : v10 10 = (v 10) := hk10_v10.trans hq10_v2
              have hq31_v10 : v10 31 = (v 31) := hk31_v10.trans hq31_v2
              have hq32_v10 : v10 32 = (v 32) := hk32_v10.trans hq32_v2
              refine lv_iconst (v := 1) hx hb dX6_name_88 (by decide) ?_
              exact ret 1 (v10, f11) _ _ _ _ _ _ rfl ⟨hIv10, (hk0_v10.trans (show v2 0 = v 0 from hq0_v2)), (hk1_v10.trans (show v2 1 = v 1 from hq1_v2)), (hk9_v10.trans (show v2 9 = v 9 from hq9_v2)), (hk10_v10.trans (show v2 10 = v 10 from hq10_v2)), (hk31_v10.trans (show v2 31 = v 31 from hq31_v2)), (hk32_v10.trans (show v2 32 = v 32 from hq32_v2)), (Or.inl rfl)⟩ hP hD hS dX6_name_89 (Nat.le_refl _) (Nat.le_refl _)
            · skip
              have zc9 : ¬ (6 ≤ p2.toInt) := by rw [fa_le, show (6 : Int32).toInt = 6 from by decide] at c9; exact c9
              refine lv_aload_n hx hb dX6_name_71 rfl (lv_at hl 2 rfl) ?_
              refine lv_iload_n hx hb dX6_name_72 rfl (lv_at hl 3 rfl) ?_
              refine lv_aload_n hx hb dX6_name_73 rfl (lv_at hl 1 rfl) ?_
              refine va_get (D := (dC, dI)) (ci := 6) (v := .ref (x 0)) (C := RX6) (T := TX6) (N := 7) hx hb hts inB_6 hown hE.1 hP 3 rfl rfl 0 (by decide) (hts _ k_265) (fun _ h9 => h9) rfl dX6_name_74 ?_
              refine va_getN (D := (dC, dI)) (ci := 9) (v := .int (v2 3)) (C := RX9) (T := TX9) (N := 6) hx hb hts inB_9 hown hE.1 hP 1 rfl rfl 3 (by decide) (va_Nw.use rfl (hE.2 _ k_142)) (fun _ h9 => h9) rfl dX6_name_77 ?_
              have b3_v2 : 0 ≤ (v2 3).toInt ∧ (v2 3).toInt ≤ 1600 := XI.b hIv2 3 (by decide)
              refine stI hx hb hE hP hD hS 12 rfl (vp_in_iff.mpr ⟨by omega, by omega⟩) rfl dX6_name_80 (fun H locs hP hD hS => ?_)
              obtain ⟨f12, hP, hD⟩ : ∃ fz9, va_P (dC, dI) vwCl (XW cy x0 x v2 fz9) H ∧ va_D A (XW cy x0 x v2 fz9) := ⟨upd2 f2 7 (upd (f2 7) p2.toNatClampNeg (v2 3)), hP, hD⟩
              refine lv_aload_n hx hb dX6_name_81 rfl (lv_at hl 1 rfl) ?_
              refine va_get (D := (dC, dI)) (ci := 6) (v := .ref (x 0)) (C := RX6) (T := TX6) (N := 7) hx hb hts inB_6 hown hE.1 hP 3 rfl rfl 0 (by decide) (hts _ k_265) (fun _ h9 => h9) rfl dX6_name_82 ?_
              refine csVv (n := 0) (rest := []) hx hb hml hown hts hE hP hD hS hA hF hT (sX_X9_advance_1 l dC dI cy x0 x  v2 f12 hIv2 ) k_699 k_559 k_560 k_102 k_561 (by decide +kernel) ⟨Nat.le_of_ble_eq_true rfl, Nat.le_of_ble_eq_true rfl⟩ 1 9 rfl rfl (rfl) hl.1 rfl (Nat.le_of_ble_eq_true rfl) dX6_name_85 (fun u H locs hw hP hD hS => ?_)
              obtain ⟨v13, f14⟩ := u
              obtain ⟨hIv13, hk0_v13, hk1_v13, hk9_v13, hk10_v13, hk31_v13, hk32_v13⟩ := hw
              have hP : va_P (dC, dI) vwCl (XW cy x0 x v13 f14) H := hP
              have hD : va_D A (XW cy x0 x v13 f14) := hD
              have hq0_v13 : v13 0 = (v 0) := hk0_v13.trans hq0_v2
              have hq1_v13 : v13 1 = (v 1) := hk1_v13.trans hq1_v2
              have hq9_v13 : v13 9 = (v 9) := hk9_v13.trans hq9_v2
              have hq10_v13 : v13 10 = (v 10) := hk10_v13.trans hq10_v2
              have hq31_v13 : v13 31 = (v 31) := hk31_v13.trans hq31_v2
              have hq32_v13 : v13 32 = (v 32) := hk32_v13.trans hq32_v2
              refine lv_iconst (v := 1) hx hb dX6_name_88 (by decide) ?_
              exact ret 1 (v13, f14) _ _ _ _ _ _ rfl ⟨hIv13, (hk0_v13.trans (show v2 0 = v 0 from hq0_v2)), (hk1_v13.trans (show v2 1 = v 1 from hq1_v2)), (hk9_v13.trans (show v2 9 = v 9 from hq9_v2)), (hk10_v13.trans (show v2 10 = v 10 from hq10_v2)), (hk31_v13.trans (show v2 31 = v 31 from hq31_v2)), (hk32_v13.trans (show v2 32 = v 32 from hq32_v2)), (Or.inl rfl)⟩ hP hD hS dX6_name_89 (Nat.le_refl _) (Nat.le_refl _)
        · skip
          have zc3 : ¬ (p2.toInt ≤ l3_2.toInt) := by rw [fa_le] at c3; exact c3
          have rg15 := fb_rng l3_2
          have rg16 := fb_rng p2
          refine lv_iload_n hx hb dX6_name_23 rfl (lv_at hl 0 rfl) ?_
          refine lv_aload_n hx hb dX6_name_24 rfl (lv_at hl 2 rfl) ?_
          refine va_alen (v := 6) hx hb hE.1 hP 12 1 rfl rfl rfl dX6_name_25 ?_
          refine lv_icmp_ge (tgt := 61) hx hb dX6_name_26 (by decide) (fun c17 => ?_) (fun c17 => ?_)
          · skip
            have zc17 : 6 ≤ l3_2.toInt := by rw [fa_le, show (6 : Int32).toInt = 6 from by decide] at c17; exact c17
            refine lv_iload_n hx hb dX6_name_61 rfl (lv_at hl 3 rfl) ?_
            refine lv_if_lt (tgt := 81) hx hb dX6_name_62 (by decide) (fun c18 => ?_) (fun c18 => ?_)
            · skip
              have zc18 : p2.toInt < 0 := by rw [fa_lt, show (0 : Int32).toInt = 0 from by decide] at c18; exact c18
              refine lv_aload_n hx hb dX6_name_81 rfl (lv_at hl 1 rfl) ?_
              refine va_get (D := (dC, dI)) (ci := 6) (v := .ref (x 0)) (C := RX6) (T := TX6) (N := 7) hx hb hts inB_6 hown hE.1 hP 3 rfl rfl 0 (by decide) (hts _ k_265) (fun _ h9 => h9) rfl dX6_name_82 ?_
              refine csVv (n := 0) (rest := []) hx hb hml hown hts hE hP hD hS hA hF hT (sX_X9_advance_1 l dC dI cy x0 x  v2 f2 hIv2 ) k_699 k_559 k_560 k_102 k_561 (by decide +kernel) ⟨Nat.le_of_ble_eq_true rfl, Nat.le_of_ble_eq_true rfl⟩ 1 9 rfl rfl (rfl) hl.1 rfl (Nat.le_of_ble_eq_true rfl) dX6_name_85 (fun u H locs hw hP hD hS => ?_)
              obtain ⟨v19, f20⟩ := u
              obtain ⟨hIv19, hk0_v19, hk1_v19, hk9_v19, hk10_v19, hk31_v19, hk32_v19⟩ := hw
              have hP : va_P (dC, dI) vwCl (XW cy x0 x v19 f20) H := hP
              have hD : va_D A (XW cy x0 x v19 f20) := hD
              have hq0_v19 : v19 0 = (v 0) := hk0_v19.trans hq0_v2
              have hq1_v19 : v19 1 = (v 1) := hk1_v19.trans hq1_v2
              have hq9_v19 : v19 9 = (v 9) := hk9_v19.trans hq9_v2
              have hq10_v19 : v19 10 = (v 10) := hk10_v19.trans hq10_v2
              have hq31_v19 : v19 31 = (v 31) := hk31_v19.trans hq31_v2
              have hq32_v19 : v19 32 = (v 32) := hk32_v19.trans hq32_v2
              refine lv_iconst (v := 1) hx hb dX6_name_88 (by decide) ?_
              exact ret 1 (v19, f20) _ _ _ _ _ _ rfl ⟨hIv19, (hk0_v19.trans (show v2 0 = v 0 from hq0_v2)), (hk1_v19.trans (show v2 1 = v 1 from hq1_v2)), (hk9_v19.trans (show v2 9 = v 9 from hq9_v2)), (hk10_v19.trans (show v2 10 = v 10 from hq10_v2)), (hk31_v19.trans (show v2 31 = v 31 from hq31_v2)), (hk32_v19.trans (show v2 32 = v 32 from hq32_v2)), (Or.inl rfl)⟩ hP hD hS dX6_name_89 (Nat.le_refl _) (Nat.le_refl _)
            · skip
              have zc18 : ¬ (p2.toInt < 0) := by rw [fa_lt, show (0 : Int32).toInt = 0 from by decide] at c18; exact c18
              refine lv_iload_n hx hb dX6_name_65 rfl (lv_at hl 3 rfl) ?_
              refine lv_aload_n hx hb dX6_name_66 rfl (lv_at hl 2 rfl) ?_
              refine va_alen (v := 6) hx hb hE.1 hP 12 1 rfl rfl rfl dX6_name_67 ?_
              refine lv_icmp_ge (tgt := 81) hx hb dX6_name_68 (by decide) (fun c21 => ?_) (fun c21 => ?_)
              · skip
                have zc21 : 6 ≤ p2.toInt := by rw [fa_le, show (6 : Int32).toInt = 6 from by decide] at c21; exact c21
                refine lv_aload_n hx hb dX6_name_81 rfl (lv_at hl 1 rfl) ?_
                refine va_get (D := (dC, dI)) (ci := 6) (v := .ref (x 0)) (C := RX6) (T := TX6) (N := 7) hx hb hts inB_6 hown hE.1 hP 3 rfl rfl 0 (by decide) (hts _ k_265) (fun _ h9 => h9) rfl dX6_name_82 ?_
                refine csVv (n := 0) (rest := []) hx hb hml hown hts hE hP hD hS hA hF hT (sX_X9_advance_1 l dC dI cy x0 x  v2 f2 hIv2 ) k_699 k_559 k_560 k_102 k_561 (by decide +kernel) ⟨Nat.le_of_ble_eq_true rfl, Nat.le_of_ble_eq_true rfl⟩ 1 9 rfl rfl (rfl) hl.1 rfl (Nat.le_of_ble_eq_true rfl) dX6_name_85 (fun u H locs hw hP hD hS => ?_)
                obtain ⟨v22, f23⟩ := u
                obtain ⟨hIv22, hk0_v22, hk1_v22, hk9_v22, hk10_v22, hk31_v22, hk32_v22⟩ := hw
                have hP : va_P (dC, dI) vwCl (XW cy x0 x v22 f23) H := hP
                have hD : va_D A (XW cy x0 x v22 f23) := hD
                have hq0_v22 : v22 0 = (v 0) := hk0_v22.trans hq0_v2
                have hq1_v22 : v22 1 = (v 1) := hk1_v22.trans hq1_v2
                have hq9_v22 : v22 9 = (v 9) := hk9_v22.trans hq9_v2
                have hq10_v22 : v22 10 = (v 10) := hk10_v22.trans hq10_v2
                have hq31_v22 : v22 31 = (v 31) := hk31_v22.trans hq31_v2
                have hq32_v22 : v22 32 = (v 32) := hk32_v22.trans hq32_v2
                refine lv_iconst (v := 1) hx hb dX6_name_88 (by decide) ?_
                exact ret 1 (v22, f23) _ _ _ _ _ _ rfl ⟨hIv22, (hk0_v22.trans (show v2 0 = v 0 from hq0_v2)), (hk1_v22.trans (show v2 1 = v 1 from hq1_v2)), (hk9_v22.trans (show v2 9 = v 9 from hq9_v2)), (hk10_v22.trans (show v2 10 = v 10 from hq10_v2)), (hk31_v22.trans (show v2 31 = v 31 from hq31_v2)), (hk32_v22.trans (show v2 32 = v 32 from hq32_v2)), (Or.inl rfl)⟩ hP hD hS dX6_name_89 (Nat.le_refl _) (Nat.le_refl _)
              · skip
                have zc21 : ¬ (6 ≤ p2.toInt) := by rw [fa_le, show (6 : Int32).toInt = 6 from by decide] at c21; exact c21
                refine lv_aload_n hx hb dX6_name_71 rfl (lv_at hl 2 rfl) ?_
                refine lv_iload_n hx hb dX6_name_72 rfl (lv_at hl 3 rfl) ?_
                refine lv_aload_n hx hb dX6_name_73 rfl (lv_at hl 1 rfl) ?_
                refine va_get (D := (dC, dI)) (ci := 6) (v := .ref (x 0)) (C := RX6) (T := TX6) (N := 7) hx hb hts inB_6 hown hE.1 hP 3 rfl rfl 0 (by decide) (hts _ k_265) (fun _ h9 => h9) rfl dX6_name_74 ?_
                refine va_getN (D := (dC, dI)) (ci := 9) (v := .int (v2 3)) (C := RX9) (T := TX9) (N := 6) hx hb hts inB_9 hown hE.1 hP 1 rfl rfl 3 (by decide) (va_Nw.use rfl (hE.2 _ k_142)) (fun _ h9 => h9) rfl dX6_name_77 ?_
                have b3_v2 : 0 ≤ (v2 3).toInt ∧ (v2 3).toInt ≤ 1600 := XI.b hIv2 3 (by decide)
                refine stI hx hb hE hP hD hS 12 rfl (vp_in_iff.mpr ⟨by omega, by omega⟩) rfl dX6_name_80 (fun H locs hP hD hS => ?_)
                obtain ⟨f24, hP, hD⟩ : ∃ fz9, va_P (dC, dI) vwCl (XW cy x0 x v2 fz9) H ∧ va_D A (XW cy x0 x v2 fz9) := ⟨upd2 f2 7 (upd (f2 7) p2.toNatClampNeg (v2 3)), hP, hD⟩
                refine lv_aload_n hx hb dX6_name_81 rfl (lv_at hl 1 rfl) ?_
                refine va_get (D := (dC, dI)) (ci := 6) (v := .ref (x 0)) (C := RX6) (T := TX6) (N := 7) hx hb hts inB_6 hown hE.1 hP 3 rfl rfl 0 (by decide) (hts _ k_265) (fun _ h9 => h9) rfl dX6_name_82 ?_
                refine csVv (n := 0) (rest := []) hx hb hml hown hts hE hP hD hS hA hF hT (sX_X9_advance_1 l dC dI cy x0 x  v2 f24 hIv2 ) k_699 k_559 k_560 k_102 k_561 (by decide +kernel) ⟨Nat.le_of_ble_eq_true rfl, Nat.le_of_ble_eq_true rfl⟩ 1 9 rfl rfl (rfl) hl.1 rfl (Nat.le_of_ble_eq_true rfl) dX6_name_85 (fun u H locs hw hP hD hS => ?_)
                obtain ⟨v25, f26⟩ := u
                obtain ⟨hIv25, hk0_v25, hk1_v25, hk9_v25, hk10_v25, hk31_v25, hk32_v25⟩ := hw
                have hP : va_P (dC, dI) vwCl (XW cy x0 x v25 f26) H := hP
                have hD : va_D A (XW cy x0 x v25 f26) := hD
                have hq0_v25 : v25 0 = (v 0) := hk0_v25.trans hq0_v2
                have hq1_v25 : v25 1 = (v 1) := hk1_v25.trans hq1_v2
                have hq9_v25 : v25 9 = (v 9) := hk9_v25.trans hq9_v2
                have hq10_v25 : v25 10 = (v 10) := hk10_v25.trans hq10_v2
                have hq31_v25 : v25 31 = (v 31) := hk31_v25.trans hq31_v2
                have hq32_v25 : v25 32 = (v 32) := hk32_v25.trans hq32_v2
                refine lv_iconst (v := 1) hx hb dX6_name_88 (by decide) ?_
                exact ret 1 (v25, f26) _ _ _ _ _ _ rfl ⟨hIv25, (hk0_v25.trans (show v2 0 = v 0 from hq0_v2)), (hk1_v25.trans (show v2 1 = v 1 from hq1_v2)), (hk9_v25.trans (show v2 9 = v 9 from hq9_v2)), (hk10_v25.trans (show v2 10 = v 10 from hq10_v2)), (hk31_v25.trans (show v2 31 = v 31 from hq31_v2)), (hk32_v25.trans (show v2 32 = v 32 from hq32_v2)), (Or.inl rfl)⟩ hP hD hS dX6_name_89 (Nat.le_refl _) (Nat.le_refl _)
          · skip
            have zc17 : ¬ (6 ≤ l3_2.toInt) := by rw [fa_le, show (6 : Int32).toInt = 6 from by decide] at c17; exact c17
            refine lv_aload_n hx hb dX6_name_29 rfl (lv_at hl 1 rfl) ?_
            refine va_get (D := (dC, dI)) (ci := 6) (v := .ref (x 0)) (C := RX6) (T := TX6) (N := 7) hx hb hts inB_6 hown hE.1 hP 3 rfl rfl 0 (by decide) (hts _ k_265) (fun _ h9 => h9) rfl dX6_name_30 ?_
            refine lv_aload_n hx hb dX6_name_33 rfl (lv_at hl 2 rfl) ?_
            refine lv_iload_n hx hb dX6_name_34 rfl (lv_at hl 0 rfl) ?_
            refine ldI hx hb hE hP 12 rfl (vp_in_iff.mpr ⟨by omega, by omega⟩) rfl rfl dX6_name_35 ?_
            refine lv_topi (fun t27 et27 => ?_)
            refine lv_aload_n hx hb dX6_name_36 rfl (lv_at hl 1 rfl) ?_
            refine va_get (D := (dC, dI)) (ci := 6) (v := .ref (x 0)) (C := RX6) (T := TX6) (N := 7) hx hb hts inB_6 hown hE.1 hP 3 rfl rfl 0 (by decide) (hts _ k_265) (fun _ h9 => h9) rfl dX6_name_37 ?_
            refine va_getN (D := (dC, dI)) (ci := 9) (v := .int (v2 3)) (C := RX9) (T := TX9) (N := 6) hx hb hts inB_9 hown hE.1 hP 1 rfl rfl 3 (by decide) (va_Nw.use rfl (hE.2 _ k_142)) (fun _ h9 => h9) rfl dX6_name_40 ?_
            have b3_v2 : 0 ≤ (v2 3).toInt ∧ (v2 3).toInt ≤ 1600 := XI.b hIv2 3 (by decide)
            refine cbVi (n := 2) (rest := []) hx hb hml hown hts hE hP hD hS hA (sX_X9_sameWord_1 l dC dI cy x0 x t27 (v2 3) v2 f2 hIv2 ) k_704 k_705 k_706 k_102 k_707 (by decide +kernel) ⟨Nat.le_of_ble_eq_true rfl, Nat.le_of_ble_eq_true rfl⟩ 1 9 rfl rfl (rfl) hl.1 rfl (Nat.le_of_ble_eq_true rfl) dX6_name_43 (fun r28 u H locs hw hP hD hS => ?_)
            rcases hw with ⟨g29⟩ | ⟨g29⟩
            · skip
              subst g29
              refine lv_if_eq (tgt := 55) hx hb dX6_name_46 (by decide) (fun c0 => absurd c0 (by decide)) (fun _ => ?_)
              refine lv_aload_n hx hb dX6_name_49 rfl (lv_at hl 1 rfl) ?_
              refine lv_iconst (v := 3) hx hb dX6_name_50 (by decide) ?_
              refine cbVi (n := 1) (rest := []) hx hb hml hown hts hE hP hD hS hA (sX_X6_refuseAs_1 l dC dI cy x0 x 3 v2 f2 hIv2 ) k_695 k_697 k_7 k_103 k_698 (by decide +kernel) ⟨Nat.le_of_ble_eq_true rfl, Nat.le_of_ble_eq_true rfl⟩ 3 6 rfl rfl (rfl) hl.1 rfl (Nat.le_of_ble_eq_true rfl) dX6_name_51 (fun r30 u H locs hw hP hD hS => ?_)
              obtain ⟨v31, f32⟩ := u
              obtain ⟨hIv31, hk0_v31, hk1_v31, hk9_v31, hk10_v31, hk31_v31, hk32_v31, hw⟩ := hw
              have hP : va_P (dC, dI) vwCl (XW cy x0 x v31 f32) H := hP
              have hD : va_D A (XW cy x0 x v31 f32) := hD
              have hq0_v31 : v31 0 = (v 0) := hk0_v31.trans hq0_v2
              have hq1_v31 : v31 1 = (v 1) := hk1_v31.trans hq1_v2
              have hq9_v31 : v31 9 = (v 9) := hk9_v31.trans hq9_v2
              have hq10_v31 : v31 10 = (v 10) := hk10_v31.trans hq10_v2
              have hq31_v31 : v31 31 = (v 31) := hk31_v31.trans hq31_v2
              have hq32_v31 : v31 32 = (v 32) := hk32_v31.trans hq32_v2
              rcases hw with ⟨g33⟩ | ⟨g33⟩
              · skip
                subst g33
                exact ret 1 (v31, f32) _ _ _ _ _ _ rfl ⟨hIv31, (hk0_v31.trans (show v2 0 = v 0 from hq0_v2)), (hk1_v31.trans (show v2 1 = v 1 from hq1_v2)), (hk9_v31.trans (show v2 9 = v 9 from hq9_v2)), (hk10_v31.trans (show v2 10 = v 10 from hq10_v2)), (hk31_v31.trans (show v2 31 = v 31 from hq31_v2)), (hk32_v31.trans (show v2 32 = v 32 from hq32_v2)), (Or.inl rfl)⟩ hP hD hS dX6_name_54 (Nat.le_refl _) (Nat.le_refl _)
              · skip
                subst g33
                exact ret 0 (v31, f32) _ _ _ _ _ _ rfl ⟨hIv31, (hk0_v31.trans (show v2 0 = v 0 from hq0_v2)), (hk1_v31.trans (show v2 1 = v 1 from hq1_v2)), (hk9_v31.trans (show v2 9 = v 9 from hq9_v2)), (hk10_v31.trans (show v2 10 = v 10 from hq10_v2)), (hk31_v31.trans (show v2 31 = v 31 from hq31_v2)), (hk32_v31.trans (show v2 32 = v 32 from hq32_v2)), (Or.inr rfl)⟩ hP hD hS dX6_name_54 (Nat.le_refl _) (Nat.le_refl _)
            · skip
              subst g29
              refine lv_if_eq (tgt := 55) hx hb dX6_name_46 (by decide) (fun _ => ?_) (fun c0 => absurd (by decide) c0)
              obtain ⟨t34, et34⟩ : ∃ y : Int32, y = l3_2 + 1 := ⟨_, rfl⟩
              have zt34 : t34.toInt = l3_2.toInt + 1 := by rw [et34]; exact add_i rfl (by decide) (by omega) (by omega)
              refine lv_iinc (v := t34) (lv' := [(3, .int t34), (0, .ref (x 2)), (1, .ref (x 11)), (2, .int p2)]) hx hb dX6_name_55 hl (k := 0) rfl (by rw [et34]; rfl) (by decide) rfl (fun ls hl => ?_)
              refine lv_goto (tgt := 18) hx hb dX6_name_58 (by decide) ?_
              have rg35 := fb_rng t34
              exact ih2 t34 v2 f2 hIv2 hq0_v2 hq1_v2 hq9_v2 hq10_v2 hq31_v2 hq32_v2 ⟨show (0 : Int) ≤ t34.toInt by omega, show t34.toInt ≤ (2147483647 : Int) by omega⟩ (by show (2147483647 - t34.toInt).toNat < n2; omega) _ _ _ hP hD hS (lv_sub hl [0, 1, 2, 3] rfl)
    exact lp2 _ 0 v f hIv rfl rfl rfl rfl rfl rfl ⟨by decide, by decide⟩ (Nat.lt_succ_self _) _ _ _ hP hD hS (lv_sub hl [0, 1, 2, 3] rfl)
  · skip
    have zc1 : ¬ ((v 2).toInt = 3) := by rw [fa_eq, show (3 : Int32).toInt = 3 from by decide] at c1; exact c1
    refine lv_aload_n hx hb dX6_name_11 rfl (lv_at hl 0 rfl) ?_
    refine cbVi (n := 0) (rest := []) hx hb hml hown hts hE hP hD hS hA (sX_X6_refuse_1 l dC dI cy x0 x  v f hIv ) k_691 k_693 k_6 k_103 k_694 (by decide +kernel) ⟨Nat.le_of_ble_eq_true rfl, Nat.le_of_ble_eq_true rfl⟩ 3 6 rfl rfl (rfl) hl.1 rfl (Nat.le_of_ble_eq_true rfl) dX6_name_12 (fun r36 u H locs hw hP hD hS => ?_)
    obtain ⟨v37, f38⟩ := u
    obtain ⟨hIv37, hk0_v37, hk1_v37, hk9_v37, hk10_v37, hk31_v37, hk32_v37, hw⟩ := hw
    have hP : va_P (dC, dI) vwCl (XW cy x0 x v37 f38) H := hP
    have hD : va_D A (XW cy x0 x v37 f38) := hD
    have hq0_v37 : v37 0 = (v 0) := hk0_v37
    have hq1_v37 : v37 1 = (v 1) := hk1_v37
    have hq9_v37 : v37 9 = (v 9) := hk9_v37
    have hq10_v37 : v37 10 = (v 10) := hk10_v37
    have hq31_v37 : v37 31 = (v 31) := hk31_v37
    have hq32_v37 : v37 32 = (v 32) := hk32_v37
    rcases hw with ⟨g39⟩ | ⟨g39⟩
    · skip
      subst g39
      exact ret 1 (v37, f38) _ _ _ _ _ _ rfl ⟨hIv37, hk0_v37, hk1_v37, hk9_v37, hk10_v37, hk31_v37, hk32_v37, (Or.inl rfl)⟩ hP hD hS dX6_name_15 (Nat.le_refl _) (Nat.le_refl _)
    · skip
      subst g39
      exact ret 0 (v37, f38) _ _ _ _ _ _ rfl ⟨hIv37, hk0_v37, hk1_v37, hk9_v37, hk10_v37, hk31_v37, hk32_v37, (Or.inr rfl)⟩ hP hD hS dX6_name_15 (Nat.le_refl _) (Nat.le_refl _)
set_option maxHeartbeats 4000000 in
set_option maxRecDepth 100000 in
theorem sX_X6_numbered_1 (l : Launch) (dC : Nat → ClassId) (dI : Nat → Nat → Nat) (cy : Nat → ClassId) (x0 : Nat) (x : Nat → Nat) (p1 : Int32) (v : Nat → Int32) (f : Nat → Nat → Int32) (hIv : XI v)  : ctIS l (dC, dI) cy yX6_numbered cX6_numbered 3 .int 7 191 0 0 ((Nat → Int32) × (Nat → Nat → Int32)) [.ref (x 2), .int p1] (XW cy x0 x v f) (fun r u => XI u.1 ∧ u.1 0 = v 0 ∧ u.1 1 = v 1 ∧ u.1 9 = v 9 ∧ u.1 10 = v 10 ∧ u.1 31 = v 31 ∧ u.1 32 = v 32) (fun u => XW cy x0 x u.1 u.2) := by
  refine ctIS_of (by decide) (Nat.le_of_ble_eq_true rfl) (fun p e s m below meth c A ls Q hx hb hml hts hown hE hF hT hP hD hA hl ret => ?_)
  have hown : s.vm.findClass RX6 = some m.cls := hown
  have hS : va_S A s.heap s.heap [] := va_S.rf
  have hl : lv_has ls 3 [(0, .ref (x 2)), (1, .int p1)] := hl
  refine lv_aload_n hx hb dX6_numbered_0 rfl (lv_at hl 0 rfl) ?_
  refine va_get (D := (dC, dI)) (ci := 6) (v := .ref (x 0)) (C := RX6) (T := TX6) (N := 7) hx hb hts inB_6 hown hE.1 hP 3 rfl rfl 0 (by decide) (hts _ k_265) (fun _ h9 => h9) rfl dX6_numbered_1 ?_
  refine va_getN (D := (dC, dI)) (ci := 9) (v := .int (v 5)) (C := RX9) (T := TX9) (N := 6) hx hb hts inB_9 hown hE.1 hP 1 rfl rfl 5 (by decide) (va_Nw.use rfl (hE.2 _ k_145)) (fun _ h9 => h9) rfl dX6_numbered_4 ?_
  refine lv_istore_n (lv' := [(2, .int (v 5)), (0, .ref (x 2)), (1, .int p1)]) hx hb dX6_numbered_7 rfl hl (by decide) rfl (fun ls hl => ?_)
  refine lv_aload_n hx hb dX6_numbered_8 rfl (lv_at hl 1 rfl) ?_
  refine va_get (D := (dC, dI)) (ci := 6) (v := .ref (x 0)) (C := RX6) (T := TX6) (N := 7) hx hb hts inB_6 hown hE.1 hP 3 rfl rfl 0 (by decide) (hts _ k_265) (fun _ h9 => h9) rfl dX6_numbered_9 ?_
  refine va_getN (D := (dC, dI)) (ci := 9) (v := .int (v 2)) (C := RX9) (T := TX9) (N := 6) hx hb hts inB_9 hown hE.1 hP 1 rfl rfl 2 (by decide) (va_Nw.use rfl (hE.2 _ k_139)) (fun _ h9 => h9) rfl dX6_numbered_12 ?_
  refine lv_iconst (v := 2) hx hb dX6_numbered_15 (by decide) ?_
  refine lv_icmp_eq (tgt := 26) hx hb dX6_numbered_16 (by decide) (fun c1 => ?_) (fun c1 => ?_)
  · skip
    have zc1 : (v 2).toInt = 2 := by rw [fa_eq, show (2 : Int32).toInt = 2 from by decide] at c1; exact c1
    refine lv_iload_n hx hb dX6_numbered_26 rfl (lv_at hl 0 rfl) ?_
    refine lv_iload_n hx hb dX6_numbered_27 rfl (lv_at hl 2 rfl) ?_
    refine lv_icmp_le (tgt := 39) hx hb dX6_numbered_28 (by decide) (fun c2 => ?_) (fun c2 => ?_)
    · skip
      have zc2 : (v 5).toInt ≤ p1.toInt := by rw [fa_le] at c2; exact c2
      have rg3 := fb_rng (v 5)
      have rg4 := fb_rng p1
      refine lv_aload_n hx hb dX6_numbered_39 rfl (lv_at hl 1 rfl) ?_
      refine va_get (D := (dC, dI)) (ci := 6) (v := .ref (x 0)) (C := RX6) (T := TX6) (N := 7) hx hb hts inB_6 hown hE.1 hP 3 rfl rfl 0 (by decide) (hts _ k_265) (fun _ h9 => h9) rfl dX6_numbered_40 ?_
      refine csVv (n := 0) (rest := []) hx hb hml hown hts hE hP hD hS hA hF hT (sX_X9_advance_1 l dC dI cy x0 x  v f hIv ) k_699 k_559 k_560 k_102 k_561 (by decide +kernel) ⟨Nat.le_of_ble_eq_true rfl, Nat.le_of_ble_eq_true rfl⟩ 1 9 rfl rfl (rfl) hl.1 rfl (Nat.le_of_ble_eq_true rfl) dX6_numbered_43 (fun u H locs hw hP hD hS => ?_)
      obtain ⟨v5, f6⟩ := u
      obtain ⟨hIv5, hk0_v5, hk1_v5, hk9_v5, hk10_v5, hk31_v5, hk32_v5⟩ := hw
      have hP : va_P (dC, dI) vwCl (XW cy x0 x v5 f6) H := hP
      have hD : va_D A (XW cy x0 x v5 f6) := hD
      have hq0_v5 : v5 0 = (v 0) := hk0_v5
      have hq1_v5 : v5 1 = (v 1) := hk1_v5
      have hq9_v5 : v5 9 = (v 9) := hk9_v5
      have hq10_v5 : v5 10 = (v 10) := hk10_v5
      have hq31_v5 : v5 31 = (v 31) := hk31_v5
      have hq32_v5 : v5 32 = (v 32) := hk32_v5
      refine lv_iload_n hx hb dX6_numbered_46 rfl (lv_at hl 0 rfl) ?_
      exact ret (v 5) (v5, f6) _ _ _ _ _ _ rfl ⟨hIv5, hk0_v5, hk1_v5, hk9_v5, hk10_v5, hk31_v5, hk32_v5⟩ hP hD hS dX6_numbered_47 (Nat.le_refl _) (Nat.le_refl _)
    · skip
      have zc2 : ¬ ((v 5).toInt ≤ p1.toInt) := by rw [fa_le] at c2; exact c2
      have rg7 := fb_rng (v 5)
      have rg8 := fb_rng p1
      refine lv_aload_n hx hb dX6_numbered_31 rfl (lv_at hl 1 rfl) ?_
      refine lv_iconst (v := 4) hx hb dX6_numbered_32 (by decide) ?_
      refine cbVi (n := 1) (rest := []) hx hb hml hown hts hE hP hD hS hA (sX_X6_refuseAs_1 l dC dI cy x0 x 4 v f hIv ) k_695 k_697 k_7 k_103 k_698 (by decide +kernel) ⟨Nat.le_of_ble_eq_true rfl, Nat.le_of_ble_eq_true rfl⟩ 3 6 rfl rfl (rfl) hl.1 rfl (Nat.le_of_ble_eq_true rfl) dX6_numbered_33 (fun r9 u H locs hw hP hD hS => ?_)
      obtain ⟨v10, f11⟩ := u
      obtain ⟨hIv10, hk0_v10, hk1_v10, hk9_v10, hk10_v10, hk31_v10, hk32_v10, hw⟩ := hw
      have hP : va_P (dC, dI) vwCl (XW cy x0 x v10 f11) H := hP
      have hD : va_D A (XW cy x0 x v10 f11) := hD
      have hq0_v10 : v10 0 = (v 0) := hk0_v10
      have hq1_v10 : v10 1 = (v 1) := hk1_v10
      have hq9_v10 : v10 9 = (v 9) := hk9_v10
      have hq10_v10 : v10 10 = (v 10) := hk10_v10
      have hq31_v10 : v10 31 = (v 31) := hk31_v10
      have hq32_v10 : v10 32 = (v 32) := hk32_v10
      rcases hw with ⟨g12⟩ | ⟨g12⟩
      · skip
        subst g12
        refine lv_pop hx hb dX6_numbered_36 rfl ?_
        refine lv_iconst (v := (-1)) hx hb dX6_numbered_37 (by decide) ?_
        exact ret (-1) (v10, f11) _ _ _ _ _ _ rfl ⟨hIv10, hk0_v10, hk1_v10, hk9_v10, hk10_v10, hk31_v10, hk32_v10⟩ hP hD hS dX6_numbered_38 (Nat.le_refl _) (Nat.le_refl _)
      · skip
        subst g12
        refine lv_pop hx hb dX6_numbered_36 rfl ?_
        refine lv_iconst (v := (-1)) hx hb dX6_numbered_37 (by decide) ?_
        exact ret (-1) (v10, f11) _ _ _ _ _ _ rfl ⟨hIv10, hk0_v10, hk1_v10, hk9_v10, hk10_v10, hk31_v10, hk32_v10⟩ hP hD hS dX6_numbered_38 (Nat.le_refl _) (Nat.le_refl _)
  · skip
    have zc1 : ¬ ((v 2).toInt = 2) := by rw [fa_eq, show (2 : Int32).toInt = 2 from by decide] at c1; exact c1
    refine lv_aload_n hx hb dX6_numbered_19 rfl (lv_at hl 1 rfl) ?_
    refine cbVi (n := 0) (rest := []) hx hb hml hown hts hE hP hD hS hA (sX_X6_refuse_1 l dC dI cy x0 x  v f hIv ) k_691 k_693 k_6 k_103 k_694 (by decide +kernel) ⟨Nat.le_of_ble_eq_true rfl, Nat.le_of_ble_eq_true rfl⟩ 3 6 rfl rfl (rfl) hl.1 rfl (Nat.le_of_ble_eq_true rfl) dX6_numbered_20 (fun r13 u H locs hw hP hD hS => ?_)
    obtain ⟨v14, f15⟩ := u
    obtain ⟨hIv14, hk0_v14, hk1_v14, hk9_v14, hk10_v14, hk31_v14, hk32_v14, hw⟩ := hw
    have hP : va_P (dC, dI) vwCl (XW cy x0 x v14 f15) H := hP
    have hD : va_D A (XW cy x0 x v14 f15) := hD
    have hq0_v14 : v14 0 = (v 0) := hk0_v14
    have hq1_v14 : v14 1 = (v 1) := hk1_v14
    have hq9_v14 : v14 9 = (v 9) := hk9_v14
    have hq10_v14 : v14 10 = (v 10) := hk10_v14
    have hq31_v14 : v14 31 = (v 31) := hk31_v14
    have hq32_v14 : v14 32 = (v 32) := hk32_v14
    rcases hw with ⟨g16⟩ | ⟨g16⟩
    · skip
      subst g16
      refine lv_pop hx hb dX6_numbered_23 rfl ?_
      refine lv_iconst (v := (-1)) hx hb dX6_numbered_24 (by decide) ?_
      exact ret (-1) (v14, f15) _ _ _ _ _ _ rfl ⟨hIv14, hk0_v14, hk1_v14, hk9_v14, hk10_v14, hk31_v14, hk32_v14⟩ hP hD hS dX6_numbered_25 (Nat.le_refl _) (Nat.le_refl _)
    · skip
      subst g16
      refine lv_pop hx hb dX6_numbered_23 rfl ?_
      refine lv_iconst (v := (-1)) hx hb dX6_numbered_24 (by decide) ?_
      exact ret (-1) (v14, f15) _ _ _ _ _ _ rfl ⟨hIv14, hk0_v14, hk1_v14, hk9_v14, hk10_v14, hk31_v14, hk32_v14⟩ hP hD hS dX6_numbered_25 (Nat.le_refl _) (Nat.le_refl _)
set_option maxHeartbeats 4000000 in
set_option maxRecDepth 100000 in
theorem sX_X6_labelled_1 (l : Launch) (dC : Nat → ClassId) (dI : Nat → Nat → Nat) (cy : Nat → ClassId) (x0 : Nat) (x : Nat → Nat) (p1 : Int32) (p2 : Int32) (v : Nat → Int32) (f : Nat → Nat → Int32) (hIv : XI v)  : ctIS l (dC, dI) cy yX6_labelled cX6_labelled 3 .int 8 213 0 0 ((Nat → Int32) × (Nat → Nat → Int32)) [.ref (x 2), .int p1, .int p2] (XW cy x0 x v f) (fun r u => XI u.1 ∧ u.1 0 = v 0 ∧ u.1 1 = v 1 ∧ u.1 9 = v 9 ∧ u.1 10 = v 10 ∧ u.1 31 = v 31 ∧ u.1 32 = v 32) (fun u => XW cy x0 x u.1 u.2) := by
  refine ctIS_of (by decide) (Nat.le_of_ble_eq_true rfl) (fun p e s m below meth c A ls Q hx hb hml hts hown hE hF hT hP hD hA hl ret => ?_)
  have hown : s.vm.findClass RX6 = some m.cls := hown
  have hS : va_S A s.heap s.heap [] := va_S.rf
  have hl : lv_has ls 3 [(0, .ref (x 2)), (1, .int p1), (2, .int p2)] := hl
  refine lv_aload_n hx hb dX6_labelled_0 rfl (lv_at hl 0 rfl) ?_
  refine va_get (D := (dC, dI)) (ci := 6) (v := .ref (x 0)) (C := RX6) (T := TX6) (N := 7) hx hb hts inB_6 hown hE.1 hP 3 rfl rfl 0 (by decide) (hts _ k_265) (fun _ h9 => h9) rfl dX6_labelled_1 ?_
  refine va_getN (D := (dC, dI)) (ci := 9) (v := .int (v 2)) (C := RX9) (T := TX9) (N := 6) hx hb hts inB_9 hown hE.1 hP 1 rfl rfl 2 (by decide) (va_Nw.use rfl (hE.2 _ k_139)) (fun _ h9 => h9) rfl dX6_labelled_4 ?_
  refine lv_iload_n hx hb dX6_labelled_7 rfl (lv_at hl 1 rfl) ?_
  refine lv_icmp_eq (tgt := 18) hx hb dX6_labelled_8 (by decide) (fun c1 => ?_) (fun c1 => ?_)
  · skip
    have zc1 : (v 2).toInt = p1.toInt := by rw [fa_eq] at c1; exact c1
    have rg2 := fb_rng (v 2)
    have rg3 := fb_rng p1
    refine lv_aload_n hx hb dX6_labelled_18 rfl (lv_at hl 0 rfl) ?_
    refine va_get (D := (dC, dI)) (ci := 6) (v := .ref (x 0)) (C := RX6) (T := TX6) (N := 7) hx hb hts inB_6 hown hE.1 hP 3 rfl rfl 0 (by decide) (hts _ k_265) (fun _ h9 => h9) rfl dX6_labelled_19 ?_
    refine csVv (n := 0) (rest := []) hx hb hml hown hts hE hP hD hS hA hF hT (sX_X9_advance_1 l dC dI cy x0 x  v f hIv ) k_699 k_559 k_560 k_102 k_561 (by decide +kernel) ⟨Nat.le_of_ble_eq_true rfl, Nat.le_of_ble_eq_true rfl⟩ 1 9 rfl rfl (rfl) hl.1 rfl (Nat.le_of_ble_eq_true rfl) dX6_labelled_22 (fun u H locs hw hP hD hS => ?_)
    obtain ⟨v4, f5⟩ := u
    obtain ⟨hIv4, hk0_v4, hk1_v4, hk9_v4, hk10_v4, hk31_v4, hk32_v4⟩ := hw
    have hP : va_P (dC, dI) vwCl (XW cy x0 x v4 f5) H := hP
    have hD : va_D A (XW cy x0 x v4 f5) := hD
    have hq0_v4 : v4 0 = (v 0) := hk0_v4
    have hq1_v4 : v4 1 = (v 1) := hk1_v4
    have hq9_v4 : v4 9 = (v 9) := hk9_v4
    have hq10_v4 : v4 10 = (v 10) := hk10_v4
    have hq31_v4 : v4 31 = (v 31) := hk31_v4
    have hq32_v4 : v4 32 = (v 32) := hk32_v4
    refine lv_aload_n hx hb dX6_labelled_25 rfl (lv_at hl 0 rfl) ?_
    refine lv_iload_n hx hb dX6_labelled_26 rfl (lv_at hl 2 rfl) ?_
    refine csVi (n := 1) (rest := []) hx hb hml hown hts hE hP hD hS hA hF hT (sX_X6_numbered_1 l dC dI cy x0 x p2 v4 f5 hIv4 ) k_712 k_714 k_10 k_103 k_715 (by decide +kernel) ⟨Nat.le_of_ble_eq_true rfl, Nat.le_of_ble_eq_true rfl⟩ 3 6 rfl rfl (rfl) hl.1 rfl (Nat.le_of_ble_eq_true rfl) dX6_labelled_27 (fun r6 u H locs hw hP hD hS => ?_)
    obtain ⟨v7, f8⟩ := u
    obtain ⟨hIv7, hk0_v7, hk1_v7, hk9_v7, hk10_v7, hk31_v7, hk32_v7⟩ := hw
    have hP : va_P (dC, dI) vwCl (XW cy x0 x v7 f8) H := hP
    have hD : va_D A (XW cy x0 x v7 f8) := hD
    have hq0_v7 : v7 0 = (v 0) := hk0_v7.trans hq0_v4
    have hq1_v7 : v7 1 = (v 1) := hk1_v7.trans hq1_v4
    have hq9_v7 : v7 9 = (v 9) := hk9_v7.trans hq9_v4
    have hq10_v7 : v7 10 = (v 10) := hk10_v7.trans hq10_v4
    have hq31_v7 : v7 31 = (v 31) := hk31_v7.trans hq31_v4
    have hq32_v7 : v7 32 = (v 32) := hk32_v7.trans hq32_v4
    exact ret r6 (v7, f8) _ _ _ _ _ _ rfl ⟨hIv7, (hk0_v7.trans hk0_v4), (hk1_v7.trans hk1_v4), (hk9_v7.trans hk9_v4), (hk10_v7.trans hk10_v4), (hk31_v7.trans hk31_v4), (hk32_v7.trans hk32_v4)⟩ hP hD hS dX6_labelled_30 (Nat.le_refl _) (Nat.le_refl _)
  · skip
    have zc1 : ¬ ((v 2).toInt = p1.toInt) := by rw [fa_eq] at c1; exact c1
    have rg9 := fb_rng (v 2)
    have rg10 := fb_rng p1
    refine lv_aload_n hx hb dX6_labelled_11 rfl (lv_at hl 0 rfl) ?_
    refine cbVi (n := 0) (rest := []) hx hb hml hown hts hE hP hD hS hA (sX_X6_refuse_1 l dC dI cy x0 x  v f hIv ) k_691 k_693 k_6 k_103 k_694 (by decide +kernel) ⟨Nat.le_of_ble_eq_true rfl, Nat.le_of_ble_eq_true rfl⟩ 3 6 rfl rfl (rfl) hl.1 rfl (Nat.le_of_ble_eq_true rfl) dX6_labelled_12 (fun r11 u H locs hw hP hD hS => ?_)
    obtain ⟨v12, f13⟩ := u
    obtain ⟨hIv12, hk0_v12, hk1_v12, hk9_v12, hk10_v12, hk31_v12, hk32_v12, hw⟩ := hw
    have hP : va_P (dC, dI) vwCl (XW cy x0 x v12 f13) H := hP
    have hD : va_D A (XW cy x0 x v12 f13) := hD
    have hq0_v12 : v12 0 = (v 0) := hk0_v12
    have hq1_v12 : v12 1 = (v 1) := hk1_v12
    have hq9_v12 : v12 9 = (v 9) := hk9_v12
    have hq10_v12 : v12 10 = (v 10) := hk10_v12
    have hq31_v12 : v12 31 = (v 31) := hk31_v12
    have hq32_v12 : v12 32 = (v 32) := hk32_v12
    rcases hw with ⟨g14⟩ | ⟨g14⟩
    · skip
      subst g14
      refine lv_pop hx hb dX6_labelled_15 rfl ?_
      refine lv_iconst (v := (-1)) hx hb dX6_labelled_16 (by decide) ?_
      exact ret (-1) (v12, f13) _ _ _ _ _ _ rfl ⟨hIv12, hk0_v12, hk1_v12, hk9_v12, hk10_v12, hk31_v12, hk32_v12⟩ hP hD hS dX6_labelled_17 (Nat.le_refl _) (Nat.le_refl _)
    · skip
      subst g14
      refine lv_pop hx hb dX6_labelled_15 rfl ?_
      refine lv_iconst (v := (-1)) hx hb dX6_labelled_16 (by decide) ?_
      exact ret (-1) (v12, f13) _ _ _ _ _ _ rfl ⟨hIv12, hk0_v12, hk1_v12, hk9_v12, hk10_v12, hk31_v12, hk32_v12⟩ hP hD hS dX6_labelled_17 (Nat.le_refl _) (Nat.le_refl _)
set_option maxHeartbeats 4000000 in
set_option maxRecDepth 100000 in
theorem sX_X7_addMan_1 (l : Launch) (dC : Nat → ClassId) (dI : Nat → Nat → Nat) (cy : Nat → ClassId) (x0 : Nat) (x : Nat → Nat) (p1 : Int32) (p2 : Int32) (p3 : Int32) (v : Nat → Int32) (f : Nat → Nat → Int32) (hIv : XI v)  : ctV l (dC, dI) cy yX7_addMan cX7_addMan 4 1 60 0 0 ((Nat → Int32) × (Nat → Nat → Int32)) [.ref (x 3), .int p1, .int p2, .int p3] (XW cy x0 x v f) (fun u => XI u.1 ∧ u.1 0 = v 0 ∧ u.1 1 = v 1 ∧ u.1 10 = v 10 ∧ u.1 32 = v 32) (fun u => XW cy x0 x u.1 u.2) := by
  refine ctV_of (by decide) (Nat.le_of_ble_eq_true rfl) (fun p e s m below meth c A ls Q hx hb hml hts hown hnm hE hP hD hA hl ret => ?_)
  have hown : s.vm.findClass RX7 = some m.cls := hown
  have hS : va_S A s.heap s.heap [] := va_S.rf
  have hl : lv_has ls 4 [(0, .ref (x 3)), (1, .int p1), (2, .int p2), (3, .int p3)] := hl
  refine lv_aload_n hx hb dX7_addMan_0 rfl (lv_at hl 0 rfl) ?_
  refine va_get (D := (dC, dI)) (ci := 7) (v := .int (v 9)) (C := RX7) (T := TX7) (N := 10) hx hb hts inB_7 hown hE.1 hP 4 rfl rfl 3 (by decide) (hts _ k_212) (fun _ h9 => h9) rfl dX7_addMan_1 ?_
  have b9_v : 0 ≤ (v 9).toInt ∧ (v 9).toInt ≤ 6 := XI.b hIv 9 (by decide)
  refine lv_bipush (v := 6) hx hb dX7_addMan_4 (by decide) ?_
  refine lv_icmp_ge (tgt := 57) hx hb dX7_addMan_6 (by decide) (fun c1 => ?_) (fun c1 => ?_)
  · skip
    have zc1 : 6 ≤ (v 9).toInt := by rw [fa_le, show (6 : Int32).toInt = 6 from by decide] at c1; exact c1
    exact ret (v, f) _ _ _ _ _ _ ⟨hIv, rfl, rfl, rfl, rfl⟩ hP hD hS dX7_addMan_57 (Nat.le_refl _) (Nat.le_refl _)
  · skip
    have zc1 : ¬ (6 ≤ (v 9).toInt) := by rw [fa_le, show (6 : Int32).toInt = 6 from by decide] at c1; exact c1
    refine lv_aload_n hx hb dX7_addMan_9 rfl (lv_at hl 0 rfl) ?_
    refine va_get (D := (dC, dI)) (ci := 7) (v := .ref (x 4)) (C := RX7) (T := TX7) (N := 10) hx hb hts inB_7 hown hE.1 hP 4 rfl rfl 0 (by decide) (hts _ k_204) (fun _ h9 => h9) rfl dX7_addMan_10 ?_
    refine lv_iconst (v := 0) hx hb dX7_addMan_13 (by decide) ?_
    refine lv_aload_n hx hb dX7_addMan_14 rfl (lv_at hl 0 rfl) ?_
    refine va_get (D := (dC, dI)) (ci := 7) (v := .int (v 9)) (C := RX7) (T := TX7) (N := 10) hx hb hts inB_7 hown hE.1 hP 4 rfl rfl 3 (by decide) (hts _ k_212) (fun _ h9 => h9) rfl dX7_addMan_15 ?_
    refine lv_iadd hx hb dX7_addMan_18 ?_
    refine lv_topi (fun t2 et2 => ?_)
    have rg3 := fb_rng (v 9)
    have zt2 : t2.toInt = 0 + (v 9).toInt := by rw [et2]; exact add_i (by decide) rfl (by omega) (by omega)
    refine lv_iload_n hx hb dX7_addMan_19 rfl (lv_at hl 1 rfl) ?_
    refine stI hx hb hE hP hD hS 5 rfl (vp_in_iff.mpr ⟨by omega, by omega⟩) rfl dX7_addMan_20 (fun H locs hP hD hS => ?_)
    obtain ⟨f4, hP, hD⟩ : ∃ fz9, va_P (dC, dI) vwCl (XW cy x0 x v fz9) H ∧ va_D A (XW cy x0 x v fz9) := ⟨upd2 f 1 (upd (f 1) t2.toNatClampNeg p1), hP, hD⟩
    refine lv_aload_n hx hb dX7_addMan_21 rfl (lv_at hl 0 rfl) ?_
    refine va_get (D := (dC, dI)) (ci := 7) (v := .ref (x 4)) (C := RX7) (T := TX7) (N := 10) hx hb hts inB_7 hown hE.1 hP 4 rfl rfl 0 (by decide) (hts _ k_204) (fun _ h9 => h9) rfl dX7_addMan_22 ?_
    refine lv_bipush (v := 6) hx hb dX7_addMan_25 (by decide) ?_
    refine lv_aload_n hx hb dX7_addMan_27 rfl (lv_at hl 0 rfl) ?_
    refine va_get (D := (dC, dI)) (ci := 7) (v := .int (v 9)) (C := RX7) (T := TX7) (N := 10) hx hb hts inB_7 hown hE.1 hP 4 rfl rfl 3 (by decide) (hts _ k_212) (fun _ h9 => h9) rfl dX7_addMan_28 ?_
    refine lv_iadd hx hb dX7_addMan_31 ?_
    refine lv_topi (fun t5 et5 => ?_)
    have zt5 : t5.toInt = 6 + (v 9).toInt := by rw [et5]; exact add_i (by decide) rfl (by omega) (by omega)
    refine lv_iload_n hx hb dX7_addMan_32 rfl (lv_at hl 2 rfl) ?_
    refine stI hx hb hE hP hD hS 5 rfl (vp_in_iff.mpr ⟨by omega, by omega⟩) rfl dX7_addMan_33 (fun H locs hP hD hS => ?_)
    obtain ⟨f6, hP, hD⟩ : ∃ fz9, va_P (dC, dI) vwCl (XW cy x0 x v fz9) H ∧ va_D A (XW cy x0 x v fz9) := ⟨upd2 f4 1 (upd (f4 1) t5.toNatClampNeg p2), hP, hD⟩
    refine lv_aload_n hx hb dX7_addMan_34 rfl (lv_at hl 0 rfl) ?_
    refine va_get (D := (dC, dI)) (ci := 7) (v := .ref (x 4)) (C := RX7) (T := TX7) (N := 10) hx hb hts inB_7 hown hE.1 hP 4 rfl rfl 0 (by decide) (hts _ k_204) (fun _ h9 => h9) rfl dX7_addMan_35 ?_
    refine lv_bipush (v := 12) hx hb dX7_addMan_38 (by decide) ?_
    refine lv_aload_n hx hb dX7_addMan_40 rfl (lv_at hl 0 rfl) ?_
    refine va_get (D := (dC, dI)) (ci := 7) (v := .int (v 9)) (C := RX7) (T := TX7) (N := 10) hx hb hts inB_7 hown hE.1 hP 4 rfl rfl 3 (by decide) (hts _ k_212) (fun _ h9 => h9) rfl dX7_addMan_41 ?_
    refine lv_iadd hx hb dX7_addMan_44 ?_
    refine lv_topi (fun t7 et7 => ?_)
    have zt7 : t7.toInt = 12 + (v 9).toInt := by rw [et7]; exact add_i (by decide) rfl (by omega) (by omega)
    refine lv_iload_n hx hb dX7_addMan_45 rfl (lv_at hl 3 rfl) ?_
    refine stI hx hb hE hP hD hS 5 rfl (vp_in_iff.mpr ⟨by omega, by omega⟩) rfl dX7_addMan_46 (fun H locs hP hD hS => ?_)
    obtain ⟨f8, hP, hD⟩ : ∃ fz9, va_P (dC, dI) vwCl (XW cy x0 x v fz9) H ∧ va_D A (XW cy x0 x v fz9) := ⟨upd2 f6 1 (upd (f6 1) t7.toNatClampNeg p3), hP, hD⟩
    refine lv_aload_n hx hb dX7_addMan_47 rfl (lv_at hl 0 rfl) ?_
    refine lv_dup hx hb dX7_addMan_48 rfl ?_
    refine va_get (D := (dC, dI)) (ci := 7) (v := .int (v 9)) (C := RX7) (T := TX7) (N := 10) hx hb hts inB_7 hown hE.1 hP 4 rfl rfl 3 (by decide) (hts _ k_212) (fun _ h9 => h9) rfl dX7_addMan_49 ?_
    refine lv_iconst (v := 1) hx hb dX7_addMan_52 (by decide) ?_
    refine lv_iadd hx hb dX7_addMan_53 ?_
    refine lv_topi (fun t9 et9 => ?_)
    have zt9 : t9.toInt = (v 9).toInt + 1 := by rw [et9]; exact add_i rfl (by decide) (by omega) (by omega)
    refine va_put (D := (dC, dI)) (ci := 7) (v := .int t9) (ty := tyX7 3) (C := RX7) (T := TX7) (N := 10) hx hb hts inB_7 tyX7 tyX7_ok nmX7 hown hE.1 hP hD hS 4 rfl rfl 3 (by decide) (hts _ k_212) (fun _ h9 => h9) rfl (tyX7_ok 3 (by decide)) rfl rfl (Nat.le_of_ble_eq_true rfl) dX7_addMan_54 (fun H locs hP hD hS => ?_)
    have hP : va_P (dC, dI) vwCl (XW cy x0 x (upd v 9 t9) f8) H := hP
    have hD : va_D A (XW cy x0 x (upd v 9 t9) f8) := hD
    exact ret ((upd v 9 t9), f8) _ _ _ _ _ _ ⟨(XI.upd (j := 9) (x := t9) hIv (show (0 : Int) ≤ t9.toInt by omega) (show t9.toInt ≤ (6 : Int) by omega)), rfl, rfl, rfl, rfl⟩ hP hD hS dX7_addMan_57 (Nat.le_refl _) (Nat.le_refl _)
set_option maxHeartbeats 4000000 in
set_option maxRecDepth 100000 in
theorem sX_X6_manLine_1 (l : Launch) (dC : Nat → ClassId) (dI : Nat → Nat → Nat) (cy : Nat → ClassId) (x0 : Nat) (x : Nat → Nat)  (v : Nat → Int32) (f : Nat → Nat → Int32) (hIv : XI v)  : ctIS l (dC, dI) cy yX6_manLine cX6_manLine 4 .boolean 9 235 0 0 ((Nat → Int32) × (Nat → Nat → Int32)) [.ref (x 2)] (XW cy x0 x v f) (fun r u => XI u.1 ∧ u.1 0 = v 0 ∧ u.1 1 = v 1 ∧ u.1 10 = v 10 ∧ u.1 32 = v 32 ∧ ((r = 1) ∨ (r = 0))) (fun u => XW cy x0 x u.1 u.2) := by
  refine ctIS_of (by decide) (Nat.le_of_ble_eq_true rfl) (fun p e s m below meth c A ls Q hx hb hml hts hown hE hF hT hP hD hA hl ret => ?_)
  have hown : s.vm.findClass RX6 = some m.cls := hown
  have hS : va_S A s.heap s.heap [] := va_S.rf
  have hl : lv_has ls 4 [(0, .ref (x 2))] := hl
  refine lv_aload_n hx hb dX6_manLine_0 rfl (lv_at hl 0 rfl) ?_
  refine va_get (D := (dC, dI)) (ci := 6) (v := .ref (x 3)) (C := RX6) (T := TX6) (N := 7) hx hb hts inB_6 hown hE.1 hP 3 rfl rfl 1 (by decide) (hts _ k_266) (fun _ h9 => h9) rfl dX6_manLine_1 ?_
  refine va_getN (D := (dC, dI)) (ci := 7) (v := .int (v 9)) (C := RX7) (T := TX7) (N := 10) hx hb hts inB_7 hown hE.1 hP 4 rfl rfl 3 (by decide) (va_Nw.use rfl (hE.2 _ k_218)) (fun _ h9 => h9) rfl dX6_manLine_4 ?_
  have b9_v : 0 ≤ (v 9).toInt ∧ (v 9).toInt ≤ 6 := XI.b hIv 9 (by decide)
  refine lv_bipush (v := 6) hx hb dX6_manLine_7 (by decide) ?_
  refine lv_icmp_lt (tgt := 17) hx hb dX6_manLine_9 (by decide) (fun c1 => ?_) (fun c1 => ?_)
  · skip
    have zc1 : (v 9).toInt < 6 := by rw [fa_lt, show (6 : Int32).toInt = 6 from by decide] at c1; exact c1
    refine lv_aload_n hx hb dX6_manLine_17 rfl (lv_at hl 0 rfl) ?_
    refine va_get (D := (dC, dI)) (ci := 6) (v := .ref (x 0)) (C := RX6) (T := TX6) (N := 7) hx hb hts inB_6 hown hE.1 hP 3 rfl rfl 0 (by decide) (hts _ k_265) (fun _ h9 => h9) rfl dX6_manLine_18 ?_
    refine csVv (n := 0) (rest := []) hx hb hml hown hts hE hP hD hS hA hF hT (sX_X9_advance_1 l dC dI cy x0 x  v f hIv ) k_699 k_559 k_560 k_102 k_561 (by decide +kernel) ⟨Nat.le_of_ble_eq_true rfl, Nat.le_of_ble_eq_true rfl⟩ 1 9 rfl rfl (rfl) hl.1 rfl (Nat.le_of_ble_eq_true rfl) dX6_manLine_21 (fun u H locs hw hP hD hS => ?_)
    obtain ⟨v2, f3⟩ := u
    obtain ⟨hIv2, hk0_v2, hk1_v2, hk9_v2, hk10_v2, hk31_v2, hk32_v2⟩ := hw
    have hP : va_P (dC, dI) vwCl (XW cy x0 x v2 f3) H := hP
    have hD : va_D A (XW cy x0 x v2 f3) := hD
    have hq0_v2 : v2 0 = (v 0) := hk0_v2
    have hq1_v2 : v2 1 = (v 1) := hk1_v2
    have hq9_v2 : v2 9 = (v 9) := hk9_v2
    have hq10_v2 : v2 10 = (v 10) := hk10_v2
    have hq31_v2 : v2 31 = (v 31) := hk31_v2
    have hq32_v2 : v2 32 = (v 32) := hk32_v2
    refine lv_aload_n hx hb dX6_manLine_24 rfl (lv_at hl 0 rfl) ?_
    refine lv_aload_n hx hb dX6_manLine_25 rfl (lv_at hl 0 rfl) ?_
    refine va_get (D := (dC, dI)) (ci := 6) (v := .ref (x 11)) (C := RX6) (T := TX6) (N := 7) hx hb hts inB_6 hown hE.1 hP 3 rfl rfl 2 (by decide) (hts _ k_268) (fun _ h9 => h9) rfl dX6_manLine_26 ?_
    refine lv_aload_n hx hb dX6_manLine_29 rfl (lv_at hl 0 rfl) ?_
    refine va_get (D := (dC, dI)) (ci := 6) (v := .ref (x 3)) (C := RX6) (T := TX6) (N := 7) hx hb hts inB_6 hown hE.1 hP 3 rfl rfl 1 (by decide) (hts _ k_266) (fun _ h9 => h9) rfl dX6_manLine_30 ?_
    refine va_getN (D := (dC, dI)) (ci := 7) (v := .int (v2 9)) (C := RX7) (T := TX7) (N := 10) hx hb hts inB_7 hown hE.1 hP 4 rfl rfl 3 (by decide) (va_Nw.use rfl (hE.2 _ k_218)) (fun _ h9 => h9) rfl dX6_manLine_33 ?_
    refine tI (y := (v 9)) hq9_v2 ?_
    have b9_v : 0 ≤ (v 9).toInt ∧ (v 9).toInt ≤ 6 := XI.b hIv 9 (by decide)
    refine csVi (n := 2) (rest := []) hx hb hml hown hts hE hP hD hS hA hF hT (sX_X6_name_1 l dC dI cy x0 x (v 9) v2 f3 hIv2 ) k_700 k_702 k_8 k_103 k_703 (by decide +kernel) ⟨Nat.le_of_ble_eq_true rfl, Nat.le_of_ble_eq_true rfl⟩ 3 6 rfl rfl (rfl) hl.1 rfl (Nat.le_of_ble_eq_true rfl) dX6_manLine_36 (fun r4 u H locs hw hP hD hS => ?_)
    obtain ⟨v5, f6⟩ := u
    obtain ⟨hIv5, hk0_v5, hk1_v5, hk9_v5, hk10_v5, hk31_v5, hk32_v5, hw⟩ := hw
    have hP : va_P (dC, dI) vwCl (XW cy x0 x v5 f6) H := hP
    have hD : va_D A (XW cy x0 x v5 f6) := hD
    have hq0_v5 : v5 0 = (v 0) := hk0_v5.trans hq0_v2
    have hq1_v5 : v5 1 = (v 1) := hk1_v5.trans hq1_v2
    have hq9_v5 : v5 9 = (v 9) := hk9_v5.trans hq9_v2
    have hq10_v5 : v5 10 = (v 10) := hk10_v5.trans hq10_v2
    have hq31_v5 : v5 31 = (v 31) := hk31_v5.trans hq31_v2
    have hq32_v5 : v5 32 = (v 32) := hk32_v5.trans hq32_v2
    rcases hw with ⟨g7⟩ | ⟨g7⟩
    · skip
      subst g7
      refine lv_if_ne (tgt := 44) hx hb dX6_manLine_39 (by decide) (fun _ => ?_) (fun c0 => absurd c0 (by decide))
      refine lv_aload_n hx hb dX6_manLine_44 rfl (lv_at hl 0 rfl) ?_
      refine lv_bipush (v := 109) hx hb dX6_manLine_45 (by decide) ?_
      refine lv_bipush (v := 99) hx hb dX6_manLine_47 (by decide) ?_
      refine csVi (n := 2) (rest := []) hx hb hml hown hts hE hP hD hS hA hF hT (sX_X6_labelled_1 l dC dI cy x0 x 109 99 v5 f6 hIv5 ) k_708 k_710 k_9 k_103 k_711 (by decide +kernel) ⟨Nat.le_of_ble_eq_true rfl, Nat.le_of_ble_eq_true rfl⟩ 3 6 rfl rfl (rfl) hl.1 rfl (Nat.le_of_ble_eq_true rfl) dX6_manLine_49 (fun r8 u H locs hw hP hD hS => ?_)
      obtain ⟨v9, f10⟩ := u
      obtain ⟨hIv9, hk0_v9, hk1_v9, hk9_v9, hk10_v9, hk31_v9, hk32_v9⟩ := hw
      have hP : va_P (dC, dI) vwCl (XW cy x0 x v9 f10) H := hP
      have hD : va_D A (XW cy x0 x v9 f10) := hD
      have hq0_v9 : v9 0 = (v 0) := hk0_v9.trans hq0_v5
      have hq1_v9 : v9 1 = (v 1) := hk1_v9.trans hq1_v5
      have hq9_v9 : v9 9 = (v 9) := hk9_v9.trans hq9_v5
      have hq10_v9 : v9 10 = (v 10) := hk10_v9.trans hq10_v5
      have hq31_v9 : v9 31 = (v 31) := hk31_v9.trans hq31_v5
      have hq32_v9 : v9 32 = (v 32) := hk32_v9.trans hq32_v5
      refine lv_istore_n (lv' := [(1, .int r8), (0, .ref (x 2))]) hx hb dX6_manLine_52 rfl hl (by decide) rfl (fun ls hl => ?_)
      refine lv_iload_n hx hb dX6_manLine_53 rfl (lv_at hl 0 rfl) ?_
      refine lv_if_ge (tgt := 61) hx hb dX6_manLine_54 (by decide) (fun c11 => ?_) (fun c11 => ?_)
      · skip
        have zc11 : 0 ≤ r8.toInt := by rw [fa_le, show (0 : Int32).toInt = 0 from by decide] at c11; exact c11
        refine lv_aload_n hx hb dX6_manLine_61 rfl (lv_at hl 1 rfl) ?_
        refine lv_bipush (v := 110) hx hb dX6_manLine_62 (by decide) ?_
        refine lv_bipush (v := 99) hx hb dX6_manLine_64 (by decide) ?_
        refine csVi (n := 2) (rest := []) hx hb hml hown hts hE hP hD hS hA hF hT (sX_X6_labelled_1 l dC dI cy x0 x 110 99 v9 f10 hIv9 ) k_708 k_710 k_9 k_103 k_711 (by decide +kernel) ⟨Nat.le_of_ble_eq_true rfl, Nat.le_of_ble_eq_true rfl⟩ 3 6 rfl rfl (rfl) hl.1 rfl (Nat.le_of_ble_eq_true rfl) dX6_manLine_66 (fun r12 u H locs hw hP hD hS => ?_)
        obtain ⟨v13, f14⟩ := u
        obtain ⟨hIv13, hk0_v13, hk1_v13, hk9_v13, hk10_v13, hk31_v13, hk32_v13⟩ := hw
        have hP : va_P (dC, dI) vwCl (XW cy x0 x v13 f14) H := hP
        have hD : va_D A (XW cy x0 x v13 f14) := hD
        have hq0_v13 : v13 0 = (v 0) := hk0_v13.trans hq0_v9
        have hq1_v13 : v13 1 = (v 1) := hk1_v13.trans hq1_v9
        have hq9_v13 : v13 9 = (v 9) := hk9_v13.trans hq9_v9
        have hq10_v13 : v13 10 = (v 10) := hk10_v13.trans hq10_v9
        have hq31_v13 : v13 31 = (v 31) := hk31_v13.trans hq31_v9
        have hq32_v13 : v13 32 = (v 32) := hk32_v13.trans hq32_v9
        refine lv_istore_n (lv' := [(2, .int r12), (1, .int r8), (0, .ref (x 2))]) hx hb dX6_manLine_69 rfl hl (by decide) rfl (fun ls hl => ?_)
        refine lv_iload_n hx hb dX6_manLine_70 rfl (lv_at hl 0 rfl) ?_
        refine lv_if_ge (tgt := 78) hx hb dX6_manLine_71 (by decide) (fun c15 => ?_) (fun c15 => ?_)
        · skip
          have zc15 : 0 ≤ r12.toInt := by rw [fa_le, show (0 : Int32).toInt = 0 from by decide] at c15; exact c15
          refine lv_aload_n hx hb dX6_manLine_78 rfl (lv_at hl 2 rfl) ?_
          refine va_get (D := (dC, dI)) (ci := 6) (v := .ref (x 0)) (C := RX6) (T := TX6) (N := 7) hx hb hts inB_6 hown hE.1 hP 3 rfl rfl 0 (by decide) (hts _ k_265) (fun _ h9 => h9) rfl dX6_manLine_79 ?_
          refine va_getN (D := (dC, dI)) (ci := 9) (v := .int (v13 2)) (C := RX9) (T := TX9) (N := 6) hx hb hts inB_9 hown hE.1 hP 1 rfl rfl 2 (by decide) (va_Nw.use rfl (hE.2 _ k_139)) (fun _ h9 => h9) rfl dX6_manLine_82 ?_
          refine lv_bipush (v := 111) hx hb dX6_manLine_85 (by decide) ?_
          refine lv_icmp_ne (tgt := 101) hx hb dX6_manLine_87 (by decide) (fun c16 => ?_) (fun c16 => ?_)
          · skip
            have zc16 : ¬ ((v13 2).toInt = 111) := by rw [fa_eq, show (111 : Int32).toInt = 111 from by decide] at c16; exact c16
            refine lv_iconst (v := 0) hx hb dX6_manLine_101 (by decide) ?_
            refine lv_istore_n (lv' := [(3, .int 0), (2, .int r12), (1, .int r8), (0, .ref (x 2))]) hx hb dX6_manLine_102 rfl hl (by decide) rfl (fun ls hl => ?_)
            refine lv_iload_n hx hb dX6_manLine_103 rfl (lv_at hl 0 rfl) ?_
            refine lv_if_ge (tgt := 109) hx hb dX6_manLine_104 (by decide) (fun _ => ?_) (fun c0 => absurd (by decide) c0)
            refine lv_aload_n hx hb dX6_manLine_109 rfl (lv_at hl 3 rfl) ?_
            refine va_get (D := (dC, dI)) (ci := 6) (v := .ref (x 3)) (C := RX6) (T := TX6) (N := 7) hx hb hts inB_6 hown hE.1 hP 3 rfl rfl 1 (by decide) (hts _ k_266) (fun _ h9 => h9) rfl dX6_manLine_110 ?_
            refine lv_iload_n hx hb dX6_manLine_113 rfl (lv_at hl 2 rfl) ?_
            refine lv_iload_n hx hb dX6_manLine_114 rfl (lv_at hl 1 rfl) ?_
            refine lv_iload_n hx hb dX6_manLine_115 rfl (lv_at hl 0 rfl) ?_
            refine cbVv (n := 3) (rest := []) hx hb hml hown hts hE hP hD hS hA (sX_X7_addMan_1 l dC dI cy x0 x r8 r12 0 v13 f14 hIv13 ) k_716 k_717 k_718 k_104 k_719 (by decide +kernel) ⟨Nat.le_of_ble_eq_true rfl, Nat.le_of_ble_eq_true rfl⟩ 4 7 rfl rfl (rfl) hl.1 rfl (Nat.le_of_ble_eq_true rfl) dX6_manLine_116 (fun u H locs hw hP hD hS => ?_)
            obtain ⟨v17, f18⟩ := u
            obtain ⟨hIv17, hk0_v17, hk1_v17, hk10_v17, hk32_v17⟩ := hw
            have hP : va_P (dC, dI) vwCl (XW cy x0 x v17 f18) H := hP
            have hD : va_D A (XW cy x0 x v17 f18) := hD
            have hq0_v17 : v17 0 = (v 0) := hk0_v17.trans hq0_v13
            have hq1_v17 : v17 1 = (v 1) := hk1_v17.trans hq1_v13
            have hq10_v17 : v17 10 = (v 10) := hk10_v17.trans hq10_v13
            have hq32_v17 : v17 32 = (v 32) := hk32_v17.trans hq32_v13
            refine lv_iconst (v := 1) hx hb dX6_manLine_119 (by decide) ?_
            exact ret 1 (v17, f18) _ _ _ _ _ _ rfl ⟨hIv17, (hk0_v17.trans (hk0_v13.trans (hk0_v9.trans (hk0_v5.trans hk0_v2)))), (hk1_v17.trans (hk1_v13.trans (hk1_v9.trans (hk1_v5.trans hk1_v2)))), (hk10_v17.trans (hk10_v13.trans (hk10_v9.trans (hk10_v5.trans hk10_v2)))), (hk32_v17.trans (hk32_v13.trans (hk32_v9.trans (hk32_v5.trans hk32_v2)))), (Or.inl rfl)⟩ hP hD hS dX6_manLine_120 (Nat.le_refl _) (Nat.le_refl _)
          · skip
            have zc16 : (v13 2).toInt = 111 := by rw [fa_eq, show (111 : Int32).toInt = 111 from by decide] at c16; exact c16
            refine lv_aload_n hx hb dX6_manLine_90 rfl (lv_at hl 2 rfl) ?_
            refine lv_bipush (v := 111) hx hb dX6_manLine_91 (by decide) ?_
            refine lv_bipush (v := 9) hx hb dX6_manLine_93 (by decide) ?_
            refine csVi (n := 2) (rest := []) hx hb hml hown hts hE hP hD hS hA hF hT (sX_X6_labelled_1 l dC dI cy x0 x 111 9 v13 f14 hIv13 ) k_708 k_710 k_9 k_103 k_711 (by decide +kernel) ⟨Nat.le_of_ble_eq_true rfl, Nat.le_of_ble_eq_true rfl⟩ 3 6 rfl rfl (rfl) hl.1 rfl (Nat.le_of_ble_eq_true rfl) dX6_manLine_95 (fun r19 u H locs hw hP hD hS => ?_)
            obtain ⟨v20, f21⟩ := u
            obtain ⟨hIv20, hk0_v20, hk1_v20, hk9_v20, hk10_v20, hk31_v20, hk32_v20⟩ := hw
            have hP : va_P (dC, dI) vwCl (XW cy x0 x v20 f21) H := hP
            have hD : va_D A (XW cy x0 x v20 f21) := hD
            have hq0_v20 : v20 0 = (v 0) := hk0_v20.trans hq0_v13
            have hq1_v20 : v20 1 = (v 1) := hk1_v20.trans hq1_v13
            have hq9_v20 : v20 9 = (v 9) := hk9_v20.trans hq9_v13
            have hq10_v20 : v20 10 = (v 10) := hk10_v20.trans hq10_v13
            have hq31_v20 : v20 31 = (v 31) := hk31_v20.trans hq31_v13
            have hq32_v20 : v20 32 = (v 32) := hk32_v20.trans hq32_v13
            refine lv_goto (tgt := 102) hx hb dX6_manLine_98 (by decide) ?_
            refine lv_istore_n (lv' := [(3, .int r19), (2, .int r12), (1, .int r8), (0, .ref (x 2))]) hx hb dX6_manLine_102 rfl hl (by decide) rfl (fun ls hl => ?_)
            refine lv_iload_n hx hb dX6_manLine_103 rfl (lv_at hl 0 rfl) ?_
            refine lv_if_ge (tgt := 109) hx hb dX6_manLine_104 (by decide) (fun c22 => ?_) (fun c22 => ?_)
            · skip
              have zc22 : 0 ≤ r19.toInt := by rw [fa_le, show (0 : Int32).toInt = 0 from by decide] at c22; exact c22
              refine lv_aload_n hx hb dX6_manLine_109 rfl (lv_at hl 3 rfl) ?_
              refine va_get (D := (dC, dI)) (ci := 6) (v := .ref (x 3)) (C := RX6) (T := TX6) (N := 7) hx hb hts inB_6 hown hE.1 hP 3 rfl rfl 1 (by decide) (hts _ k_266) (fun _ h9 => h9) rfl dX6_manLine_110 ?_
              refine lv_iload_n hx hb dX6_manLine_113 rfl (lv_at hl 2 rfl) ?_
              refine lv_iload_n hx hb dX6_manLine_114 rfl (lv_at hl 1 rfl) ?_
              refine lv_iload_n hx hb dX6_manLine_115 rfl (lv_at hl 0 rfl) ?_
              refine cbVv (n := 3) (rest := []) hx hb hml hown hts hE hP hD hS hA (sX_X7_addMan_1 l dC dI cy x0 x r8 r12 r19 v20 f21 hIv20 ) k_716 k_717 k_718 k_104 k_719 (by decide +kernel) ⟨Nat.le_of_ble_eq_true rfl, Nat.le_of_ble_eq_true rfl⟩ 4 7 rfl rfl (rfl) hl.1 rfl (Nat.le_of_ble_eq_true rfl) dX6_manLine_116 (fun u H locs hw hP hD hS => ?_)
              obtain ⟨v23, f24⟩ := u
              obtain ⟨hIv23, hk0_v23, hk1_v23, hk10_v23, hk32_v23⟩ := hw
              have hP : va_P (dC, dI) vwCl (XW cy x0 x v23 f24) H := hP
              have hD : va_D A (XW cy x0 x v23 f24) := hD
              have hq0_v23 : v23 0 = (v 0) := hk0_v23.trans hq0_v20
              have hq1_v23 : v23 1 = (v 1) := hk1_v23.trans hq1_v20
              have hq10_v23 : v23 10 = (v 10) := hk10_v23.trans hq10_v20
              have hq32_v23 : v23 32 = (v 32) := hk32_v23.trans hq32_v20
              refine lv_iconst (v := 1) hx hb dX6_manLine_119 (by decide) ?_
              exact ret 1 (v23, f24) _ _ _ _ _ _ rfl ⟨hIv23, (hk0_v23.trans (hk0_v20.trans (hk0_v13.trans (hk0_v9.trans (hk0_v5.trans hk0_v2))))), (hk1_v23.trans (hk1_v20.trans (hk1_v13.trans (hk1_v9.trans (hk1_v5.trans hk1_v2))))), (hk10_v23.trans (hk10_v20.trans (hk10_v13.trans (hk10_v9.trans (hk10_v5.trans hk10_v2))))), (hk32_v23.trans (hk32_v20.trans (hk32_v13.trans (hk32_v9.trans (hk32_v5.trans hk32_v2))))), (Or.inl rfl)⟩ hP hD hS dX6_manLine_120 (Nat.le_refl _) (Nat.le_refl _)
            · skip
              have zc22 : ¬ (0 ≤ r19.toInt) := by rw [fa_le, show (0 : Int32).toInt = 0 from by decide] at c22; exact c22
              refine lv_iconst (v := 0) hx hb dX6_manLine_107 (by decide) ?_
              exact ret 0 (v20, f21) _ _ _ _ _ _ rfl ⟨hIv20, (hk0_v20.trans (hk0_v13.trans (hk0_v9.trans (hk0_v5.trans hk0_v2)))), (hk1_v20.trans (hk1_v13.trans (hk1_v9.trans (hk1_v5.trans hk1_v2)))), (hk10_v20.trans (hk10_v13.trans (hk10_v9.trans (hk10_v5.trans hk10_v2)))), (hk32_v20.trans (hk32_v13.trans (hk32_v9.trans (hk32_v5.trans hk32_v2)))), (Or.inr rfl)⟩ hP hD hS dX6_manLine_108 (Nat.le_refl _) (Nat.le_refl _)
        · skip
          have zc15 : ¬ (0 ≤ r12.toInt) := by rw [fa_le, show (0 : Int32).toInt = 0 from by decide] at c15; exact c15
          refine lv_iconst (v := (-1)) hx hb dX6_manLine_74 (by decide) ?_
          refine lv_goto (tgt := 102) hx hb dX6_manLine_75 (by decide) ?_
          refine lv_istore_n (lv' := [(3, .int (-1)), (2, .int r12), (1, .int r8), (0, .ref (x 2))]) hx hb dX6_manLine_102 rfl hl (by decide) rfl (fun ls hl => ?_)
          refine lv_iload_n hx hb dX6_manLine_103 rfl (lv_at hl 0 rfl) ?_
          refine lv_if_ge (tgt := 109) hx hb dX6_manLine_104 (by decide) (fun c0 => absurd c0 (by decide)) (fun _ => ?_)
          refine lv_iconst (v := 0) hx hb dX6_manLine_107 (by decide) ?_
          exact ret 0 (v13, f14) _ _ _ _ _ _ rfl ⟨hIv13, (hk0_v13.trans (hk0_v9.trans (hk0_v5.trans hk0_v2))), (hk1_v13.trans (hk1_v9.trans (hk1_v5.trans hk1_v2))), (hk10_v13.trans (hk10_v9.trans (hk10_v5.trans hk10_v2))), (hk32_v13.trans (hk32_v9.trans (hk32_v5.trans hk32_v2))), (Or.inr rfl)⟩ hP hD hS dX6_manLine_108 (Nat.le_refl _) (Nat.le_refl _)
      · skip
        have zc11 : ¬ (0 ≤ r8.toInt) := by rw [fa_le, show (0 : Int32).toInt = 0 from by decide] at c11; exact c11
        refine lv_iconst (v := (-1)) hx hb dX6_manLine_57 (by decide) ?_
        refine lv_goto (tgt := 69) hx hb dX6_manLine_58 (by decide) ?_
        refine lv_istore_n (lv' := [(2, .int (-1)), (1, .int r8), (0, .ref (x 2))]) hx hb dX6_manLine_69 rfl hl (by decide) rfl (fun ls hl => ?_)
        refine lv_iload_n hx hb dX6_manLine_70 rfl (lv_at hl 0 rfl) ?_
        refine lv_if_ge (tgt := 78) hx hb dX6_manLine_71 (by decide) (fun c0 => absurd c0 (by decide)) (fun _ => ?_)
        refine lv_iconst (v := (-1)) hx hb dX6_manLine_74 (by decide) ?_
        refine lv_goto (tgt := 102) hx hb dX6_manLine_75 (by decide) ?_
        refine lv_istore_n (lv' := [(3, .int (-1)), (2, .int (-1)), (1, .int r8), (0, .ref (x 2))]) hx hb dX6_manLine_102 rfl hl (by decide) rfl (fun ls hl => ?_)
        refine lv_iload_n hx hb dX6_manLine_103 rfl (lv_at hl 0 rfl) ?_
        refine lv_if_ge (tgt := 109) hx hb dX6_manLine_104 (by decide) (fun c0 => absurd c0 (by decide)) (fun _ => ?_)
        refine lv_iconst (v := 0) hx hb dX6_manLine_107 (by decide) ?_
        exact ret 0 (v9, f10) _ _ _ _ _ _ rfl ⟨hIv9, (hk0_v9.trans (hk0_v5.trans hk0_v2)), (hk1_v9.trans (hk1_v5.trans hk1_v2)), (hk10_v9.trans (hk10_v5.trans hk10_v2)), (hk32_v9.trans (hk32_v5.trans hk32_v2)), (Or.inr rfl)⟩ hP hD hS dX6_manLine_108 (Nat.le_refl _) (Nat.le_refl _)
    · skip
      subst g7
      refine lv_if_ne (tgt := 44) hx hb dX6_manLine_39 (by decide) (fun c0 => absurd (by decide) c0) (fun _ => ?_)
      refine lv_iconst (v := 0) hx hb dX6_manLine_42 (by decide) ?_
      exact ret 0 (v5, f6) _ _ _ _ _ _ rfl ⟨hIv5, (hk0_v5.trans hk0_v2), (hk1_v5.trans hk1_v2), (hk10_v5.trans hk10_v2), (hk32_v5.trans hk32_v2), (Or.inr rfl)⟩ hP hD hS dX6_manLine_43 (Nat.le_refl _) (Nat.le_refl _)
  · skip
    have zc1 : ¬ ((v 9).toInt < 6) := by rw [fa_lt, show (6 : Int32).toInt = 6 from by decide] at c1; exact c1
    refine lv_aload_n hx hb dX6_manLine_12 rfl (lv_at hl 0 rfl) ?_
    refine cbVi (n := 0) (rest := []) hx hb hml hown hts hE hP hD hS hA (sX_X6_refuse_1 l dC dI cy x0 x  v f hIv ) k_691 k_693 k_6 k_103 k_694 (by decide +kernel) ⟨Nat.le_of_ble_eq_true rfl, Nat.le_of_ble_eq_true rfl⟩ 3 6 rfl rfl (rfl) hl.1 rfl (Nat.le_of_ble_eq_true rfl) dX6_manLine_13 (fun r25 u H locs hw hP hD hS => ?_)
    obtain ⟨v26, f27⟩ := u
    obtain ⟨hIv26, hk0_v26, hk1_v26, hk9_v26, hk10_v26, hk31_v26, hk32_v26, hw⟩ := hw
    have hP : va_P (dC, dI) vwCl (XW cy x0 x v26 f27) H := hP
    have hD : va_D A (XW cy x0 x v26 f27) := hD
    have hq0_v26 : v26 0 = (v 0) := hk0_v26
    have hq1_v26 : v26 1 = (v 1) := hk1_v26
    have hq9_v26 : v26 9 = (v 9) := hk9_v26
    have hq10_v26 : v26 10 = (v 10) := hk10_v26
    have hq31_v26 : v26 31 = (v 31) := hk31_v26
    have hq32_v26 : v26 32 = (v 32) := hk32_v26
    rcases hw with ⟨g28⟩ | ⟨g28⟩
    · skip
      subst g28
      exact ret 1 (v26, f27) _ _ _ _ _ _ rfl ⟨hIv26, hk0_v26, hk1_v26, hk10_v26, hk32_v26, (Or.inl rfl)⟩ hP hD hS dX6_manLine_16 (Nat.le_refl _) (Nat.le_refl _)
    · skip
      subst g28
      exact ret 0 (v26, f27) _ _ _ _ _ _ rfl ⟨hIv26, hk0_v26, hk1_v26, hk10_v26, hk32_v26, (Or.inr rfl)⟩ hP hD hS dX6_manLine_16 (Nat.le_refl _) (Nat.le_refl _)
set_option maxHeartbeats 4000000 in
set_option maxRecDepth 100000 in
theorem sX_X6_taken_1 (l : Launch) (dC : Nat → ClassId) (dI : Nat → Nat → Nat) (cy : Nat → ClassId) (x0 : Nat) (x : Nat → Nat) (p1 : Int32) (v : Nat → Int32) (f : Nat → Nat → Int32) (hIv : XI v)  : ctIS l (dC, dI) cy yX6_taken cX6_taken 2 .boolean 7 191 0 0 ((Nat → Int32) × (Nat → Nat → Int32)) [.ref (x 2), .int p1] (XW cy x0 x v f) (fun r u => XI u.1 ∧ u.1 0 = v 0 ∧ u.1 1 = v 1 ∧ u.1 9 = v 9 ∧ u.1 10 = v 10 ∧ u.1 31 = v 31 ∧ u.1 32 = v 32 ∧ ((r = 1) ∨ (r = 0))) (fun u => XW cy x0 x u.1 u.2) := by
  refine ctIS_of (by decide) (Nat.le_of_ble_eq_true rfl) (fun p e s m below meth c A ls Q hx hb hml hts hown hE hF hT hP hD hA hl ret => ?_)
  have hown : s.vm.findClass RX6 = some m.cls := hown
  have hS : va_S A s.heap s.heap [] := va_S.rf
  have hl : lv_has ls 2 [(0, .ref (x 2)), (1, .int p1)] := hl
  refine lv_aload_n hx hb dX6_taken_0 rfl (lv_at hl 0 rfl) ?_
  refine va_get (D := (dC, dI)) (ci := 6) (v := .ref (x 0)) (C := RX6) (T := TX6) (N := 7) hx hb hts inB_6 hown hE.1 hP 3 rfl rfl 0 (by decide) (hts _ k_265) (fun _ h9 => h9) rfl dX6_taken_1 ?_
  refine va_getN (D := (dC, dI)) (ci := 9) (v := .int (v 2)) (C := RX9) (T := TX9) (N := 6) hx hb hts inB_9 hown hE.1 hP 1 rfl rfl 2 (by decide) (va_Nw.use rfl (hE.2 _ k_139)) (fun _ h9 => h9) rfl dX6_taken_4 ?_
  refine lv_iload_n hx hb dX6_taken_7 rfl (lv_at hl 1 rfl) ?_
  refine lv_icmp_eq (tgt := 16) hx hb dX6_taken_8 (by decide) (fun c1 => ?_) (fun c1 => ?_)
  · skip
    have zc1 : (v 2).toInt = p1.toInt := by rw [fa_eq] at c1; exact c1
    have rg2 := fb_rng (v 2)
    have rg3 := fb_rng p1
    refine lv_aload_n hx hb dX6_taken_16 rfl (lv_at hl 0 rfl) ?_
    refine va_get (D := (dC, dI)) (ci := 6) (v := .ref (x 0)) (C := RX6) (T := TX6) (N := 7) hx hb hts inB_6 hown hE.1 hP 3 rfl rfl 0 (by decide) (hts _ k_265) (fun _ h9 => h9) rfl dX6_taken_17 ?_
    refine csVv (n := 0) (rest := []) hx hb hml hown hts hE hP hD hS hA hF hT (sX_X9_advance_1 l dC dI cy x0 x  v f hIv ) k_699 k_559 k_560 k_102 k_561 (by decide +kernel) ⟨Nat.le_of_ble_eq_true rfl, Nat.le_of_ble_eq_true rfl⟩ 1 9 rfl rfl (rfl) hl.1 rfl (Nat.le_of_ble_eq_true rfl) dX6_taken_20 (fun u H locs hw hP hD hS => ?_)
    obtain ⟨v4, f5⟩ := u
    obtain ⟨hIv4, hk0_v4, hk1_v4, hk9_v4, hk10_v4, hk31_v4, hk32_v4⟩ := hw
    have hP : va_P (dC, dI) vwCl (XW cy x0 x v4 f5) H := hP
    have hD : va_D A (XW cy x0 x v4 f5) := hD
    have hq0_v4 : v4 0 = (v 0) := hk0_v4
    have hq1_v4 : v4 1 = (v 1) := hk1_v4
    have hq9_v4 : v4 9 = (v 9) := hk9_v4
    have hq10_v4 : v4 10 = (v 10) := hk10_v4
    have hq31_v4 : v4 31 = (v 31) := hk31_v4
    have hq32_v4 : v4 32 = (v 32) := hk32_v4
    refine lv_iconst (v := 1) hx hb dX6_taken_23 (by decide) ?_
    exact ret 1 (v4, f5) _ _ _ _ _ _ rfl ⟨hIv4, hk0_v4, hk1_v4, hk9_v4, hk10_v4, hk31_v4, hk32_v4, (Or.inl rfl)⟩ hP hD hS dX6_taken_24 (Nat.le_refl _) (Nat.le_refl _)
  · skip
    have zc1 : ¬ ((v 2).toInt = p1.toInt) := by rw [fa_eq] at c1; exact c1
    have rg6 := fb_rng (v 2)
    have rg7 := fb_rng p1
    refine lv_aload_n hx hb dX6_taken_11 rfl (lv_at hl 0 rfl) ?_
    refine cbVi (n := 0) (rest := []) hx hb hml hown hts hE hP hD hS hA (sX_X6_refuse_1 l dC dI cy x0 x  v f hIv ) k_691 k_693 k_6 k_103 k_694 (by decide +kernel) ⟨Nat.le_of_ble_eq_true rfl, Nat.le_of_ble_eq_true rfl⟩ 3 6 rfl rfl (rfl) hl.1 rfl (Nat.le_of_ble_eq_true rfl) dX6_taken_12 (fun r8 u H locs hw hP hD hS => ?_)
    obtain ⟨v9, f10⟩ := u
    obtain ⟨hIv9, hk0_v9, hk1_v9, hk9_v9, hk10_v9, hk31_v9, hk32_v9, hw⟩ := hw
    have hP : va_P (dC, dI) vwCl (XW cy x0 x v9 f10) H := hP
    have hD : va_D A (XW cy x0 x v9 f10) := hD
    have hq0_v9 : v9 0 = (v 0) := hk0_v9
    have hq1_v9 : v9 1 = (v 1) := hk1_v9
    have hq9_v9 : v9 9 = (v 9) := hk9_v9
    have hq10_v9 : v9 10 = (v 10) := hk10_v9
    have hq31_v9 : v9 31 = (v 31) := hk31_v9
    have hq32_v9 : v9 32 = (v 32) := hk32_v9
    rcases hw with ⟨g11⟩ | ⟨g11⟩
    · skip
      subst g11
      exact ret 1 (v9, f10) _ _ _ _ _ _ rfl ⟨hIv9, hk0_v9, hk1_v9, hk9_v9, hk10_v9, hk31_v9, hk32_v9, (Or.inl rfl)⟩ hP hD hS dX6_taken_15 (Nat.le_refl _) (Nat.le_refl _)
    · skip
      subst g11
      exact ret 0 (v9, f10) _ _ _ _ _ _ rfl ⟨hIv9, hk0_v9, hk1_v9, hk9_v9, hk10_v9, hk31_v9, hk32_v9, (Or.inr rfl)⟩ hP hD hS dX6_taken_15 (Nat.le_refl _) (Nat.le_refl _)
set_option maxHeartbeats 4000000 in
set_option maxRecDepth 100000 in
theorem sX_X6_closing_1 (l : Launch) (dC : Nat → ClassId) (dI : Nat → Nat → Nat) (cy : Nat → ClassId) (x0 : Nat) (x : Nat → Nat)  (v : Nat → Int32) (f : Nat → Nat → Int32) (hIv : XI v)  : ctIS l (dC, dI) cy yX6_closing cX6_closing 1 .boolean 8 212 0 0 ((Nat → Int32) × (Nat → Nat → Int32)) [.ref (x 2)] (XW cy x0 x v f) (fun r u => XI u.1 ∧ u.1 0 = v 0 ∧ u.1 1 = v 1 ∧ u.1 9 = v 9 ∧ u.1 10 = v 10 ∧ u.1 31 = v 31 ∧ u.1 32 = v 32 ∧ ((r = 1) ∨ (r = 0))) (fun u => XW cy x0 x u.1 u.2) := by
  refine ctIS_of (by decide) (Nat.le_of_ble_eq_true rfl) (fun p e s m below meth c A ls Q hx hb hml hts hown hE hF hT hP hD hA hl ret => ?_)
  have hown : s.vm.findClass RX6 = some m.cls := hown
  have hS : va_S A s.heap s.heap [] := va_S.rf
  have hl : lv_has ls 1 [(0, .ref (x 2))] := hl
  refine lv_aload_n hx hb dX6_closing_0 rfl (lv_at hl 0 rfl) ?_
  refine lv_bipush (v := 59) hx hb dX6_closing_1 (by decide) ?_
  refine csVi (n := 1) (rest := []) hx hb hml hown hts hE hP hD hS hA hF hT (sX_X6_taken_1 l dC dI cy x0 x 59 v f hIv ) k_724 k_726 k_12 k_103 k_727 (by decide +kernel) ⟨Nat.le_of_ble_eq_true rfl, Nat.le_of_ble_eq_true rfl⟩ 3 6 rfl rfl (rfl) hl.1 rfl (Nat.le_of_ble_eq_true rfl) dX6_closing_3 (fun r1 u H locs hw hP hD hS => ?_)
  obtain ⟨v2, f3⟩ := u
  obtain ⟨hIv2, hk0_v2, hk1_v2, hk9_v2, hk10_v2, hk31_v2, hk32_v2, hw⟩ := hw
  have hP : va_P (dC, dI) vwCl (XW cy x0 x v2 f3) H := hP
  have hD : va_D A (XW cy x0 x v2 f3) := hD
  have hq0_v2 : v2 0 = (v 0) := hk0_v2
  have hq1_v2 : v2 1 = (v 1) := hk1_v2
  have hq9_v2 : v2 9 = (v 9) := hk9_v2
  have hq10_v2 : v2 10 = (v 10) := hk10_v2
  have hq31_v2 : v2 31 = (v 31) := hk31_v2
  have hq32_v2 : v2 32 = (v 32) := hk32_v2
  rcases hw with ⟨g4⟩ | ⟨g4⟩
  · skip
    subst g4
    exact ret 1 (v2, f3) _ _ _ _ _ _ rfl ⟨hIv2, hk0_v2, hk1_v2, hk9_v2, hk10_v2, hk31_v2, hk32_v2, (Or.inl rfl)⟩ hP hD hS dX6_closing_6 (Nat.le_refl _) (Nat.le_refl _)
  · skip
    subst g4
    exact ret 0 (v2, f3) _ _ _ _ _ _ rfl ⟨hIv2, hk0_v2, hk1_v2, hk9_v2, hk10_v2, hk31_v2, hk32_v2, (Or.inr rfl)⟩ hP hD hS dX6_closing_6 (Nat.le_refl _) (Nat.le_refl _)
set_option maxHeartbeats 4000000 in
set_option maxRecDepth 100000 in
theorem sX_X6_name_2 (l : Launch) (dC : Nat → ClassId) (dI : Nat → Nat → Nat) (cy : Nat → ClassId) (x0 : Nat) (x : Nat → Nat) (p2 : Int32) (v : Nat → Int32) (f : Nat → Nat → Int32) (hIv : XI v)  : ctIS l (dC, dI) cy yX6_name cX6_name 4 .boolean 7 191 0 0 ((Nat → Int32) × (Nat → Nat → Int32)) [.ref (x 2), .ref (x 12), .int p2] (XW cy x0 x v f) (fun r u => XI u.1 ∧ u.1 0 = v 0 ∧ u.1 1 = v 1 ∧ u.1 9 = v 9 ∧ u.1 10 = v 10 ∧ u.1 31 = v 31 ∧ u.1 32 = v 32 ∧ ((r = 1) ∨ (r = 0))) (fun u => XW cy x0 x u.1 u.2) := by
  refine ctIS_of (by decide) (Nat.le_of_ble_eq_true rfl) (fun p e s m below meth c A ls Q hx hb hml hts hown hE hF hT hP hD hA hl ret => ?_)
  have hown : s.vm.findClass RX6 = some m.cls := hown
  have hS : va_S A s.heap s.heap [] := va_S.rf
  have hl : lv_has ls 4 [(0, .ref (x 2)), (1, .ref (x 12)), (2, .int p2)] := hl
  refine lv_aload_n hx hb dX6_name_0 rfl (lv_at hl 0 rfl) ?_
  refine va_get (D := (dC, dI)) (ci := 6) (v := .ref (x 0)) (C := RX6) (T := TX6) (N := 7) hx hb hts inB_6 hown hE.1 hP 3 rfl rfl 0 (by decide) (hts _ k_265) (fun _ h9 => h9) rfl dX6_name_1 ?_
  refine va_getN (D := (dC, dI)) (ci := 9) (v := .int (v 2)) (C := RX9) (T := TX9) (N := 6) hx hb hts inB_9 hown hE.1 hP 1 rfl rfl 2 (by decide) (va_Nw.use rfl (hE.2 _ k_139)) (fun _ h9 => h9) rfl dX6_name_4 ?_
  refine lv_iconst (v := 3) hx hb dX6_name_7 (by decide) ?_
  refine lv_icmp_eq (tgt := 16) hx hb dX6_name_8 (by decide) (fun c1 => ?_) (fun c1 => ?_)
  · skip
    have zc1 : (v 2).toInt = 3 := by rw [fa_eq, show (3 : Int32).toInt = 3 from by decide] at c1; exact c1
    refine lv_iconst (v := 0) hx hb dX6_name_16 (by decide) ?_
    refine lv_istore_n (lv' := [(3, .int 0), (0, .ref (x 2)), (1, .ref (x 12)), (2, .int p2)]) hx hb dX6_name_17 rfl hl (by decide) rfl (fun ls hl => ?_)
    have lp2 : ∀ (n2 : Nat) (l3_2 : Int32) (v2 : Nat → Int32) (f2 : Nat → Nat → Int32), XI v2 → v2 0 = (v 0) → v2 1 = (v 1) → v2 9 = (v 9) → v2 10 = (v 10) → v2 31 = (v 31) → v2 32 = (v 32) → ((0 : Int) ≤ l3_2.toInt ∧ l3_2.toInt ≤ 2147483647) → (2147483647 - l3_2.toInt).toNat < n2 → ∀ (H : Heap) (locs : List Loc) (ls : Array Slot), va_P (dC, dI) vwCl (XW cy x0 x v2 f2) H → va_D A (XW cy x0 x v2 f2) → va_S A s.heap H locs → lv_has ls 4 [(3, .int l3_2), (0, .ref (x 2)), (1, .ref (x 12)), (2, .int p2)] → W p l e { frames := 7, cells := 0, slots := 0, locals := 191 } s m ([.ref (x 2), .ref (x 12), .int p2] : List Value).toArray below meth c H locs 0 0 Q (F0 m 18 ls []) := by
      intro n2
      induction n2 with
      | zero => intro l3_2 v2 f2 hIv2 hq0_v2 hq1_v2 hq9_v2 hq10_v2 hq31_v2 hq32_v2 hr3_2 hm; exact absurd hm (Nat.not_lt_zero _)
      | succ n2 ih2 =>
        intro l3_2 v2 f2 hIv2 hq0_v2 hq1_v2 hq9_v2 hq10_v2 hq31_v2 hq32_v2 hr3_2 hm2 H locs ls hP hD hS hl
        refine lv_iload_n hx hb dX6_name_18 rfl (lv_at hl 0 rfl) ?_
        refine lv_iload_n hx hb dX6_name_19 rfl (lv_at hl 3 rfl) ?_
        refine lv_icmp_ge (tgt := 61) hx hb dX6_name_20 (by decide) (fun c3 => ?_) (fun c3 => ?_)
        · skip
          have zc3 : p2.toInt ≤ l3_2.toInt := by rw [fa_le] at c3; exact c3
          have rg4 := fb_rng l3_2
          have rg5 := fb_rng p2
          refine lv_iload_n hx hb dX6_name_61 rfl (lv_at hl 3 rfl) ?_
          refine lv_if_lt (tgt := 81) hx hb dX6_name_62 (by decide) (fun c6 => ?_) (fun c6 => ?_)
          · skip
            have zc6 : p2.toInt < 0 := by rw [fa_lt, show (0 : Int32).toInt = 0 from by decide] at c6; exact c6
            refine lv_aload_n hx hb dX6_name_81 rfl (lv_at hl 1 rfl) ?_
            refine va_get (D := (dC, dI)) (ci := 6) (v := .ref (x 0)) (C := RX6) (T := TX6) (N := 7) hx hb hts inB_6 hown hE.1 hP 3 rfl rfl 0 (by decide) (hts _ k_265) (fun _ h9 => h9) rfl dX6_name_82 ?_
            refine csVv (n := 0) (rest := []) hx hb hml hown hts hE hP hD hS hA hF hT (sX_X9_advance_1 l dC dI cy x0 x  v2 f2 hIv2 ) k_699 k_559 k_560 k_102 k_561 (by decide +kernel) ⟨Nat.le_of_ble_eq_true rfl, Nat.le_of_ble_eq_true rfl⟩ 1 9 rfl rfl (rfl) hl.1 rfl (Nat.le_of_ble_eq_true rfl) dX6_name_85 (fun u H locs hw hP hD hS => ?_)
            obtain ⟨v7, f8⟩ := u
            obtain ⟨hIv7, hk0_v7, hk1_v7, hk9_v7, hk10_v7, hk31_v7, hk32_v7⟩ := hw
            have hP : va_P (dC, dI) vwCl (XW cy x0 x v7 f8) H := hP
            have hD : va_D A (XW cy x0 x v7 f8) := hD
            have hq0_v7 : v7 0 = (v 0) := hk0_v7.trans hq0_v2
            have hq1_v7 : v7 1 = (v 1) := hk1_v7.trans hq1_v2
            have hq9_v7 : v7 9 = (v 9) := hk9_v7.trans hq9_v2
            have hq10_v7 : v7 10 = (v 10) := hk10_v7.trans hq10_v2
            have hq31_v7 : v7 31 = (v 31) := hk31_v7.trans hq31_v2
            have hq32_v7 : v7 32 = (v 32) := hk32_v7.trans hq32_v2
            refine lv_iconst (v := 1) hx hb dX6_name_88 (by decide) ?_
            exact ret 1 (v7, f8) _ _ _ _ _ _ rfl ⟨hIv7, (hk0_v7.trans (show v2 0 = v 0 from hq0_v2)), (hk1_v7.trans (show v2 1 = v 1 from hq1_v2)), (hk9_v7.trans (show v2 9 = v 9 from hq9_v2)), (hk10_v7.trans (show v2 10 = v 10 from hq10_v2)), (hk31_v7.trans (show v2 31 = v 31 from hq31_v2)), (hk32_v7.trans (show v2 32 = v 32 from hq32_v2)), (Or.inl rfl)⟩ hP hD hS dX6_name_89 (Nat.le_refl _) (Nat.le_refl _)
          · skip
            have zc6 : ¬ (p2.toInt < 0) := by rw [fa_lt, show (0 : Int32).toInt = 0 from by decide] at c6; exact c6
            refine lv_iload_n hx hb dX6_name_65 rfl (lv_at hl 3 rfl) ?_
            refine lv_aload_n hx hb dX6_name_66 rfl (lv_at hl 2 rfl) ?_
            refine va_alen (v := 6) hx hb hE.1 hP 13 1 rfl rfl rfl dX6_name_67 ?_
            refine lv_icmp_ge (tgt := 81) hx hb dX6_name_68 (by decide) (fun c9 => ?_) (fun c9 => ?_)
            · skip
              have zc9 : 6 ≤ p2.toInt := by rw [fa_le, show (6 : Int32).toInt = 6 from by decide] at c9; exact c9
              refine lv_aload_n hx hb dX6_name_81 rfl (lv_at hl 1 rfl) ?_
              refine va_get (D := (dC, dI)) (ci := 6) (v := .ref (x 0)) (C := RX6) (T := TX6) (N := 7) hx hb hts inB_6 hown hE.1 hP 3 rfl rfl 0 (by decide) (hts _ k_265) (fun _ h9 => h9) rfl dX6_name_82 ?_
              refine csVv (n := 0) (rest := []) hx hb hml hown hts hE hP hD hS hA hF hT (sX_X9_advance_1 l dC dI cy x0 x  v2 f2 hIv2 ) k_699 k_559 k_560 k_102 k_561 (by decide +kernel) ⟨Nat.le_of_ble_eq_true rfl, Nat.le_of_ble_eq_true rfl⟩ 1 9 rfl rfl (rfl) hl.1 rfl (Nat.le_of_ble_eq_true rfl) dX6_name_85 (fun u H locs hw hP hD hS => ?_)
              obtain ⟨v10, f11⟩ := u
              obtain ⟨hIv10, hk0_v10, hk1_v10, hk9_v10, hk10_v10, hk31_v10, hk32_v10⟩ := hw
              have hP : va_P (dC, dI) vwCl (XW cy x0 x v10 f11) H := hP
              have hD : va_D A (XW cy x0 x v10 f11) := hD
              have hq0_v10 : v10 0 = (v 0) := hk0_v10.trans hq0_v2
              have hq1_v10 : v10 1 = (v 1) := hk1_v10.trans hq1_v2
              have hq9_v10 : v10 9 = (v 9) := hk9_v10.trans hq9_v2
              have hq10_v10 : v10 10 = (v 10) := hk10_v10.trans hq10_v2
              have hq31_v10 : v10 31 = (v 31) := hk31_v10.trans hq31_v2
              have hq32_v10 : v10 32 = (v 32) := hk32_v10.trans hq32_v2
              refine lv_iconst (v := 1) hx hb dX6_name_88 (by decide) ?_
              exact ret 1 (v10, f11) _ _ _ _ _ _ rfl ⟨hIv10, (hk0_v10.trans (show v2 0 = v 0 from hq0_v2)), (hk1_v10.trans (show v2 1 = v 1 from hq1_v2)), (hk9_v10.trans (show v2 9 = v 9 from hq9_v2)), (hk10_v10.trans (show v2 10 = v 10 from hq10_v2)), (hk31_v10.trans (show v2 31 = v 31 from hq31_v2)), (hk32_v10.trans (show v2 32 = v 32 from hq32_v2)), (Or.inl rfl)⟩ hP hD hS dX6_name_89 (Nat.le_refl _) (Nat.le_refl _)
            · skip
              have zc9 : ¬ (6 ≤ p2.toInt) := by rw [fa_le, show (6 : Int32).toInt = 6 from by decide] at c9; exact c9
              refine lv_aload_n hx hb dX6_name_71 rfl (lv_at hl 2 rfl) ?_
              refine lv_iload_n hx hb dX6_name_72 rfl (lv_at hl 3 rfl) ?_
              refine lv_aload_n hx hb dX6_name_73 rfl (lv_at hl 1 rfl) ?_
              refine va_get (D := (dC, dI)) (ci := 6) (v := .ref (x 0)) (C := RX6) (T := TX6) (N := 7) hx hb hts inB_6 hown hE.1 hP 3 rfl rfl 0 (by decide) (hts _ k_265) (fun _ h9 => h9) rfl dX6_name_74 ?_
              refine va_getN (D := (dC, dI)) (ci := 9) (v := .int (v2 3)) (C := RX9) (T := TX9) (N := 6) hx hb hts inB_9 hown hE.1 hP 1 rfl rfl 3 (by decide) (va_Nw.use rfl (hE.2 _ k_142)) (fun _ h9 => h9) rfl dX6_name_77 ?_
              have b3_v2 : 0 ≤ (v2 3).toInt ∧ (v2 3).toInt ≤ 1600 := XI.b hIv2 3 (by decide)
              refine stI hx hb hE hP hD hS 13 rfl (vp_in_iff.mpr ⟨by omega, by omega⟩) rfl dX6_name_80 (fun H locs hP hD hS => ?_)
              obtain ⟨f12, hP, hD⟩ : ∃ fz9, va_P (dC, dI) vwCl (XW cy x0 x v2 fz9) H ∧ va_D A (XW cy x0 x v2 fz9) := ⟨upd2 f2 8 (upd (f2 8) p2.toNatClampNeg (v2 3)), hP, hD⟩
              refine lv_aload_n hx hb dX6_name_81 rfl (lv_at hl 1 rfl) ?_
              refine va_get (D := (dC, dI)) (ci := 6) (v := .ref (x 0)) (C := RX6) (T := TX6) (N := 7) hx hb hts inB_6 hown hE.1 hP 3 rfl rfl 0 (by decide) (hts _ k_265) (fun _ h9 => h9) rfl dX6_name_82 ?_
              refine csVv (n := 0) (rest := []) hx hb hml hown hts hE hP hD hS hA hF hT (sX_X9_advance_1 l dC dI cy x0 x  v2 f12 hIv2 ) k_699 k_559 k_560 k_102 k_561 (by decide +kernel) ⟨Nat.le_of_ble_eq_true rfl, Nat.le_of_ble_eq_true rfl⟩ 1 9 rfl rfl (rfl) hl.1 rfl (Nat.le_of_ble_eq_true rfl) dX6_name_85 (fun u H locs hw hP hD hS => ?_)
              obtain ⟨v13, f14⟩ := u
              obtain ⟨hIv13, hk0_v13, hk1_v13, hk9_v13, hk10_v13, hk31_v13, hk32_v13⟩ := hw
              have hP : va_P (dC, dI) vwCl (XW cy x0 x v13 f14) H := hP
              have hD : va_D A (XW cy x0 x v13 f14) := hD
              have hq0_v13 : v13 0 = (v 0) := hk0_v13.trans hq0_v2
              have hq1_v13 : v13 1 = (v 1) := hk1_v13.trans hq1_v2
              have hq9_v13 : v13 9 = (v 9) := hk9_v13.trans hq9_v2
              have hq10_v13 : v13 10 = (v 10) := hk10_v13.trans hq10_v2
              have hq31_v13 : v13 31 = (v 31) := hk31_v13.trans hq31_v2
              have hq32_v13 : v13 32 = (v 32) := hk32_v13.trans hq32_v2
              refine lv_iconst (v := 1) hx hb dX6_name_88 (by decide) ?_
              exact ret 1 (v13, f14) _ _ _ _ _ _ rfl ⟨hIv13, (hk0_v13.trans (show v2 0 = v 0 from hq0_v2)), (hk1_v13.trans (show v2 1 = v 1 from hq1_v2)), (hk9_v13.trans (show v2 9 = v 9 from hq9_v2)), (hk10_v13.trans (show v2 10 = v 10 from hq10_v2)), (hk31_v13.trans (show v2 31 = v 31 from hq31_v2)), (hk32_v13.trans (show v2 32 = v 32 from hq32_v2)), (Or.inl rfl)⟩ hP hD hS dX6_name_89 (Nat.le_refl _) (Nat.le_refl _)
        · skip
          have zc3 : ¬ (p2.toInt ≤ l3_2.toInt) := by rw [fa_le] at c3; exact c3
          have rg15 := fb_rng l3_2
          have rg16 := fb_rng p2
          refine lv_iload_n hx hb dX6_name_23 rfl (lv_at hl 0 rfl) ?_
          refine lv_aload_n hx hb dX6_name_24 rfl (lv_at hl 2 rfl) ?_
          refine va_alen (v := 6) hx hb hE.1 hP 13 1 rfl rfl rfl dX6_name_25 ?_
          refine lv_icmp_ge (tgt := 61) hx hb dX6_name_26 (by decide) (fun c17 => ?_) (fun c17 => ?_)
          · skip
            have zc17 : 6 ≤ l3_2.toInt := by rw [fa_le, show (6 : Int32).toInt = 6 from by decide] at c17; exact c17
            refine lv_iload_n hx hb dX6_name_61 rfl (lv_at hl 3 rfl) ?_
            refine lv_if_lt (tgt := 81) hx hb dX6_name_62 (by decide) (fun c18 => ?_) (fun c18 => ?_)
            · skip
              have zc18 : p2.toInt < 0 := by rw [fa_lt, show (0 : Int32).toInt = 0 from by decide] at c18; exact c18
              refine lv_aload_n hx hb dX6_name_81 rfl (lv_at hl 1 rfl) ?_
              refine va_get (D := (dC, dI)) (ci := 6) (v := .ref (x 0)) (C := RX6) (T := TX6) (N := 7) hx hb hts inB_6 hown hE.1 hP 3 rfl rfl 0 (by decide) (hts _ k_265) (fun _ h9 => h9) rfl dX6_name_82 ?_
              refine csVv (n := 0) (rest := []) hx hb hml hown hts hE hP hD hS hA hF hT (sX_X9_advance_1 l dC dI cy x0 x  v2 f2 hIv2 ) k_699 k_559 k_560 k_102 k_561 (by decide +kernel) ⟨Nat.le_of_ble_eq_true rfl, Nat.le_of_ble_eq_true rfl⟩ 1 9 rfl rfl (rfl) hl.1 rfl (Nat.le_of_ble_eq_true rfl) dX6_name_85 (fun u H locs hw hP hD hS => ?_)
              obtain ⟨v19, f20⟩ := u
              obtain ⟨hIv19, hk0_v19, hk1_v19, hk9_v19, hk10_v19, hk31_v19, hk32_v19⟩ := hw
              have hP : va_P (dC, dI) vwCl (XW cy x0 x v19 f20) H := hP
              have hD : va_D A (XW cy x0 x v19 f20) := hD
              have hq0_v19 : v19 0 = (v 0) := hk0_v19.trans hq0_v2
              have hq1_v19 : v19 1 = (v 1) := hk1_v19.trans hq1_v2
              have hq9_v19 : v19 9 = (v 9) := hk9_v19.trans hq9_v2
              have hq10_v19 : v19 10 = (v 10) := hk10_v19.trans hq10_v2
              have hq31_v19 : v19 31 = (v 31) := hk31_v19.trans hq31_v2
              have hq32_v19 : v19 32 = (v 32) := hk32_v19.trans hq32_v2
              refine lv_iconst (v := 1) hx hb dX6_name_88 (by decide) ?_
              exact ret 1 (v19, f20) _ _ _ _ _ _ rfl ⟨hIv19, (hk0_v19.trans (show v2 0 = v 0 from hq0_v2)), (hk1_v19.trans (show v2 1 = v 1 from hq1_v2)), (hk9_v19.trans (show v2 9 = v 9 from hq9_v2)), (hk10_v19.trans (show v2 10 = v 10 from hq10_v2)), (hk31_v19.trans (show v2 31 = v 31 from hq31_v2)), (hk32_v19.trans (show v2 32 = v 32 from hq32_v2)), (Or.inl rfl)⟩ hP hD hS dX6_name_89 (Nat.le_refl _) (Nat.le_refl _)
            · skip
              have zc18 : ¬ (p2.toInt < 0) := by rw [fa_lt, show (0 : Int32).toInt = 0 from by decide] at c18; exact c18
              refine lv_iload_n hx hb dX6_name_65 rfl (lv_at hl 3 rfl) ?_
              refine lv_aload_n hx hb dX6_name_66 rfl (lv_at hl 2 rfl) ?_
              refine va_alen (v := 6) hx hb hE.1 hP 13 1 rfl rfl rfl dX6_name_67 ?_
              refine lv_icmp_ge (tgt := 81) hx hb dX6_name_68 (by decide) (fun c21 => ?_) (fun c21 => ?_)
              · skip
                have zc21 : 6 ≤ p2.toInt := by rw [fa_le, show (6 : Int32).toInt = 6 from by decide] at c21; exact c21
                refine lv_aload_n hx hb dX6_name_81 rfl (lv_at hl 1 rfl) ?_
                refine va_get (D := (dC, dI)) (ci := 6) (v := .ref (x 0)) (C := RX6) (T := TX6) (N := 7) hx hb hts inB_6 hown hE.1 hP 3 rfl rfl 0 (by decide) (hts _ k_265) (fun _ h9 => h9) rfl dX6_name_82 ?_
                refine csVv (n := 0) (rest := []) hx hb hml hown hts hE hP hD hS hA hF hT (sX_X9_advance_1 l dC dI cy x0 x  v2 f2 hIv2 ) k_699 k_559 k_560 k_102 k_561 (by decide +kernel) ⟨Nat.le_of_ble_eq_true rfl, Nat.le_of_ble_eq_true rfl⟩ 1 9 rfl rfl (rfl) hl.1 rfl (Nat.le_of_ble_eq_true rfl) dX6_name_85 (fun u H locs hw hP hD hS => ?_)
                obtain ⟨v22, f23⟩ := u
                obtain ⟨hIv22, hk0_v22, hk1_v22, hk9_v22, hk10_v22, hk31_v22, hk32_v22⟩ := hw
                have hP : va_P (dC, dI) vwCl (XW cy x0 x v22 f23) H := hP
                have hD : va_D A (XW cy x0 x v22 f23) := hD
                have hq0_v22 : v22 0 = (v 0) := hk0_v22.trans hq0_v2
                have hq1_v22 : v22 1 = (v 1) := hk1_v22.trans hq1_v2
                have hq9_v22 : v22 9 = (v 9) := hk9_v22.trans hq9_v2
                have hq10_v22 : v22 10 = (v 10) := hk10_v22.trans hq10_v2
                have hq31_v22 : v22 31 = (v 31) := hk31_v22.trans hq31_v2
                have hq32_v22 : v22 32 = (v 32) := hk32_v22.trans hq32_v2
                refine lv_iconst (v := 1) hx hb dX6_name_88 (by decide) ?_
                exact ret 1 (v22, f23) _ _ _ _ _ _ rfl ⟨hIv22, (hk0_v22.trans (show v2 0 = v 0 from hq0_v2)), (hk1_v22.trans (show v2 1 = v 1 from hq1_v2)), (hk9_v22.trans (show v2 9 = v 9 from hq9_v2)), (hk10_v22.trans (show v2 10 = v 10 from hq10_v2)), (hk31_v22.trans (show v2 31 = v 31 from hq31_v2)), (hk32_v22.trans (show v2 32 = v 32 from hq32_v2)), (Or.inl rfl)⟩ hP hD hS dX6_name_89 (Nat.le_refl _) (Nat.le_refl _)
              · skip
                have zc21 : ¬ (6 ≤ p2.toInt) := by rw [fa_le, show (6 : Int32).toInt = 6 from by decide] at c21; exact c21
                refine lv_aload_n hx hb dX6_name_71 rfl (lv_at hl 2 rfl) ?_
                refine lv_iload_n hx hb dX6_name_72 rfl (lv_at hl 3 rfl) ?_
                refine lv_aload_n hx hb dX6_name_73 rfl (lv_at hl 1 rfl) ?_
                refine va_get (D := (dC, dI)) (ci := 6) (v := .ref (x 0)) (C := RX6) (T := TX6) (N := 7) hx hb hts inB_6 hown hE.1 hP 3 rfl rfl 0 (by decide) (hts _ k_265) (fun _ h9 => h9) rfl dX6_name_74 ?_
                refine va_getN (D := (dC, dI)) (ci := 9) (v := .int (v2 3)) (C := RX9) (T := TX9) (N := 6) hx hb hts inB_9 hown hE.1 hP 1 rfl rfl 3 (by decide) (va_Nw.use rfl (hE.2 _ k_142)) (fun _ h9 => h9) rfl dX6_name_77 ?_
                have b3_v2 : 0 ≤ (v2 3).toInt ∧ (v2 3).toInt ≤ 1600 := XI.b hIv2 3 (by decide)
                refine stI hx hb hE hP hD hS 13 rfl (vp_in_iff.mpr ⟨by omega, by omega⟩) rfl dX6_name_80 (fun H locs hP hD hS => ?_)
                obtain ⟨f24, hP, hD⟩ : ∃ fz9, va_P (dC, dI) vwCl (XW cy x0 x v2 fz9) H ∧ va_D A (XW cy x0 x v2 fz9) := ⟨upd2 f2 8 (upd (f2 8) p2.toNatClampNeg (v2 3)), hP, hD⟩
                refine lv_aload_n hx hb dX6_name_81 rfl (lv_at hl 1 rfl) ?_
                refine va_get (D := (dC, dI)) (ci := 6) (v := .ref (x 0)) (C := RX6) (T := TX6) (N := 7) hx hb hts inB_6 hown hE.1 hP 3 rfl rfl 0 (by decide) (hts _ k_265) (fun _ h9 => h9) rfl dX6_name_82 ?_
                refine csVv (n := 0) (rest := []) hx hb hml hown hts hE hP hD hS hA hF hT (sX_X9_advance_1 l dC dI cy x0 x  v2 f24 hIv2 ) k_699 k_559 k_560 k_102 k_561 (by decide +kernel) ⟨Nat.le_of_ble_eq_true rfl, Nat.le_of_ble_eq_true rfl⟩ 1 9 rfl rfl (rfl) hl.1 rfl (Nat.le_of_ble_eq_true rfl) dX6_name_85 (fun u H locs hw hP hD hS => ?_)
                obtain ⟨v25, f26⟩ := u
                obtain ⟨hIv25, hk0_v25, hk1_v25, hk9_v25, hk10_v25, hk31_v25, hk32_v25⟩ := hw
                have hP : va_P (dC, dI) vwCl (XW cy x0 x v25 f26) H := hP
                have hD : va_D A (XW cy x0 x v25 f26) := hD
                have hq0_v25 : v25 0 = (v 0) := hk0_v25.trans hq0_v2
                have hq1_v25 : v25 1 = (v 1) := hk1_v25.trans hq1_v2
                have hq9_v25 : v25 9 = (v 9) := hk9_v25.trans hq9_v2
                have hq10_v25 : v25 10 = (v 10) := hk10_v25.trans hq10_v2
                have hq31_v25 : v25 31 = (v 31) := hk31_v25.trans hq31_v2
                have hq32_v25 : v25 32 = (v 32) := hk32_v25.trans hq32_v2
                refine lv_iconst (v := 1) hx hb dX6_name_88 (by decide) ?_
                exact ret 1 (v25, f26) _ _ _ _ _ _ rfl ⟨hIv25, (hk0_v25.trans (show v2 0 = v 0 from hq0_v2)), (hk1_v25.trans (show v2 1 = v 1 from hq1_v2)), (hk9_v25.trans (show v2 9 = v 9 from hq9_v2)), (hk10_v25.trans (show v2 10 = v 10 from hq10_v2)), (hk31_v25.trans (show v2 31 = v 31 from hq31_v2)), (hk32_v25.trans (show v2 32 = v 32 from hq32_v2)), (Or.inl rfl)⟩ hP hD hS dX6_name_89 (Nat.le_refl _) (Nat.le_refl _)
          · skip
            have zc17 : ¬ (6 ≤ l3_2.toInt) := by rw [fa_le, show (6 : Int32).toInt = 6 from by decide] at c17; exact c17
            refine lv_aload_n hx hb dX6_name_29 rfl (lv_at hl 1 rfl) ?_
            refine va_get (D := (dC, dI)) (ci := 6) (v := .ref (x 0)) (C := RX6) (T := TX6) (N := 7) hx hb hts inB_6 hown hE.1 hP 3 rfl rfl 0 (by decide) (hts _ k_265) (fun _ h9 => h9) rfl dX6_name_30 ?_
            refine lv_aload_n hx hb dX6_name_33 rfl (lv_at hl 2 rfl) ?_
            refine lv_iload_n hx hb dX6_name_34 rfl (lv_at hl 0 rfl) ?_
            refine ldI hx hb hE hP 13 rfl (vp_in_iff.mpr ⟨by omega, by omega⟩) rfl rfl dX6_name_35 ?_
            refine lv_topi (fun t27 et27 => ?_)
            refine lv_aload_n hx hb dX6_name_36 rfl (lv_at hl 1 rfl) ?_
            refine va_get (D := (dC, dI)) (ci := 6) (v := .ref (x 0)) (C := RX6) (T := TX6) (N := 7) hx hb hts inB_6 hown hE.1 hP 3 rfl rfl 0 (by decide) (hts _ k_265) (fun _ h9 => h9) rfl dX6_name_37 ?_
            refine va_getN (D := (dC, dI)) (ci := 9) (v := .int (v2 3)) (C := RX9) (T := TX9) (N := 6) hx hb hts inB_9 hown hE.1 hP 1 rfl rfl 3 (by decide) (va_Nw.use rfl (hE.2 _ k_142)) (fun _ h9 => h9) rfl dX6_name_40 ?_
            have b3_v2 : 0 ≤ (v2 3).toInt ∧ (v2 3).toInt ≤ 1600 := XI.b hIv2 3 (by decide)
            refine cbVi (n := 2) (rest := []) hx hb hml hown hts hE hP hD hS hA (sX_X9_sameWord_1 l dC dI cy x0 x t27 (v2 3) v2 f2 hIv2 ) k_704 k_705 k_706 k_102 k_707 (by decide +kernel) ⟨Nat.le_of_ble_eq_true rfl, Nat.le_of_ble_eq_true rfl⟩ 1 9 rfl rfl (rfl) hl.1 rfl (Nat.le_of_ble_eq_true rfl) dX6_name_43 (fun r28 u H locs hw hP hD hS => ?_)
            rcases hw with ⟨g29⟩ | ⟨g29⟩
            · skip
              subst g29
              refine lv_if_eq (tgt := 55) hx hb dX6_name_46 (by decide) (fun c0 => absurd c0 (by decide)) (fun _ => ?_)
              refine lv_aload_n hx hb dX6_name_49 rfl (lv_at hl 1 rfl) ?_
              refine lv_iconst (v := 3) hx hb dX6_name_50 (by decide) ?_
              refine cbVi (n := 1) (rest := []) hx hb hml hown hts hE hP hD hS hA (sX_X6_refuseAs_1 l dC dI cy x0 x 3 v2 f2 hIv2 ) k_695 k_697 k_7 k_103 k_698 (by decide +kernel) ⟨Nat.le_of_ble_eq_true rfl, Nat.le_of_ble_eq_true rfl⟩ 3 6 rfl rfl (rfl) hl.1 rfl (Nat.le_of_ble_eq_true rfl) dX6_name_51 (fun r30 u H locs hw hP hD hS => ?_)
              obtain ⟨v31, f32⟩ := u
              obtain ⟨hIv31, hk0_v31, hk1_v31, hk9_v31, hk10_v31, hk31_v31, hk32_v31, hw⟩ := hw
              have hP : va_P (dC, dI) vwCl (XW cy x0 x v31 f32) H := hP
              have hD : va_D A (XW cy x0 x v31 f32) := hD
              have hq0_v31 : v31 0 = (v 0) := hk0_v31.trans hq0_v2
              have hq1_v31 : v31 1 = (v 1) := hk1_v31.trans hq1_v2
              have hq9_v31 : v31 9 = (v 9) := hk9_v31.trans hq9_v2
              have hq10_v31 : v31 10 = (v 10) := hk10_v31.trans hq10_v2
              have hq31_v31 : v31 31 = (v 31) := hk31_v31.trans hq31_v2
              have hq32_v31 : v31 32 = (v 32) := hk32_v31.trans hq32_v2
              rcases hw with ⟨g33⟩ | ⟨g33⟩
              · skip
                subst g33
                exact ret 1 (v31, f32) _ _ _ _ _ _ rfl ⟨hIv31, (hk0_v31.trans (show v2 0 = v 0 from hq0_v2)), (hk1_v31.trans (show v2 1 = v 1 from hq1_v2)), (hk9_v31.trans (show v2 9 = v 9 from hq9_v2)), (hk10_v31.trans (show v2 10 = v 10 from hq10_v2)), (hk31_v31.trans (show v2 31 = v 31 from hq31_v2)), (hk32_v31.trans (show v2 32 = v 32 from hq32_v2)), (Or.inl rfl)⟩ hP hD hS dX6_name_54 (Nat.le_refl _) (Nat.le_refl _)
              · skip
                subst g33
                exact ret 0 (v31, f32) _ _ _ _ _ _ rfl ⟨hIv31, (hk0_v31.trans (show v2 0 = v 0 from hq0_v2)), (hk1_v31.trans (show v2 1 = v 1 from hq1_v2)), (hk9_v31.trans (show v2 9 = v 9 from hq9_v2)), (hk10_v31.trans (show v2 10 = v 10 from hq10_v2)), (hk31_v31.trans (show v2 31 = v 31 from hq31_v2)), (hk32_v31.trans (show v2 32 = v 32 from hq32_v2)), (Or.inr rfl)⟩ hP hD hS dX6_name_54 (Nat.le_refl _) (Nat.le_refl _)
            · skip
              subst g29
              refine lv_if_eq (tgt := 55) hx hb dX6_name_46 (by decide) (fun _ => ?_) (fun c0 => absurd (by decide) c0)
              obtain ⟨t34, et34⟩ : ∃ y : Int32, y = l3_2 + 1 := ⟨_, rfl⟩
              have zt34 : t34.toInt = l3_2.toInt + 1 := by rw [et34]; exact add_i rfl (by decide) (by omega) (by omega)
              refine lv_iinc (v := t34) (lv' := [(3, .int t34), (0, .ref (x 2)), (1, .ref (x 12)), (2, .int p2)]) hx hb dX6_name_55 hl (k := 0) rfl (by rw [et34]; rfl) (by decide) rfl (fun ls hl => ?_)
              refine lv_goto (tgt := 18) hx hb dX6_name_58 (by decide) ?_
              have rg35 := fb_rng t34
              exact ih2 t34 v2 f2 hIv2 hq0_v2 hq1_v2 hq9_v2 hq10_v2 hq31_v2 hq32_v2 ⟨show (0 : Int) ≤ t34.toInt by omega, show t34.toInt ≤ (2147483647 : Int) by omega⟩ (by show (2147483647 - t34.toInt).toNat < n2; omega) _ _ _ hP hD hS (lv_sub hl [0, 1, 2, 3] rfl)
    exact lp2 _ 0 v f hIv rfl rfl rfl rfl rfl rfl ⟨by decide, by decide⟩ (Nat.lt_succ_self _) _ _ _ hP hD hS (lv_sub hl [0, 1, 2, 3] rfl)
  · skip
    have zc1 : ¬ ((v 2).toInt = 3) := by rw [fa_eq, show (3 : Int32).toInt = 3 from by decide] at c1; exact c1
    refine lv_aload_n hx hb dX6_name_11 rfl (lv_at hl 0 rfl) ?_
    refine cbVi (n := 0) (rest := []) hx hb hml hown hts hE hP hD hS hA (sX_X6_refuse_1 l dC dI cy x0 x  v f hIv ) k_691 k_693 k_6 k_103 k_694 (by decide +kernel) ⟨Nat.le_of_ble_eq_true rfl, Nat.le_of_ble_eq_true rfl⟩ 3 6 rfl rfl (rfl) hl.1 rfl (Nat.le_of_ble_eq_true rfl) dX6_name_12 (fun r36 u H locs hw hP hD hS => ?_)
    obtain ⟨v37, f38⟩ := u
    obtain ⟨hIv37, hk0_v37, hk1_v37, hk9_v37, hk10_v37, hk31_v37, hk32_v37, hw⟩ := hw
    have hP : va_P (dC, dI) vwCl (XW cy x0 x v37 f38) H := hP
    have hD : va_D A (XW cy x0 x v37 f38) := hD
    have hq0_v37 : v37 0 = (v 0) := hk0_v37
    have hq1_v37 : v37 1 = (v 1) := hk1_v37
    have hq9_v37 : v37 9 = (v 9) := hk9_v37
    have hq10_v37 : v37 10 = (v 10) := hk10_v37
    have hq31_v37 : v37 31 = (v 31) := hk31_v37
    have hq32_v37 : v37 32 = (v 32) := hk32_v37
    rcases hw with ⟨g39⟩ | ⟨g39⟩
    · skip
      subst g39
      exact ret 1 (v37, f38) _ _ _ _ _ _ rfl ⟨hIv37, hk0_v37, hk1_v37, hk9_v37, hk10_v37, hk31_v37, hk32_v37, (Or.inl rfl)⟩ hP hD hS dX6_name_15 (Nat.le_refl _) (Nat.le_refl _)
    · skip
      subst g39
      exact ret 0 (v37, f38) _ _ _ _ _ _ rfl ⟨hIv37, hk0_v37, hk1_v37, hk9_v37, hk10_v37, hk31_v37, hk32_v37, (Or.inr rfl)⟩ hP hD hS dX6_name_15 (Nat.le_refl _) (Nat.le_refl _)
set_option maxHeartbeats 4000000 in
set_option maxRecDepth 100000 in
theorem sX_X7_addCoat_1 (l : Launch) (dC : Nat → ClassId) (dI : Nat → Nat → Nat) (cy : Nat → ClassId) (x0 : Nat) (x : Nat → Nat) (p1 : Int32) (p2 : Int32) (p3 : Int32) (p4 : Int32) (v : Nat → Int32) (f : Nat → Nat → Int32) (hIv : XI v)  : ctV l (dC, dI) cy yX7_addCoat cX7_addCoat 5 1 60 0 0 ((Nat → Int32) × (Nat → Nat → Int32)) [.ref (x 3), .int p1, .int p2, .int p3, .int p4] (XW cy x0 x v f) (fun u => XI u.1 ∧ u.1 0 = v 0 ∧ u.1 1 = v 1 ∧ u.1 9 = v 9 ∧ u.1 31 = v 31) (fun u => XW cy x0 x u.1 u.2) := by
  refine ctV_of (by decide) (Nat.le_of_ble_eq_true rfl) (fun p e s m below meth c A ls Q hx hb hml hts hown hnm hE hP hD hA hl ret => ?_)
  have hown : s.vm.findClass RX7 = some m.cls := hown
  have hS : va_S A s.heap s.heap [] := va_S.rf
  have hl : lv_has ls 5 [(0, .ref (x 3)), (1, .int p1), (2, .int p2), (3, .int p3), (4, .int p4)] := hl
  refine lv_aload_n hx hb dX7_addCoat_0 rfl (lv_at hl 0 rfl) ?_
  refine va_get (D := (dC, dI)) (ci := 7) (v := .int (v 10)) (C := RX7) (T := TX7) (N := 10) hx hb hts inB_7 hown hE.1 hP 4 rfl rfl 4 (by decide) (hts _ k_220) (fun _ h9 => h9) rfl dX7_addCoat_1 ?_
  have b10_v : 0 ≤ (v 10).toInt ∧ (v 10).toInt ≤ 6 := XI.b hIv 10 (by decide)
  refine lv_bipush (v := 6) hx hb dX7_addCoat_4 (by decide) ?_
  refine lv_icmp_ge (tgt := 71) hx hb dX7_addCoat_6 (by decide) (fun c1 => ?_) (fun c1 => ?_)
  · skip
    have zc1 : 6 ≤ (v 10).toInt := by rw [fa_le, show (6 : Int32).toInt = 6 from by decide] at c1; exact c1
    exact ret (v, f) _ _ _ _ _ _ ⟨hIv, rfl, rfl, rfl, rfl⟩ hP hD hS dX7_addCoat_71 (Nat.le_refl _) (Nat.le_refl _)
  · skip
    have zc1 : ¬ (6 ≤ (v 10).toInt) := by rw [fa_le, show (6 : Int32).toInt = 6 from by decide] at c1; exact c1
    refine lv_aload_n hx hb dX7_addCoat_9 rfl (lv_at hl 0 rfl) ?_
    refine va_get (D := (dC, dI)) (ci := 7) (v := .ref (x 5)) (C := RX7) (T := TX7) (N := 10) hx hb hts inB_7 hown hE.1 hP 4 rfl rfl 1 (by decide) (hts _ k_205) (fun _ h9 => h9) rfl dX7_addCoat_10 ?_
    refine lv_iconst (v := 0) hx hb dX7_addCoat_13 (by decide) ?_
    refine lv_aload_n hx hb dX7_addCoat_14 rfl (lv_at hl 0 rfl) ?_
    refine va_get (D := (dC, dI)) (ci := 7) (v := .int (v 10)) (C := RX7) (T := TX7) (N := 10) hx hb hts inB_7 hown hE.1 hP 4 rfl rfl 4 (by decide) (hts _ k_220) (fun _ h9 => h9) rfl dX7_addCoat_15 ?_
    refine lv_iadd hx hb dX7_addCoat_18 ?_
    refine lv_topi (fun t2 et2 => ?_)
    have rg3 := fb_rng (v 10)
    have zt2 : t2.toInt = 0 + (v 10).toInt := by rw [et2]; exact add_i (by decide) rfl (by omega) (by omega)
    refine lv_iload_n hx hb dX7_addCoat_19 rfl (lv_at hl 1 rfl) ?_
    refine stI hx hb hE hP hD hS 6 rfl (vp_in_iff.mpr ⟨by omega, by omega⟩) rfl dX7_addCoat_20 (fun H locs hP hD hS => ?_)
    obtain ⟨f4, hP, hD⟩ : ∃ fz9, va_P (dC, dI) vwCl (XW cy x0 x v fz9) H ∧ va_D A (XW cy x0 x v fz9) := ⟨upd2 f 2 (upd (f 2) t2.toNatClampNeg p1), hP, hD⟩
    refine lv_aload_n hx hb dX7_addCoat_21 rfl (lv_at hl 0 rfl) ?_
    refine va_get (D := (dC, dI)) (ci := 7) (v := .ref (x 5)) (C := RX7) (T := TX7) (N := 10) hx hb hts inB_7 hown hE.1 hP 4 rfl rfl 1 (by decide) (hts _ k_205) (fun _ h9 => h9) rfl dX7_addCoat_22 ?_
    refine lv_bipush (v := 6) hx hb dX7_addCoat_25 (by decide) ?_
    refine lv_aload_n hx hb dX7_addCoat_27 rfl (lv_at hl 0 rfl) ?_
    refine va_get (D := (dC, dI)) (ci := 7) (v := .int (v 10)) (C := RX7) (T := TX7) (N := 10) hx hb hts inB_7 hown hE.1 hP 4 rfl rfl 4 (by decide) (hts _ k_220) (fun _ h9 => h9) rfl dX7_addCoat_28 ?_
    refine lv_iadd hx hb dX7_addCoat_31 ?_
    refine lv_topi (fun t5 et5 => ?_)
    have zt5 : t5.toInt = 6 + (v 10).toInt := by rw [et5]; exact add_i (by decide) rfl (by omega) (by omega)
    refine lv_iload_n hx hb dX7_addCoat_32 rfl (lv_at hl 2 rfl) ?_
    refine stI hx hb hE hP hD hS 6 rfl (vp_in_iff.mpr ⟨by omega, by omega⟩) rfl dX7_addCoat_33 (fun H locs hP hD hS => ?_)
    obtain ⟨f6, hP, hD⟩ : ∃ fz9, va_P (dC, dI) vwCl (XW cy x0 x v fz9) H ∧ va_D A (XW cy x0 x v fz9) := ⟨upd2 f4 2 (upd (f4 2) t5.toNatClampNeg p2), hP, hD⟩
    refine lv_aload_n hx hb dX7_addCoat_34 rfl (lv_at hl 0 rfl) ?_
    refine va_get (D := (dC, dI)) (ci := 7) (v := .ref (x 5)) (C := RX7) (T := TX7) (N := 10) hx hb hts inB_7 hown hE.1 hP 4 rfl rfl 1 (by decide) (hts _ k_205) (fun _ h9 => h9) rfl dX7_addCoat_35 ?_
    refine lv_bipush (v := 12) hx hb dX7_addCoat_38 (by decide) ?_
    refine lv_aload_n hx hb dX7_addCoat_40 rfl (lv_at hl 0 rfl) ?_
    refine va_get (D := (dC, dI)) (ci := 7) (v := .int (v 10)) (C := RX7) (T := TX7) (N := 10) hx hb hts inB_7 hown hE.1 hP 4 rfl rfl 4 (by decide) (hts _ k_220) (fun _ h9 => h9) rfl dX7_addCoat_41 ?_
    refine lv_iadd hx hb dX7_addCoat_44 ?_
    refine lv_topi (fun t7 et7 => ?_)
    have zt7 : t7.toInt = 12 + (v 10).toInt := by rw [et7]; exact add_i (by decide) rfl (by omega) (by omega)
    refine lv_iload_n hx hb dX7_addCoat_45 rfl (lv_at hl 3 rfl) ?_
    refine stI hx hb hE hP hD hS 6 rfl (vp_in_iff.mpr ⟨by omega, by omega⟩) rfl dX7_addCoat_46 (fun H locs hP hD hS => ?_)
    obtain ⟨f8, hP, hD⟩ : ∃ fz9, va_P (dC, dI) vwCl (XW cy x0 x v fz9) H ∧ va_D A (XW cy x0 x v fz9) := ⟨upd2 f6 2 (upd (f6 2) t7.toNatClampNeg p3), hP, hD⟩
    refine lv_aload_n hx hb dX7_addCoat_47 rfl (lv_at hl 0 rfl) ?_
    refine va_get (D := (dC, dI)) (ci := 7) (v := .ref (x 5)) (C := RX7) (T := TX7) (N := 10) hx hb hts inB_7 hown hE.1 hP 4 rfl rfl 1 (by decide) (hts _ k_205) (fun _ h9 => h9) rfl dX7_addCoat_48 ?_
    refine lv_bipush (v := 18) hx hb dX7_addCoat_51 (by decide) ?_
    refine lv_aload_n hx hb dX7_addCoat_53 rfl (lv_at hl 0 rfl) ?_
    refine va_get (D := (dC, dI)) (ci := 7) (v := .int (v 10)) (C := RX7) (T := TX7) (N := 10) hx hb hts inB_7 hown hE.1 hP 4 rfl rfl 4 (by decide) (hts _ k_220) (fun _ h9 => h9) rfl dX7_addCoat_54 ?_
    refine lv_iadd hx hb dX7_addCoat_57 ?_
    refine lv_topi (fun t9 et9 => ?_)
    have zt9 : t9.toInt = 18 + (v 10).toInt := by rw [et9]; exact add_i (by decide) rfl (by omega) (by omega)
    refine lv_iload hx hb dX7_addCoat_58 (lv_at hl 4 rfl) ?_
    refine stI hx hb hE hP hD hS 6 rfl (vp_in_iff.mpr ⟨by omega, by omega⟩) rfl dX7_addCoat_60 (fun H locs hP hD hS => ?_)
    obtain ⟨f10, hP, hD⟩ : ∃ fz9, va_P (dC, dI) vwCl (XW cy x0 x v fz9) H ∧ va_D A (XW cy x0 x v fz9) := ⟨upd2 f8 2 (upd (f8 2) t9.toNatClampNeg p4), hP, hD⟩
    refine lv_aload_n hx hb dX7_addCoat_61 rfl (lv_at hl 0 rfl) ?_
    refine lv_dup hx hb dX7_addCoat_62 rfl ?_
    refine va_get (D := (dC, dI)) (ci := 7) (v := .int (v 10)) (C := RX7) (T := TX7) (N := 10) hx hb hts inB_7 hown hE.1 hP 4 rfl rfl 4 (by decide) (hts _ k_220) (fun _ h9 => h9) rfl dX7_addCoat_63 ?_
    refine lv_iconst (v := 1) hx hb dX7_addCoat_66 (by decide) ?_
    refine lv_iadd hx hb dX7_addCoat_67 ?_
    refine lv_topi (fun t11 et11 => ?_)
    have zt11 : t11.toInt = (v 10).toInt + 1 := by rw [et11]; exact add_i rfl (by decide) (by omega) (by omega)
    refine va_put (D := (dC, dI)) (ci := 7) (v := .int t11) (ty := tyX7 4) (C := RX7) (T := TX7) (N := 10) hx hb hts inB_7 tyX7 tyX7_ok nmX7 hown hE.1 hP hD hS 4 rfl rfl 4 (by decide) (hts _ k_220) (fun _ h9 => h9) rfl (tyX7_ok 4 (by decide)) rfl rfl (Nat.le_of_ble_eq_true rfl) dX7_addCoat_68 (fun H locs hP hD hS => ?_)
    have hP : va_P (dC, dI) vwCl (XW cy x0 x (upd v 10 t11) f10) H := hP
    have hD : va_D A (XW cy x0 x (upd v 10 t11) f10) := hD
    exact ret ((upd v 10 t11), f10) _ _ _ _ _ _ ⟨(XI.upd (j := 10) (x := t11) hIv (show (0 : Int) ≤ t11.toInt by omega) (show t11.toInt ≤ (6 : Int) by omega)), rfl, rfl, rfl, rfl⟩ hP hD hS dX7_addCoat_71 (Nat.le_refl _) (Nat.le_refl _)
set_option maxHeartbeats 4000000 in
set_option maxRecDepth 100000 in
theorem sX_X6_coatLine_1 (l : Launch) (dC : Nat → ClassId) (dI : Nat → Nat → Nat) (cy : Nat → ClassId) (x0 : Nat) (x : Nat → Nat)  (v : Nat → Int32) (f : Nat → Nat → Int32) (hIv : XI v)  : ctIS l (dC, dI) cy yX6_coatLine cX6_coatLine 5 .boolean 9 235 0 0 ((Nat → Int32) × (Nat → Nat → Int32)) [.ref (x 2)] (XW cy x0 x v f) (fun r u => XI u.1 ∧ u.1 0 = v 0 ∧ u.1 1 = v 1 ∧ u.1 9 = v 9 ∧ u.1 31 = v 31 ∧ ((r = 1) ∨ (r = 0))) (fun u => XW cy x0 x u.1 u.2) := by
  refine ctIS_of (by decide) (Nat.le_of_ble_eq_true rfl) (fun p e s m below meth c A ls Q hx hb hml hts hown hE hF hT hP hD hA hl ret => ?_)
  have hown : s.vm.findClass RX6 = some m.cls := hown
  have hS : va_S A s.heap s.heap [] := va_S.rf
  have hl : lv_has ls 5 [(0, .ref (x 2))] := hl
  refine lv_aload_n hx hb dX6_coatLine_0 rfl (lv_at hl 0 rfl) ?_
  refine va_get (D := (dC, dI)) (ci := 6) (v := .ref (x 3)) (C := RX6) (T := TX6) (N := 7) hx hb hts inB_6 hown hE.1 hP 3 rfl rfl 1 (by decide) (hts _ k_266) (fun _ h9 => h9) rfl dX6_coatLine_1 ?_
  refine va_getN (D := (dC, dI)) (ci := 7) (v := .int (v 10)) (C := RX7) (T := TX7) (N := 10) hx hb hts inB_7 hown hE.1 hP 4 rfl rfl 4 (by decide) (va_Nw.use rfl (hE.2 _ k_224)) (fun _ h9 => h9) rfl dX6_coatLine_4 ?_
  have b10_v : 0 ≤ (v 10).toInt ∧ (v 10).toInt ≤ 6 := XI.b hIv 10 (by decide)
  refine lv_bipush (v := 6) hx hb dX6_coatLine_7 (by decide) ?_
  refine lv_icmp_lt (tgt := 17) hx hb dX6_coatLine_9 (by decide) (fun c1 => ?_) (fun c1 => ?_)
  · skip
    have zc1 : (v 10).toInt < 6 := by rw [fa_lt, show (6 : Int32).toInt = 6 from by decide] at c1; exact c1
    refine lv_aload_n hx hb dX6_coatLine_17 rfl (lv_at hl 0 rfl) ?_
    refine va_get (D := (dC, dI)) (ci := 6) (v := .ref (x 0)) (C := RX6) (T := TX6) (N := 7) hx hb hts inB_6 hown hE.1 hP 3 rfl rfl 0 (by decide) (hts _ k_265) (fun _ h9 => h9) rfl dX6_coatLine_18 ?_
    refine csVv (n := 0) (rest := []) hx hb hml hown hts hE hP hD hS hA hF hT (sX_X9_advance_1 l dC dI cy x0 x  v f hIv ) k_699 k_559 k_560 k_102 k_561 (by decide +kernel) ⟨Nat.le_of_ble_eq_true rfl, Nat.le_of_ble_eq_true rfl⟩ 1 9 rfl rfl (rfl) hl.1 rfl (Nat.le_of_ble_eq_true rfl) dX6_coatLine_21 (fun u H locs hw hP hD hS => ?_)
    obtain ⟨v2, f3⟩ := u
    obtain ⟨hIv2, hk0_v2, hk1_v2, hk9_v2, hk10_v2, hk31_v2, hk32_v2⟩ := hw
    have hP : va_P (dC, dI) vwCl (XW cy x0 x v2 f3) H := hP
    have hD : va_D A (XW cy x0 x v2 f3) := hD
    have hq0_v2 : v2 0 = (v 0) := hk0_v2
    have hq1_v2 : v2 1 = (v 1) := hk1_v2
    have hq9_v2 : v2 9 = (v 9) := hk9_v2
    have hq10_v2 : v2 10 = (v 10) := hk10_v2
    have hq31_v2 : v2 31 = (v 31) := hk31_v2
    have hq32_v2 : v2 32 = (v 32) := hk32_v2
    refine lv_aload_n hx hb dX6_coatLine_24 rfl (lv_at hl 0 rfl) ?_
    refine lv_aload_n hx hb dX6_coatLine_25 rfl (lv_at hl 0 rfl) ?_
    refine va_get (D := (dC, dI)) (ci := 6) (v := .ref (x 12)) (C := RX6) (T := TX6) (N := 7) hx hb hts inB_6 hown hE.1 hP 3 rfl rfl 3 (by decide) (hts _ k_269) (fun _ h9 => h9) rfl dX6_coatLine_26 ?_
    refine lv_aload_n hx hb dX6_coatLine_29 rfl (lv_at hl 0 rfl) ?_
    refine va_get (D := (dC, dI)) (ci := 6) (v := .ref (x 3)) (C := RX6) (T := TX6) (N := 7) hx hb hts inB_6 hown hE.1 hP 3 rfl rfl 1 (by decide) (hts _ k_266) (fun _ h9 => h9) rfl dX6_coatLine_30 ?_
    refine va_getN (D := (dC, dI)) (ci := 7) (v := .int (v2 10)) (C := RX7) (T := TX7) (N := 10) hx hb hts inB_7 hown hE.1 hP 4 rfl rfl 4 (by decide) (va_Nw.use rfl (hE.2 _ k_224)) (fun _ h9 => h9) rfl dX6_coatLine_33 ?_
    refine tI (y := (v 10)) hq10_v2 ?_
    have b10_v : 0 ≤ (v 10).toInt ∧ (v 10).toInt ≤ 6 := XI.b hIv 10 (by decide)
    refine csVi (n := 2) (rest := []) hx hb hml hown hts hE hP hD hS hA hF hT (sX_X6_name_2 l dC dI cy x0 x (v 10) v2 f3 hIv2 ) k_700 k_702 k_8 k_103 k_703 (by decide +kernel) ⟨Nat.le_of_ble_eq_true rfl, Nat.le_of_ble_eq_true rfl⟩ 3 6 rfl rfl (rfl) hl.1 rfl (Nat.le_of_ble_eq_true rfl) dX6_coatLine_36 (fun r4 u H locs hw hP hD hS => ?_)
    obtain ⟨v5, f6⟩ := u
    obtain ⟨hIv5, hk0_v5, hk1_v5, hk9_v5, hk10_v5, hk31_v5, hk32_v5, hw⟩ := hw
    have hP : va_P (dC, dI) vwCl (XW cy x0 x v5 f6) H := hP
    have hD : va_D A (XW cy x0 x v5 f6) := hD
    have hq0_v5 : v5 0 = (v 0) := hk0_v5.trans hq0_v2
    have hq1_v5 : v5 1 = (v 1) := hk1_v5.trans hq1_v2
    have hq9_v5 : v5 9 = (v 9) := hk9_v5.trans hq9_v2
    have hq10_v5 : v5 10 = (v 10) := hk10_v5.trans hq10_v2
    have hq31_v5 : v5 31 = (v 31) := hk31_v5.trans hq31_v2
    have hq32_v5 : v5 32 = (v 32) := hk32_v5.trans hq32_v2
    rcases hw with ⟨g7⟩ | ⟨g7⟩
    · skip
      subst g7
      refine lv_if_ne (tgt := 44) hx hb dX6_coatLine_39 (by decide) (fun _ => ?_) (fun c0 => absurd c0 (by decide))
      refine lv_aload_n hx hb dX6_coatLine_44 rfl (lv_at hl 0 rfl) ?_
      refine lv_bipush (v := 109) hx hb dX6_coatLine_45 (by decide) ?_
      refine lv_bipush (v := 99) hx hb dX6_coatLine_47 (by decide) ?_
      refine csVi (n := 2) (rest := []) hx hb hml hown hts hE hP hD hS hA hF hT (sX_X6_labelled_1 l dC dI cy x0 x 109 99 v5 f6 hIv5 ) k_708 k_710 k_9 k_103 k_711 (by decide +kernel) ⟨Nat.le_of_ble_eq_true rfl, Nat.le_of_ble_eq_true rfl⟩ 3 6 rfl rfl (rfl) hl.1 rfl (Nat.le_of_ble_eq_true rfl) dX6_coatLine_49 (fun r8 u H locs hw hP hD hS => ?_)
      obtain ⟨v9, f10⟩ := u
      obtain ⟨hIv9, hk0_v9, hk1_v9, hk9_v9, hk10_v9, hk31_v9, hk32_v9⟩ := hw
      have hP : va_P (dC, dI) vwCl (XW cy x0 x v9 f10) H := hP
      have hD : va_D A (XW cy x0 x v9 f10) := hD
      have hq0_v9 : v9 0 = (v 0) := hk0_v9.trans hq0_v5
      have hq1_v9 : v9 1 = (v 1) := hk1_v9.trans hq1_v5
      have hq9_v9 : v9 9 = (v 9) := hk9_v9.trans hq9_v5
      have hq10_v9 : v9 10 = (v 10) := hk10_v9.trans hq10_v5
      have hq31_v9 : v9 31 = (v 31) := hk31_v9.trans hq31_v5
      have hq32_v9 : v9 32 = (v 32) := hk32_v9.trans hq32_v5
      refine lv_istore_n (lv' := [(1, .int r8), (0, .ref (x 2))]) hx hb dX6_coatLine_52 rfl hl (by decide) rfl (fun ls hl => ?_)
      refine lv_iload_n hx hb dX6_coatLine_53 rfl (lv_at hl 0 rfl) ?_
      refine lv_if_ge (tgt := 61) hx hb dX6_coatLine_54 (by decide) (fun c11 => ?_) (fun c11 => ?_)
      · skip
        have zc11 : 0 ≤ r8.toInt := by rw [fa_le, show (0 : Int32).toInt = 0 from by decide] at c11; exact c11
        refine lv_aload_n hx hb dX6_coatLine_61 rfl (lv_at hl 1 rfl) ?_
        refine lv_bipush (v := 110) hx hb dX6_coatLine_62 (by decide) ?_
        refine lv_bipush (v := 99) hx hb dX6_coatLine_64 (by decide) ?_
        refine csVi (n := 2) (rest := []) hx hb hml hown hts hE hP hD hS hA hF hT (sX_X6_labelled_1 l dC dI cy x0 x 110 99 v9 f10 hIv9 ) k_708 k_710 k_9 k_103 k_711 (by decide +kernel) ⟨Nat.le_of_ble_eq_true rfl, Nat.le_of_ble_eq_true rfl⟩ 3 6 rfl rfl (rfl) hl.1 rfl (Nat.le_of_ble_eq_true rfl) dX6_coatLine_66 (fun r12 u H locs hw hP hD hS => ?_)
        obtain ⟨v13, f14⟩ := u
        obtain ⟨hIv13, hk0_v13, hk1_v13, hk9_v13, hk10_v13, hk31_v13, hk32_v13⟩ := hw
        have hP : va_P (dC, dI) vwCl (XW cy x0 x v13 f14) H := hP
        have hD : va_D A (XW cy x0 x v13 f14) := hD
        have hq0_v13 : v13 0 = (v 0) := hk0_v13.trans hq0_v9
        have hq1_v13 : v13 1 = (v 1) := hk1_v13.trans hq1_v9
        have hq9_v13 : v13 9 = (v 9) := hk9_v13.trans hq9_v9
        have hq10_v13 : v13 10 = (v 10) := hk10_v13.trans hq10_v9
        have hq31_v13 : v13 31 = (v 31) := hk31_v13.trans hq31_v9
        have hq32_v13 : v13 32 = (v 32) := hk32_v13.trans hq32_v9
        refine lv_istore_n (lv' := [(2, .int r12), (1, .int r8), (0, .ref (x 2))]) hx hb dX6_coatLine_69 rfl hl (by decide) rfl (fun ls hl => ?_)
        refine lv_iload_n hx hb dX6_coatLine_70 rfl (lv_at hl 0 rfl) ?_
        refine lv_if_ge (tgt := 78) hx hb dX6_coatLine_71 (by decide) (fun c15 => ?_) (fun c15 => ?_)
        · skip
          have zc15 : 0 ≤ r12.toInt := by rw [fa_le, show (0 : Int32).toInt = 0 from by decide] at c15; exact c15
          refine lv_aload_n hx hb dX6_coatLine_78 rfl (lv_at hl 2 rfl) ?_
          refine va_get (D := (dC, dI)) (ci := 6) (v := .ref (x 0)) (C := RX6) (T := TX6) (N := 7) hx hb hts inB_6 hown hE.1 hP 3 rfl rfl 0 (by decide) (hts _ k_265) (fun _ h9 => h9) rfl dX6_coatLine_79 ?_
          refine va_getN (D := (dC, dI)) (ci := 9) (v := .int (v13 2)) (C := RX9) (T := TX9) (N := 6) hx hb hts inB_9 hown hE.1 hP 1 rfl rfl 2 (by decide) (va_Nw.use rfl (hE.2 _ k_139)) (fun _ h9 => h9) rfl dX6_coatLine_82 ?_
          refine lv_bipush (v := 112) hx hb dX6_coatLine_85 (by decide) ?_
          refine lv_icmp_ne (tgt := 101) hx hb dX6_coatLine_87 (by decide) (fun c16 => ?_) (fun c16 => ?_)
          · skip
            have zc16 : ¬ ((v13 2).toInt = 112) := by rw [fa_eq, show (112 : Int32).toInt = 112 from by decide] at c16; exact c16
            refine lv_iconst (v := 0) hx hb dX6_coatLine_101 (by decide) ?_
            refine lv_istore_n (lv' := [(3, .int 0), (2, .int r12), (1, .int r8), (0, .ref (x 2))]) hx hb dX6_coatLine_102 rfl hl (by decide) rfl (fun ls hl => ?_)
            refine lv_iload_n hx hb dX6_coatLine_103 rfl (lv_at hl 0 rfl) ?_
            refine lv_if_ge (tgt := 111) hx hb dX6_coatLine_104 (by decide) (fun _ => ?_) (fun c0 => absurd (by decide) c0)
            refine lv_aload_n hx hb dX6_coatLine_111 rfl (lv_at hl 3 rfl) ?_
            refine va_get (D := (dC, dI)) (ci := 6) (v := .ref (x 0)) (C := RX6) (T := TX6) (N := 7) hx hb hts inB_6 hown hE.1 hP 3 rfl rfl 0 (by decide) (hts _ k_265) (fun _ h9 => h9) rfl dX6_coatLine_112 ?_
            refine va_getN (D := (dC, dI)) (ci := 9) (v := .int (v13 2)) (C := RX9) (T := TX9) (N := 6) hx hb hts inB_9 hown hE.1 hP 1 rfl rfl 2 (by decide) (va_Nw.use rfl (hE.2 _ k_139)) (fun _ h9 => h9) rfl dX6_coatLine_115 ?_
            refine lv_bipush (v := 120) hx hb dX6_coatLine_118 (by decide) ?_
            refine lv_icmp_ne (tgt := 134) hx hb dX6_coatLine_120 (by decide) (fun c17 => ?_) (fun c17 => ?_)
            · skip
              have zc17 : ¬ ((v13 2).toInt = 120) := by rw [fa_eq, show (120 : Int32).toInt = 120 from by decide] at c17; exact c17
              refine lv_iconst (v := 0) hx hb dX6_coatLine_134 (by decide) ?_
              refine lv_istore (lv' := [(4, .int 0), (3, .int 0), (2, .int r12), (1, .int r8), (0, .ref (x 2))]) hx hb dX6_coatLine_135 hl (by decide) rfl (fun ls hl => ?_)
              refine lv_iload hx hb dX6_coatLine_137 (lv_at hl 0 rfl) ?_
              refine lv_if_ge (tgt := 144) hx hb dX6_coatLine_139 (by decide) (fun _ => ?_) (fun c0 => absurd (by decide) c0)
              refine lv_aload_n hx hb dX6_coatLine_144 rfl (lv_at hl 4 rfl) ?_
              refine va_get (D := (dC, dI)) (ci := 6) (v := .ref (x 3)) (C := RX6) (T := TX6) (N := 7) hx hb hts inB_6 hown hE.1 hP 3 rfl rfl 1 (by decide) (hts _ k_266) (fun _ h9 => h9) rfl dX6_coatLine_145 ?_
              refine lv_iload_n hx hb dX6_coatLine_148 rfl (lv_at hl 3 rfl) ?_
              refine lv_iload_n hx hb dX6_coatLine_149 rfl (lv_at hl 2 rfl) ?_
              refine lv_iload_n hx hb dX6_coatLine_150 rfl (lv_at hl 1 rfl) ?_
              refine lv_iload hx hb dX6_coatLine_151 (lv_at hl 0 rfl) ?_
              refine cbVv (n := 4) (rest := []) hx hb hml hown hts hE hP hD hS hA (sX_X7_addCoat_1 l dC dI cy x0 x r8 r12 0 0 v13 f14 hIv13 ) k_732 k_733 k_734 k_104 k_735 (by decide +kernel) ⟨Nat.le_of_ble_eq_true rfl, Nat.le_of_ble_eq_true rfl⟩ 4 7 rfl rfl (rfl) hl.1 rfl (Nat.le_of_ble_eq_true rfl) dX6_coatLine_153 (fun u H locs hw hP hD hS => ?_)
              obtain ⟨v18, f19⟩ := u
              obtain ⟨hIv18, hk0_v18, hk1_v18, hk9_v18, hk31_v18⟩ := hw
              have hP : va_P (dC, dI) vwCl (XW cy x0 x v18 f19) H := hP
              have hD : va_D A (XW cy x0 x v18 f19) := hD
              have hq0_v18 : v18 0 = (v 0) := hk0_v18.trans hq0_v13
              have hq1_v18 : v18 1 = (v 1) := hk1_v18.trans hq1_v13
              have hq9_v18 : v18 9 = (v 9) := hk9_v18.trans hq9_v13
              have hq31_v18 : v18 31 = (v 31) := hk31_v18.trans hq31_v13
              refine lv_iconst (v := 1) hx hb dX6_coatLine_156 (by decide) ?_
              exact ret 1 (v18, f19) _ _ _ _ _ _ rfl ⟨hIv18, (hk0_v18.trans (hk0_v13.trans (hk0_v9.trans (hk0_v5.trans hk0_v2)))), (hk1_v18.trans (hk1_v13.trans (hk1_v9.trans (hk1_v5.trans hk1_v2)))), (hk9_v18.trans (hk9_v13.trans (hk9_v9.trans (hk9_v5.trans hk9_v2)))), (hk31_v18.trans (hk31_v13.trans (hk31_v9.trans (hk31_v5.trans hk31_v2)))), (Or.inl rfl)⟩ hP hD hS dX6_coatLine_157 (Nat.le_refl _) (Nat.le_refl _)
            · skip
              have zc17 : (v13 2).toInt = 120 := by rw [fa_eq, show (120 : Int32).toInt = 120 from by decide] at c17; exact c17
              refine lv_aload_n hx hb dX6_coatLine_123 rfl (lv_at hl 3 rfl) ?_
              refine lv_bipush (v := 120) hx hb dX6_coatLine_124 (by decide) ?_
              refine lv_bipush (v := 99) hx hb dX6_coatLine_126 (by decide) ?_
              refine csVi (n := 2) (rest := []) hx hb hml hown hts hE hP hD hS hA hF hT (sX_X6_labelled_1 l dC dI cy x0 x 120 99 v13 f14 hIv13 ) k_708 k_710 k_9 k_103 k_711 (by decide +kernel) ⟨Nat.le_of_ble_eq_true rfl, Nat.le_of_ble_eq_true rfl⟩ 3 6 rfl rfl (rfl) hl.1 rfl (Nat.le_of_ble_eq_true rfl) dX6_coatLine_128 (fun r20 u H locs hw hP hD hS => ?_)
              obtain ⟨v21, f22⟩ := u
              obtain ⟨hIv21, hk0_v21, hk1_v21, hk9_v21, hk10_v21, hk31_v21, hk32_v21⟩ := hw
              have hP : va_P (dC, dI) vwCl (XW cy x0 x v21 f22) H := hP
              have hD : va_D A (XW cy x0 x v21 f22) := hD
              have hq0_v21 : v21 0 = (v 0) := hk0_v21.trans hq0_v13
              have hq1_v21 : v21 1 = (v 1) := hk1_v21.trans hq1_v13
              have hq9_v21 : v21 9 = (v 9) := hk9_v21.trans hq9_v13
              have hq10_v21 : v21 10 = (v 10) := hk10_v21.trans hq10_v13
              have hq31_v21 : v21 31 = (v 31) := hk31_v21.trans hq31_v13
              have hq32_v21 : v21 32 = (v 32) := hk32_v21.trans hq32_v13
              refine lv_goto (tgt := 135) hx hb dX6_coatLine_131 (by decide) ?_
              refine lv_istore (lv' := [(4, .int r20), (3, .int 0), (2, .int r12), (1, .int r8), (0, .ref (x 2))]) hx hb dX6_coatLine_135 hl (by decide) rfl (fun ls hl => ?_)
              refine lv_iload hx hb dX6_coatLine_137 (lv_at hl 0 rfl) ?_
              refine lv_if_ge (tgt := 144) hx hb dX6_coatLine_139 (by decide) (fun c23 => ?_) (fun c23 => ?_)
              · skip
                have zc23 : 0 ≤ r20.toInt := by rw [fa_le, show (0 : Int32).toInt = 0 from by decide] at c23; exact c23
                refine lv_aload_n hx hb dX6_coatLine_144 rfl (lv_at hl 4 rfl) ?_
                refine va_get (D := (dC, dI)) (ci := 6) (v := .ref (x 3)) (C := RX6) (T := TX6) (N := 7) hx hb hts inB_6 hown hE.1 hP 3 rfl rfl 1 (by decide) (hts _ k_266) (fun _ h9 => h9) rfl dX6_coatLine_145 ?_
                refine lv_iload_n hx hb dX6_coatLine_148 rfl (lv_at hl 3 rfl) ?_
                refine lv_iload_n hx hb dX6_coatLine_149 rfl (lv_at hl 2 rfl) ?_
                refine lv_iload_n hx hb dX6_coatLine_150 rfl (lv_at hl 1 rfl) ?_
                refine lv_iload hx hb dX6_coatLine_151 (lv_at hl 0 rfl) ?_
                refine cbVv (n := 4) (rest := []) hx hb hml hown hts hE hP hD hS hA (sX_X7_addCoat_1 l dC dI cy x0 x r8 r12 0 r20 v21 f22 hIv21 ) k_732 k_733 k_734 k_104 k_735 (by decide +kernel) ⟨Nat.le_of_ble_eq_true rfl, Nat.le_of_ble_eq_true rfl⟩ 4 7 rfl rfl (rfl) hl.1 rfl (Nat.le_of_ble_eq_true rfl) dX6_coatLine_153 (fun u H locs hw hP hD hS => ?_)
                obtain ⟨v24, f25⟩ := u
                obtain ⟨hIv24, hk0_v24, hk1_v24, hk9_v24, hk31_v24⟩ := hw
                have hP : va_P (dC, dI) vwCl (XW cy x0 x v24 f25) H := hP
                have hD : va_D A (XW cy x0 x v24 f25) := hD
                have hq0_v24 : v24 0 = (v 0) := hk0_v24.trans hq0_v21
                have hq1_v24 : v24 1 = (v 1) := hk1_v24.trans hq1_v21
                have hq9_v24 : v24 9 = (v 9) := hk9_v24.trans hq9_v21
                have hq31_v24 : v24 31 = (v 31) := hk31_v24.trans hq31_v21
                refine lv_iconst (v := 1) hx hb dX6_coatLine_156 (by decide) ?_
                exact ret 1 (v24, f25) _ _ _ _ _ _ rfl ⟨hIv24, (hk0_v24.trans (hk0_v21.trans (hk0_v13.trans (hk0_v9.trans (hk0_v5.trans hk0_v2))))), (hk1_v24.trans (hk1_v21.trans (hk1_v13.trans (hk1_v9.trans (hk1_v5.trans hk1_v2))))), (hk9_v24.trans (hk9_v21.trans (hk9_v13.trans (hk9_v9.trans (hk9_v5.trans hk9_v2))))), (hk31_v24.trans (hk31_v21.trans (hk31_v13.trans (hk31_v9.trans (hk31_v5.trans hk31_v2))))), (Or.inl rfl)⟩ hP hD hS dX6_coatLine_157 (Nat.le_refl _) (Nat.le_refl _)
              · skip
                have zc23 : ¬ (0 ≤ r20.toInt) := by rw [fa_le, show (0 : Int32).toInt = 0 from by decide] at c23; exact c23
                refine lv_iconst (v := 0) hx hb dX6_coatLine_142 (by decide) ?_
                exact ret 0 (v21, f22) _ _ _ _ _ _ rfl ⟨hIv21, (hk0_v21.trans (hk0_v13.trans (hk0_v9.trans (hk0_v5.trans hk0_v2)))), (hk1_v21.trans (hk1_v13.trans (hk1_v9.trans (hk1_v5.trans hk1_v2)))), (hk9_v21.trans (hk9_v13.trans (hk9_v9.trans (hk9_v5.trans hk9_v2)))), (hk31_v21.trans (hk31_v13.trans (hk31_v9.trans (hk31_v5.trans hk31_v2)))), (Or.inr rfl)⟩ hP hD hS dX6_coatLine_143 (Nat.le_refl _) (Nat.le_refl _)
          · skip
            have zc16 : (v13 2).toInt = 112 := by rw [fa_eq, show (112 : Int32).toInt = 112 from by decide] at c16; exact c16
            refine lv_aload_n hx hb dX6_coatLine_90 rfl (lv_at hl 2 rfl) ?_
            refine lv_bipush (v := 112) hx hb dX6_coatLine_91 (by decide) ?_
            refine lv_bipush (v := 20) hx hb dX6_coatLine_93 (by decide) ?_
            refine csVi (n := 2) (rest := []) hx hb hml hown hts hE hP hD hS hA hF hT (sX_X6_labelled_1 l dC dI cy x0 x 112 20 v13 f14 hIv13 ) k_708 k_710 k_9 k_103 k_711 (by decide +kernel) ⟨Nat.le_of_ble_eq_true rfl, Nat.le_of_ble_eq_true rfl⟩ 3 6 rfl rfl (rfl) hl.1 rfl (Nat.le_of_ble_eq_true rfl) dX6_coatLine_95 (fun r26 u H locs hw hP hD hS => ?_)
            obtain ⟨v27, f28⟩ := u
            obtain ⟨hIv27, hk0_v27, hk1_v27, hk9_v27, hk10_v27, hk31_v27, hk32_v27⟩ := hw
            have hP : va_P (dC, dI) vwCl (XW cy x0 x v27 f28) H := hP
            have hD : va_D A (XW cy x0 x v27 f28) := hD
            have hq0_v27 : v27 0 = (v 0) := hk0_v27.trans hq0_v13
            have hq1_v27 : v27 1 = (v 1) := hk1_v27.trans hq1_v13
            have hq9_v27 : v27 9 = (v 9) := hk9_v27.trans hq9_v13
            have hq10_v27 : v27 10 = (v 10) := hk10_v27.trans hq10_v13
            have hq31_v27 : v27 31 = (v 31) := hk31_v27.trans hq31_v13
            have hq32_v27 : v27 32 = (v 32) := hk32_v27.trans hq32_v13
            refine lv_goto (tgt := 102) hx hb dX6_coatLine_98 (by decide) ?_
            refine lv_istore_n (lv' := [(3, .int r26), (2, .int r12), (1, .int r8), (0, .ref (x 2))]) hx hb dX6_coatLine_102 rfl hl (by decide) rfl (fun ls hl => ?_)
            refine lv_iload_n hx hb dX6_coatLine_103 rfl (lv_at hl 0 rfl) ?_
            refine lv_if_ge (tgt := 111) hx hb dX6_coatLine_104 (by decide) (fun c29 => ?_) (fun c29 => ?_)
            · skip
              have zc29 : 0 ≤ r26.toInt := by rw [fa_le, show (0 : Int32).toInt = 0 from by decide] at c29; exact c29
              refine lv_aload_n hx hb dX6_coatLine_111 rfl (lv_at hl 3 rfl) ?_
              refine va_get (D := (dC, dI)) (ci := 6) (v := .ref (x 0)) (C := RX6) (T := TX6) (N := 7) hx hb hts inB_6 hown hE.1 hP 3 rfl rfl 0 (by decide) (hts _ k_265) (fun _ h9 => h9) rfl dX6_coatLine_112 ?_
              refine va_getN (D := (dC, dI)) (ci := 9) (v := .int (v27 2)) (C := RX9) (T := TX9) (N := 6) hx hb hts inB_9 hown hE.1 hP 1 rfl rfl 2 (by decide) (va_Nw.use rfl (hE.2 _ k_139)) (fun _ h9 => h9) rfl dX6_coatLine_115 ?_
              refine lv_bipush (v := 120) hx hb dX6_coatLine_118 (by decide) ?_
              refine lv_icmp_ne (tgt := 134) hx hb dX6_coatLine_120 (by decide) (fun c30 => ?_) (fun c30 => ?_)
              · skip
                have zc30 : ¬ ((v27 2).toInt = 120) := by rw [fa_eq, show (120 : Int32).toInt = 120 from by decide] at c30; exact c30
                refine lv_iconst (v := 0) hx hb dX6_coatLine_134 (by decide) ?_
                refine lv_istore (lv' := [(4, .int 0), (3, .int r26), (2, .int r12), (1, .int r8), (0, .ref (x 2))]) hx hb dX6_coatLine_135 hl (by decide) rfl (fun ls hl => ?_)
                refine lv_iload hx hb dX6_coatLine_137 (lv_at hl 0 rfl) ?_
                refine lv_if_ge (tgt := 144) hx hb dX6_coatLine_139 (by decide) (fun _ => ?_) (fun c0 => absurd (by decide) c0)
                refine lv_aload_n hx hb dX6_coatLine_144 rfl (lv_at hl 4 rfl) ?_
                refine va_get (D := (dC, dI)) (ci := 6) (v := .ref (x 3)) (C := RX6) (T := TX6) (N := 7) hx hb hts inB_6 hown hE.1 hP 3 rfl rfl 1 (by decide) (hts _ k_266) (fun _ h9 => h9) rfl dX6_coatLine_145 ?_
                refine lv_iload_n hx hb dX6_coatLine_148 rfl (lv_at hl 3 rfl) ?_
                refine lv_iload_n hx hb dX6_coatLine_149 rfl (lv_at hl 2 rfl) ?_
                refine lv_iload_n hx hb dX6_coatLine_150 rfl (lv_at hl 1 rfl) ?_
                refine lv_iload hx hb dX6_coatLine_151 (lv_at hl 0 rfl) ?_
                refine cbVv (n := 4) (rest := []) hx hb hml hown hts hE hP hD hS hA (sX_X7_addCoat_1 l dC dI cy x0 x r8 r12 r26 0 v27 f28 hIv27 ) k_732 k_733 k_734 k_104 k_735 (by decide +kernel) ⟨Nat.le_of_ble_eq_true rfl, Nat.le_of_ble_eq_true rfl⟩ 4 7 rfl rfl (rfl) hl.1 rfl (Nat.le_of_ble_eq_true rfl) dX6_coatLine_153 (fun u H locs hw hP hD hS => ?_)
                obtain ⟨v31, f32⟩ := u
                obtain ⟨hIv31, hk0_v31, hk1_v31, hk9_v31, hk31_v31⟩ := hw
                have hP : va_P (dC, dI) vwCl (XW cy x0 x v31 f32) H := hP
                have hD : va_D A (XW cy x0 x v31 f32) := hD
                have hq0_v31 : v31 0 = (v 0) := hk0_v31.trans hq0_v27
                have hq1_v31 : v31 1 = (v 1) := hk1_v31.trans hq1_v27
                have hq9_v31 : v31 9 = (v 9) := hk9_v31.trans hq9_v27
                have hq31_v31 : v31 31 = (v 31) := hk31_v31.trans hq31_v27
                refine lv_iconst (v := 1) hx hb dX6_coatLine_156 (by decide) ?_
                exact ret 1 (v31, f32) _ _ _ _ _ _ rfl ⟨hIv31, (hk0_v31.trans (hk0_v27.trans (hk0_v13.trans (hk0_v9.trans (hk0_v5.trans hk0_v2))))), (hk1_v31.trans (hk1_v27.trans (hk1_v13.trans (hk1_v9.trans (hk1_v5.trans hk1_v2))))), (hk9_v31.trans (hk9_v27.trans (hk9_v13.trans (hk9_v9.trans (hk9_v5.trans hk9_v2))))), (hk31_v31.trans (hk31_v27.trans (hk31_v13.trans (hk31_v9.trans (hk31_v5.trans hk31_v2))))), (Or.inl rfl)⟩ hP hD hS dX6_coatLine_157 (Nat.le_refl _) (Nat.le_refl _)
              · skip
                have zc30 : (v27 2).toInt = 120 := by rw [fa_eq, show (120 : Int32).toInt = 120 from by decide] at c30; exact c30
                refine lv_aload_n hx hb dX6_coatLine_123 rfl (lv_at hl 3 rfl) ?_
                refine lv_bipush (v := 120) hx hb dX6_coatLine_124 (by decide) ?_
                refine lv_bipush (v := 99) hx hb dX6_coatLine_126 (by decide) ?_
                refine csVi (n := 2) (rest := []) hx hb hml hown hts hE hP hD hS hA hF hT (sX_X6_labelled_1 l dC dI cy x0 x 120 99 v27 f28 hIv27 ) k_708 k_710 k_9 k_103 k_711 (by decide +kernel) ⟨Nat.le_of_ble_eq_true rfl, Nat.le_of_ble_eq_true rfl⟩ 3 6 rfl rfl (rfl) hl.1 rfl (Nat.le_of_ble_eq_true rfl) dX6_coatLine_128 (fun r33 u H locs hw hP hD hS => ?_)
                obtain ⟨v34, f35⟩ := u
                obtain ⟨hIv34, hk0_v34, hk1_v34, hk9_v34, hk10_v34, hk31_v34, hk32_v34⟩ := hw
                have hP : va_P (dC, dI) vwCl (XW cy x0 x v34 f35) H := hP
                have hD : va_D A (XW cy x0 x v34 f35) := hD
                have hq0_v34 : v34 0 = (v 0) := hk0_v34.trans hq0_v27
                have hq1_v34 : v34 1 = (v 1) := hk1_v34.trans hq1_v27
                have hq9_v34 : v34 9 = (v 9) := hk9_v34.trans hq9_v27
                have hq10_v34 : v34 10 = (v 10) := hk10_v34.trans hq10_v27
                have hq31_v34 : v34 31 = (v 31) := hk31_v34.trans hq31_v27
                have hq32_v34 : v34 32 = (v 32) := hk32_v34.trans hq32_v27
                refine lv_goto (tgt := 135) hx hb dX6_coatLine_131 (by decide) ?_
                refine lv_istore (lv' := [(4, .int r33), (3, .int r26), (2, .int r12), (1, .int r8), (0, .ref (x 2))]) hx hb dX6_coatLine_135 hl (by decide) rfl (fun ls hl => ?_)
                refine lv_iload hx hb dX6_coatLine_137 (lv_at hl 0 rfl) ?_
                refine lv_if_ge (tgt := 144) hx hb dX6_coatLine_139 (by decide) (fun c36 => ?_) (fun c36 => ?_)
                · skip
                  have zc36 : 0 ≤ r33.toInt := by rw [fa_le, show (0 : Int32).toInt = 0 from by decide] at c36; exact c36
                  refine lv_aload_n hx hb dX6_coatLine_144 rfl (lv_at hl 4 rfl) ?_
                  refine va_get (D := (dC, dI)) (ci := 6) (v := .ref (x 3)) (C := RX6) (T := TX6) (N := 7) hx hb hts inB_6 hown hE.1 hP 3 rfl rfl 1 (by decide) (hts _ k_266) (fun _ h9 => h9) rfl dX6_coatLine_145 ?_
                  refine lv_iload_n hx hb dX6_coatLine_148 rfl (lv_at hl 3 rfl) ?_
                  refine lv_iload_n hx hb dX6_coatLine_149 rfl (lv_at hl 2 rfl) ?_
                  refine lv_iload_n hx hb dX6_coatLine_150 rfl (lv_at hl 1 rfl) ?_
                  refine lv_iload hx hb dX6_coatLine_151 (lv_at hl 0 rfl) ?_
                  refine cbVv (n := 4) (rest := []) hx hb hml hown hts hE hP hD hS hA (sX_X7_addCoat_1 l dC dI cy x0 x r8 r12 r26 r33 v34 f35 hIv34 ) k_732 k_733 k_734 k_104 k_735 (by decide +kernel) ⟨Nat.le_of_ble_eq_true rfl, Nat.le_of_ble_eq_true rfl⟩ 4 7 rfl rfl (rfl) hl.1 rfl (Nat.le_of_ble_eq_true rfl) dX6_coatLine_153 (fun u H locs hw hP hD hS => ?_)
                  obtain ⟨v37, f38⟩ := u
                  obtain ⟨hIv37, hk0_v37, hk1_v37, hk9_v37, hk31_v37⟩ := hw
                  have hP : va_P (dC, dI) vwCl (XW cy x0 x v37 f38) H := hP
                  have hD : va_D A (XW cy x0 x v37 f38) := hD
                  have hq0_v37 : v37 0 = (v 0) := hk0_v37.trans hq0_v34
                  have hq1_v37 : v37 1 = (v 1) := hk1_v37.trans hq1_v34
                  have hq9_v37 : v37 9 = (v 9) := hk9_v37.trans hq9_v34
                  have hq31_v37 : v37 31 = (v 31) := hk31_v37.trans hq31_v34
                  refine lv_iconst (v := 1) hx hb dX6_coatLine_156 (by decide) ?_
                  exact ret 1 (v37, f38) _ _ _ _ _ _ rfl ⟨hIv37, (hk0_v37.trans (hk0_v34.trans (hk0_v27.trans (hk0_v13.trans (hk0_v9.trans (hk0_v5.trans hk0_v2)))))), (hk1_v37.trans (hk1_v34.trans (hk1_v27.trans (hk1_v13.trans (hk1_v9.trans (hk1_v5.trans hk1_v2)))))), (hk9_v37.trans (hk9_v34.trans (hk9_v27.trans (hk9_v13.trans (hk9_v9.trans (hk9_v5.trans hk9_v2)))))), (hk31_v37.trans (hk31_v34.trans (hk31_v27.trans (hk31_v13.trans (hk31_v9.trans (hk31_v5.trans hk31_v2)))))), (Or.inl rfl)⟩ hP hD hS dX6_coatLine_157 (Nat.le_refl _) (Nat.le_refl _)
                · skip
                  have zc36 : ¬ (0 ≤ r33.toInt) := by rw [fa_le, show (0 : Int32).toInt = 0 from by decide] at c36; exact c36
                  refine lv_iconst (v := 0) hx hb dX6_coatLine_142 (by decide) ?_
                  exact ret 0 (v34, f35) _ _ _ _ _ _ rfl ⟨hIv34, (hk0_v34.trans (hk0_v27.trans (hk0_v13.trans (hk0_v9.trans (hk0_v5.trans hk0_v2))))), (hk1_v34.trans (hk1_v27.trans (hk1_v13.trans (hk1_v9.trans (hk1_v5.trans hk1_v2))))), (hk9_v34.trans (hk9_v27.trans (hk9_v13.trans (hk9_v9.trans (hk9_v5.trans hk9_v2))))), (hk31_v34.trans (hk31_v27.trans (hk31_v13.trans (hk31_v9.trans (hk31_v5.trans hk31_v2))))), (Or.inr rfl)⟩ hP hD hS dX6_coatLine_143 (Nat.le_refl _) (Nat.le_refl _)
            · skip
              have zc29 : ¬ (0 ≤ r26.toInt) := by rw [fa_le, show (0 : Int32).toInt = 0 from by decide] at c29; exact c29
              refine lv_iconst (v := (-1)) hx hb dX6_coatLine_107 (by decide) ?_
              refine lv_goto (tgt := 135) hx hb dX6_coatLine_108 (by decide) ?_
              refine lv_istore (lv' := [(4, .int (-1)), (3, .int r26), (2, .int r12), (1, .int r8), (0, .ref (x 2))]) hx hb dX6_coatLine_135 hl (by decide) rfl (fun ls hl => ?_)
              refine lv_iload hx hb dX6_coatLine_137 (lv_at hl 0 rfl) ?_
              refine lv_if_ge (tgt := 144) hx hb dX6_coatLine_139 (by decide) (fun c0 => absurd c0 (by decide)) (fun _ => ?_)
              refine lv_iconst (v := 0) hx hb dX6_coatLine_142 (by decide) ?_
              exact ret 0 (v27, f28) _ _ _ _ _ _ rfl ⟨hIv27, (hk0_v27.trans (hk0_v13.trans (hk0_v9.trans (hk0_v5.trans hk0_v2)))), (hk1_v27.trans (hk1_v13.trans (hk1_v9.trans (hk1_v5.trans hk1_v2)))), (hk9_v27.trans (hk9_v13.trans (hk9_v9.trans (hk9_v5.trans hk9_v2)))), (hk31_v27.trans (hk31_v13.trans (hk31_v9.trans (hk31_v5.trans hk31_v2)))), (Or.inr rfl)⟩ hP hD hS dX6_coatLine_143 (Nat.le_refl _) (Nat.le_refl _)
        · skip
          have zc15 : ¬ (0 ≤ r12.toInt) := by rw [fa_le, show (0 : Int32).toInt = 0 from by decide] at c15; exact c15
          refine lv_iconst (v := (-1)) hx hb dX6_coatLine_74 (by decide) ?_
          refine lv_goto (tgt := 102) hx hb dX6_coatLine_75 (by decide) ?_
          refine lv_istore_n (lv' := [(3, .int (-1)), (2, .int r12), (1, .int r8), (0, .ref (x 2))]) hx hb dX6_coatLine_102 rfl hl (by decide) rfl (fun ls hl => ?_)
          refine lv_iload_n hx hb dX6_coatLine_103 rfl (lv_at hl 0 rfl) ?_
          refine lv_if_ge (tgt := 111) hx hb dX6_coatLine_104 (by decide) (fun c0 => absurd c0 (by decide)) (fun _ => ?_)
          refine lv_iconst (v := (-1)) hx hb dX6_coatLine_107 (by decide) ?_
          refine lv_goto (tgt := 135) hx hb dX6_coatLine_108 (by decide) ?_
          refine lv_istore (lv' := [(4, .int (-1)), (3, .int (-1)), (2, .int r12), (1, .int r8), (0, .ref (x 2))]) hx hb dX6_coatLine_135 hl (by decide) rfl (fun ls hl => ?_)
          refine lv_iload hx hb dX6_coatLine_137 (lv_at hl 0 rfl) ?_
          refine lv_if_ge (tgt := 144) hx hb dX6_coatLine_139 (by decide) (fun c0 => absurd c0 (by decide)) (fun _ => ?_)
          refine lv_iconst (v := 0) hx hb dX6_coatLine_142 (by decide) ?_
          exact ret 0 (v13, f14) _ _ _ _ _ _ rfl ⟨hIv13, (hk0_v13.trans (hk0_v9.trans (hk0_v5.trans hk0_v2))), (hk1_v13.trans (hk1_v9.trans (hk1_v5.trans hk1_v2))), (hk9_v13.trans (hk9_v9.trans (hk9_v5.trans hk9_v2))), (hk31_v13.trans (hk31_v9.trans (hk31_v5.trans hk31_v2))), (Or.inr rfl)⟩ hP hD hS dX6_coatLine_143 (Nat.le_refl _) (Nat.le_refl _)
      · skip
        have zc11 : ¬ (0 ≤ r8.toInt) := by rw [fa_le, show (0 : Int32).toInt = 0 from by decide] at c11; exact c11
        refine lv_iconst (v := (-1)) hx hb dX6_coatLine_57 (by decide) ?_
        refine lv_goto (tgt := 69) hx hb dX6_coatLine_58 (by decide) ?_
        refine lv_istore_n (lv' := [(2, .int (-1)), (1, .int r8), (0, .ref (x 2))]) hx hb dX6_coatLine_69 rfl hl (by decide) rfl (fun ls hl => ?_)
        refine lv_iload_n hx hb dX6_coatLine_70 rfl (lv_at hl 0 rfl) ?_
        refine lv_if_ge (tgt := 78) hx hb dX6_coatLine_71 (by decide) (fun c0 => absurd c0 (by decide)) (fun _ => ?_)
        refine lv_iconst (v := (-1)) hx hb dX6_coatLine_74 (by decide) ?_
        refine lv_goto (tgt := 102) hx hb dX6_coatLine_75 (by decide) ?_
        refine lv_istore_n (lv' := [(3, .int (-1)), (2, .int (-1)), (1, .int r8), (0, .ref (x 2))]) hx hb dX6_coatLine_102 rfl hl (by decide) rfl (fun ls hl => ?_)
        refine lv_iload_n hx hb dX6_coatLine_103 rfl (lv_at hl 0 rfl) ?_
        refine lv_if_ge (tgt := 111) hx hb dX6_coatLine_104 (by decide) (fun c0 => absurd c0 (by decide)) (fun _ => ?_)
        refine lv_iconst (v := (-1)) hx hb dX6_coatLine_107 (by decide) ?_
        refine lv_goto (tgt := 135) hx hb dX6_coatLine_108 (by decide) ?_
        refine lv_istore (lv' := [(4, .int (-1)), (3, .int (-1)), (2, .int (-1)), (1, .int r8), (0, .ref (x 2))]) hx hb dX6_coatLine_135 hl (by decide) rfl (fun ls hl => ?_)
        refine lv_iload hx hb dX6_coatLine_137 (lv_at hl 0 rfl) ?_
        refine lv_if_ge (tgt := 144) hx hb dX6_coatLine_139 (by decide) (fun c0 => absurd c0 (by decide)) (fun _ => ?_)
        refine lv_iconst (v := 0) hx hb dX6_coatLine_142 (by decide) ?_
        exact ret 0 (v9, f10) _ _ _ _ _ _ rfl ⟨hIv9, (hk0_v9.trans (hk0_v5.trans hk0_v2)), (hk1_v9.trans (hk1_v5.trans hk1_v2)), (hk9_v9.trans (hk9_v5.trans hk9_v2)), (hk31_v9.trans (hk31_v5.trans hk31_v2)), (Or.inr rfl)⟩ hP hD hS dX6_coatLine_143 (Nat.le_refl _) (Nat.le_refl _)
    · skip
      subst g7
      refine lv_if_ne (tgt := 44) hx hb dX6_coatLine_39 (by decide) (fun c0 => absurd (by decide) c0) (fun _ => ?_)
      refine lv_iconst (v := 0) hx hb dX6_coatLine_42 (by decide) ?_
      exact ret 0 (v5, f6) _ _ _ _ _ _ rfl ⟨hIv5, (hk0_v5.trans hk0_v2), (hk1_v5.trans hk1_v2), (hk9_v5.trans hk9_v2), (hk31_v5.trans hk31_v2), (Or.inr rfl)⟩ hP hD hS dX6_coatLine_43 (Nat.le_refl _) (Nat.le_refl _)
  · skip
    have zc1 : ¬ ((v 10).toInt < 6) := by rw [fa_lt, show (6 : Int32).toInt = 6 from by decide] at c1; exact c1
    refine lv_aload_n hx hb dX6_coatLine_12 rfl (lv_at hl 0 rfl) ?_
    refine cbVi (n := 0) (rest := []) hx hb hml hown hts hE hP hD hS hA (sX_X6_refuse_1 l dC dI cy x0 x  v f hIv ) k_691 k_693 k_6 k_103 k_694 (by decide +kernel) ⟨Nat.le_of_ble_eq_true rfl, Nat.le_of_ble_eq_true rfl⟩ 3 6 rfl rfl (rfl) hl.1 rfl (Nat.le_of_ble_eq_true rfl) dX6_coatLine_13 (fun r39 u H locs hw hP hD hS => ?_)
    obtain ⟨v40, f41⟩ := u
    obtain ⟨hIv40, hk0_v40, hk1_v40, hk9_v40, hk10_v40, hk31_v40, hk32_v40, hw⟩ := hw
    have hP : va_P (dC, dI) vwCl (XW cy x0 x v40 f41) H := hP
    have hD : va_D A (XW cy x0 x v40 f41) := hD
    have hq0_v40 : v40 0 = (v 0) := hk0_v40
    have hq1_v40 : v40 1 = (v 1) := hk1_v40
    have hq9_v40 : v40 9 = (v 9) := hk9_v40
    have hq10_v40 : v40 10 = (v 10) := hk10_v40
    have hq31_v40 : v40 31 = (v 31) := hk31_v40
    have hq32_v40 : v40 32 = (v 32) := hk32_v40
    rcases hw with ⟨g42⟩ | ⟨g42⟩
    · skip
      subst g42
      exact ret 1 (v40, f41) _ _ _ _ _ _ rfl ⟨hIv40, hk0_v40, hk1_v40, hk9_v40, hk31_v40, (Or.inl rfl)⟩ hP hD hS dX6_coatLine_16 (Nat.le_refl _) (Nat.le_refl _)
    · skip
      subst g42
      exact ret 0 (v40, f41) _ _ _ _ _ _ rfl ⟨hIv40, hk0_v40, hk1_v40, hk9_v40, hk31_v40, (Or.inr rfl)⟩ hP hD hS dX6_coatLine_16 (Nat.le_refl _) (Nat.le_refl _)
