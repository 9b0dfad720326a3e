set_option maxHeartbeats 4000000 in
set_option maxRecDepth 100000 in
theorem sX_X6_name_2 (NF : Nat) (l : Launch) (dC : Nat → ClassId) (dI : Nat → Nat → Nat) (cy : Nat → ClassId) (x0 : Nat) (x : Nat → Nat) (p2 : Int32) (v : Nat → Int32) (f : Nat → Nat → Int32) (hIv : XI v)  : ctIS l (dC, dI) cy yX6_name cX6_name 4 .boolean 7 191 0 0 ((Nat → Int32) × (Nat → Nat → Int32)) [.ref (x 2), .ref (x 12), .int p2] (XW cy x0 x v f) (fun r u => gsX_X6_name_2 NF p2 v f = (r, u) ∧ KV [2, 3, 4, 5, 7, 8] u.1 v ∧ KF [8] u.2 f ∧ XI u.1 ∧ u.1 0 = v 0 ∧ u.1 1 = v 1 ∧ u.1 9 = v 9 ∧ u.1 10 = v 10 ∧ u.1 31 = v 31 ∧ u.1 32 = v 32 ∧ ((r = 1) ∨ (r = 0))) (fun u => XW cy x0 x u.1 u.2) := by
  refine ctIS_of (by decide) (Nat.le_of_ble_eq_true rfl) (fun p e s m below meth c A ls Q hx hb hml hts hown hE hF hT hP hD hA hl ret => ?_)
  have hM_v : KV [2, 3, 4, 5, 7, 8] v v := fun _ _ => rfl
  have hA_f : KF [8] f f := fun _ _ => rfl
  have hown : s.vm.findClass RX6 = some m.cls := hown
  have hS : va_S A s.heap s.heap [] := va_S.rf
  have hl : lv_has ls 4 [(0, .ref (x 2)), (1, .ref (x 12)), (2, .int p2)] := hl
  refine lv_aload_n hx hb dX6_name_0 rfl (lv_at hl 0 rfl) ?_
  refine va_get (D := (dC, dI)) (ci := 6) (v := .ref (x 0)) (C := RX6) (T := TX6) (N := 7) hx hb hts inB_6 hown hE.1 hP 3 rfl rfl 0 (by decide) (hts _ k_265) (fun _ h9 => h9) rfl dX6_name_1 ?_
  refine va_getN (D := (dC, dI)) (ci := 9) (v := .int (v 2)) (C := RX9) (T := TX9) (N := 6) hx hb hts inB_9 hown hE.1 hP 1 rfl rfl 2 (by decide) (va_Nw.use rfl (hE.2 _ k_139)) (fun _ h9 => h9) rfl dX6_name_4 ?_
  refine lv_iconst (v := 3) hx hb dX6_name_7 (by decide) ?_
  refine lv_icmp_eq (tgt := 16) hx hb dX6_name_8 (by decide) (fun c1 => ?_) (fun c1 => ?_)
  · skip
    have zc1 : (v 2).toInt = 3 := by rw [fa_eq, show (3 : Int32).toInt = 3 from by decide] at c1; exact c1
    refine lv_iconst (v := 0) hx hb dX6_name_16 (by decide) ?_
    refine lv_istore_n (lv' := [(3, .int 0), (0, .ref (x 2)), (1, .ref (x 12)), (2, .int p2)]) hx hb dX6_name_17 rfl hl (by decide) rfl (fun ls hl => ?_)
    have lp2 : ∀ (n2 : Nat) (l3_2 : Int32) (v2 : Nat → Int32) (f2 : Nat → Nat → Int32), XI v2 → v2 0 = (v 0) → v2 1 = (v 1) → v2 9 = (v 9) → v2 10 = (v 10) → v2 31 = (v 31) → v2 32 = (v 32) → gsX_X6_name_2_L2 NF p2 n2 l3_2 v2 f2 = (gsX_X6_name_2 NF p2 v f) → ((0 : Int) ≤ l3_2.toInt ∧ l3_2.toInt ≤ 2147483647) → KV [2, 3, 4, 5, 7, 8] v2 v → KF [8] f2 f → (2147483647 - l3_2.toInt).toNat < n2 → ∀ (H : Heap) (locs : List Loc) (ls : Array Slot), va_P (dC, dI) vwCl (XW cy x0 x v2 f2) H → va_D A (XW cy x0 x v2 f2) → va_S A s.heap H locs → lv_has ls 4 [(3, .int l3_2), (0, .ref (x 2)), (1, .ref (x 12)), (2, .int p2)] → W p l e { frames := 7, cells := 0, slots := 0, locals := 191 } s m ([.ref (x 2), .ref (x 12), .int p2] : List Value).toArray below meth c H locs 0 0 Q (F0 m 18 ls []) := by
      intro n2
      induction n2 with
      | zero => intro l3_2 v2 f2 hIv2 hq0_v2 hq1_v2 hq9_v2 hq10_v2 hq31_v2 hq32_v2 hT2 hr3_2 hM_v2 hA_f2 hm; exact absurd hm (Nat.not_lt_zero _)
      | succ n2 ih2 =>
        intro l3_2 v2 f2 hIv2 hq0_v2 hq1_v2 hq9_v2 hq10_v2 hq31_v2 hq32_v2 hT2 hr3_2 hM_v2 hA_f2 hm2 H locs ls hP hD hS hl
        refine lv_iload_n hx hb dX6_name_18 rfl (lv_at hl 0 rfl) ?_
        refine lv_iload_n hx hb dX6_name_19 rfl (lv_at hl 3 rfl) ?_
        refine lv_icmp_ge (tgt := 61) hx hb dX6_name_20 (by decide) (fun c3 => ?_) (fun c3 => ?_)
        · skip
          have zc3 : p2.toInt ≤ l3_2.toInt := by rw [fa_le] at c3; exact c3
          have rg4 := fb_rng l3_2
          have rg5 := fb_rng p2
          refine lv_iload_n hx hb dX6_name_61 rfl (lv_at hl 3 rfl) ?_
          refine lv_if_lt (tgt := 81) hx hb dX6_name_62 (by decide) (fun c6 => ?_) (fun c6 => ?_)
          · skip
            have zc6 : p2.toInt < 0 := by rw [fa_lt, show (0 : Int32).toInt = 0 from by decide] at c6; exact c6
            refine lv_aload_n hx hb dX6_name_81 rfl (lv_at hl 1 rfl) ?_
            refine va_get (D := (dC, dI)) (ci := 6) (v := .ref (x 0)) (C := RX6) (T := TX6) (N := 7) hx hb hts inB_6 hown hE.1 hP 3 rfl rfl 0 (by decide) (hts _ k_265) (fun _ h9 => h9) rfl dX6_name_82 ?_
            refine csVv (n := 0) (rest := []) hx hb hml hown hts hE hP hD hS hA hF hT (sX_X9_advance_1 NF l dC dI cy x0 x  v2 f2 hIv2 ) k_699 k_559 k_560 k_102 k_561 (by decide +kernel) ⟨Nat.le_of_ble_eq_true rfl, Nat.le_of_ble_eq_true rfl⟩ 1 9 rfl rfl (rfl) hl.1 rfl (Nat.le_of_ble_eq_true rfl) dX6_name_85 (fun u H locs hw hP hD hS => ?_)
            obtain ⟨hG7, hw⟩ := hw
            obtain ⟨v8, f9⟩ := u
            obtain ⟨kV_v8, kF_f9, hIv8, hk0_v8, hk1_v8, hk7_v8, hk8_v8, hk9_v8, hk10_v8, hk31_v8, hk32_v8⟩ := hw
            have hM_v8 : KV [2, 3, 4, 5, 7, 8] v8 v := KV.tr kV_v8 hM_v2 rfl
            have hA_f9 : KF [8] f9 f := KF.tr kF_f9 hA_f2 rfl
            have hP : va_P (dC, dI) vwCl (XW cy x0 x v8 f9) H := hP
            have hD : va_D A (XW cy x0 x v8 f9) := hD
            have hq0_v8 : v8 0 = (v 0) := hk0_v8.trans hq0_v2
            have hq1_v8 : v8 1 = (v 1) := hk1_v8.trans hq1_v2
            have hq7_v8 : v8 7 = (v2 7) := hk7_v8
            have hq8_v8 : v8 8 = (v2 8) := hk8_v8
            have hq9_v8 : v8 9 = (v 9) := hk9_v8.trans hq9_v2
            have hq10_v8 : v8 10 = (v 10) := hk10_v8.trans hq10_v2
            have hq31_v8 : v8 31 = (v 31) := hk31_v8.trans hq31_v2
            have hq32_v8 : v8 32 = (v 32) := hk32_v8.trans hq32_v2
            refine lv_iconst (v := 1) hx hb dX6_name_88 (by decide) ?_
            exact ret 1 (v8, f9) _ _ _ _ _ _ rfl ⟨(hT2.symm.trans (gsX_X6_name_2_q0 c3 c6 hG7)), hM_v8, hA_f9, hIv8, (hk0_v8.trans (show v2 0 = v 0 from hq0_v2)), (hk1_v8.trans (show v2 1 = v 1 from hq1_v2)), (hk9_v8.trans (show v2 9 = v 9 from hq9_v2)), (hk10_v8.trans (show v2 10 = v 10 from hq10_v2)), (hk31_v8.trans (show v2 31 = v 31 from hq31_v2)), (hk32_v8.trans (show v2 32 = v 32 from hq32_v2)), (Or.inl rfl)⟩ hP hD hS dX6_name_89 (Nat.le_refl _) (Nat.le_refl _)
          · skip
            have zc6 : ¬ (p2.toInt < 0) := by rw [fa_lt, show (0 : Int32).toInt = 0 from by decide] at c6; exact c6
            refine lv_iload_n hx hb dX6_name_65 rfl (lv_at hl 3 rfl) ?_
            refine lv_aload_n hx hb dX6_name_66 rfl (lv_at hl 2 rfl) ?_
            refine va_alen (v := 6) hx hb hE.1 hP 13 1 rfl rfl rfl dX6_name_67 ?_
            refine lv_icmp_ge (tgt := 81) hx hb dX6_name_68 (by decide) (fun c10 => ?_) (fun c10 => ?_)
            · skip
              have zc10 : 6 ≤ p2.toInt := by rw [fa_le, show (6 : Int32).toInt = 6 from by decide] at c10; exact c10
              refine lv_aload_n hx hb dX6_name_81 rfl (lv_at hl 1 rfl) ?_
              refine va_get (D := (dC, dI)) (ci := 6) (v := .ref (x 0)) (C := RX6) (T := TX6) (N := 7) hx hb hts inB_6 hown hE.1 hP 3 rfl rfl 0 (by decide) (hts _ k_265) (fun _ h9 => h9) rfl dX6_name_82 ?_
              refine csVv (n := 0) (rest := []) hx hb hml hown hts hE hP hD hS hA hF hT (sX_X9_advance_1 NF l dC dI cy x0 x  v2 f2 hIv2 ) k_699 k_559 k_560 k_102 k_561 (by decide +kernel) ⟨Nat.le_of_ble_eq_true rfl, Nat.le_of_ble_eq_true rfl⟩ 1 9 rfl rfl (rfl) hl.1 rfl (Nat.le_of_ble_eq_true rfl) dX6_name_85 (fun u H locs hw hP hD hS => ?_)
              obtain ⟨hG11, hw⟩ := hw
              obtain ⟨v12, f13⟩ := u
              obtain ⟨kV_v12, kF_f13, hIv12, hk0_v12, hk1_v12, hk7_v12, hk8_v12, hk9_v12, hk10_v12, hk31_v12, hk32_v12⟩ := hw
              have hM_v12 : KV [2, 3, 4, 5, 7, 8] v12 v := KV.tr kV_v12 hM_v2 rfl
              have hA_f13 : KF [8] f13 f := KF.tr kF_f13 hA_f2 rfl
              have hP : va_P (dC, dI) vwCl (XW cy x0 x v12 f13) H := hP
              have hD : va_D A (XW cy x0 x v12 f13) := hD
              have hq0_v12 : v12 0 = (v 0) := hk0_v12.trans hq0_v2
              have hq1_v12 : v12 1 = (v 1) := hk1_v12.trans hq1_v2
              have hq7_v12 : v12 7 = (v2 7) := hk7_v12
              have hq8_v12 : v12 8 = (v2 8) := hk8_v12
              have hq9_v12 : v12 9 = (v 9) := hk9_v12.trans hq9_v2
              have hq10_v12 : v12 10 = (v 10) := hk10_v12.trans hq10_v2
              have hq31_v12 : v12 31 = (v 31) := hk31_v12.trans hq31_v2
              have hq32_v12 : v12 32 = (v 32) := hk32_v12.trans hq32_v2
              refine lv_iconst (v := 1) hx hb dX6_name_88 (by decide) ?_
              exact ret 1 (v12, f13) _ _ _ _ _ _ rfl ⟨(hT2.symm.trans (gsX_X6_name_2_q1 c3 c6 c10 hG11)), hM_v12, hA_f13, hIv12, (hk0_v12.trans (show v2 0 = v 0 from hq0_v2)), (hk1_v12.trans (show v2 1 = v 1 from hq1_v2)), (hk9_v12.trans (show v2 9 = v 9 from hq9_v2)), (hk10_v12.trans (show v2 10 = v 10 from hq10_v2)), (hk31_v12.trans (show v2 31 = v 31 from hq31_v2)), (hk32_v12.trans (show v2 32 = v 32 from hq32_v2)), (Or.inl rfl)⟩ hP hD hS dX6_name_89 (Nat.le_refl _) (Nat.le_refl _)
            · skip
              have zc10 : ¬ (6 ≤ p2.toInt) := by rw [fa_le, show (6 : Int32).toInt = 6 from by decide] at c10; exact c10
              refine lv_aload_n hx hb dX6_name_71 rfl (lv_at hl 2 rfl) ?_
              refine lv_iload_n hx hb dX6_name_72 rfl (lv_at hl 3 rfl) ?_
              refine lv_aload_n hx hb dX6_name_73 rfl (lv_at hl 1 rfl) ?_
              refine va_get (D := (dC, dI)) (ci := 6) (v := .ref (x 0)) (C := RX6) (T := TX6) (N := 7) hx hb hts inB_6 hown hE.1 hP 3 rfl rfl 0 (by decide) (hts _ k_265) (fun _ h9 => h9) rfl dX6_name_74 ?_
              refine va_getN (D := (dC, dI)) (ci := 9) (v := .int (v2 3)) (C := RX9) (T := TX9) (N := 6) hx hb hts inB_9 hown hE.1 hP 1 rfl rfl 3 (by decide) (va_Nw.use rfl (hE.2 _ k_142)) (fun _ h9 => h9) rfl dX6_name_77 ?_
              have b3_v2 : 0 ≤ (v2 3).toInt ∧ (v2 3).toInt ≤ 1600 := XI.b hIv2 3 (by decide)
              refine stI hx hb hE hP hD hS 13 rfl (vp_in_iff.mpr ⟨by omega, by omega⟩) rfl dX6_name_80 (fun H locs hP hD hS => ?_)
              obtain ⟨f14, ef14, hP, hD⟩ : ∃ fz9, fz9 = upd2 f2 8 (upd (f2 8) p2.toNatClampNeg (v2 3)) ∧ va_P (dC, dI) vwCl (XW cy x0 x v2 fz9) H ∧ va_D A (XW cy x0 x v2 fz9) := ⟨_, rfl, hP, hD⟩
              have hA_f14 : KF [8] f14 f := by rw [ef14]; exact KF.up hA_f2 rfl
              refine lv_aload_n hx hb dX6_name_81 rfl (lv_at hl 1 rfl) ?_
              refine va_get (D := (dC, dI)) (ci := 6) (v := .ref (x 0)) (C := RX6) (T := TX6) (N := 7) hx hb hts inB_6 hown hE.1 hP 3 rfl rfl 0 (by decide) (hts _ k_265) (fun _ h9 => h9) rfl dX6_name_82 ?_
              refine csVv (n := 0) (rest := []) hx hb hml hown hts hE hP hD hS hA hF hT (sX_X9_advance_1 NF l dC dI cy x0 x  v2 f14 hIv2 ) k_699 k_559 k_560 k_102 k_561 (by decide +kernel) ⟨Nat.le_of_ble_eq_true rfl, Nat.le_of_ble_eq_true rfl⟩ 1 9 rfl rfl (rfl) hl.1 rfl (Nat.le_of_ble_eq_true rfl) dX6_name_85 (fun u H locs hw hP hD hS => ?_)
              obtain ⟨hG15, hw⟩ := hw
              obtain ⟨v16, f17⟩ := u
              obtain ⟨kV_v16, kF_f17, hIv16, hk0_v16, hk1_v16, hk7_v16, hk8_v16, hk9_v16, hk10_v16, hk31_v16, hk32_v16⟩ := hw
              have hM_v16 : KV [2, 3, 4, 5, 7, 8] v16 v := KV.tr kV_v16 hM_v2 rfl
              have hA_f17 : KF [8] f17 f := KF.tr kF_f17 hA_f14 rfl
              have hP : va_P (dC, dI) vwCl (XW cy x0 x v16 f17) H := hP
              have hD : va_D A (XW cy x0 x v16 f17) := hD
              have hq0_v16 : v16 0 = (v 0) := hk0_v16.trans hq0_v2
              have hq1_v16 : v16 1 = (v 1) := hk1_v16.trans hq1_v2
              have hq7_v16 : v16 7 = (v2 7) := hk7_v16
              have hq8_v16 : v16 8 = (v2 8) := hk8_v16
              have hq9_v16 : v16 9 = (v 9) := hk9_v16.trans hq9_v2
              have hq10_v16 : v16 10 = (v 10) := hk10_v16.trans hq10_v2
              have hq31_v16 : v16 31 = (v 31) := hk31_v16.trans hq31_v2
              have hq32_v16 : v16 32 = (v 32) := hk32_v16.trans hq32_v2
              refine lv_iconst (v := 1) hx hb dX6_name_88 (by decide) ?_
              exact ret 1 (v16, f17) _ _ _ _ _ _ rfl ⟨(hT2.symm.trans (gsX_X6_name_2_q2 c3 c6 c10 ef14 hG15)), hM_v16, hA_f17, hIv16, (hk0_v16.trans (show v2 0 = v 0 from hq0_v2)), (hk1_v16.trans (show v2 1 = v 1 from hq1_v2)), (hk9_v16.trans (show v2 9 = v 9 from hq9_v2)), (hk10_v16.trans (show v2 10 = v 10 from hq10_v2)), (hk31_v16.trans (show v2 31 = v 31 from hq31_v2)), (hk32_v16.trans (show v2 32 = v 32 from hq32_v2)), (Or.inl rfl)⟩ hP hD hS dX6_name_89 (Nat.le_refl _) (Nat.le_refl _)
        · skip
          have zc3 : ¬ (p2.toInt ≤ l3_2.toInt) := by rw [fa_le] at c3; exact c3
          have rg18 := fb_rng l3_2
          have rg19 := fb_rng p2
          refine lv_iload_n hx hb dX6_name_23 rfl (lv_at hl 0 rfl) ?_
          refine lv_aload_n hx hb dX6_name_24 rfl (lv_at hl 2 rfl) ?_
          refine va_alen (v := 6) hx hb hE.1 hP 13 1 rfl rfl rfl dX6_name_25 ?_
          refine lv_icmp_ge (tgt := 61) hx hb dX6_name_26 (by decide) (fun c20 => ?_) (fun c20 => ?_)
          · skip
            have zc20 : 6 ≤ l3_2.toInt := by rw [fa_le, show (6 : Int32).toInt = 6 from by decide] at c20; exact c20
            refine lv_iload_n hx hb dX6_name_61 rfl (lv_at hl 3 rfl) ?_
            refine lv_if_lt (tgt := 81) hx hb dX6_name_62 (by decide) (fun c21 => ?_) (fun c21 => ?_)
            · skip
              have zc21 : p2.toInt < 0 := by rw [fa_lt, show (0 : Int32).toInt = 0 from by decide] at c21; exact c21
              refine lv_aload_n hx hb dX6_name_81 rfl (lv_at hl 1 rfl) ?_
              refine va_get (D := (dC, dI)) (ci := 6) (v := .ref (x 0)) (C := RX6) (T := TX6) (N := 7) hx hb hts inB_6 hown hE.1 hP 3 rfl rfl 0 (by decide) (hts _ k_265) (fun _ h9 => h9) rfl dX6_name_82 ?_
              refine csVv (n := 0) (rest := []) hx hb hml hown hts hE hP hD hS hA hF hT (sX_X9_advance_1 NF l dC dI cy x0 x  v2 f2 hIv2 ) k_699 k_559 k_560 k_102 k_561 (by decide +kernel) ⟨Nat.le_of_ble_eq_true rfl, Nat.le_of_ble_eq_true rfl⟩ 1 9 rfl rfl (rfl) hl.1 rfl (Nat.le_of_ble_eq_true rfl) dX6_name_85 (fun u H locs hw hP hD hS => ?_)
              obtain ⟨hG22, hw⟩ := hw
              obtain ⟨v23, f24⟩ := u
              obtain ⟨kV_v23, kF_f24, hIv23, hk0_v23, hk1_v23, hk7_v23, hk8_v23, hk9_v23, hk10_v23, hk31_v23, hk32_v23⟩ := hw
              have hM_v23 : KV [2, 3, 4, 5, 7, 8] v23 v := KV.tr kV_v23 hM_v2 rfl
              have hA_f24 : KF [8] f24 f := KF.tr kF_f24 hA_f2 rfl
              have hP : va_P (dC, dI) vwCl (XW cy x0 x v23 f24) H := hP
              have hD : va_D A (XW cy x0 x v23 f24) := hD
              have hq0_v23 : v23 0 = (v 0) := hk0_v23.trans hq0_v2
              have hq1_v23 : v23 1 = (v 1) := hk1_v23.trans hq1_v2
              have hq7_v23 : v23 7 = (v2 7) := hk7_v23
              have hq8_v23 : v23 8 = (v2 8) := hk8_v23
              have hq9_v23 : v23 9 = (v 9) := hk9_v23.trans hq9_v2
              have hq10_v23 : v23 10 = (v 10) := hk10_v23.trans hq10_v2
              have hq31_v23 : v23 31 = (v 31) := hk31_v23.trans hq31_v2
              have hq32_v23 : v23 32 = (v 32) := hk32_v23.trans hq32_v2
              refine lv_iconst (v := 1) hx hb dX6_name_88 (by decide) ?_
              exact ret 1 (v23, f24) _ _ _ _ _ _ rfl ⟨(hT2.symm.trans (gsX_X6_name_2_q3 c3 c20 c21 hG22)), hM_v23, hA_f24, hIv23, (hk0_v23.trans (show v2 0 = v 0 from hq0_v2)), (hk1_v23.trans (show v2 1 = v 1 from hq1_v2)), (hk9_v23.trans (show v2 9 = v 9 from hq9_v2)), (hk10_v23.trans (show v2 10 = v 10 from hq10_v2)), (hk31_v23.trans (show v2 31 = v 31 from hq31_v2)), (hk32_v23.trans (show v2 32 = v 32 from hq32_v2)), (Or.inl rfl)⟩ hP hD hS dX6_name_89 (Nat.le_refl _) (Nat.le_refl _)
            · skip
              have zc21 : ¬ (p2.toInt < 0) := by rw [fa_lt, show (0 : Int32).toInt = 0 from by decide] at c21; exact c21
              refine lv_iload_n hx hb dX6_name_65 rfl (lv_at hl 3 rfl) ?_
              refine lv_aload_n hx hb dX6_name_66 rfl (lv_at hl 2 rfl) ?_
              refine va_alen (v := 6) hx hb hE.1 hP 13 1 rfl rfl rfl dX6_name_67 ?_
              refine lv_icmp_ge (tgt := 81) hx hb dX6_name_68 (by decide) (fun c25 => ?_) (fun c25 => ?_)
              · skip
                have zc25 : 6 ≤ p2.toInt := by rw [fa_le, show (6 : Int32).toInt = 6 from by decide] at c25; exact c25
                refine lv_aload_n hx hb dX6_name_81 rfl (lv_at hl 1 rfl) ?_
                refine va_get (D := (dC, dI)) (ci := 6) (v := .ref (x 0)) (C := RX6) (T := TX6) (N := 7) hx hb hts inB_6 hown hE.1 hP 3 rfl rfl 0 (by decide) (hts _ k_265) (fun _ h9 => h9) rfl dX6_name_82 ?_
                refine csVv (n := 0) (rest := []) hx hb hml hown hts hE hP hD hS hA hF hT (sX_X9_advance_1 NF l dC dI cy x0 x  v2 f2 hIv2 ) k_699 k_559 k_560 k_102 k_561 (by decide +kernel) ⟨Nat.le_of_ble_eq_true rfl, Nat.le_of_ble_eq_true rfl⟩ 1 9 rfl rfl (rfl) hl.1 rfl (Nat.le_of_ble_eq_true rfl) dX6_name_85 (fun u H locs hw hP hD hS => ?_)
                obtain ⟨hG26, hw⟩ := hw
                obtain ⟨v27, f28⟩ := u
                obtain ⟨kV_v27, kF_f28, hIv27, hk0_v27, hk1_v27, hk7_v27, hk8_v27, hk9_v27, hk10_v27, hk31_v27, hk32_v27⟩ := hw
                have hM_v27 : KV [2, 3, 4, 5, 7, 8] v27 v := KV.tr kV_v27 hM_v2 rfl
                have hA_f28 : KF [8] f28 f := KF.tr kF_f28 hA_f2 rfl
                have hP : va_P (dC, dI) vwCl (XW cy x0 x v27 f28) H := hP
                have hD : va_D A (XW cy x0 x v27 f28) := hD
                have hq0_v27 : v27 0 = (v 0) := hk0_v27.trans hq0_v2
                have hq1_v27 : v27 1 = (v 1) := hk1_v27.trans hq1_v2
                have hq7_v27 : v27 7 = (v2 7) := hk7_v27
                have hq8_v27 : v27 8 = (v2 8) := hk8_v27
                have hq9_v27 : v27 9 = (v 9) := hk9_v27.trans hq9_v2
                have hq10_v27 : v27 10 = (v 10) := hk10_v27.trans hq10_v2
                have hq31_v27 : v27 31 = (v 31) := hk31_v27.trans hq31_v2
                have hq32_v27 : v27 32 = (v 32) := hk32_v27.trans hq32_v2
                refine lv_iconst (v := 1) hx hb dX6_name_88 (by decide) ?_
                exact ret 1 (v27, f28) _ _ _ _ _ _ rfl ⟨(hT2.symm.trans (gsX_X6_name_2_q4 c3 c20 c21 c25 hG26)), hM_v27, hA_f28, hIv27, (hk0_v27.trans (show v2 0 = v 0 from hq0_v2)), (hk1_v27.trans (show v2 1 = v 1 from hq1_v2)), (hk9_v27.trans (show v2 9 = v 9 from hq9_v2)), (hk10_v27.trans (show v2 10 = v 10 from hq10_v2)), (hk31_v27.trans (show v2 31 = v 31 from hq31_v2)), (hk32_v27.trans (show v2 32 = v 32 from hq32_v2)), (Or.inl rfl)⟩ hP hD hS dX6_name_89 (Nat.le_refl _) (Nat.le_refl _)
              · skip
                have zc25 : ¬ (6 ≤ p2.toInt) := by rw [fa_le, show (6 : Int32).toInt = 6 from by decide] at c25; exact c25
                refine lv_aload_n hx hb dX6_name_71 rfl (lv_at hl 2 rfl) ?_
                refine lv_iload_n hx hb dX6_name_72 rfl (lv_at hl 3 rfl) ?_
                refine lv_aload_n hx hb dX6_name_73 rfl (lv_at hl 1 rfl) ?_
                refine va_get (D := (dC, dI)) (ci := 6) (v := .ref (x 0)) (C := RX6) (T := TX6) (N := 7) hx hb hts inB_6 hown hE.1 hP 3 rfl rfl 0 (by decide) (hts _ k_265) (fun _ h9 => h9) rfl dX6_name_74 ?_
                refine va_getN (D := (dC, dI)) (ci := 9) (v := .int (v2 3)) (C := RX9) (T := TX9) (N := 6) hx hb hts inB_9 hown hE.1 hP 1 rfl rfl 3 (by decide) (va_Nw.use rfl (hE.2 _ k_142)) (fun _ h9 => h9) rfl dX6_name_77 ?_
                have b3_v2 : 0 ≤ (v2 3).toInt ∧ (v2 3).toInt ≤ 1600 := XI.b hIv2 3 (by decide)
                refine stI hx hb hE hP hD hS 13 rfl (vp_in_iff.mpr ⟨by omega, by omega⟩) rfl dX6_name_80 (fun H locs hP hD hS => ?_)
                obtain ⟨f29, ef29, hP, hD⟩ : ∃ fz9, fz9 = upd2 f2 8 (upd (f2 8) p2.toNatClampNeg (v2 3)) ∧ va_P (dC, dI) vwCl (XW cy x0 x v2 fz9) H ∧ va_D A (XW cy x0 x v2 fz9) := ⟨_, rfl, hP, hD⟩
                have hA_f29 : KF [8] f29 f := by rw [ef29]; exact KF.up hA_f2 rfl
                refine lv_aload_n hx hb dX6_name_81 rfl (lv_at hl 1 rfl) ?_
                refine va_get (D := (dC, dI)) (ci := 6) (v := .ref (x 0)) (C := RX6) (T := TX6) (N := 7) hx hb hts inB_6 hown hE.1 hP 3 rfl rfl 0 (by decide) (hts _ k_265) (fun _ h9 => h9) rfl dX6_name_82 ?_
                refine csVv (n := 0) (rest := []) hx hb hml hown hts hE hP hD hS hA hF hT (sX_X9_advance_1 NF l dC dI cy x0 x  v2 f29 hIv2 ) k_699 k_559 k_560 k_102 k_561 (by decide +kernel) ⟨Nat.le_of_ble_eq_true rfl, Nat.le_of_ble_eq_true rfl⟩ 1 9 rfl rfl (rfl) hl.1 rfl (Nat.le_of_ble_eq_true rfl) dX6_name_85 (fun u H locs hw hP hD hS => ?_)
                obtain ⟨hG30, hw⟩ := hw
                obtain ⟨v31, f32⟩ := u
                obtain ⟨kV_v31, kF_f32, hIv31, hk0_v31, hk1_v31, hk7_v31, hk8_v31, hk9_v31, hk10_v31, hk31_v31, hk32_v31⟩ := hw
                have hM_v31 : KV [2, 3, 4, 5, 7, 8] v31 v := KV.tr kV_v31 hM_v2 rfl
                have hA_f32 : KF [8] f32 f := KF.tr kF_f32 hA_f29 rfl
                have hP : va_P (dC, dI) vwCl (XW cy x0 x v31 f32) H := hP
                have hD : va_D A (XW cy x0 x v31 f32) := hD
                have hq0_v31 : v31 0 = (v 0) := hk0_v31.trans hq0_v2
                have hq1_v31 : v31 1 = (v 1) := hk1_v31.trans hq1_v2
                have hq7_v31 : v31 7 = (v2 7) := hk7_v31
                have hq8_v31 : v31 8 = (v2 8) := hk8_v31
                have hq9_v31 : v31 9 = (v 9) := hk9_v31.trans hq9_v2
                have hq10_v31 : v31 10 = (v 10) := hk10_v31.trans hq10_v2
                have hq31_v31 : v31 31 = (v 31) := hk31_v31.trans hq31_v2
                have hq32_v31 : v31 32 = (v 32) := hk32_v31.trans hq32_v2
                refine lv_iconst (v := 1) hx hb dX6_name_88 (by decide) ?_
                exact ret 1 (v31, f32) _ _ _ _ _ _ rfl ⟨(hT2.symm.trans (gsX_X6_name_2_q5 c3 c20 c21 c25 ef29 hG30)), hM_v31, hA_f32, hIv31, (hk0_v31.trans (show v2 0 = v 0 from hq0_v2)), (hk1_v31.trans (show v2 1 = v 1 from hq1_v2)), (hk9_v31.trans (show v2 9 = v 9 from hq9_v2)), (hk10_v31.trans (show v2 10 = v 10 from hq10_v2)), (hk31_v31.trans (show v2 31 = v 31 from hq31_v2)), (hk32_v31.trans (show v2 32 = v 32 from hq32_v2)), (Or.inl rfl)⟩ hP hD hS dX6_name_89 (Nat.le_refl _) (Nat.le_refl _)
          · skip
            have zc20 : ¬ (6 ≤ l3_2.toInt) := by rw [fa_le, show (6 : Int32).toInt = 6 from by decide] at c20; exact c20
            refine lv_aload_n hx hb dX6_name_29 rfl (lv_at hl 1 rfl) ?_
            refine va_get (D := (dC, dI)) (ci := 6) (v := .ref (x 0)) (C := RX6) (T := TX6) (N := 7) hx hb hts inB_6 hown hE.1 hP 3 rfl rfl 0 (by decide) (hts _ k_265) (fun _ h9 => h9) rfl dX6_name_30 ?_
            refine lv_aload_n hx hb dX6_name_33 rfl (lv_at hl 2 rfl) ?_
            refine lv_iload_n hx hb dX6_name_34 rfl (lv_at hl 0 rfl) ?_
            refine ldI hx hb hE hP 13 rfl (vp_in_iff.mpr ⟨by omega, by omega⟩) rfl rfl dX6_name_35 ?_
            refine lv_topi (fun t33 et33 => ?_)
            refine lv_aload_n hx hb dX6_name_36 rfl (lv_at hl 1 rfl) ?_
            refine va_get (D := (dC, dI)) (ci := 6) (v := .ref (x 0)) (C := RX6) (T := TX6) (N := 7) hx hb hts inB_6 hown hE.1 hP 3 rfl rfl 0 (by decide) (hts _ k_265) (fun _ h9 => h9) rfl dX6_name_37 ?_
            refine va_getN (D := (dC, dI)) (ci := 9) (v := .int (v2 3)) (C := RX9) (T := TX9) (N := 6) hx hb hts inB_9 hown hE.1 hP 1 rfl rfl 3 (by decide) (va_Nw.use rfl (hE.2 _ k_142)) (fun _ h9 => h9) rfl dX6_name_40 ?_
            have b3_v2 : 0 ≤ (v2 3).toInt ∧ (v2 3).toInt ≤ 1600 := XI.b hIv2 3 (by decide)
            refine cbVi (n := 2) (rest := []) hx hb hml hown hts hE hP hD hS hA (sX_X9_sameWord_1 NF l dC dI cy x0 x t33 (v2 3) v2 f2 hIv2 ) k_704 k_705 k_706 k_102 k_707 (by decide +kernel) ⟨Nat.le_of_ble_eq_true rfl, Nat.le_of_ble_eq_true rfl⟩ 1 9 rfl rfl (rfl) hl.1 rfl (Nat.le_of_ble_eq_true rfl) dX6_name_43 (fun r34 u H locs hw hP hD hS => ?_)
            obtain ⟨hG35, hw⟩ := hw
            rcases hw with ⟨g36⟩ | ⟨g36⟩
            · skip
              subst g36
              refine lv_if_eq (tgt := 55) hx hb dX6_name_46 (by decide) (fun c0 => absurd c0 (by decide)) (fun _ => ?_)
              refine lv_aload_n hx hb dX6_name_49 rfl (lv_at hl 1 rfl) ?_
              refine lv_iconst (v := 3) hx hb dX6_name_50 (by decide) ?_
              refine cbVi (n := 1) (rest := []) hx hb hml hown hts hE hP hD hS hA (sX_X6_refuseAs_1 NF l dC dI cy x0 x 3 v2 f2 hIv2 ) k_695 k_697 k_7 k_103 k_698 (by decide +kernel) ⟨Nat.le_of_ble_eq_true rfl, Nat.le_of_ble_eq_true rfl⟩ 3 6 rfl rfl (rfl) hl.1 rfl (Nat.le_of_ble_eq_true rfl) dX6_name_51 (fun r37 u H locs hw hP hD hS => ?_)
              obtain ⟨hG38, hw⟩ := hw
              obtain ⟨v39, f40⟩ := u
              obtain ⟨kV_v39, kF_f40, hIv39, hk0_v39, hk1_v39, hk9_v39, hk10_v39, hk31_v39, hk32_v39, hw⟩ := hw
              have hM_v39 : KV [2, 3, 4, 5, 7, 8] v39 v := KV.tr kV_v39 hM_v2 rfl
              have hA_f40 : KF [8] f40 f := KF.tr kF_f40 hA_f2 rfl
              have hP : va_P (dC, dI) vwCl (XW cy x0 x v39 f40) H := hP
              have hD : va_D A (XW cy x0 x v39 f40) := hD
              have hq0_v39 : v39 0 = (v 0) := hk0_v39.trans hq0_v2
              have hq1_v39 : v39 1 = (v 1) := hk1_v39.trans hq1_v2
              have hq9_v39 : v39 9 = (v 9) := hk9_v39.trans hq9_v2
              have hq10_v39 : v39 10 = (v 10) := hk10_v39.trans hq10_v2
              have hq31_v39 : v39 31 = (v 31) := hk31_v39.trans hq31_v2
              have hq32_v39 : v39 32 = (v 32) := hk32_v39.trans hq32_v2
              rcases hw with ⟨g41⟩ | ⟨g41⟩
              · skip
                subst g41
                exact ret 1 (v39, f40) _ _ _ _ _ _ rfl ⟨(hT2.symm.trans (gsX_X6_name_2_q6 c3 c20 et33 hG35 hG38)), hM_v39, hA_f40, hIv39, (hk0_v39.trans (show v2 0 = v 0 from hq0_v2)), (hk1_v39.trans (show v2 1 = v 1 from hq1_v2)), (hk9_v39.trans (show v2 9 = v 9 from hq9_v2)), (hk10_v39.trans (show v2 10 = v 10 from hq10_v2)), (hk31_v39.trans (show v2 31 = v 31 from hq31_v2)), (hk32_v39.trans (show v2 32 = v 32 from hq32_v2)), (Or.inl rfl)⟩ hP hD hS dX6_name_54 (Nat.le_refl _) (Nat.le_refl _)
              · skip
                subst g41
                exact ret 0 (v39, f40) _ _ _ _ _ _ rfl ⟨(hT2.symm.trans (gsX_X6_name_2_q7 c3 c20 et33 hG35 hG38)), hM_v39, hA_f40, hIv39, (hk0_v39.trans (show v2 0 = v 0 from hq0_v2)), (hk1_v39.trans (show v2 1 = v 1 from hq1_v2)), (hk9_v39.trans (show v2 9 = v 9 from hq9_v2)), (hk10_v39.trans (show v2 10 = v 10 from hq10_v2)), (hk31_v39.trans (show v2 31 = v 31 from hq31_v2)), (hk32_v39.trans (show v2 32 = v 32 from hq32_v2)), (Or.inr rfl)⟩ hP hD hS dX6_name_54 (Nat.le_refl _) (Nat.le_refl _)
            · skip
              subst g36
              refine lv_if_eq (tgt := 55) hx hb dX6_name_46 (by decide) (fun _ => ?_) (fun c0 => absurd (by decide) c0)
              obtain ⟨t42, et42⟩ : ∃ y : Int32, y = l3_2 + 1 := ⟨_, rfl⟩
              have zt42 : t42.toInt = l3_2.toInt + 1 := by rw [et42]; exact add_i rfl (by decide) (by omega) (by omega)
              refine lv_iinc (v := t42) (lv' := [(3, .int t42), (0, .ref (x 2)), (1, .ref (x 12)), (2, .int p2)]) hx hb dX6_name_55 hl (k := 0) rfl (by rw [et42]; rfl) (by decide) rfl (fun ls hl => ?_)
              refine lv_goto (tgt := 18) hx hb dX6_name_58 (by decide) ?_
              have rg43 := fb_rng t42
              exact ih2 t42 v2 f2 hIv2 hq0_v2 hq1_v2 hq9_v2 hq10_v2 hq31_v2 hq32_v2 ((gsX_X6_name_2_q8 c3 c20 et33 hG35 et42).symm.trans hT2) ⟨show (0 : Int) ≤ t42.toInt by omega, show t42.toInt ≤ (2147483647 : Int) by omega⟩ hM_v2 hA_f2 (by show (2147483647 - t42.toInt).toNat < n2; omega) _ _ _ hP hD hS (lv_sub hl [0, 1, 2, 3] rfl)
    exact lp2 (4294967296 + NF) 0 v f hIv rfl rfl rfl rfl rfl rfl (gsX_X6_name_2_q9 c1).symm ⟨by decide, by decide⟩ hM_v hA_f (by have q3 : (0 : Int32).toInt = 0 := (by decide); show (2147483647 - (0 : Int32).toInt).toNat < 4294967296 + NF; omega) _ _ _ hP hD hS (lv_sub hl [0, 1, 2, 3] rfl)
  · skip
    have zc1 : ¬ ((v 2).toInt = 3) := by rw [fa_eq, show (3 : Int32).toInt = 3 from by decide] at c1; exact c1
    refine lv_aload_n hx hb dX6_name_11 rfl (lv_at hl 0 rfl) ?_
    refine cbVi (n := 0) (rest := []) hx hb hml hown hts hE hP hD hS hA (sX_X6_refuse_1 NF l dC dI cy x0 x  v f hIv ) k_691 k_693 k_6 k_103 k_694 (by decide +kernel) ⟨Nat.le_of_ble_eq_true rfl, Nat.le_of_ble_eq_true rfl⟩ 3 6 rfl rfl (rfl) hl.1 rfl (Nat.le_of_ble_eq_true rfl) dX6_name_12 (fun r44 u H locs hw hP hD hS => ?_)
    obtain ⟨hG45, hw⟩ := hw
    obtain ⟨v46, f47⟩ := u
    obtain ⟨kV_v46, kF_f47, hIv46, hk0_v46, hk1_v46, hk9_v46, hk10_v46, hk31_v46, hk32_v46, hw⟩ := hw
    have hM_v46 : KV [2, 3, 4, 5, 7, 8] v46 v := KV.tr kV_v46 hM_v rfl
    have hA_f47 : KF [8] f47 f := KF.tr kF_f47 hA_f rfl
    have hP : va_P (dC, dI) vwCl (XW cy x0 x v46 f47) H := hP
    have hD : va_D A (XW cy x0 x v46 f47) := hD
    have hq0_v46 : v46 0 = (v 0) := hk0_v46
    have hq1_v46 : v46 1 = (v 1) := hk1_v46
    have hq9_v46 : v46 9 = (v 9) := hk9_v46
    have hq10_v46 : v46 10 = (v 10) := hk10_v46
    have hq31_v46 : v46 31 = (v 31) := hk31_v46
    have hq32_v46 : v46 32 = (v 32) := hk32_v46
    rcases hw with ⟨g48⟩ | ⟨g48⟩
    · skip
      subst g48
      exact ret 1 (v46, f47) _ _ _ _ _ _ rfl ⟨(gsX_X6_name_2_q10 c1 hG45), hM_v46, hA_f47, hIv46, hk0_v46, hk1_v46, hk9_v46, hk10_v46, hk31_v46, hk32_v46, (Or.inl rfl)⟩ hP hD hS dX6_name_15 (Nat.le_refl _) (Nat.le_refl _)
    · skip
      subst g48
      exact ret 0 (v46, f47) _ _ _ _ _ _ rfl ⟨(gsX_X6_name_2_q11 c1 hG45), hM_v46, hA_f47, hIv46, hk0_v46, hk1_v46, hk9_v46, hk10_v46, hk31_v46, hk32_v46, (Or.inr rfl)⟩ hP hD hS dX6_name_15 (Nat.le_refl _) (Nat.le_refl _)
set_option maxHeartbeats 4000000 in
set_option maxRecDepth 100000 in
theorem sX_X7_addCoat_1 (NF : Nat) (l : Launch) (dC : Nat → ClassId) (dI : Nat → Nat → Nat) (cy : Nat → ClassId) (x0 : Nat) (x : Nat → Nat) (p1 : Int32) (p2 : Int32) (p3 : Int32) (p4 : Int32) (v : Nat → Int32) (f : Nat → Nat → Int32) (hIv : XI v)  : ctV l (dC, dI) cy yX7_addCoat cX7_addCoat 5 1 60 0 0 ((Nat → Int32) × (Nat → Nat → Int32)) [.ref (x 3), .int p1, .int p2, .int p3, .int p4] (XW cy x0 x v f) (fun u => gsX_X7_addCoat_1 NF p1 p2 p3 p4 v f = u ∧ KV [10] u.1 v ∧ KF [2] u.2 f ∧ XI u.1 ∧ u.1 0 = v 0 ∧ u.1 1 = v 1 ∧ u.1 7 = v 7 ∧ u.1 8 = v 8 ∧ u.1 9 = v 9 ∧ u.1 31 = v 31) (fun u => XW cy x0 x u.1 u.2) := by
  refine ctV_of (by decide) (Nat.le_of_ble_eq_true rfl) (fun p e s m below meth c A ls Q hx hb hml hts hown hnm hE hP hD hA hl ret => ?_)
  have hM_v : KV [10] v v := fun _ _ => rfl
  have hA_f : KF [2] f f := fun _ _ => rfl
  have hown : s.vm.findClass RX7 = some m.cls := hown
  have hS : va_S A s.heap s.heap [] := va_S.rf
  have hl : lv_has ls 5 [(0, .ref (x 3)), (1, .int p1), (2, .int p2), (3, .int p3), (4, .int p4)] := hl
  refine lv_aload_n hx hb dX7_addCoat_0 rfl (lv_at hl 0 rfl) ?_
  refine va_get (D := (dC, dI)) (ci := 7) (v := .int (v 10)) (C := RX7) (T := TX7) (N := 10) hx hb hts inB_7 hown hE.1 hP 4 rfl rfl 4 (by decide) (hts _ k_220) (fun _ h9 => h9) rfl dX7_addCoat_1 ?_
  have b10_v : 0 ≤ (v 10).toInt ∧ (v 10).toInt ≤ 6 := XI.b hIv 10 (by decide)
  refine lv_bipush (v := 6) hx hb dX7_addCoat_4 (by decide) ?_
  refine lv_icmp_ge (tgt := 71) hx hb dX7_addCoat_6 (by decide) (fun c1 => ?_) (fun c1 => ?_)
  · skip
    have zc1 : 6 ≤ (v 10).toInt := by rw [fa_le, show (6 : Int32).toInt = 6 from by decide] at c1; exact c1
    exact ret (v, f) _ _ _ _ _ _ ⟨(gsX_X7_addCoat_1_q0 c1), hM_v, hA_f, hIv, rfl, rfl, rfl, rfl, rfl, rfl⟩ hP hD hS dX7_addCoat_71 (Nat.le_refl _) (Nat.le_refl _)
  · skip
    have zc1 : ¬ (6 ≤ (v 10).toInt) := by rw [fa_le, show (6 : Int32).toInt = 6 from by decide] at c1; exact c1
    refine lv_aload_n hx hb dX7_addCoat_9 rfl (lv_at hl 0 rfl) ?_
    refine va_get (D := (dC, dI)) (ci := 7) (v := .ref (x 5)) (C := RX7) (T := TX7) (N := 10) hx hb hts inB_7 hown hE.1 hP 4 rfl rfl 1 (by decide) (hts _ k_205) (fun _ h9 => h9) rfl dX7_addCoat_10 ?_
    refine lv_iconst (v := 0) hx hb dX7_addCoat_13 (by decide) ?_
    refine lv_aload_n hx hb dX7_addCoat_14 rfl (lv_at hl 0 rfl) ?_
    refine va_get (D := (dC, dI)) (ci := 7) (v := .int (v 10)) (C := RX7) (T := TX7) (N := 10) hx hb hts inB_7 hown hE.1 hP 4 rfl rfl 4 (by decide) (hts _ k_220) (fun _ h9 => h9) rfl dX7_addCoat_15 ?_
    refine lv_iadd hx hb dX7_addCoat_18 ?_
    refine lv_topi (fun t2 et2 => ?_)
    have rg3 := fb_rng (v 10)
    have zt2 : t2.toInt = 0 + (v 10).toInt := by rw [et2]; exact add_i (by decide) rfl (by omega) (by omega)
    refine lv_iload_n hx hb dX7_addCoat_19 rfl (lv_at hl 1 rfl) ?_
    refine stI hx hb hE hP hD hS 6 rfl (vp_in_iff.mpr ⟨by omega, by omega⟩) rfl dX7_addCoat_20 (fun H locs hP hD hS => ?_)
    obtain ⟨f4, ef4, hP, hD⟩ : ∃ fz9, fz9 = upd2 f 2 (upd (f 2) t2.toNatClampNeg p1) ∧ va_P (dC, dI) vwCl (XW cy x0 x v fz9) H ∧ va_D A (XW cy x0 x v fz9) := ⟨_, rfl, hP, hD⟩
    have hA_f4 : KF [2] f4 f := by rw [ef4]; exact KF.up hA_f rfl
    refine lv_aload_n hx hb dX7_addCoat_21 rfl (lv_at hl 0 rfl) ?_
    refine va_get (D := (dC, dI)) (ci := 7) (v := .ref (x 5)) (C := RX7) (T := TX7) (N := 10) hx hb hts inB_7 hown hE.1 hP 4 rfl rfl 1 (by decide) (hts _ k_205) (fun _ h9 => h9) rfl dX7_addCoat_22 ?_
    refine lv_bipush (v := 6) hx hb dX7_addCoat_25 (by decide) ?_
    refine lv_aload_n hx hb dX7_addCoat_27 rfl (lv_at hl 0 rfl) ?_
    refine va_get (D := (dC, dI)) (ci := 7) (v := .int (v 10)) (C := RX7) (T := TX7) (N := 10) hx hb hts inB_7 hown hE.1 hP 4 rfl rfl 4 (by decide) (hts _ k_220) (fun _ h9 => h9) rfl dX7_addCoat_28 ?_
    refine lv_iadd hx hb dX7_addCoat_31 ?_
    refine lv_topi (fun t5 et5 => ?_)
    have zt5 : t5.toInt = 6 + (v 10).toInt := by rw [et5]; exact add_i (by decide) rfl (by omega) (by omega)
    refine lv_iload_n hx hb dX7_addCoat_32 rfl (lv_at hl 2 rfl) ?_
    refine stI hx hb hE hP hD hS 6 rfl (vp_in_iff.mpr ⟨by omega, by omega⟩) rfl dX7_addCoat_33 (fun H locs hP hD hS => ?_)
    obtain ⟨f6, ef6, hP, hD⟩ : ∃ fz9, fz9 = upd2 f4 2 (upd (f4 2) t5.toNatClampNeg p2) ∧ va_P (dC, dI) vwCl (XW cy x0 x v fz9) H ∧ va_D A (XW cy x0 x v fz9) := ⟨_, rfl, hP, hD⟩
    have hA_f6 : KF [2] f6 f := by rw [ef6]; exact KF.up hA_f4 rfl
    refine lv_aload_n hx hb dX7_addCoat_34 rfl (lv_at hl 0 rfl) ?_
    refine va_get (D := (dC, dI)) (ci := 7) (v := .ref (x 5)) (C := RX7) (T := TX7) (N := 10) hx hb hts inB_7 hown hE.1 hP 4 rfl rfl 1 (by decide) (hts _ k_205) (fun _ h9 => h9) rfl dX7_addCoat_35 ?_
    refine lv_bipush (v := 12) hx hb dX7_addCoat_38 (by decide) ?_
    refine lv_aload_n hx hb dX7_addCoat_40 rfl (lv_at hl 0 rfl) ?_
    refine va_get (D := (dC, dI)) (ci := 7) (v := .int (v 10)) (C := RX7) (T := TX7) (N := 10) hx hb hts inB_7 hown hE.1 hP 4 rfl rfl 4 (by decide) (hts _ k_220) (fun _ h9 => h9) rfl dX7_addCoat_41 ?_
    refine lv_iadd hx hb dX7_addCoat_44 ?_
    refine lv_topi (fun t7 et7 => ?_)
    have zt7 : t7.toInt = 12 + (v 10).toInt := by rw [et7]; exact add_i (by decide) rfl (by omega) (by omega)
    refine lv_iload_n hx hb dX7_addCoat_45 rfl (lv_at hl 3 rfl) ?_
    refine stI hx hb hE hP hD hS 6 rfl (vp_in_iff.mpr ⟨by omega, by omega⟩) rfl dX7_addCoat_46 (fun H locs hP hD hS => ?_)
    obtain ⟨f8, ef8, hP, hD⟩ : ∃ fz9, fz9 = upd2 f6 2 (upd (f6 2) t7.toNatClampNeg p3) ∧ va_P (dC, dI) vwCl (XW cy x0 x v fz9) H ∧ va_D A (XW cy x0 x v fz9) := ⟨_, rfl, hP, hD⟩
    have hA_f8 : KF [2] f8 f := by rw [ef8]; exact KF.up hA_f6 rfl
    refine lv_aload_n hx hb dX7_addCoat_47 rfl (lv_at hl 0 rfl) ?_
    refine va_get (D := (dC, dI)) (ci := 7) (v := .ref (x 5)) (C := RX7) (T := TX7) (N := 10) hx hb hts inB_7 hown hE.1 hP 4 rfl rfl 1 (by decide) (hts _ k_205) (fun _ h9 => h9) rfl dX7_addCoat_48 ?_
    refine lv_bipush (v := 18) hx hb dX7_addCoat_51 (by decide) ?_
    refine lv_aload_n hx hb dX7_addCoat_53 rfl (lv_at hl 0 rfl) ?_
    refine va_get (D := (dC, dI)) (ci := 7) (v := .int (v 10)) (C := RX7) (T := TX7) (N := 10) hx hb hts inB_7 hown hE.1 hP 4 rfl rfl 4 (by decide) (hts _ k_220) (fun _ h9 => h9) rfl dX7_addCoat_54 ?_
    refine lv_iadd hx hb dX7_addCoat_57 ?_
    refine lv_topi (fun t9 et9 => ?_)
    have zt9 : t9.toInt = 18 + (v 10).toInt := by rw [et9]; exact add_i (by decide) rfl (by omega) (by omega)
    refine lv_iload hx hb dX7_addCoat_58 (lv_at hl 4 rfl) ?_
    refine stI hx hb hE hP hD hS 6 rfl (vp_in_iff.mpr ⟨by omega, by omega⟩) rfl dX7_addCoat_60 (fun H locs hP hD hS => ?_)
    obtain ⟨f10, ef10, hP, hD⟩ : ∃ fz9, fz9 = upd2 f8 2 (upd (f8 2) t9.toNatClampNeg p4) ∧ va_P (dC, dI) vwCl (XW cy x0 x v fz9) H ∧ va_D A (XW cy x0 x v fz9) := ⟨_, rfl, hP, hD⟩
    have hA_f10 : KF [2] f10 f := by rw [ef10]; exact KF.up hA_f8 rfl
    refine lv_aload_n hx hb dX7_addCoat_61 rfl (lv_at hl 0 rfl) ?_
    refine lv_dup hx hb dX7_addCoat_62 rfl ?_
    refine va_get (D := (dC, dI)) (ci := 7) (v := .int (v 10)) (C := RX7) (T := TX7) (N := 10) hx hb hts inB_7 hown hE.1 hP 4 rfl rfl 4 (by decide) (hts _ k_220) (fun _ h9 => h9) rfl dX7_addCoat_63 ?_
    refine lv_iconst (v := 1) hx hb dX7_addCoat_66 (by decide) ?_
    refine lv_iadd hx hb dX7_addCoat_67 ?_
    refine lv_topi (fun t11 et11 => ?_)
    have zt11 : t11.toInt = (v 10).toInt + 1 := by rw [et11]; exact add_i rfl (by decide) (by omega) (by omega)
    refine va_put (D := (dC, dI)) (ci := 7) (v := .int t11) (ty := tyX7 4) (C := RX7) (T := TX7) (N := 10) hx hb hts inB_7 tyX7 tyX7_ok nmX7 hown hE.1 hP hD hS 4 rfl rfl 4 (by decide) (hts _ k_220) (fun _ h9 => h9) rfl (tyX7_ok 4 (by decide)) rfl rfl (Nat.le_of_ble_eq_true rfl) dX7_addCoat_68 (fun H locs hP hD hS => ?_)
    have hP : va_P (dC, dI) vwCl (XW cy x0 x (upd v 10 t11) f10) H := hP
    have hD : va_D A (XW cy x0 x (upd v 10 t11) f10) := hD
    exact ret ((upd v 10 t11), f10) _ _ _ _ _ _ ⟨(gsX_X7_addCoat_1_q1 c1 et2 ef4 et5 ef6 et7 ef8 et9 ef10 et11), (KV.up (j := 10) (x := t11) hM_v rfl), hA_f10, (XI.upd (j := 10) (x := t11) hIv (show (0 : Int) ≤ t11.toInt by omega) (show t11.toInt ≤ (6 : Int) by omega)), rfl, rfl, rfl, rfl, rfl, rfl⟩ hP hD hS dX7_addCoat_71 (Nat.le_refl _) (Nat.le_refl _)
