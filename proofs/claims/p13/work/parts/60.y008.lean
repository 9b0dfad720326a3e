set_option maxHeartbeats 4000000 in
set_option maxRecDepth 100000 in
theorem sY_X11_hasRelation_1 (NF : Nat) (l : Launch) (dC : Nat → ClassId) (dI : Nat → Nat → Nat) (cy : Nat → ClassId) (y0 : Nat) (r : Nat → Nat)  (v : Nat → Int32) (f : Nat → Nat → Int32) (w : Int64) (g : Nat → Int64) (hIv : YI v) (hCf : YC f) (hRf : progOK (f 4) (f 5) (v 9).toInt.toNat)  : ctI l (dC, dI) cy yX11_hasRelation cX11_hasRelation 2 .boolean 2 80 0 0 Unit [.ref y0] (YW cy y0 r v f w g) (fun r u => gsY_X11_hasRelation_1 NF v f w g = r ∧ ((r = 1) ∨ (r = 0))) (fun u => YW cy y0 r v f w g) := by
  refine ctI_of (by decide) (Nat.le_of_ble_eq_true rfl) (fun p e s m below meth c A ls Q hx hb hml hts hown hE hP hD hA hl ret => ?_)
  have hUv : (v 35).toInt + (v 36).toInt ≤ 40 := hIv.2
  have hown : s.vm.findClass RX11 = some m.cls := hown
  have hS : va_S A s.heap s.heap [] := va_S.rf
  have hl : lv_has ls 2 [(0, .ref y0)] := hl
  refine lv_aload_n hx hb dX11_hasRelation_0 rfl (lv_at hl 0 rfl) ?_
  refine va_get (D := (dC, dI)) (ci := 11) (v := .int (v 10)) (C := RX11) (T := TX11) (N := 79) hx hb hts inB_11 hown hE.1 hP 0 rfl rfl 19 (by decide) (hts _ k_1339) (fun _ h9 => h9) rfl dX11_hasRelation_1 ?_
  have b10_v : 0 ≤ (v 10).toInt ∧ (v 10).toInt ≤ 160 := YIb.b hIv.1 10 (by decide)
  refine lv_iconst (v := 1) hx hb dX11_hasRelation_4 (by decide) ?_
  refine lv_isub hx hb dX11_hasRelation_5 ?_
  refine lv_topi (fun t1 et1 => ?_)
  have rg2 := fb_rng (v 10)
  have zt1 : t1.toInt = (v 10).toInt - 1 := by rw [et1]; exact sub_i rfl (by decide) (by omega) (by omega)
  refine lv_istore_n (lv' := [(1, .int t1), (0, .ref y0)]) hx hb dX11_hasRelation_6 rfl hl (by decide) rfl (fun ls hl => ?_)
  have lp3 : ∀ (n3 : Nat) (l1_3 : Int32), gsY_X11_hasRelation_1_L3 NF v f w g n3 l1_3 = (gsY_X11_hasRelation_1 NF v f w g) → ((-2147483648 : Int) ≤ l1_3.toInt ∧ l1_3.toInt ≤ 159) → (l1_3.toInt + 2147483648).toNat < n3 → ∀ (H : Heap) (locs : List Loc) (ls : Array Slot), va_P (dC, dI) vwCl (YW cy y0 r v f w g) H → va_D A (YW cy y0 r v f w g) → va_S A s.heap H locs → lv_has ls 2 [(1, .int l1_3), (0, .ref y0)] → W p l e { frames := 2, cells := 0, slots := 0, locals := 80 } s m ([.ref y0] : List Value).toArray below meth c H locs 0 0 Q (F0 m 7 ls []) := by
    intro n3
    induction n3 with
    | zero => intro l1_3 hT3 hr1_3 hm; exact absurd hm (Nat.not_lt_zero _)
    | succ n3 ih3 =>
      intro l1_3 hT3 hr1_3 hm3 H locs ls hP hD hS hl
      refine lv_iload_n hx hb dX11_hasRelation_7 rfl (lv_at hl 0 rfl) ?_
      refine lv_if_lt (tgt := 41) hx hb dX11_hasRelation_8 (by decide) (fun c4 => ?_) (fun c4 => ?_)
      · skip
        have zc4 : l1_3.toInt < 0 := by rw [fa_lt, show (0 : Int32).toInt = 0 from by decide] at c4; exact c4
        refine lv_iload_n hx hb dX11_hasRelation_41 rfl (lv_at hl 0 rfl) ?_
        refine lv_if_lt (tgt := 73) hx hb dX11_hasRelation_42 (by decide) (fun c5 => ?_) (fun c5 => ?_)
        · skip
          have zc5 : l1_3.toInt < 0 := by rw [fa_lt, show (0 : Int32).toInt = 0 from by decide] at c5; exact c5
          refine lv_iconst (v := 0) hx hb dX11_hasRelation_73 (by decide) ?_
          exact ret 0 () _ _ _ _ _ _ rfl ⟨(hT3.symm.trans (gsY_X11_hasRelation_1_q0 c4 c5)), (Or.inr rfl)⟩ hP hD hS dX11_hasRelation_74 (Nat.le_refl _) (Nat.le_refl _)
        · skip
          have zc5 : ¬ (l1_3.toInt < 0) := by rw [fa_lt, show (0 : Int32).toInt = 0 from by decide] at c5; exact c5
          refine lv_aload_n hx hb dX11_hasRelation_45 rfl (lv_at hl 1 rfl) ?_
          refine va_get (D := (dC, dI)) (ci := 11) (v := .ref (r 15)) (C := RX11) (T := TX11) (N := 79) hx hb hts inB_11 hown hE.1 hP 0 rfl rfl 15 (by decide) (hts _ k_1335) (fun _ h9 => h9) rfl dX11_hasRelation_46 ?_
          refine lv_iload_n hx hb dX11_hasRelation_49 rfl (lv_at hl 0 rfl) ?_
          refine ldI hx hb hE hP 7 rfl (vp_in_iff.mpr ⟨by omega, by omega⟩) rfl rfl dX11_hasRelation_50 ?_
          refine lv_topi (fun t6 et6 => ?_)
          refine lv_bipush (v := 20) hx hb dX11_hasRelation_51 (by decide) ?_
          refine lv_icmp_eq (tgt := 73) hx hb dX11_hasRelation_53 (by decide) (fun c7 => ?_) (fun c7 => ?_)
          · skip
            have zc7 : t6.toInt = 20 := by rw [fa_eq, show (20 : Int32).toInt = 20 from by decide] at c7; exact c7
            refine lv_iconst (v := 0) hx hb dX11_hasRelation_73 (by decide) ?_
            exact ret 0 () _ _ _ _ _ _ rfl ⟨(hT3.symm.trans (gsY_X11_hasRelation_1_q1 c4 c5 et6 c7)), (Or.inr rfl)⟩ hP hD hS dX11_hasRelation_74 (Nat.le_refl _) (Nat.le_refl _)
          · skip
            have zc7 : ¬ (t6.toInt = 20) := by rw [fa_eq, show (20 : Int32).toInt = 20 from by decide] at c7; exact c7
            refine lv_aload_n hx hb dX11_hasRelation_56 rfl (lv_at hl 1 rfl) ?_
            refine va_get (D := (dC, dI)) (ci := 11) (v := .ref (r 15)) (C := RX11) (T := TX11) (N := 79) hx hb hts inB_11 hown hE.1 hP 0 rfl rfl 15 (by decide) (hts _ k_1335) (fun _ h9 => h9) rfl dX11_hasRelation_57 ?_
            refine lv_iload_n hx hb dX11_hasRelation_60 rfl (lv_at hl 0 rfl) ?_
            refine ldI hx hb hE hP 7 rfl (vp_in_iff.mpr ⟨by omega, by omega⟩) rfl rfl dX11_hasRelation_61 ?_
            refine tI (y := t6) et6.symm ?_
            refine cbSi (n := 1) (rest := []) hx hb hml hown hts hE hP hD hS hA (sY_X11_tight_1 NF l dC dI cy y0 r t6 v f w g hIv hCf hRf ) k_1677 k_1678 k_114 k_1679 (by decide +kernel) ⟨Nat.le_of_ble_eq_true rfl, Nat.le_of_ble_eq_true rfl⟩ (rfl) hl.1 rfl (Nat.le_of_ble_eq_true rfl) dX11_hasRelation_62 (fun r8 u H locs hw hP hD hS => ?_)
            obtain ⟨hG9, hw⟩ := hw
            refine lv_iconst (v := 4) hx hb dX11_hasRelation_65 (by decide) ?_
            refine lv_icmp_ne (tgt := 73) hx hb dX11_hasRelation_66 (by decide) (fun c10 => ?_) (fun c10 => ?_)
            · skip
              have zc10 : ¬ (r8.toInt = 4) := by rw [fa_eq, show (4 : Int32).toInt = 4 from by decide] at c10; exact c10
              refine lv_iconst (v := 0) hx hb dX11_hasRelation_73 (by decide) ?_
              exact ret 0 () _ _ _ _ _ _ rfl ⟨(hT3.symm.trans (gsY_X11_hasRelation_1_q2 c4 c5 et6 c7 hG9.symm c10)), (Or.inr rfl)⟩ hP hD hS dX11_hasRelation_74 (Nat.le_refl _) (Nat.le_refl _)
            · skip
              have zc10 : r8.toInt = 4 := by rw [fa_eq, show (4 : Int32).toInt = 4 from by decide] at c10; exact c10
              refine lv_iconst (v := 1) hx hb dX11_hasRelation_69 (by decide) ?_
              refine lv_goto (tgt := 74) hx hb dX11_hasRelation_70 (by decide) ?_
              exact ret 1 () _ _ _ _ _ _ rfl ⟨(hT3.symm.trans (gsY_X11_hasRelation_1_q3 c4 c5 et6 c7 hG9.symm c10)), (Or.inl rfl)⟩ hP hD hS dX11_hasRelation_74 (Nat.le_refl _) (Nat.le_refl _)
      · skip
        have zc4 : ¬ (l1_3.toInt < 0) := by rw [fa_lt, show (0 : Int32).toInt = 0 from by decide] at c4; exact c4
        refine lv_aload_n hx hb dX11_hasRelation_11 rfl (lv_at hl 1 rfl) ?_
        refine va_get (D := (dC, dI)) (ci := 11) (v := .ref (r 15)) (C := RX11) (T := TX11) (N := 79) hx hb hts inB_11 hown hE.1 hP 0 rfl rfl 15 (by decide) (hts _ k_1335) (fun _ h9 => h9) rfl dX11_hasRelation_12 ?_
        refine lv_iload_n hx hb dX11_hasRelation_15 rfl (lv_at hl 0 rfl) ?_
        refine ldI hx hb hE hP 7 rfl (vp_in_iff.mpr ⟨by omega, by omega⟩) rfl rfl dX11_hasRelation_16 ?_
        refine lv_topi (fun t11 et11 => ?_)
        refine lv_bipush (v := 20) hx hb dX11_hasRelation_17 (by decide) ?_
        refine lv_icmp_eq (tgt := 41) hx hb dX11_hasRelation_19 (by decide) (fun c12 => ?_) (fun c12 => ?_)
        · skip
          have zc12 : t11.toInt = 20 := by rw [fa_eq, show (20 : Int32).toInt = 20 from by decide] at c12; exact c12
          refine lv_iload_n hx hb dX11_hasRelation_41 rfl (lv_at hl 0 rfl) ?_
          refine lv_if_lt (tgt := 73) hx hb dX11_hasRelation_42 (by decide) (fun c13 => ?_) (fun c13 => ?_)
          · skip
            have zc13 : l1_3.toInt < 0 := by rw [fa_lt, show (0 : Int32).toInt = 0 from by decide] at c13; exact c13
            refine lv_iconst (v := 0) hx hb dX11_hasRelation_73 (by decide) ?_
            exact ret 0 () _ _ _ _ _ _ rfl ⟨(hT3.symm.trans (gsY_X11_hasRelation_1_q4 c4 et11 c12 c13)), (Or.inr rfl)⟩ hP hD hS dX11_hasRelation_74 (Nat.le_refl _) (Nat.le_refl _)
          · skip
            have zc13 : ¬ (l1_3.toInt < 0) := by rw [fa_lt, show (0 : Int32).toInt = 0 from by decide] at c13; exact c13
            refine lv_aload_n hx hb dX11_hasRelation_45 rfl (lv_at hl 1 rfl) ?_
            refine va_get (D := (dC, dI)) (ci := 11) (v := .ref (r 15)) (C := RX11) (T := TX11) (N := 79) hx hb hts inB_11 hown hE.1 hP 0 rfl rfl 15 (by decide) (hts _ k_1335) (fun _ h9 => h9) rfl dX11_hasRelation_46 ?_
            refine lv_iload_n hx hb dX11_hasRelation_49 rfl (lv_at hl 0 rfl) ?_
            refine ldI hx hb hE hP 7 rfl (vp_in_iff.mpr ⟨by omega, by omega⟩) rfl rfl dX11_hasRelation_50 ?_
            refine tI (y := t11) et11.symm ?_
            refine lv_bipush (v := 20) hx hb dX11_hasRelation_51 (by decide) ?_
            refine lv_icmp_eq (tgt := 73) hx hb dX11_hasRelation_53 (by decide) (fun c14 => ?_) (fun c14 => ?_)
            · skip
              have zc14 : t11.toInt = 20 := by rw [fa_eq, show (20 : Int32).toInt = 20 from by decide] at c14; exact c14
              refine lv_iconst (v := 0) hx hb dX11_hasRelation_73 (by decide) ?_
              exact ret 0 () _ _ _ _ _ _ rfl ⟨(hT3.symm.trans (gsY_X11_hasRelation_1_q5 c4 et11 c12 c13 c14)), (Or.inr rfl)⟩ hP hD hS dX11_hasRelation_74 (Nat.le_refl _) (Nat.le_refl _)
            · skip
              have zc14 : ¬ (t11.toInt = 20) := by rw [fa_eq, show (20 : Int32).toInt = 20 from by decide] at c14; exact c14
              refine lv_aload_n hx hb dX11_hasRelation_56 rfl (lv_at hl 1 rfl) ?_
              refine va_get (D := (dC, dI)) (ci := 11) (v := .ref (r 15)) (C := RX11) (T := TX11) (N := 79) hx hb hts inB_11 hown hE.1 hP 0 rfl rfl 15 (by decide) (hts _ k_1335) (fun _ h9 => h9) rfl dX11_hasRelation_57 ?_
              refine lv_iload_n hx hb dX11_hasRelation_60 rfl (lv_at hl 0 rfl) ?_
              refine ldI hx hb hE hP 7 rfl (vp_in_iff.mpr ⟨by omega, by omega⟩) rfl rfl dX11_hasRelation_61 ?_
              refine tI (y := t11) et11.symm ?_
              refine cbSi (n := 1) (rest := []) hx hb hml hown hts hE hP hD hS hA (sY_X11_tight_1 NF l dC dI cy y0 r t11 v f w g hIv hCf hRf ) k_1677 k_1678 k_114 k_1679 (by decide +kernel) ⟨Nat.le_of_ble_eq_true rfl, Nat.le_of_ble_eq_true rfl⟩ (rfl) hl.1 rfl (Nat.le_of_ble_eq_true rfl) dX11_hasRelation_62 (fun r15 u H locs hw hP hD hS => ?_)
              obtain ⟨hG16, hw⟩ := hw
              refine lv_iconst (v := 4) hx hb dX11_hasRelation_65 (by decide) ?_
              refine lv_icmp_ne (tgt := 73) hx hb dX11_hasRelation_66 (by decide) (fun c17 => ?_) (fun c17 => ?_)
              · skip
                have zc17 : ¬ (r15.toInt = 4) := by rw [fa_eq, show (4 : Int32).toInt = 4 from by decide] at c17; exact c17
                refine lv_iconst (v := 0) hx hb dX11_hasRelation_73 (by decide) ?_
                exact ret 0 () _ _ _ _ _ _ rfl ⟨(hT3.symm.trans (gsY_X11_hasRelation_1_q6 c4 et11 c12 c13 c14 hG16.symm c17)), (Or.inr rfl)⟩ hP hD hS dX11_hasRelation_74 (Nat.le_refl _) (Nat.le_refl _)
              · skip
                have zc17 : r15.toInt = 4 := by rw [fa_eq, show (4 : Int32).toInt = 4 from by decide] at c17; exact c17
                refine lv_iconst (v := 1) hx hb dX11_hasRelation_69 (by decide) ?_
                refine lv_goto (tgt := 74) hx hb dX11_hasRelation_70 (by decide) ?_
                exact ret 1 () _ _ _ _ _ _ rfl ⟨(hT3.symm.trans (gsY_X11_hasRelation_1_q7 c4 et11 c12 c13 c14 hG16.symm c17)), (Or.inl rfl)⟩ hP hD hS dX11_hasRelation_74 (Nat.le_refl _) (Nat.le_refl _)
        · skip
          have zc12 : ¬ (t11.toInt = 20) := by rw [fa_eq, show (20 : Int32).toInt = 20 from by decide] at c12; exact c12
          refine lv_aload_n hx hb dX11_hasRelation_22 rfl (lv_at hl 1 rfl) ?_
          refine va_get (D := (dC, dI)) (ci := 11) (v := .ref (r 15)) (C := RX11) (T := TX11) (N := 79) hx hb hts inB_11 hown hE.1 hP 0 rfl rfl 15 (by decide) (hts _ k_1335) (fun _ h9 => h9) rfl dX11_hasRelation_23 ?_
          refine lv_iload_n hx hb dX11_hasRelation_26 rfl (lv_at hl 0 rfl) ?_
          refine ldI hx hb hE hP 7 rfl (vp_in_iff.mpr ⟨by omega, by omega⟩) rfl rfl dX11_hasRelation_27 ?_
          refine tI (y := t11) et11.symm ?_
          refine cbSi (n := 1) (rest := []) hx hb hml hown hts hE hP hD hS hA (sY_X11_tight_1 NF l dC dI cy y0 r t11 v f w g hIv hCf hRf ) k_1677 k_1678 k_114 k_1679 (by decide +kernel) ⟨Nat.le_of_ble_eq_true rfl, Nat.le_of_ble_eq_true rfl⟩ (rfl) hl.1 rfl (Nat.le_of_ble_eq_true rfl) dX11_hasRelation_28 (fun r18 u H locs hw hP hD hS => ?_)
          obtain ⟨hG19, hw⟩ := hw
          refine lv_iconst (v := 4) hx hb dX11_hasRelation_31 (by decide) ?_
          refine lv_icmp_le (tgt := 41) hx hb dX11_hasRelation_32 (by decide) (fun c20 => ?_) (fun c20 => ?_)
          · skip
            have zc20 : r18.toInt ≤ 4 := by rw [fa_le, show (4 : Int32).toInt = 4 from by decide] at c20; exact c20
            refine lv_iload_n hx hb dX11_hasRelation_41 rfl (lv_at hl 0 rfl) ?_
            refine lv_if_lt (tgt := 73) hx hb dX11_hasRelation_42 (by decide) (fun c21 => ?_) (fun c21 => ?_)
            · skip
              have zc21 : l1_3.toInt < 0 := by rw [fa_lt, show (0 : Int32).toInt = 0 from by decide] at c21; exact c21
              refine lv_iconst (v := 0) hx hb dX11_hasRelation_73 (by decide) ?_
              exact ret 0 () _ _ _ _ _ _ rfl ⟨(hT3.symm.trans (gsY_X11_hasRelation_1_q8 c4 et11 c12 hG19.symm c20 c21)), (Or.inr rfl)⟩ hP hD hS dX11_hasRelation_74 (Nat.le_refl _) (Nat.le_refl _)
            · skip
              have zc21 : ¬ (l1_3.toInt < 0) := by rw [fa_lt, show (0 : Int32).toInt = 0 from by decide] at c21; exact c21
              refine lv_aload_n hx hb dX11_hasRelation_45 rfl (lv_at hl 1 rfl) ?_
              refine va_get (D := (dC, dI)) (ci := 11) (v := .ref (r 15)) (C := RX11) (T := TX11) (N := 79) hx hb hts inB_11 hown hE.1 hP 0 rfl rfl 15 (by decide) (hts _ k_1335) (fun _ h9 => h9) rfl dX11_hasRelation_46 ?_
              refine lv_iload_n hx hb dX11_hasRelation_49 rfl (lv_at hl 0 rfl) ?_
              refine ldI hx hb hE hP 7 rfl (vp_in_iff.mpr ⟨by omega, by omega⟩) rfl rfl dX11_hasRelation_50 ?_
              refine tI (y := t11) et11.symm ?_
              refine lv_bipush (v := 20) hx hb dX11_hasRelation_51 (by decide) ?_
              refine lv_icmp_eq (tgt := 73) hx hb dX11_hasRelation_53 (by decide) (fun c22 => ?_) (fun c22 => ?_)
              · skip
                have zc22 : t11.toInt = 20 := by rw [fa_eq, show (20 : Int32).toInt = 20 from by decide] at c22; exact c22
                refine lv_iconst (v := 0) hx hb dX11_hasRelation_73 (by decide) ?_
                exact ret 0 () _ _ _ _ _ _ rfl ⟨(hT3.symm.trans (gsY_X11_hasRelation_1_q9 c4 et11 c12 hG19.symm c20 c21 c22)), (Or.inr rfl)⟩ hP hD hS dX11_hasRelation_74 (Nat.le_refl _) (Nat.le_refl _)
              · skip
                have zc22 : ¬ (t11.toInt = 20) := by rw [fa_eq, show (20 : Int32).toInt = 20 from by decide] at c22; exact c22
                refine lv_aload_n hx hb dX11_hasRelation_56 rfl (lv_at hl 1 rfl) ?_
                refine va_get (D := (dC, dI)) (ci := 11) (v := .ref (r 15)) (C := RX11) (T := TX11) (N := 79) hx hb hts inB_11 hown hE.1 hP 0 rfl rfl 15 (by decide) (hts _ k_1335) (fun _ h9 => h9) rfl dX11_hasRelation_57 ?_
                refine lv_iload_n hx hb dX11_hasRelation_60 rfl (lv_at hl 0 rfl) ?_
                refine ldI hx hb hE hP 7 rfl (vp_in_iff.mpr ⟨by omega, by omega⟩) rfl rfl dX11_hasRelation_61 ?_
                refine tI (y := t11) et11.symm ?_
                refine cbSi (n := 1) (rest := []) hx hb hml hown hts hE hP hD hS hA (sY_X11_tight_1 NF l dC dI cy y0 r t11 v f w g hIv hCf hRf ) k_1677 k_1678 k_114 k_1679 (by decide +kernel) ⟨Nat.le_of_ble_eq_true rfl, Nat.le_of_ble_eq_true rfl⟩ (rfl) hl.1 rfl (Nat.le_of_ble_eq_true rfl) dX11_hasRelation_62 (fun r23 u H locs hw hP hD hS => ?_)
                obtain ⟨hG24, hw⟩ := hw
                refine lv_iconst (v := 4) hx hb dX11_hasRelation_65 (by decide) ?_
                refine lv_icmp_ne (tgt := 73) hx hb dX11_hasRelation_66 (by decide) (fun c25 => ?_) (fun c25 => ?_)
                · skip
                  have zc25 : ¬ (r23.toInt = 4) := by rw [fa_eq, show (4 : Int32).toInt = 4 from by decide] at c25; exact c25
                  refine lv_iconst (v := 0) hx hb dX11_hasRelation_73 (by decide) ?_
                  exact ret 0 () _ _ _ _ _ _ rfl ⟨(hT3.symm.trans (gsY_X11_hasRelation_1_q10 c4 et11 c12 hG19.symm c20 c21 c22 hG24.symm c25)), (Or.inr rfl)⟩ hP hD hS dX11_hasRelation_74 (Nat.le_refl _) (Nat.le_refl _)
                · skip
                  have zc25 : r23.toInt = 4 := by rw [fa_eq, show (4 : Int32).toInt = 4 from by decide] at c25; exact c25
                  refine lv_iconst (v := 1) hx hb dX11_hasRelation_69 (by decide) ?_
                  refine lv_goto (tgt := 74) hx hb dX11_hasRelation_70 (by decide) ?_
                  exact ret 1 () _ _ _ _ _ _ rfl ⟨(hT3.symm.trans (gsY_X11_hasRelation_1_q11 c4 et11 c12 hG19.symm c20 c21 c22 hG24.symm c25)), (Or.inl rfl)⟩ hP hD hS dX11_hasRelation_74 (Nat.le_refl _) (Nat.le_refl _)
          · skip
            have zc20 : ¬ (r18.toInt ≤ 4) := by rw [fa_le, show (4 : Int32).toInt = 4 from by decide] at c20; exact c20
            obtain ⟨t26, et26⟩ : ∃ y : Int32, y = l1_3 + (-1) := ⟨_, rfl⟩
            have rg27 := fb_rng l1_3
            have zt26 : t26.toInt = l1_3.toInt + (-1) := by rw [et26]; exact add_i rfl (by decide) (by omega) (by omega)
            refine lv_iinc (v := t26) (lv' := [(1, .int t26), (0, .ref y0)]) hx hb dX11_hasRelation_35 hl (k := 0) rfl (by rw [et26]; rfl) (by decide) rfl (fun ls hl => ?_)
            refine lv_goto (tgt := 7) hx hb dX11_hasRelation_38 (by decide) ?_
            have rg28 := fb_rng t26
            exact ih3 t26 ((gsY_X11_hasRelation_1_q12 c4 et11 c12 hG19.symm c20 et26).symm.trans hT3) ⟨show (-2147483648 : Int) ≤ t26.toInt by omega, show t26.toInt ≤ (159 : Int) by omega⟩ (by show (t26.toInt + 2147483648).toNat < n3; omega) _ _ _ hP hD hS (lv_sub hl [0, 1] rfl)
  have rg29 := fb_rng t1
  exact lp3 (4294967296 + NF) t1 (gsY_X11_hasRelation_1_q13 et1).symm ⟨show (-2147483648 : Int) ≤ t1.toInt by omega, show t1.toInt ≤ (159 : Int) by omega⟩ (by have qr0 := fb_rng t1; show (t1.toInt + 2147483648).toNat < 4294967296 + NF; omega) _ _ _ hP hD hS (lv_sub hl [0, 1] rfl)
