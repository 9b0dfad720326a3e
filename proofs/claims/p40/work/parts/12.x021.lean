set_option maxHeartbeats 4000000 in
set_option maxRecDepth 100000 in
theorem sX_X10_growths_1 (l : Launch) (dC : Nat → ClassId) (dI : Nat → Nat → Nat) (cy : Nat → ClassId) (x0 : Nat) (x : Nat → Nat) (p1 : Int32) (v : Nat → Int32) (f : Nat → Nat → Int32) (hIv : XI v)  : ctI l (dC, dI) cy yX10_growths cX10_growths 2 .int 6 183 0 0 ((Nat → Int32) × (Nat → Nat → Int32)) [.ref x0, .int p1] (XW cy x0 x v f) (fun r u => KV [] u.1 v ∧ KF [13, 14, 27] u.2 f ∧ XI u.1 ∧ u.1 0 = v 0 ∧ u.1 1 = v 1 ∧ u.1 7 = v 7 ∧ u.1 8 = v 8 ∧ u.1 9 = v 9 ∧ u.1 10 = v 10 ∧ u.1 31 = v 31 ∧ u.1 32 = v 32) (fun u => XW cy x0 x u.1 u.2) := by
  refine ctI_of (by decide) (Nat.le_of_ble_eq_true rfl) (fun p e s m below meth c A ls Q hx hb hml hts hown hE hP hD hA hl ret => ?_)
  have hM_v : KV [] v v := fun _ _ => rfl
  have hA_f : KF [13, 14, 27] f f := fun _ _ => rfl
  have hown : s.vm.findClass RX10 = some m.cls := hown
  have hS : va_S A s.heap s.heap [] := va_S.rf
  have hl : lv_has ls 2 [(0, .ref x0), (1, .int p1)] := hl
  refine lv_aload_n hx hb dX10_growths_0 rfl (lv_at hl 0 rfl) ?_
  refine va_get (D := (dC, dI)) (ci := 10) (v := .ref (x 35)) (C := RX10) (T := TX10) (N := 10) hx hb hts inB_10 hown hE.1 hP 0 rfl rfl 8 (by decide) (hts _ k_499) (fun _ h9 => h9) rfl dX10_growths_1 ?_
  refine lv_iload_n hx hb dX10_growths_4 rfl (lv_at hl 1 rfl) ?_
  refine cbVi (n := 1) (rest := []) hx hb hml hown hts hE hP hD hS hA (sX_X8_growthsAt_1 l dC dI cy x0 x p1 v f hIv ) k_1247 k_1248 k_1249 k_112 k_1250 (by decide +kernel) ⟨Nat.le_of_ble_eq_true rfl, Nat.le_of_ble_eq_true rfl⟩ 36 8 rfl rfl (rfl) hl.1 rfl (Nat.le_of_ble_eq_true rfl) dX10_growths_5 (fun r1 u H locs hw hP hD hS => ?_)
  obtain ⟨v2, f3⟩ := u
  obtain ⟨kV_v2, kF_f3, hIv2, hk0_v2, hk1_v2, hk7_v2, hk8_v2, hk9_v2, hk10_v2, hk31_v2, hk32_v2⟩ := hw
  have hM_v2 : KV [] v2 v := KV.tr kV_v2 hM_v rfl
  have hA_f3 : KF [13, 14, 27] f3 f := KF.tr kF_f3 hA_f rfl
  have hP : va_P (dC, dI) vwCl (XW cy x0 x v2 f3) H := hP
  have hD : va_D A (XW cy x0 x v2 f3) := hD
  have hq0_v2 : v2 0 = (v 0) := hk0_v2
  have hq1_v2 : v2 1 = (v 1) := hk1_v2
  have hq7_v2 : v2 7 = (v 7) := hk7_v2
  have hq8_v2 : v2 8 = (v 8) := hk8_v2
  have hq9_v2 : v2 9 = (v 9) := hk9_v2
  have hq10_v2 : v2 10 = (v 10) := hk10_v2
  have hq31_v2 : v2 31 = (v 31) := hk31_v2
  have hq32_v2 : v2 32 = (v 32) := hk32_v2
  refine cbSi (n := 1) (rest := []) hx hb hml hown hts hE hP hD hS hA (sX_J6_bitCount_0f7a4_1 l dC dI cy x0 x r1 v2 f3 hIv2 ) k_1071 k_1043 k_121 k_1044 (by decide +kernel) ⟨Nat.le_of_ble_eq_true rfl, Nat.le_of_ble_eq_true rfl⟩ (rfl) hl.1 rfl (Nat.le_of_ble_eq_true rfl) dX10_growths_8 (fun r4 u H locs hw hP hD hS => ?_)
  exact ret r4 (v2, f3) _ _ _ _ _ _ rfl ⟨hM_v2, hA_f3, hIv2, hk0_v2, hk1_v2, hk7_v2, hk8_v2, hk9_v2, hk10_v2, hk31_v2, hk32_v2⟩ hP hD hS dX10_growths_11 (Nat.le_refl _) (Nat.le_refl _)
set_option maxHeartbeats 4000000 in
set_option maxRecDepth 100000 in
theorem sX_J6_numberOfLeadingZeros_0f7a4_1 (l : Launch) (dC : Nat → ClassId) (dI : Nat → Nat → Nat) (cy : Nat → ClassId) (x0 : Nat) (x : Nat → Nat) (p0 : Int32) (v : Nat → Int32) (f : Nat → Nat → Int32) (hIv : XI v)  : ctI l (dC, dI) cy yJ6_numberOfLeadingZeros_0f7a4 cJ6_numberOfLeadingZeros_0f7a4 2 .int 1 60 0 0 Unit [.int p0] (XW cy x0 x v f) (fun r u => True) (fun u => XW cy x0 x v f) := by
  refine ctI_of (by decide) (Nat.le_of_ble_eq_true rfl) (fun p e s m below meth c A ls Q hx hb hml hts hown hE hP hD hA hl ret => ?_)
  have hown : s.vm.findClass RJ6 = some m.cls := hown
  have hS : va_S A s.heap s.heap [] := va_S.rf
  have hl : lv_has ls 2 [(0, .int p0)] := hl
  refine lv_iload_n hx hb dJ6_numberOfLeadingZeros_0f7a4_0 rfl (lv_at hl 0 rfl) ?_
  refine lv_if_gt (tgt := 15) hx hb dJ6_numberOfLeadingZeros_0f7a4_1 (by decide) (fun c1 => ?_) (fun c1 => ?_)
  · skip
    have zc1 : 0 < p0.toInt := by rw [fa_lt, show (0 : Int32).toInt = 0 from by decide] at c1; exact c1
    refine lv_bipush (v := 31) hx hb dJ6_numberOfLeadingZeros_0f7a4_15 (by decide) ?_
    refine lv_istore_n (lv' := [(1, .int 31), (0, .int p0)]) hx hb dJ6_numberOfLeadingZeros_0f7a4_17 rfl hl (by decide) rfl (fun ls hl => ?_)
    refine lv_iload_n hx hb dJ6_numberOfLeadingZeros_0f7a4_18 rfl (lv_at hl 1 rfl) ?_
    refine lv_ldcw (v := 65536) hx hb hown (hts _ k_1271) dJ6_numberOfLeadingZeros_0f7a4_19 ?_
    refine lv_icmp_lt (tgt := 33) hx hb dJ6_numberOfLeadingZeros_0f7a4_22 (by decide) (fun c2 => ?_) (fun c2 => ?_)
    · skip
      have zc2 : p0.toInt < 65536 := by rw [fa_lt, show (65536 : Int32).toInt = 65536 from by decide] at c2; exact c2
      refine lv_iload_n hx hb dJ6_numberOfLeadingZeros_0f7a4_33 rfl (lv_at hl 1 rfl) ?_
      refine lv_sipush (v := 256) hx hb dJ6_numberOfLeadingZeros_0f7a4_34 (by decide) ?_
      refine lv_icmp_lt (tgt := 48) hx hb dJ6_numberOfLeadingZeros_0f7a4_37 (by decide) (fun c3 => ?_) (fun c3 => ?_)
      · skip
        have zc3 : p0.toInt < 256 := by rw [fa_lt, show (256 : Int32).toInt = 256 from by decide] at c3; exact c3
        refine lv_iload_n hx hb dJ6_numberOfLeadingZeros_0f7a4_48 rfl (lv_at hl 1 rfl) ?_
        refine lv_bipush (v := 16) hx hb dJ6_numberOfLeadingZeros_0f7a4_49 (by decide) ?_
        refine lv_icmp_lt (tgt := 61) hx hb dJ6_numberOfLeadingZeros_0f7a4_51 (by decide) (fun c4 => ?_) (fun c4 => ?_)
        · skip
          have zc4 : p0.toInt < 16 := by rw [fa_lt, show (16 : Int32).toInt = 16 from by decide] at c4; exact c4
          refine lv_iload_n hx hb dJ6_numberOfLeadingZeros_0f7a4_61 rfl (lv_at hl 1 rfl) ?_
          refine lv_iconst (v := 4) hx hb dJ6_numberOfLeadingZeros_0f7a4_62 (by decide) ?_
          refine lv_icmp_lt (tgt := 73) hx hb dJ6_numberOfLeadingZeros_0f7a4_63 (by decide) (fun c5 => ?_) (fun c5 => ?_)
          · skip
            have zc5 : p0.toInt < 4 := by rw [fa_lt, show (4 : Int32).toInt = 4 from by decide] at c5; exact c5
            refine lv_iload_n hx hb dJ6_numberOfLeadingZeros_0f7a4_73 rfl (lv_at hl 0 rfl) ?_
            refine lv_iload_n hx hb dJ6_numberOfLeadingZeros_0f7a4_74 rfl (lv_at hl 1 rfl) ?_
            refine lv_iconst (v := 1) hx hb dJ6_numberOfLeadingZeros_0f7a4_75 (by decide) ?_
            refine lv_iushr hx hb dJ6_numberOfLeadingZeros_0f7a4_76 rfl ?_
            refine lv_topi (fun t6 et6 => ?_)
            refine lv_isub hx hb dJ6_numberOfLeadingZeros_0f7a4_77 ?_
            refine lv_topi (fun t7 et7 => ?_)
            exact ret t7 () _ _ _ _ _ _ rfl trivial hP hD hS dJ6_numberOfLeadingZeros_0f7a4_78 (Nat.le_refl _) (Nat.le_refl _)
          · skip
            have zc5 : ¬ (p0.toInt < 4) := by rw [fa_lt, show (4 : Int32).toInt = 4 from by decide] at c5; exact c5
            refine lv_iinc (v := 29) (lv' := [(1, .int 29), (0, .int p0)]) hx hb dJ6_numberOfLeadingZeros_0f7a4_66 hl (k := 0) rfl (by decide) (by decide) rfl (fun ls hl => ?_)
            refine lv_iload_n hx hb dJ6_numberOfLeadingZeros_0f7a4_69 rfl (lv_at hl 1 rfl) ?_
            refine lv_iconst (v := 2) hx hb dJ6_numberOfLeadingZeros_0f7a4_70 (by decide) ?_
            refine lv_iushr hx hb dJ6_numberOfLeadingZeros_0f7a4_71 rfl ?_
            refine lv_topi (fun t8 et8 => ?_)
            refine lv_istore_n (lv' := [(0, .int t8), (1, .int 29)]) hx hb dJ6_numberOfLeadingZeros_0f7a4_72 rfl hl (by decide) rfl (fun ls hl => ?_)
            refine lv_iload_n hx hb dJ6_numberOfLeadingZeros_0f7a4_73 rfl (lv_at hl 1 rfl) ?_
            refine lv_iload_n hx hb dJ6_numberOfLeadingZeros_0f7a4_74 rfl (lv_at hl 0 rfl) ?_
            refine lv_iconst (v := 1) hx hb dJ6_numberOfLeadingZeros_0f7a4_75 (by decide) ?_
            refine lv_iushr hx hb dJ6_numberOfLeadingZeros_0f7a4_76 rfl ?_
            refine lv_topi (fun t9 et9 => ?_)
            refine lv_isub hx hb dJ6_numberOfLeadingZeros_0f7a4_77 ?_
            refine lv_topi (fun t10 et10 => ?_)
            exact ret t10 () _ _ _ _ _ _ rfl trivial hP hD hS dJ6_numberOfLeadingZeros_0f7a4_78 (Nat.le_refl _) (Nat.le_refl _)
        · skip
          have zc4 : ¬ (p0.toInt < 16) := by rw [fa_lt, show (16 : Int32).toInt = 16 from by decide] at c4; exact c4
          refine lv_iinc (v := 27) (lv' := [(1, .int 27), (0, .int p0)]) hx hb dJ6_numberOfLeadingZeros_0f7a4_54 hl (k := 0) rfl (by decide) (by decide) rfl (fun ls hl => ?_)
          refine lv_iload_n hx hb dJ6_numberOfLeadingZeros_0f7a4_57 rfl (lv_at hl 1 rfl) ?_
          refine lv_iconst (v := 4) hx hb dJ6_numberOfLeadingZeros_0f7a4_58 (by decide) ?_
          refine lv_iushr hx hb dJ6_numberOfLeadingZeros_0f7a4_59 rfl ?_
          refine lv_topi (fun t11 et11 => ?_)
          refine lv_istore_n (lv' := [(0, .int t11), (1, .int 27)]) hx hb dJ6_numberOfLeadingZeros_0f7a4_60 rfl hl (by decide) rfl (fun ls hl => ?_)
          refine lv_iload_n hx hb dJ6_numberOfLeadingZeros_0f7a4_61 rfl (lv_at hl 0 rfl) ?_
          refine lv_iconst (v := 4) hx hb dJ6_numberOfLeadingZeros_0f7a4_62 (by decide) ?_
          refine lv_icmp_lt (tgt := 73) hx hb dJ6_numberOfLeadingZeros_0f7a4_63 (by decide) (fun c12 => ?_) (fun c12 => ?_)
          · skip
            have zc12 : t11.toInt < 4 := by rw [fa_lt, show (4 : Int32).toInt = 4 from by decide] at c12; exact c12
            refine lv_iload_n hx hb dJ6_numberOfLeadingZeros_0f7a4_73 rfl (lv_at hl 1 rfl) ?_
            refine lv_iload_n hx hb dJ6_numberOfLeadingZeros_0f7a4_74 rfl (lv_at hl 0 rfl) ?_
            refine lv_iconst (v := 1) hx hb dJ6_numberOfLeadingZeros_0f7a4_75 (by decide) ?_
            refine lv_iushr hx hb dJ6_numberOfLeadingZeros_0f7a4_76 rfl ?_
            refine lv_topi (fun t13 et13 => ?_)
            refine lv_isub hx hb dJ6_numberOfLeadingZeros_0f7a4_77 ?_
            refine lv_topi (fun t14 et14 => ?_)
            exact ret t14 () _ _ _ _ _ _ rfl trivial hP hD hS dJ6_numberOfLeadingZeros_0f7a4_78 (Nat.le_refl _) (Nat.le_refl _)
          · skip
            have zc12 : ¬ (t11.toInt < 4) := by rw [fa_lt, show (4 : Int32).toInt = 4 from by decide] at c12; exact c12
            refine lv_iinc (v := 25) (lv' := [(1, .int 25), (0, .int t11)]) hx hb dJ6_numberOfLeadingZeros_0f7a4_66 hl (k := 1) rfl (by decide) (by decide) rfl (fun ls hl => ?_)
            refine lv_iload_n hx hb dJ6_numberOfLeadingZeros_0f7a4_69 rfl (lv_at hl 1 rfl) ?_
            refine lv_iconst (v := 2) hx hb dJ6_numberOfLeadingZeros_0f7a4_70 (by decide) ?_
            refine lv_iushr hx hb dJ6_numberOfLeadingZeros_0f7a4_71 rfl ?_
            refine lv_topi (fun t15 et15 => ?_)
            refine lv_istore_n (lv' := [(0, .int t15), (1, .int 25)]) hx hb dJ6_numberOfLeadingZeros_0f7a4_72 rfl hl (by decide) rfl (fun ls hl => ?_)
            refine lv_iload_n hx hb dJ6_numberOfLeadingZeros_0f7a4_73 rfl (lv_at hl 1 rfl) ?_
            refine lv_iload_n hx hb dJ6_numberOfLeadingZeros_0f7a4_74 rfl (lv_at hl 0 rfl) ?_
            refine lv_iconst (v := 1) hx hb dJ6_numberOfLeadingZeros_0f7a4_75 (by decide) ?_
            refine lv_iushr hx hb dJ6_numberOfLeadingZeros_0f7a4_76 rfl ?_
            refine lv_topi (fun t16 et16 => ?_)
            refine lv_isub hx hb dJ6_numberOfLeadingZeros_0f7a4_77 ?_
            refine lv_topi (fun t17 et17 => ?_)
            exact ret t17 () _ _ _ _ _ _ rfl trivial hP hD hS dJ6_numberOfLeadingZeros_0f7a4_78 (Nat.le_refl _) (Nat.le_refl _)
      · skip
        have zc3 : ¬ (p0.toInt < 256) := by rw [fa_lt, show (256 : Int32).toInt = 256 from by decide] at c3; exact c3
        refine lv_iinc (v := 23) (lv' := [(1, .int 23), (0, .int p0)]) hx hb dJ6_numberOfLeadingZeros_0f7a4_40 hl (k := 0) rfl (by decide) (by decide) rfl (fun ls hl => ?_)
        refine lv_iload_n hx hb dJ6_numberOfLeadingZeros_0f7a4_43 rfl (lv_at hl 1 rfl) ?_
        refine lv_bipush (v := 8) hx hb dJ6_numberOfLeadingZeros_0f7a4_44 (by decide) ?_
        refine lv_iushr hx hb dJ6_numberOfLeadingZeros_0f7a4_46 rfl ?_
        refine lv_topi (fun t18 et18 => ?_)
        refine lv_istore_n (lv' := [(0, .int t18), (1, .int 23)]) hx hb dJ6_numberOfLeadingZeros_0f7a4_47 rfl hl (by decide) rfl (fun ls hl => ?_)
        refine lv_iload_n hx hb dJ6_numberOfLeadingZeros_0f7a4_48 rfl (lv_at hl 0 rfl) ?_
        refine lv_bipush (v := 16) hx hb dJ6_numberOfLeadingZeros_0f7a4_49 (by decide) ?_
        refine lv_icmp_lt (tgt := 61) hx hb dJ6_numberOfLeadingZeros_0f7a4_51 (by decide) (fun c19 => ?_) (fun c19 => ?_)
        · skip
          have zc19 : t18.toInt < 16 := by rw [fa_lt, show (16 : Int32).toInt = 16 from by decide] at c19; exact c19
          refine lv_iload_n hx hb dJ6_numberOfLeadingZeros_0f7a4_61 rfl (lv_at hl 0 rfl) ?_
          refine lv_iconst (v := 4) hx hb dJ6_numberOfLeadingZeros_0f7a4_62 (by decide) ?_
          refine lv_icmp_lt (tgt := 73) hx hb dJ6_numberOfLeadingZeros_0f7a4_63 (by decide) (fun c20 => ?_) (fun c20 => ?_)
          · skip
            have zc20 : t18.toInt < 4 := by rw [fa_lt, show (4 : Int32).toInt = 4 from by decide] at c20; exact c20
            refine lv_iload_n hx hb dJ6_numberOfLeadingZeros_0f7a4_73 rfl (lv_at hl 1 rfl) ?_
            refine lv_iload_n hx hb dJ6_numberOfLeadingZeros_0f7a4_74 rfl (lv_at hl 0 rfl) ?_
            refine lv_iconst (v := 1) hx hb dJ6_numberOfLeadingZeros_0f7a4_75 (by decide) ?_
            refine lv_iushr hx hb dJ6_numberOfLeadingZeros_0f7a4_76 rfl ?_
            refine lv_topi (fun t21 et21 => ?_)
            refine lv_isub hx hb dJ6_numberOfLeadingZeros_0f7a4_77 ?_
            refine lv_topi (fun t22 et22 => ?_)
            exact ret t22 () _ _ _ _ _ _ rfl trivial hP hD hS dJ6_numberOfLeadingZeros_0f7a4_78 (Nat.le_refl _) (Nat.le_refl _)
          · skip
            have zc20 : ¬ (t18.toInt < 4) := by rw [fa_lt, show (4 : Int32).toInt = 4 from by decide] at c20; exact c20
            refine lv_iinc (v := 21) (lv' := [(1, .int 21), (0, .int t18)]) hx hb dJ6_numberOfLeadingZeros_0f7a4_66 hl (k := 1) rfl (by decide) (by decide) rfl (fun ls hl => ?_)
            refine lv_iload_n hx hb dJ6_numberOfLeadingZeros_0f7a4_69 rfl (lv_at hl 1 rfl) ?_
            refine lv_iconst (v := 2) hx hb dJ6_numberOfLeadingZeros_0f7a4_70 (by decide) ?_
            refine lv_iushr hx hb dJ6_numberOfLeadingZeros_0f7a4_71 rfl ?_
            refine lv_topi (fun t23 et23 => ?_)
            refine lv_istore_n (lv' := [(0, .int t23), (1, .int 21)]) hx hb dJ6_numberOfLeadingZeros_0f7a4_72 rfl hl (by decide) rfl (fun ls hl => ?_)
            refine lv_iload_n hx hb dJ6_numberOfLeadingZeros_0f7a4_73 rfl (lv_at hl 1 rfl) ?_
            refine lv_iload_n hx hb dJ6_numberOfLeadingZeros_0f7a4_74 rfl (lv_at hl 0 rfl) ?_
            refine lv_iconst (v := 1) hx hb dJ6_numberOfLeadingZeros_0f7a4_75 (by decide) ?_
            refine lv_iushr hx hb dJ6_numberOfLeadingZeros_0f7a4_76 rfl ?_
            refine lv_topi (fun t24 et24 => ?_)
            refine lv_isub hx hb dJ6_numberOfLeadingZeros_0f7a4_77 ?_
            refine lv_topi (fun t25 et25 => ?_)
            exact ret t25 () _ _ _ _ _ _ rfl trivial hP hD hS dJ6_numberOfLeadingZeros_0f7a4_78 (Nat.le_refl _) (Nat.le_refl _)
        · skip
          have zc19 : ¬ (t18.toInt < 16) := by rw [fa_lt, show (16 : Int32).toInt = 16 from by decide] at c19; exact c19
          refine lv_iinc (v := 19) (lv' := [(1, .int 19), (0, .int t18)]) hx hb dJ6_numberOfLeadingZeros_0f7a4_54 hl (k := 1) rfl (by decide) (by decide) rfl (fun ls hl => ?_)
          refine lv_iload_n hx hb dJ6_numberOfLeadingZeros_0f7a4_57 rfl (lv_at hl 1 rfl) ?_
          refine lv_iconst (v := 4) hx hb dJ6_numberOfLeadingZeros_0f7a4_58 (by decide) ?_
          refine lv_iushr hx hb dJ6_numberOfLeadingZeros_0f7a4_59 rfl ?_
          refine lv_topi (fun t26 et26 => ?_)
          refine lv_istore_n (lv' := [(0, .int t26), (1, .int 19)]) hx hb dJ6_numberOfLeadingZeros_0f7a4_60 rfl hl (by decide) rfl (fun ls hl => ?_)
          refine lv_iload_n hx hb dJ6_numberOfLeadingZeros_0f7a4_61 rfl (lv_at hl 0 rfl) ?_
          refine lv_iconst (v := 4) hx hb dJ6_numberOfLeadingZeros_0f7a4_62 (by decide) ?_
          refine lv_icmp_lt (tgt := 73) hx hb dJ6_numberOfLeadingZeros_0f7a4_63 (by decide) (fun c27 => ?_) (fun c27 => ?_)
          · skip
            have zc27 : t26.toInt < 4 := by rw [fa_lt, show (4 : Int32).toInt = 4 from by decide] at c27; exact c27
            refine lv_iload_n hx hb dJ6_numberOfLeadingZeros_0f7a4_73 rfl (lv_at hl 1 rfl) ?_
            refine lv_iload_n hx hb dJ6_numberOfLeadingZeros_0f7a4_74 rfl (lv_at hl 0 rfl) ?_
            refine lv_iconst (v := 1) hx hb dJ6_numberOfLeadingZeros_0f7a4_75 (by decide) ?_
            refine lv_iushr hx hb dJ6_numberOfLeadingZeros_0f7a4_76 rfl ?_
            refine lv_topi (fun t28 et28 => ?_)
            refine lv_isub hx hb dJ6_numberOfLeadingZeros_0f7a4_77 ?_
            refine lv_topi (fun t29 et29 => ?_)
            exact ret t29 () _ _ _ _ _ _ rfl trivial hP hD hS dJ6_numberOfLeadingZeros_0f7a4_78 (Nat.le_refl _) (Nat.le_refl _)
          · skip
            have zc27 : ¬ (t26.toInt < 4) := by rw [fa_lt, show (4 : Int32).toInt = 4 from by decide] at c27; exact c27
            refine lv_iinc (v := 17) (lv' := [(1, .int 17), (0, .int t26)]) hx hb dJ6_numberOfLeadingZeros_0f7a4_66 hl (k := 1) rfl (by decide) (by decide) rfl (fun ls hl => ?_)
            refine lv_iload_n hx hb dJ6_numberOfLeadingZeros_0f7a4_69 rfl (lv_at hl 1 rfl) ?_
            refine lv_iconst (v := 2) hx hb dJ6_numberOfLeadingZeros_0f7a4_70 (by decide) ?_
            refine lv_iushr hx hb dJ6_numberOfLeadingZeros_0f7a4_71 rfl ?_
            refine lv_topi (fun t30 et30 => ?_)
            refine lv_istore_n (lv' := [(0, .int t30), (1, .int 17)]) hx hb dJ6_numberOfLeadingZeros_0f7a4_72 rfl hl (by decide) rfl (fun ls hl => ?_)
            refine lv_iload_n hx hb dJ6_numberOfLeadingZeros_0f7a4_73 rfl (lv_at hl 1 rfl) ?_
            refine lv_iload_n hx hb dJ6_numberOfLeadingZeros_0f7a4_74 rfl (lv_at hl 0 rfl) ?_
            refine lv_iconst (v := 1) hx hb dJ6_numberOfLeadingZeros_0f7a4_75 (by decide) ?_
            refine lv_iushr hx hb dJ6_numberOfLeadingZeros_0f7a4_76 rfl ?_
            refine lv_topi (fun t31 et31 => ?_)
            refine lv_isub hx hb dJ6_numberOfLeadingZeros_0f7a4_77 ?_
            refine lv_topi (fun t32 et32 => ?_)
            exact ret t32 () _ _ _ _ _ _ rfl trivial hP hD hS dJ6_numberOfLeadingZeros_0f7a4_78 (Nat.le_refl _) (Nat.le_refl _)
    · skip
      have zc2 : ¬ (p0.toInt < 65536) := by rw [fa_lt, show (65536 : Int32).toInt = 65536 from by decide] at c2; exact c2
      refine lv_iinc (v := 15) (lv' := [(1, .int 15), (0, .int p0)]) hx hb dJ6_numberOfLeadingZeros_0f7a4_25 hl (k := 0) rfl (by decide) (by decide) rfl (fun ls hl => ?_)
      refine lv_iload_n hx hb dJ6_numberOfLeadingZeros_0f7a4_28 rfl (lv_at hl 1 rfl) ?_
      refine lv_bipush (v := 16) hx hb dJ6_numberOfLeadingZeros_0f7a4_29 (by decide) ?_
      refine lv_iushr hx hb dJ6_numberOfLeadingZeros_0f7a4_31 rfl ?_
      refine lv_topi (fun t33 et33 => ?_)
      refine lv_istore_n (lv' := [(0, .int t33), (1, .int 15)]) hx hb dJ6_numberOfLeadingZeros_0f7a4_32 rfl hl (by decide) rfl (fun ls hl => ?_)
      refine lv_iload_n hx hb dJ6_numberOfLeadingZeros_0f7a4_33 rfl (lv_at hl 0 rfl) ?_
      refine lv_sipush (v := 256) hx hb dJ6_numberOfLeadingZeros_0f7a4_34 (by decide) ?_
      refine lv_icmp_lt (tgt := 48) hx hb dJ6_numberOfLeadingZeros_0f7a4_37 (by decide) (fun c34 => ?_) (fun c34 => ?_)
      · skip
        have zc34 : t33.toInt < 256 := by rw [fa_lt, show (256 : Int32).toInt = 256 from by decide] at c34; exact c34
        refine lv_iload_n hx hb dJ6_numberOfLeadingZeros_0f7a4_48 rfl (lv_at hl 0 rfl) ?_
        refine lv_bipush (v := 16) hx hb dJ6_numberOfLeadingZeros_0f7a4_49 (by decide) ?_
        refine lv_icmp_lt (tgt := 61) hx hb dJ6_numberOfLeadingZeros_0f7a4_51 (by decide) (fun c35 => ?_) (fun c35 => ?_)
        · skip
          have zc35 : t33.toInt < 16 := by rw [fa_lt, show (16 : Int32).toInt = 16 from by decide] at c35; exact c35
          refine lv_iload_n hx hb dJ6_numberOfLeadingZeros_0f7a4_61 rfl (lv_at hl 0 rfl) ?_
          refine lv_iconst (v := 4) hx hb dJ6_numberOfLeadingZeros_0f7a4_62 (by decide) ?_
          refine lv_icmp_lt (tgt := 73) hx hb dJ6_numberOfLeadingZeros_0f7a4_63 (by decide) (fun c36 => ?_) (fun c36 => ?_)
          · skip
            have zc36 : t33.toInt < 4 := by rw [fa_lt, show (4 : Int32).toInt = 4 from by decide] at c36; exact c36
            refine lv_iload_n hx hb dJ6_numberOfLeadingZeros_0f7a4_73 rfl (lv_at hl 1 rfl) ?_
            refine lv_iload_n hx hb dJ6_numberOfLeadingZeros_0f7a4_74 rfl (lv_at hl 0 rfl) ?_
            refine lv_iconst (v := 1) hx hb dJ6_numberOfLeadingZeros_0f7a4_75 (by decide) ?_
            refine lv_iushr hx hb dJ6_numberOfLeadingZeros_0f7a4_76 rfl ?_
            refine lv_topi (fun t37 et37 => ?_)
            refine lv_isub hx hb dJ6_numberOfLeadingZeros_0f7a4_77 ?_
            refine lv_topi (fun t38 et38 => ?_)
            exact ret t38 () _ _ _ _ _ _ rfl trivial hP hD hS dJ6_numberOfLeadingZeros_0f7a4_78 (Nat.le_refl _) (Nat.le_refl _)
          · skip
            have zc36 : ¬ (t33.toInt < 4) := by rw [fa_lt, show (4 : Int32).toInt = 4 from by decide] at c36; exact c36
            refine lv_iinc (v := 13) (lv' := [(1, .int 13), (0, .int t33)]) hx hb dJ6_numberOfLeadingZeros_0f7a4_66 hl (k := 1) rfl (by decide) (by decide) rfl (fun ls hl => ?_)
            refine lv_iload_n hx hb dJ6_numberOfLeadingZeros_0f7a4_69 rfl (lv_at hl 1 rfl) ?_
            refine lv_iconst (v := 2) hx hb dJ6_numberOfLeadingZeros_0f7a4_70 (by decide) ?_
            refine lv_iushr hx hb dJ6_numberOfLeadingZeros_0f7a4_71 rfl ?_
            refine lv_topi (fun t39 et39 => ?_)
            refine lv_istore_n (lv' := [(0, .int t39), (1, .int 13)]) hx hb dJ6_numberOfLeadingZeros_0f7a4_72 rfl hl (by decide) rfl (fun ls hl => ?_)
            refine lv_iload_n hx hb dJ6_numberOfLeadingZeros_0f7a4_73 rfl (lv_at hl 1 rfl) ?_
            refine lv_iload_n hx hb dJ6_numberOfLeadingZeros_0f7a4_74 rfl (lv_at hl 0 rfl) ?_
            refine lv_iconst (v := 1) hx hb dJ6_numberOfLeadingZeros_0f7a4_75 (by decide) ?_
            refine lv_iushr hx hb dJ6_numberOfLeadingZeros_0f7a4_76 rfl ?_
            refine lv_topi (fun t40 et40 => ?_)
            refine lv_isub hx hb dJ6_numberOfLeadingZeros_0f7a4_77 ?_
            refine lv_topi (fun t41 et41 => ?_)
            exact ret t41 () _ _ _ _ _ _ rfl trivial hP hD hS dJ6_numberOfLeadingZeros_0f7a4_78 (Nat.le_refl _) (Nat.le_refl _)
        · skip
          have zc35 : ¬ (t33.toInt < 16) := by rw [fa_lt, show (16 : Int32).toInt = 16 from by decide] at c35; exact c35
          refine lv_iinc (v := 11) (lv' := [(1, .int 11), (0, .int t33)]) hx hb dJ6_numberOfLeadingZeros_0f7a4_54 hl (k := 1) rfl (by decide) (by decide) rfl (fun ls hl => ?_)
          refine lv_iload_n hx hb dJ6_numberOfLeadingZeros_0f7a4_57 rfl (lv_at hl 1 rfl) ?_
          refine lv_iconst (v := 4) hx hb dJ6_numberOfLeadingZeros_0f7a4_58 (by decide) ?_
          refine lv_iushr hx hb dJ6_numberOfLeadingZeros_0f7a4_59 rfl ?_
          refine lv_topi (fun t42 et42 => ?_)
          refine lv_istore_n (lv' := [(0, .int t42), (1, .int 11)]) hx hb dJ6_numberOfLeadingZeros_0f7a4_60 rfl hl (by decide) rfl (fun ls hl => ?_)
          refine lv_iload_n hx hb dJ6_numberOfLeadingZeros_0f7a4_61 rfl (lv_at hl 0 rfl) ?_
          refine lv_iconst (v := 4) hx hb dJ6_numberOfLeadingZeros_0f7a4_62 (by decide) ?_
          refine lv_icmp_lt (tgt := 73) hx hb dJ6_numberOfLeadingZeros_0f7a4_63 (by decide) (fun c43 => ?_) (fun c43 => ?_)
          · skip
            have zc43 : t42.toInt < 4 := by rw [fa_lt, show (4 : Int32).toInt = 4 from by decide] at c43; exact c43
            refine lv_iload_n hx hb dJ6_numberOfLeadingZeros_0f7a4_73 rfl (lv_at hl 1 rfl) ?_
            refine lv_iload_n hx hb dJ6_numberOfLeadingZeros_0f7a4_74 rfl (lv_at hl 0 rfl) ?_
            refine lv_iconst (v := 1) hx hb dJ6_numberOfLeadingZeros_0f7a4_75 (by decide) ?_
            refine lv_iushr hx hb dJ6_numberOfLeadingZeros_0f7a4_76 rfl ?_
            refine lv_topi (fun t44 et44 => ?_)
            refine lv_isub hx hb dJ6_numberOfLeadingZeros_0f7a4_77 ?_
            refine lv_topi (fun t45 et45 => ?_)
            exact ret t45 () _ _ _ _ _ _ rfl trivial hP hD hS dJ6_numberOfLeadingZeros_0f7a4_78 (Nat.le_refl _) (Nat.le_refl _)
          · skip
            have zc43 : ¬ (t42.toInt < 4) := by rw [fa_lt, show (4 : Int32).toInt = 4 from by decide] at c43; exact c43
            refine lv_iinc (v := 9) (lv' := [(1, .int 9), (0, .int t42)]) hx hb dJ6_numberOfLeadingZeros_0f7a4_66 hl (k := 1) rfl (by decide) (by decide) rfl (fun ls hl => ?_)
            refine lv_iload_n hx hb dJ6_numberOfLeadingZeros_0f7a4_69 rfl (lv_at hl 1 rfl) ?_
            refine lv_iconst (v := 2) hx hb dJ6_numberOfLeadingZeros_0f7a4_70 (by decide) ?_
            refine lv_iushr hx hb dJ6_numberOfLeadingZeros_0f7a4_71 rfl ?_
            refine lv_topi (fun t46 et46 => ?_)
            refine lv_istore_n (lv' := [(0, .int t46), (1, .int 9)]) hx hb dJ6_numberOfLeadingZeros_0f7a4_72 rfl hl (by decide) rfl (fun ls hl => ?_)
            refine lv_iload_n hx hb dJ6_numberOfLeadingZeros_0f7a4_73 rfl (lv_at hl 1 rfl) ?_
            refine lv_iload_n hx hb dJ6_numberOfLeadingZeros_0f7a4_74 rfl (lv_at hl 0 rfl) ?_
            refine lv_iconst (v := 1) hx hb dJ6_numberOfLeadingZeros_0f7a4_75 (by decide) ?_
            refine lv_iushr hx hb dJ6_numberOfLeadingZeros_0f7a4_76 rfl ?_
            refine lv_topi (fun t47 et47 => ?_)
            refine lv_isub hx hb dJ6_numberOfLeadingZeros_0f7a4_77 ?_
            refine lv_topi (fun t48 et48 => ?_)
            exact ret t48 () _ _ _ _ _ _ rfl trivial hP hD hS dJ6_numberOfLeadingZeros_0f7a4_78 (Nat.le_refl _) (Nat.le_refl _)
      · skip
        have zc34 : ¬ (t33.toInt < 256) := by rw [fa_lt, show (256 : Int32).toInt = 256 from by decide] at c34; exact c34
        refine lv_iinc (v := 7) (lv' := [(1, .int 7), (0, .int t33)]) hx hb dJ6_numberOfLeadingZeros_0f7a4_40 hl (k := 1) rfl (by decide) (by decide) rfl (fun ls hl => ?_)
        refine lv_iload_n hx hb dJ6_numberOfLeadingZeros_0f7a4_43 rfl (lv_at hl 1 rfl) ?_
        refine lv_bipush (v := 8) hx hb dJ6_numberOfLeadingZeros_0f7a4_44 (by decide) ?_
        refine lv_iushr hx hb dJ6_numberOfLeadingZeros_0f7a4_46 rfl ?_
        refine lv_topi (fun t49 et49 => ?_)
        refine lv_istore_n (lv' := [(0, .int t49), (1, .int 7)]) hx hb dJ6_numberOfLeadingZeros_0f7a4_47 rfl hl (by decide) rfl (fun ls hl => ?_)
        refine lv_iload_n hx hb dJ6_numberOfLeadingZeros_0f7a4_48 rfl (lv_at hl 0 rfl) ?_
        refine lv_bipush (v := 16) hx hb dJ6_numberOfLeadingZeros_0f7a4_49 (by decide) ?_
        refine lv_icmp_lt (tgt := 61) hx hb dJ6_numberOfLeadingZeros_0f7a4_51 (by decide) (fun c50 => ?_) (fun c50 => ?_)
        · skip
          have zc50 : t49.toInt < 16 := by rw [fa_lt, show (16 : Int32).toInt = 16 from by decide] at c50; exact c50
          refine lv_iload_n hx hb dJ6_numberOfLeadingZeros_0f7a4_61 rfl (lv_at hl 0 rfl) ?_
          refine lv_iconst (v := 4) hx hb dJ6_numberOfLeadingZeros_0f7a4_62 (by decide) ?_
          refine lv_icmp_lt (tgt := 73) hx hb dJ6_numberOfLeadingZeros_0f7a4_63 (by decide) (fun c51 => ?_) (fun c51 => ?_)
          · skip
            have zc51 : t49.toInt < 4 := by rw [fa_lt, show (4 : Int32).toInt = 4 from by decide] at c51; exact c51
            refine lv_iload_n hx hb dJ6_numberOfLeadingZeros_0f7a4_73 rfl (lv_at hl 1 rfl) ?_
            refine lv_iload_n hx hb dJ6_numberOfLeadingZeros_0f7a4_74 rfl (lv_at hl 0 rfl) ?_
            refine lv_iconst (v := 1) hx hb dJ6_numberOfLeadingZeros_0f7a4_75 (by decide) ?_
            refine lv_iushr hx hb dJ6_numberOfLeadingZeros_0f7a4_76 rfl ?_
            refine lv_topi (fun t52 et52 => ?_)
            refine lv_isub hx hb dJ6_numberOfLeadingZeros_0f7a4_77 ?_
            refine lv_topi (fun t53 et53 => ?_)
            exact ret t53 () _ _ _ _ _ _ rfl trivial hP hD hS dJ6_numberOfLeadingZeros_0f7a4_78 (Nat.le_refl _) (Nat.le_refl _)
          · skip
            have zc51 : ¬ (t49.toInt < 4) := by rw [fa_lt, show (4 : Int32).toInt = 4 from by decide] at c51; exact c51
            refine lv_iinc (v := 5) (lv' := [(1, .int 5), (0, .int t49)]) hx hb dJ6_numberOfLeadingZeros_0f7a4_66 hl (k := 1) rfl (by decide) (by decide) rfl (fun ls hl => ?_)
            refine lv_iload_n hx hb dJ6_numberOfLeadingZeros_0f7a4_69 rfl (lv_at hl 1 rfl) ?_
            refine lv_iconst (v := 2) hx hb dJ6_numberOfLeadingZeros_0f7a4_70 (by decide) ?_
            refine lv_iushr hx hb dJ6_numberOfLeadingZeros_0f7a4_71 rfl ?_
            refine lv_topi (fun t54 et54 => ?_)
            refine lv_istore_n (lv' := [(0, .int t54), (1, .int 5)]) hx hb dJ6_numberOfLeadingZeros_0f7a4_72 rfl hl (by decide) rfl (fun ls hl => ?_)
            refine lv_iload_n hx hb dJ6_numberOfLeadingZeros_0f7a4_73 rfl (lv_at hl 1 rfl) ?_
            refine lv_iload_n hx hb dJ6_numberOfLeadingZeros_0f7a4_74 rfl (lv_at hl 0 rfl) ?_
            refine lv_iconst (v := 1) hx hb dJ6_numberOfLeadingZeros_0f7a4_75 (by decide) ?_
            refine lv_iushr hx hb dJ6_numberOfLeadingZeros_0f7a4_76 rfl ?_
            refine lv_topi (fun t55 et55 => ?_)
            refine lv_isub hx hb dJ6_numberOfLeadingZeros_0f7a4_77 ?_
            refine lv_topi (fun t56 et56 => ?_)
            exact ret t56 () _ _ _ _ _ _ rfl trivial hP hD hS dJ6_numberOfLeadingZeros_0f7a4_78 (Nat.le_refl _) (Nat.le_refl _)
        · skip
          have zc50 : ¬ (t49.toInt < 16) := by rw [fa_lt, show (16 : Int32).toInt = 16 from by decide] at c50; exact c50
          refine lv_iinc (v := 3) (lv' := [(1, .int 3), (0, .int t49)]) hx hb dJ6_numberOfLeadingZeros_0f7a4_54 hl (k := 1) rfl (by decide) (by decide) rfl (fun ls hl => ?_)
          refine lv_iload_n hx hb dJ6_numberOfLeadingZeros_0f7a4_57 rfl (lv_at hl 1 rfl) ?_
          refine lv_iconst (v := 4) hx hb dJ6_numberOfLeadingZeros_0f7a4_58 (by decide) ?_
          refine lv_iushr hx hb dJ6_numberOfLeadingZeros_0f7a4_59 rfl ?_
          refine lv_topi (fun t57 et57 => ?_)
          refine lv_istore_n (lv' := [(0, .int t57), (1, .int 3)]) hx hb dJ6_numberOfLeadingZeros_0f7a4_60 rfl hl (by decide) rfl (fun ls hl => ?_)
          refine lv_iload_n hx hb dJ6_numberOfLeadingZeros_0f7a4_61 rfl (lv_at hl 0 rfl) ?_
          refine lv_iconst (v := 4) hx hb dJ6_numberOfLeadingZeros_0f7a4_62 (by decide) ?_
          refine lv_icmp_lt (tgt := 73) hx hb dJ6_numberOfLeadingZeros_0f7a4_63 (by decide) (fun c58 => ?_) (fun c58 => ?_)
          · skip
            have zc58 : t57.toInt < 4 := by rw [fa_lt, show (4 : Int32).toInt = 4 from by decide] at c58; exact c58
            refine lv_iload_n hx hb dJ6_numberOfLeadingZeros_0f7a4_73 rfl (lv_at hl 1 rfl) ?_
            refine lv_iload_n hx hb dJ6_numberOfLeadingZeros_0f7a4_74 rfl (lv_at hl 0 rfl) ?_
            refine lv_iconst (v := 1) hx hb dJ6_numberOfLeadingZeros_0f7a4_75 (by decide) ?_
            refine lv_iushr hx hb dJ6_numberOfLeadingZeros_0f7a4_76 rfl ?_
            refine lv_topi (fun t59 et59 => ?_)
            refine lv_isub hx hb dJ6_numberOfLeadingZeros_0f7a4_77 ?_
            refine lv_topi (fun t60 et60 => ?_)
            exact ret t60 () _ _ _ _ _ _ rfl trivial hP hD hS dJ6_numberOfLeadingZeros_0f7a4_78 (Nat.le_refl _) (Nat.le_refl _)
          · skip
            have zc58 : ¬ (t57.toInt < 4) := by rw [fa_lt, show (4 : Int32).toInt = 4 from by decide] at c58; exact c58
            refine lv_iinc (v := 1) (lv' := [(1, .int 1), (0, .int t57)]) hx hb dJ6_numberOfLeadingZeros_0f7a4_66 hl (k := 1) rfl (by decide) (by decide) rfl (fun ls hl => ?_)
            refine lv_iload_n hx hb dJ6_numberOfLeadingZeros_0f7a4_69 rfl (lv_at hl 1 rfl) ?_
            refine lv_iconst (v := 2) hx hb dJ6_numberOfLeadingZeros_0f7a4_70 (by decide) ?_
            refine lv_iushr hx hb dJ6_numberOfLeadingZeros_0f7a4_71 rfl ?_
            refine lv_topi (fun t61 et61 => ?_)
            refine lv_istore_n (lv' := [(0, .int t61), (1, .int 1)]) hx hb dJ6_numberOfLeadingZeros_0f7a4_72 rfl hl (by decide) rfl (fun ls hl => ?_)
            refine lv_iload_n hx hb dJ6_numberOfLeadingZeros_0f7a4_73 rfl (lv_at hl 1 rfl) ?_
            refine lv_iload_n hx hb dJ6_numberOfLeadingZeros_0f7a4_74 rfl (lv_at hl 0 rfl) ?_
            refine lv_iconst (v := 1) hx hb dJ6_numberOfLeadingZeros_0f7a4_75 (by decide) ?_
            refine lv_iushr hx hb dJ6_numberOfLeadingZeros_0f7a4_76 rfl ?_
            refine lv_topi (fun t62 et62 => ?_)
            refine lv_isub hx hb dJ6_numberOfLeadingZeros_0f7a4_77 ?_
            refine lv_topi (fun t63 et63 => ?_)
            exact ret t63 () _ _ _ _ _ _ rfl trivial hP hD hS dJ6_numberOfLeadingZeros_0f7a4_78 (Nat.le_refl _) (Nat.le_refl _)
  · skip
    have zc1 : ¬ (0 < p0.toInt) := by rw [fa_lt, show (0 : Int32).toInt = 0 from by decide] at c1; exact c1
    refine lv_iload_n hx hb dJ6_numberOfLeadingZeros_0f7a4_4 rfl (lv_at hl 0 rfl) ?_
    refine lv_if_ne (tgt := 13) hx hb dJ6_numberOfLeadingZeros_0f7a4_5 (by decide) (fun c64 => ?_) (fun c64 => ?_)
    · skip
      have zc64 : ¬ (p0.toInt = 0) := by rw [fa_eq, show (0 : Int32).toInt = 0 from by decide] at c64; exact c64
      refine lv_iconst (v := 0) hx hb dJ6_numberOfLeadingZeros_0f7a4_13 (by decide) ?_
      exact ret 0 () _ _ _ _ _ _ rfl trivial hP hD hS dJ6_numberOfLeadingZeros_0f7a4_14 (Nat.le_refl _) (Nat.le_refl _)
    · skip
      have zc64 : p0.toInt = 0 := by rw [fa_eq, show (0 : Int32).toInt = 0 from by decide] at c64; exact c64
      refine lv_bipush (v := 32) hx hb dJ6_numberOfLeadingZeros_0f7a4_8 (by decide) ?_
      refine lv_goto (tgt := 14) hx hb dJ6_numberOfLeadingZeros_0f7a4_10 (by decide) ?_
      exact ret 32 () _ _ _ _ _ _ rfl trivial hP hD hS dJ6_numberOfLeadingZeros_0f7a4_14 (Nat.le_refl _) (Nat.le_refl _)
set_option maxHeartbeats 4000000 in
set_option maxRecDepth 100000 in
theorem sX_J6_numberOfTrailingZeros_0f7a4_1 (l : Launch) (dC : Nat → ClassId) (dI : Nat → Nat → Nat) (cy : Nat → ClassId) (x0 : Nat) (x : Nat → Nat) (p0 : Int32) (v : Nat → Int32) (f : Nat → Nat → Int32) (hIv : XI v)  : ctI l (dC, dI) cy yJ6_numberOfTrailingZeros_0f7a4 cJ6_numberOfTrailingZeros_0f7a4 2 .int 1 60 0 0 Unit [.int p0] (XW cy x0 x v f) (fun r u => True) (fun u => XW cy x0 x v f) := by
  refine ctI_of (by decide) (Nat.le_of_ble_eq_true rfl) (fun p e s m below meth c A ls Q hx hb hml hts hown hE hP hD hA hl ret => ?_)
  have hown : s.vm.findClass RJ6 = some m.cls := hown
  have hS : va_S A s.heap s.heap [] := va_S.rf
  have hl : lv_has ls 2 [(0, .int p0)] := hl
  refine lv_iload_n hx hb dJ6_numberOfTrailingZeros_0f7a4_0 rfl (lv_at hl 0 rfl) ?_
  refine lv_iconst (v := (-1)) hx hb dJ6_numberOfTrailingZeros_0f7a4_1 (by decide) ?_
  refine lv_ixor hx hb dJ6_numberOfTrailingZeros_0f7a4_2 ?_
  refine lv_topi (fun t1 et1 => ?_)
  refine lv_iload_n hx hb dJ6_numberOfTrailingZeros_0f7a4_3 rfl (lv_at hl 0 rfl) ?_
  refine lv_iconst (v := 1) hx hb dJ6_numberOfTrailingZeros_0f7a4_4 (by decide) ?_
  refine lv_isub hx hb dJ6_numberOfTrailingZeros_0f7a4_5 ?_
  refine lv_topi (fun t2 et2 => ?_)
  refine lv_iand hx hb dJ6_numberOfTrailingZeros_0f7a4_6 ?_
  refine lv_topi (fun t3 et3 => ?_)
  refine lv_istore_n (lv' := [(0, .int t3)]) hx hb dJ6_numberOfTrailingZeros_0f7a4_7 rfl hl (by decide) rfl (fun ls hl => ?_)
  refine lv_iload_n hx hb dJ6_numberOfTrailingZeros_0f7a4_8 rfl (lv_at hl 0 rfl) ?_
  refine lv_if_gt (tgt := 17) hx hb dJ6_numberOfTrailingZeros_0f7a4_9 (by decide) (fun c4 => ?_) (fun c4 => ?_)
  · skip
    have zc4 : 0 < t3.toInt := by rw [fa_lt, show (0 : Int32).toInt = 0 from by decide] at c4; exact c4
    refine lv_iconst (v := 1) hx hb dJ6_numberOfTrailingZeros_0f7a4_17 (by decide) ?_
    refine lv_istore_n (lv' := [(1, .int 1), (0, .int t3)]) hx hb dJ6_numberOfTrailingZeros_0f7a4_18 rfl hl (by decide) rfl (fun ls hl => ?_)
    refine lv_iload_n hx hb dJ6_numberOfTrailingZeros_0f7a4_19 rfl (lv_at hl 1 rfl) ?_
    refine lv_ldcw (v := 65536) hx hb hown (hts _ k_1271) dJ6_numberOfTrailingZeros_0f7a4_20 ?_
    refine lv_icmp_le (tgt := 34) hx hb dJ6_numberOfTrailingZeros_0f7a4_23 (by decide) (fun c5 => ?_) (fun c5 => ?_)
    · skip
      have zc5 : t3.toInt ≤ 65536 := by rw [fa_le, show (65536 : Int32).toInt = 65536 from by decide] at c5; exact c5
      refine lv_iload_n hx hb dJ6_numberOfTrailingZeros_0f7a4_34 rfl (lv_at hl 1 rfl) ?_
      refine lv_sipush (v := 256) hx hb dJ6_numberOfTrailingZeros_0f7a4_35 (by decide) ?_
      refine lv_icmp_le (tgt := 49) hx hb dJ6_numberOfTrailingZeros_0f7a4_38 (by decide) (fun c6 => ?_) (fun c6 => ?_)
      · skip
        have zc6 : t3.toInt ≤ 256 := by rw [fa_le, show (256 : Int32).toInt = 256 from by decide] at c6; exact c6
        refine lv_iload_n hx hb dJ6_numberOfTrailingZeros_0f7a4_49 rfl (lv_at hl 1 rfl) ?_
        refine lv_bipush (v := 16) hx hb dJ6_numberOfTrailingZeros_0f7a4_50 (by decide) ?_
        refine lv_icmp_le (tgt := 62) hx hb dJ6_numberOfTrailingZeros_0f7a4_52 (by decide) (fun c7 => ?_) (fun c7 => ?_)
        · skip
          have zc7 : t3.toInt ≤ 16 := by rw [fa_le, show (16 : Int32).toInt = 16 from by decide] at c7; exact c7
          refine lv_iload_n hx hb dJ6_numberOfTrailingZeros_0f7a4_62 rfl (lv_at hl 1 rfl) ?_
          refine lv_iconst (v := 4) hx hb dJ6_numberOfTrailingZeros_0f7a4_63 (by decide) ?_
          refine lv_icmp_le (tgt := 74) hx hb dJ6_numberOfTrailingZeros_0f7a4_64 (by decide) (fun c8 => ?_) (fun c8 => ?_)
          · skip
            have zc8 : t3.toInt ≤ 4 := by rw [fa_le, show (4 : Int32).toInt = 4 from by decide] at c8; exact c8
            refine lv_iload_n hx hb dJ6_numberOfTrailingZeros_0f7a4_74 rfl (lv_at hl 0 rfl) ?_
            refine lv_iload_n hx hb dJ6_numberOfTrailingZeros_0f7a4_75 rfl (lv_at hl 1 rfl) ?_
            refine lv_iconst (v := 1) hx hb dJ6_numberOfTrailingZeros_0f7a4_76 (by decide) ?_
            refine lv_iushr hx hb dJ6_numberOfTrailingZeros_0f7a4_77 rfl ?_
            refine lv_topi (fun t9 et9 => ?_)
            refine lv_iadd hx hb dJ6_numberOfTrailingZeros_0f7a4_78 ?_
            refine lv_topi (fun t10 et10 => ?_)
            exact ret t10 () _ _ _ _ _ _ rfl trivial hP hD hS dJ6_numberOfTrailingZeros_0f7a4_79 (Nat.le_refl _) (Nat.le_refl _)
          · skip
            have zc8 : ¬ (t3.toInt ≤ 4) := by rw [fa_le, show (4 : Int32).toInt = 4 from by decide] at c8; exact c8
            refine lv_iinc (v := 3) (lv' := [(1, .int 3), (0, .int t3)]) hx hb dJ6_numberOfTrailingZeros_0f7a4_67 hl (k := 0) rfl (by decide) (by decide) rfl (fun ls hl => ?_)
            refine lv_iload_n hx hb dJ6_numberOfTrailingZeros_0f7a4_70 rfl (lv_at hl 1 rfl) ?_
            refine lv_iconst (v := 2) hx hb dJ6_numberOfTrailingZeros_0f7a4_71 (by decide) ?_
            refine lv_iushr hx hb dJ6_numberOfTrailingZeros_0f7a4_72 rfl ?_
            refine lv_topi (fun t11 et11 => ?_)
            refine lv_istore_n (lv' := [(0, .int t11), (1, .int 3)]) hx hb dJ6_numberOfTrailingZeros_0f7a4_73 rfl hl (by decide) rfl (fun ls hl => ?_)
            refine lv_iload_n hx hb dJ6_numberOfTrailingZeros_0f7a4_74 rfl (lv_at hl 1 rfl) ?_
            refine lv_iload_n hx hb dJ6_numberOfTrailingZeros_0f7a4_75 rfl (lv_at hl 0 rfl) ?_
            refine lv_iconst (v := 1) hx hb dJ6_numberOfTrailingZeros_0f7a4_76 (by decide) ?_
            refine lv_iushr hx hb dJ6_numberOfTrailingZeros_0f7a4_77 rfl ?_
            refine lv_topi (fun t12 et12 => ?_)
            refine lv_iadd hx hb dJ6_numberOfTrailingZeros_0f7a4_78 ?_
            refine lv_topi (fun t13 et13 => ?_)
            exact ret t13 () _ _ _ _ _ _ rfl trivial hP hD hS dJ6_numberOfTrailingZeros_0f7a4_79 (Nat.le_refl _) (Nat.le_refl _)
        · skip
          have zc7 : ¬ (t3.toInt ≤ 16) := by rw [fa_le, show (16 : Int32).toInt = 16 from by decide] at c7; exact c7
          refine lv_iinc (v := 5) (lv' := [(1, .int 5), (0, .int t3)]) hx hb dJ6_numberOfTrailingZeros_0f7a4_55 hl (k := 0) rfl (by decide) (by decide) rfl (fun ls hl => ?_)
          refine lv_iload_n hx hb dJ6_numberOfTrailingZeros_0f7a4_58 rfl (lv_at hl 1 rfl) ?_
          refine lv_iconst (v := 4) hx hb dJ6_numberOfTrailingZeros_0f7a4_59 (by decide) ?_
          refine lv_iushr hx hb dJ6_numberOfTrailingZeros_0f7a4_60 rfl ?_
          refine lv_topi (fun t14 et14 => ?_)
          refine lv_istore_n (lv' := [(0, .int t14), (1, .int 5)]) hx hb dJ6_numberOfTrailingZeros_0f7a4_61 rfl hl (by decide) rfl (fun ls hl => ?_)
          refine lv_iload_n hx hb dJ6_numberOfTrailingZeros_0f7a4_62 rfl (lv_at hl 0 rfl) ?_
          refine lv_iconst (v := 4) hx hb dJ6_numberOfTrailingZeros_0f7a4_63 (by decide) ?_
          refine lv_icmp_le (tgt := 74) hx hb dJ6_numberOfTrailingZeros_0f7a4_64 (by decide) (fun c15 => ?_) (fun c15 => ?_)
          · skip
            have zc15 : t14.toInt ≤ 4 := by rw [fa_le, show (4 : Int32).toInt = 4 from by decide] at c15; exact c15
            refine lv_iload_n hx hb dJ6_numberOfTrailingZeros_0f7a4_74 rfl (lv_at hl 1 rfl) ?_
            refine lv_iload_n hx hb dJ6_numberOfTrailingZeros_0f7a4_75 rfl (lv_at hl 0 rfl) ?_
            refine lv_iconst (v := 1) hx hb dJ6_numberOfTrailingZeros_0f7a4_76 (by decide) ?_
            refine lv_iushr hx hb dJ6_numberOfTrailingZeros_0f7a4_77 rfl ?_
            refine lv_topi (fun t16 et16 => ?_)
            refine lv_iadd hx hb dJ6_numberOfTrailingZeros_0f7a4_78 ?_
            refine lv_topi (fun t17 et17 => ?_)
            exact ret t17 () _ _ _ _ _ _ rfl trivial hP hD hS dJ6_numberOfTrailingZeros_0f7a4_79 (Nat.le_refl _) (Nat.le_refl _)
          · skip
            have zc15 : ¬ (t14.toInt ≤ 4) := by rw [fa_le, show (4 : Int32).toInt = 4 from by decide] at c15; exact c15
            refine lv_iinc (v := 7) (lv' := [(1, .int 7), (0, .int t14)]) hx hb dJ6_numberOfTrailingZeros_0f7a4_67 hl (k := 1) rfl (by decide) (by decide) rfl (fun ls hl => ?_)
            refine lv_iload_n hx hb dJ6_numberOfTrailingZeros_0f7a4_70 rfl (lv_at hl 1 rfl) ?_
            refine lv_iconst (v := 2) hx hb dJ6_numberOfTrailingZeros_0f7a4_71 (by decide) ?_
            refine lv_iushr hx hb dJ6_numberOfTrailingZeros_0f7a4_72 rfl ?_
            refine lv_topi (fun t18 et18 => ?_)
            refine lv_istore_n (lv' := [(0, .int t18), (1, .int 7)]) hx hb dJ6_numberOfTrailingZeros_0f7a4_73 rfl hl (by decide) rfl (fun ls hl => ?_)
            refine lv_iload_n hx hb dJ6_numberOfTrailingZeros_0f7a4_74 rfl (lv_at hl 1 rfl) ?_
            refine lv_iload_n hx hb dJ6_numberOfTrailingZeros_0f7a4_75 rfl (lv_at hl 0 rfl) ?_
            refine lv_iconst (v := 1) hx hb dJ6_numberOfTrailingZeros_0f7a4_76 (by decide) ?_
            refine lv_iushr hx hb dJ6_numberOfTrailingZeros_0f7a4_77 rfl ?_
            refine lv_topi (fun t19 et19 => ?_)
            refine lv_iadd hx hb dJ6_numberOfTrailingZeros_0f7a4_78 ?_
            refine lv_topi (fun t20 et20 => ?_)
            exact ret t20 () _ _ _ _ _ _ rfl trivial hP hD hS dJ6_numberOfTrailingZeros_0f7a4_79 (Nat.le_refl _) (Nat.le_refl _)
      · skip
        have zc6 : ¬ (t3.toInt ≤ 256) := by rw [fa_le, show (256 : Int32).toInt = 256 from by decide] at c6; exact c6
        refine lv_iinc (v := 9) (lv' := [(1, .int 9), (0, .int t3)]) hx hb dJ6_numberOfTrailingZeros_0f7a4_41 hl (k := 0) rfl (by decide) (by decide) rfl (fun ls hl => ?_)
        refine lv_iload_n hx hb dJ6_numberOfTrailingZeros_0f7a4_44 rfl (lv_at hl 1 rfl) ?_
        refine lv_bipush (v := 8) hx hb dJ6_numberOfTrailingZeros_0f7a4_45 (by decide) ?_
        refine lv_iushr hx hb dJ6_numberOfTrailingZeros_0f7a4_47 rfl ?_
        refine lv_topi (fun t21 et21 => ?_)
        refine lv_istore_n (lv' := [(0, .int t21), (1, .int 9)]) hx hb dJ6_numberOfTrailingZeros_0f7a4_48 rfl hl (by decide) rfl (fun ls hl => ?_)
        refine lv_iload_n hx hb dJ6_numberOfTrailingZeros_0f7a4_49 rfl (lv_at hl 0 rfl) ?_
        refine lv_bipush (v := 16) hx hb dJ6_numberOfTrailingZeros_0f7a4_50 (by decide) ?_
        refine lv_icmp_le (tgt := 62) hx hb dJ6_numberOfTrailingZeros_0f7a4_52 (by decide) (fun c22 => ?_) (fun c22 => ?_)
        · skip
          have zc22 : t21.toInt ≤ 16 := by rw [fa_le, show (16 : Int32).toInt = 16 from by decide] at c22; exact c22
          refine lv_iload_n hx hb dJ6_numberOfTrailingZeros_0f7a4_62 rfl (lv_at hl 0 rfl) ?_
          refine lv_iconst (v := 4) hx hb dJ6_numberOfTrailingZeros_0f7a4_63 (by decide) ?_
          refine lv_icmp_le (tgt := 74) hx hb dJ6_numberOfTrailingZeros_0f7a4_64 (by decide) (fun c23 => ?_) (fun c23 => ?_)
          · skip
            have zc23 : t21.toInt ≤ 4 := by rw [fa_le, show (4 : Int32).toInt = 4 from by decide] at c23; exact c23
            refine lv_iload_n hx hb dJ6_numberOfTrailingZeros_0f7a4_74 rfl (lv_at hl 1 rfl) ?_
            refine lv_iload_n hx hb dJ6_numberOfTrailingZeros_0f7a4_75 rfl (lv_at hl 0 rfl) ?_
            refine lv_iconst (v := 1) hx hb dJ6_numberOfTrailingZeros_0f7a4_76 (by decide) ?_
            refine lv_iushr hx hb dJ6_numberOfTrailingZeros_0f7a4_77 rfl ?_
            refine lv_topi (fun t24 et24 => ?_)
            refine lv_iadd hx hb dJ6_numberOfTrailingZeros_0f7a4_78 ?_
            refine lv_topi (fun t25 et25 => ?_)
            exact ret t25 () _ _ _ _ _ _ rfl trivial hP hD hS dJ6_numberOfTrailingZeros_0f7a4_79 (Nat.le_refl _) (Nat.le_refl _)
          · skip
            have zc23 : ¬ (t21.toInt ≤ 4) := by rw [fa_le, show (4 : Int32).toInt = 4 from by decide] at c23; exact c23
            refine lv_iinc (v := 11) (lv' := [(1, .int 11), (0, .int t21)]) hx hb dJ6_numberOfTrailingZeros_0f7a4_67 hl (k := 1) rfl (by decide) (by decide) rfl (fun ls hl => ?_)
            refine lv_iload_n hx hb dJ6_numberOfTrailingZeros_0f7a4_70 rfl (lv_at hl 1 rfl) ?_
            refine lv_iconst (v := 2) hx hb dJ6_numberOfTrailingZeros_0f7a4_71 (by decide) ?_
            refine lv_iushr hx hb dJ6_numberOfTrailingZeros_0f7a4_72 rfl ?_
            refine lv_topi (fun t26 et26 => ?_)
            refine lv_istore_n (lv' := [(0, .int t26), (1, .int 11)]) hx hb dJ6_numberOfTrailingZeros_0f7a4_73 rfl hl (by decide) rfl (fun ls hl => ?_)
            refine lv_iload_n hx hb dJ6_numberOfTrailingZeros_0f7a4_74 rfl (lv_at hl 1 rfl) ?_
            refine lv_iload_n hx hb dJ6_numberOfTrailingZeros_0f7a4_75 rfl (lv_at hl 0 rfl) ?_
            refine lv_iconst (v := 1) hx hb dJ6_numberOfTrailingZeros_0f7a4_76 (by decide) ?_
            refine lv_iushr hx hb dJ6_numberOfTrailingZeros_0f7a4_77 rfl ?_
            refine lv_topi (fun t27 et27 => ?_)
            refine lv_iadd hx hb dJ6_numberOfTrailingZeros_0f7a4_78 ?_
            refine lv_topi (fun t28 et28 => ?_)
            exact ret t28 () _ _ _ _ _ _ rfl trivial hP hD hS dJ6_numberOfTrailingZeros_0f7a4_79 (Nat.le_refl _) (Nat.le_refl _)
        · skip
          have zc22 : ¬ (t21.toInt ≤ 16) := by rw [fa_le, show (16 : Int32).toInt = 16 from by decide] at c22; exact c22
          refine lv_iinc (v := 13) (lv' := [(1, .int 13), (0, .int t21)]) hx hb dJ6_numberOfTrailingZeros_0f7a4_55 hl (k := 1) rfl (by decide) (by decide) rfl (fun ls hl => ?_)
          refine lv_iload_n hx hb dJ6_numberOfTrailingZeros_0f7a4_58 rfl (lv_at hl 1 rfl) ?_
          refine lv_iconst (v := 4) hx hb dJ6_numberOfTrailingZeros_0f7a4_59 (by decide) ?_
          refine lv_iushr hx hb dJ6_numberOfTrailingZeros_0f7a4_60 rfl ?_
          refine lv_topi (fun t29 et29 => ?_)
          refine lv_istore_n (lv' := [(0, .int t29), (1, .int 13)]) hx hb dJ6_numberOfTrailingZeros_0f7a4_61 rfl hl (by decide) rfl (fun ls hl => ?_)
          refine lv_iload_n hx hb dJ6_numberOfTrailingZeros_0f7a4_62 rfl (lv_at hl 0 rfl) ?_
          refine lv_iconst (v := 4) hx hb dJ6_numberOfTrailingZeros_0f7a4_63 (by decide) ?_
          refine lv_icmp_le (tgt := 74) hx hb dJ6_numberOfTrailingZeros_0f7a4_64 (by decide) (fun c30 => ?_) (fun c30 => ?_)
          · skip
            have zc30 : t29.toInt ≤ 4 := by rw [fa_le, show (4 : Int32).toInt = 4 from by decide] at c30; exact c30
            refine lv_iload_n hx hb dJ6_numberOfTrailingZeros_0f7a4_74 rfl (lv_at hl 1 rfl) ?_
            refine lv_iload_n hx hb dJ6_numberOfTrailingZeros_0f7a4_75 rfl (lv_at hl 0 rfl) ?_
            refine lv_iconst (v := 1) hx hb dJ6_numberOfTrailingZeros_0f7a4_76 (by decide) ?_
            refine lv_iushr hx hb dJ6_numberOfTrailingZeros_0f7a4_77 rfl ?_
            refine lv_topi (fun t31 et31 => ?_)
            refine lv_iadd hx hb dJ6_numberOfTrailingZeros_0f7a4_78 ?_
            refine lv_topi (fun t32 et32 => ?_)
            exact ret t32 () _ _ _ _ _ _ rfl trivial hP hD hS dJ6_numberOfTrailingZeros_0f7a4_79 (Nat.le_refl _) (Nat.le_refl _)
          · skip
            have zc30 : ¬ (t29.toInt ≤ 4) := by rw [fa_le, show (4 : Int32).toInt = 4 from by decide] at c30; exact c30
            refine lv_iinc (v := 15) (lv' := [(1, .int 15), (0, .int t29)]) hx hb dJ6_numberOfTrailingZeros_0f7a4_67 hl (k := 1) rfl (by decide) (by decide) rfl (fun ls hl => ?_)
            refine lv_iload_n hx hb dJ6_numberOfTrailingZeros_0f7a4_70 rfl (lv_at hl 1 rfl) ?_
            refine lv_iconst (v := 2) hx hb dJ6_numberOfTrailingZeros_0f7a4_71 (by decide) ?_
            refine lv_iushr hx hb dJ6_numberOfTrailingZeros_0f7a4_72 rfl ?_
            refine lv_topi (fun t33 et33 => ?_)
            refine lv_istore_n (lv' := [(0, .int t33), (1, .int 15)]) hx hb dJ6_numberOfTrailingZeros_0f7a4_73 rfl hl (by decide) rfl (fun ls hl => ?_)
            refine lv_iload_n hx hb dJ6_numberOfTrailingZeros_0f7a4_74 rfl (lv_at hl 1 rfl) ?_
            refine lv_iload_n hx hb dJ6_numberOfTrailingZeros_0f7a4_75 rfl (lv_at hl 0 rfl) ?_
            refine lv_iconst (v := 1) hx hb dJ6_numberOfTrailingZeros_0f7a4_76 (by decide) ?_
            refine lv_iushr hx hb dJ6_numberOfTrailingZeros_0f7a4_77 rfl ?_
            refine lv_topi (fun t34 et34 => ?_)
            refine lv_iadd hx hb dJ6_numberOfTrailingZeros_0f7a4_78 ?_
            refine lv_topi (fun t35 et35 => ?_)
            exact ret t35 () _ _ _ _ _ _ rfl trivial hP hD hS dJ6_numberOfTrailingZeros_0f7a4_79 (Nat.le_refl _) (Nat.le_refl _)
    · skip
      have zc5 : ¬ (t3.toInt ≤ 65536) := by rw [fa_le, show (65536 : Int32).toInt = 65536 from by decide] at c5; exact c5
      refine lv_iinc (v := 17) (lv' := [(1, .int 17), (0, .int t3)]) hx hb dJ6_numberOfTrailingZeros_0f7a4_26 hl (k := 0) rfl (by decide) (by decide) rfl (fun ls hl => ?_)
      refine lv_iload_n hx hb dJ6_numberOfTrailingZeros_0f7a4_29 rfl (lv_at hl 1 rfl) ?_
      refine lv_bipush (v := 16) hx hb dJ6_numberOfTrailingZeros_0f7a4_30 (by decide) ?_
      refine lv_iushr hx hb dJ6_numberOfTrailingZeros_0f7a4_32 rfl ?_
      refine lv_topi (fun t36 et36 => ?_)
      refine lv_istore_n (lv' := [(0, .int t36), (1, .int 17)]) hx hb dJ6_numberOfTrailingZeros_0f7a4_33 rfl hl (by decide) rfl (fun ls hl => ?_)
      refine lv_iload_n hx hb dJ6_numberOfTrailingZeros_0f7a4_34 rfl (lv_at hl 0 rfl) ?_
      refine lv_sipush (v := 256) hx hb dJ6_numberOfTrailingZeros_0f7a4_35 (by decide) ?_
      refine lv_icmp_le (tgt := 49) hx hb dJ6_numberOfTrailingZeros_0f7a4_38 (by decide) (fun c37 => ?_) (fun c37 => ?_)
      · skip
        have zc37 : t36.toInt ≤ 256 := by rw [fa_le, show (256 : Int32).toInt = 256 from by decide] at c37; exact c37
        refine lv_iload_n hx hb dJ6_numberOfTrailingZeros_0f7a4_49 rfl (lv_at hl 0 rfl) ?_
        refine lv_bipush (v := 16) hx hb dJ6_numberOfTrailingZeros_0f7a4_50 (by decide) ?_
        refine lv_icmp_le (tgt := 62) hx hb dJ6_numberOfTrailingZeros_0f7a4_52 (by decide) (fun c38 => ?_) (fun c38 => ?_)
        · skip
          have zc38 : t36.toInt ≤ 16 := by rw [fa_le, show (16 : Int32).toInt = 16 from by decide] at c38; exact c38
          refine lv_iload_n hx hb dJ6_numberOfTrailingZeros_0f7a4_62 rfl (lv_at hl 0 rfl) ?_
          refine lv_iconst (v := 4) hx hb dJ6_numberOfTrailingZeros_0f7a4_63 (by decide) ?_
          refine lv_icmp_le (tgt := 74) hx hb dJ6_numberOfTrailingZeros_0f7a4_64 (by decide) (fun c39 => ?_) (fun c39 => ?_)
          · skip
            have zc39 : t36.toInt ≤ 4 := by rw [fa_le, show (4 : Int32).toInt = 4 from by decide] at c39; exact c39
            refine lv_iload_n hx hb dJ6_numberOfTrailingZeros_0f7a4_74 rfl (lv_at hl 1 rfl) ?_
            refine lv_iload_n hx hb dJ6_numberOfTrailingZeros_0f7a4_75 rfl (lv_at hl 0 rfl) ?_
            refine lv_iconst (v := 1) hx hb dJ6_numberOfTrailingZeros_0f7a4_76 (by decide) ?_
            refine lv_iushr hx hb dJ6_numberOfTrailingZeros_0f7a4_77 rfl ?_
            refine lv_topi (fun t40 et40 => ?_)
            refine lv_iadd hx hb dJ6_numberOfTrailingZeros_0f7a4_78 ?_
            refine lv_topi (fun t41 et41 => ?_)
            exact ret t41 () _ _ _ _ _ _ rfl trivial hP hD hS dJ6_numberOfTrailingZeros_0f7a4_79 (Nat.le_refl _) (Nat.le_refl _)
          · skip
            have zc39 : ¬ (t36.toInt ≤ 4) := by rw [fa_le, show (4 : Int32).toInt = 4 from by decide] at c39; exact c39
            refine lv_iinc (v := 19) (lv' := [(1, .int 19), (0, .int t36)]) hx hb dJ6_numberOfTrailingZeros_0f7a4_67 hl (k := 1) rfl (by decide) (by decide) rfl (fun ls hl => ?_)
            refine lv_iload_n hx hb dJ6_numberOfTrailingZeros_0f7a4_70 rfl (lv_at hl 1 rfl) ?_
            refine lv_iconst (v := 2) hx hb dJ6_numberOfTrailingZeros_0f7a4_71 (by decide) ?_
            refine lv_iushr hx hb dJ6_numberOfTrailingZeros_0f7a4_72 rfl ?_
            refine lv_topi (fun t42 et42 => ?_)
            refine lv_istore_n (lv' := [(0, .int t42), (1, .int 19)]) hx hb dJ6_numberOfTrailingZeros_0f7a4_73 rfl hl (by decide) rfl (fun ls hl => ?_)
            refine lv_iload_n hx hb dJ6_numberOfTrailingZeros_0f7a4_74 rfl (lv_at hl 1 rfl) ?_
            refine lv_iload_n hx hb dJ6_numberOfTrailingZeros_0f7a4_75 rfl (lv_at hl 0 rfl) ?_
            refine lv_iconst (v := 1) hx hb dJ6_numberOfTrailingZeros_0f7a4_76 (by decide) ?_
            refine lv_iushr hx hb dJ6_numberOfTrailingZeros_0f7a4_77 rfl ?_
            refine lv_topi (fun t43 et43 => ?_)
            refine lv_iadd hx hb dJ6_numberOfTrailingZeros_0f7a4_78 ?_
            refine lv_topi (fun t44 et44 => ?_)
            exact ret t44 () _ _ _ _ _ _ rfl trivial hP hD hS dJ6_numberOfTrailingZeros_0f7a4_79 (Nat.le_refl _) (Nat.le_refl _)
        · skip
          have zc38 : ¬ (t36.toInt ≤ 16) := by rw [fa_le, show (16 : Int32).toInt = 16 from by decide] at c38; exact c38
          refine lv_iinc (v := 21) (lv' := [(1, .int 21), (0, .int t36)]) hx hb dJ6_numberOfTrailingZeros_0f7a4_55 hl (k := 1) rfl (by decide) (by decide) rfl (fun ls hl => ?_)
          refine lv_iload_n hx hb dJ6_numberOfTrailingZeros_0f7a4_58 rfl (lv_at hl 1 rfl) ?_
          refine lv_iconst (v := 4) hx hb dJ6_numberOfTrailingZeros_0f7a4_59 (by decide) ?_
          refine lv_iushr hx hb dJ6_numberOfTrailingZeros_0f7a4_60 rfl ?_
          refine lv_topi (fun t45 et45 => ?_)
          refine lv_istore_n (lv' := [(0, .int t45), (1, .int 21)]) hx hb dJ6_numberOfTrailingZeros_0f7a4_61 rfl hl (by decide) rfl (fun ls hl => ?_)
          refine lv_iload_n hx hb dJ6_numberOfTrailingZeros_0f7a4_62 rfl (lv_at hl 0 rfl) ?_
          refine lv_iconst (v := 4) hx hb dJ6_numberOfTrailingZeros_0f7a4_63 (by decide) ?_
          refine lv_icmp_le (tgt := 74) hx hb dJ6_numberOfTrailingZeros_0f7a4_64 (by decide) (fun c46 => ?_) (fun c46 => ?_)
          · skip
            have zc46 : t45.toInt ≤ 4 := by rw [fa_le, show (4 : Int32).toInt = 4 from by decide] at c46; exact c46
            refine lv_iload_n hx hb dJ6_numberOfTrailingZeros_0f7a4_74 rfl (lv_at hl 1 rfl) ?_
            refine lv_iload_n hx hb dJ6_numberOfTrailingZeros_0f7a4_75 rfl (lv_at hl 0 rfl) ?_
            refine lv_iconst (v := 1) hx hb dJ6_numberOfTrailingZeros_0f7a4_76 (by decide) ?_
            refine lv_iushr hx hb dJ6_numberOfTrailingZeros_0f7a4_77 rfl ?_
            refine lv_topi (fun t47 et47 => ?_)
            refine lv_iadd hx hb dJ6_numberOfTrailingZeros_0f7a4_78 ?_
            refine lv_topi (fun t48 et48 => ?_)
            exact ret t48 () _ _ _ _ _ _ rfl trivial hP hD hS dJ6_numberOfTrailingZeros_0f7a4_79 (Nat.le_refl _) (Nat.le_refl _)
          · skip
            have zc46 : ¬ (t45.toInt ≤ 4) := by rw [fa_le, show (4 : Int32).toInt = 4 from by decide] at c46; exact c46
            refine lv_iinc (v := 23) (lv' := [(1, .int 23), (0, .int t45)]) hx hb dJ6_numberOfTrailingZeros_0f7a4_67 hl (k := 1) rfl (by decide) (by decide) rfl (fun ls hl => ?_)
            refine lv_iload_n hx hb dJ6_numberOfTrailingZeros_0f7a4_70 rfl (lv_at hl 1 rfl) ?_
            refine lv_iconst (v := 2) hx hb dJ6_numberOfTrailingZeros_0f7a4_71 (by decide) ?_
            refine lv_iushr hx hb dJ6_numberOfTrailingZeros_0f7a4_72 rfl ?_
            refine lv_topi (fun t49 et49 => ?_)
            refine lv_istore_n (lv' := [(0, .int t49), (1, .int 23)]) hx hb dJ6_numberOfTrailingZeros_0f7a4_73 rfl hl (by decide) rfl (fun ls hl => ?_)
            refine lv_iload_n hx hb dJ6_numberOfTrailingZeros_0f7a4_74 rfl (lv_at hl 1 rfl) ?_
            refine lv_iload_n hx hb dJ6_numberOfTrailingZeros_0f7a4_75 rfl (lv_at hl 0 rfl) ?_
            refine lv_iconst (v := 1) hx hb dJ6_numberOfTrailingZeros_0f7a4_76 (by decide) ?_
            refine lv_iushr hx hb dJ6_numberOfTrailingZeros_0f7a4_77 rfl ?_
            refine lv_topi (fun t50 et50 => ?_)
            refine lv_iadd hx hb dJ6_numberOfTrailingZeros_0f7a4_78 ?_
            refine lv_topi (fun t51 et51 => ?_)
            exact ret t51 () _ _ _ _ _ _ rfl trivial hP hD hS dJ6_numberOfTrailingZeros_0f7a4_79 (Nat.le_refl _) (Nat.le_refl _)
      · skip
        have zc37 : ¬ (t36.toInt ≤ 256) := by rw [fa_le, show (256 : Int32).toInt = 256 from by decide] at c37; exact c37
        refine lv_iinc (v := 25) (lv' := [(1, .int 25), (0, .int t36)]) hx hb dJ6_numberOfTrailingZeros_0f7a4_41 hl (k := 1) rfl (by decide) (by decide) rfl (fun ls hl => ?_)
        refine lv_iload_n hx hb dJ6_numberOfTrailingZeros_0f7a4_44 rfl (lv_at hl 1 rfl) ?_
        refine lv_bipush (v := 8) hx hb dJ6_numberOfTrailingZeros_0f7a4_45 (by decide) ?_
        refine lv_iushr hx hb dJ6_numberOfTrailingZeros_0f7a4_47 rfl ?_
        refine lv_topi (fun t52 et52 => ?_)
        refine lv_istore_n (lv' := [(0, .int t52), (1, .int 25)]) hx hb dJ6_numberOfTrailingZeros_0f7a4_48 rfl hl (by decide) rfl (fun ls hl => ?_)
        refine lv_iload_n hx hb dJ6_numberOfTrailingZeros_0f7a4_49 rfl (lv_at hl 0 rfl) ?_
        refine lv_bipush (v := 16) hx hb dJ6_numberOfTrailingZeros_0f7a4_50 (by decide) ?_
        refine lv_icmp_le (tgt := 62) hx hb dJ6_numberOfTrailingZeros_0f7a4_52 (by decide) (fun c53 => ?_) (fun c53 => ?_)
        · skip
          have zc53 : t52.toInt ≤ 16 := by rw [fa_le, show (16 : Int32).toInt = 16 from by decide] at c53; exact c53
          refine lv_iload_n hx hb dJ6_numberOfTrailingZeros_0f7a4_62 rfl (lv_at hl 0 rfl) ?_
          refine lv_iconst (v := 4) hx hb dJ6_numberOfTrailingZeros_0f7a4_63 (by decide) ?_
          refine lv_icmp_le (tgt := 74) hx hb dJ6_numberOfTrailingZeros_0f7a4_64 (by decide) (fun c54 => ?_) (fun c54 => ?_)
          · skip
            have zc54 : t52.toInt ≤ 4 := by rw [fa_le, show (4 : Int32).toInt = 4 from by decide] at c54; exact c54
            refine lv_iload_n hx hb dJ6_numberOfTrailingZeros_0f7a4_74 rfl (lv_at hl 1 rfl) ?_
            refine lv_iload_n hx hb dJ6_numberOfTrailingZeros_0f7a4_75 rfl (lv_at hl 0 rfl) ?_
            refine lv_iconst (v := 1) hx hb dJ6_numberOfTrailingZeros_0f7a4_76 (by decide) ?_
            refine lv_iushr hx hb dJ6_numberOfTrailingZeros_0f7a4_77 rfl ?_
            refine lv_topi (fun t55 et55 => ?_)
            refine lv_iadd hx hb dJ6_numberOfTrailingZeros_0f7a4_78 ?_
            refine lv_topi (fun t56 et56 => ?_)
            exact ret t56 () _ _ _ _ _ _ rfl trivial hP hD hS dJ6_numberOfTrailingZeros_0f7a4_79 (Nat.le_refl _) (Nat.le_refl _)
          · skip
            have zc54 : ¬ (t52.toInt ≤ 4) := by rw [fa_le, show (4 : Int32).toInt = 4 from by decide] at c54; exact c54
            refine lv_iinc (v := 27) (lv' := [(1, .int 27), (0, .int t52)]) hx hb dJ6_numberOfTrailingZeros_0f7a4_67 hl (k := 1) rfl (by decide) (by decide) rfl (fun ls hl => ?_)
            refine lv_iload_n hx hb dJ6_numberOfTrailingZeros_0f7a4_70 rfl (lv_at hl 1 rfl) ?_
            refine lv_iconst (v := 2) hx hb dJ6_numberOfTrailingZeros_0f7a4_71 (by decide) ?_
            refine lv_iushr hx hb dJ6_numberOfTrailingZeros_0f7a4_72 rfl ?_
            refine lv_topi (fun t57 et57 => ?_)
            refine lv_istore_n (lv' := [(0, .int t57), (1, .int 27)]) hx hb dJ6_numberOfTrailingZeros_0f7a4_73 rfl hl (by decide) rfl (fun ls hl => ?_)
            refine lv_iload_n hx hb dJ6_numberOfTrailingZeros_0f7a4_74 rfl (lv_at hl 1 rfl) ?_
            refine lv_iload_n hx hb dJ6_numberOfTrailingZeros_0f7a4_75 rfl (lv_at hl 0 rfl) ?_
            refine lv_iconst (v := 1) hx hb dJ6_numberOfTrailingZeros_0f7a4_76 (by decide) ?_
            refine lv_iushr hx hb dJ6_numberOfTrailingZeros_0f7a4_77 rfl ?_
            refine lv_topi (fun t58 et58 => ?_)
            refine lv_iadd hx hb dJ6_numberOfTrailingZeros_0f7a4_78 ?_
            refine lv_topi (fun t59 et59 => ?_)
            exact ret t59 () _ _ _ _ _ _ rfl trivial hP hD hS dJ6_numberOfTrailingZeros_0f7a4_79 (Nat.le_refl _) (Nat.le_refl _)
        · skip
          have zc53 : ¬ (t52.toInt ≤ 16) := by rw [fa_le, show (16 : Int32).toInt = 16 from by decide] at c53; exact c53
          refine lv_iinc (v := 29) (lv' := [(1, .int 29), (0, .int t52)]) hx hb dJ6_numberOfTrailingZeros_0f7a4_55 hl (k := 1) rfl (by decide) (by decide) rfl (fun ls hl => ?_)
          refine lv_iload_n hx hb dJ6_numberOfTrailingZeros_0f7a4_58 rfl (lv_at hl 1 rfl) ?_
          refine lv_iconst (v := 4) hx hb dJ6_numberOfTrailingZeros_0f7a4_59 (by decide) ?_
          refine lv_iushr hx hb dJ6_numberOfTrailingZeros_0f7a4_60 rfl ?_
          refine lv_topi (fun t60 et60 => ?_)
          refine lv_istore_n (lv' := [(0, .int t60), (1, .int 29)]) hx hb dJ6_numberOfTrailingZeros_0f7a4_61 rfl hl (by decide) rfl (fun ls hl => ?_)
          refine lv_iload_n hx hb dJ6_numberOfTrailingZeros_0f7a4_62 rfl (lv_at hl 0 rfl) ?_
          refine lv_iconst (v := 4) hx hb dJ6_numberOfTrailingZeros_0f7a4_63 (by decide) ?_
          refine lv_icmp_le (tgt := 74) hx hb dJ6_numberOfTrailingZeros_0f7a4_64 (by decide) (fun c61 => ?_) (fun c61 => ?_)
          · skip
            have zc61 : t60.toInt ≤ 4 := by rw [fa_le, show (4 : Int32).toInt = 4 from by decide] at c61; exact c61
            refine lv_iload_n hx hb dJ6_numberOfTrailingZeros_0f7a4_74 rfl (lv_at hl 1 rfl) ?_
            refine lv_iload_n hx hb dJ6_numberOfTrailingZeros_0f7a4_75 rfl (lv_at hl 0 rfl) ?_
            refine lv_iconst (v := 1) hx hb dJ6_numberOfTrailingZeros_0f7a4_76 (by decide) ?_
            refine lv_iushr hx hb dJ6_numberOfTrailingZeros_0f7a4_77 rfl ?_
            refine lv_topi (fun t62 et62 => ?_)
            refine lv_iadd hx hb dJ6_numberOfTrailingZeros_0f7a4_78 ?_
            refine lv_topi (fun t63 et63 => ?_)
            exact ret t63 () _ _ _ _ _ _ rfl trivial hP hD hS dJ6_numberOfTrailingZeros_0f7a4_79 (Nat.le_refl _) (Nat.le_refl _)
          · skip
            have zc61 : ¬ (t60.toInt ≤ 4) := by rw [fa_le, show (4 : Int32).toInt = 4 from by decide] at c61; exact c61
            refine lv_iinc (v := 31) (lv' := [(1, .int 31), (0, .int t60)]) hx hb dJ6_numberOfTrailingZeros_0f7a4_67 hl (k := 1) rfl (by decide) (by decide) rfl (fun ls hl => ?_)
            refine lv_iload_n hx hb dJ6_numberOfTrailingZeros_0f7a4_70 rfl (lv_at hl 1 rfl) ?_
            refine lv_iconst (v := 2) hx hb dJ6_numberOfTrailingZeros_0f7a4_71 (by decide) ?_
            refine lv_iushr hx hb dJ6_numberOfTrailingZeros_0f7a4_72 rfl ?_
            refine lv_topi (fun t64 et64 => ?_)
            refine lv_istore_n (lv' := [(0, .int t64), (1, .int 31)]) hx hb dJ6_numberOfTrailingZeros_0f7a4_73 rfl hl (by decide) rfl (fun ls hl => ?_)
            refine lv_iload_n hx hb dJ6_numberOfTrailingZeros_0f7a4_74 rfl (lv_at hl 1 rfl) ?_
            refine lv_iload_n hx hb dJ6_numberOfTrailingZeros_0f7a4_75 rfl (lv_at hl 0 rfl) ?_
            refine lv_iconst (v := 1) hx hb dJ6_numberOfTrailingZeros_0f7a4_76 (by decide) ?_
            refine lv_iushr hx hb dJ6_numberOfTrailingZeros_0f7a4_77 rfl ?_
            refine lv_topi (fun t65 et65 => ?_)
            refine lv_iadd hx hb dJ6_numberOfTrailingZeros_0f7a4_78 ?_
            refine lv_topi (fun t66 et66 => ?_)
            exact ret t66 () _ _ _ _ _ _ rfl trivial hP hD hS dJ6_numberOfTrailingZeros_0f7a4_79 (Nat.le_refl _) (Nat.le_refl _)
  · skip
    have zc4 : ¬ (0 < t3.toInt) := by rw [fa_lt, show (0 : Int32).toInt = 0 from by decide] at c4; exact c4
    refine lv_iload_n hx hb dJ6_numberOfTrailingZeros_0f7a4_12 rfl (lv_at hl 0 rfl) ?_
    refine lv_bipush (v := 32) hx hb dJ6_numberOfTrailingZeros_0f7a4_13 (by decide) ?_
    refine lv_iand hx hb dJ6_numberOfTrailingZeros_0f7a4_15 ?_
    refine lv_topi (fun t67 et67 => ?_)
    exact ret t67 () _ _ _ _ _ _ rfl trivial hP hD hS dJ6_numberOfTrailingZeros_0f7a4_16 (Nat.le_refl _) (Nat.le_refl _)
set_option maxHeartbeats 4000000 in
set_option maxRecDepth 100000 in
theorem sX_X10_sure_1 (l : Launch) (dC : Nat → ClassId) (dI : Nat → Nat → Nat) (cy : Nat → ClassId) (x0 : Nat) (x : Nat → Nat) (p1 : Int32) (p2 : Int32) (v : Nat → Int32) (f : Nat → Nat → Int32) (hIv : XI v)  : ctI l (dC, dI) cy yX10_sure cX10_sure 4 .int 6 183 0 0 ((Nat → Int32) × (Nat → Nat → Int32)) [.ref x0, .int p1, .int p2] (XW cy x0 x v f) (fun r u => KV [] u.1 v ∧ KF [13, 14, 27] u.2 f ∧ XI u.1 ∧ u.1 0 = v 0 ∧ u.1 1 = v 1 ∧ u.1 7 = v 7 ∧ u.1 8 = v 8 ∧ u.1 9 = v 9 ∧ u.1 10 = v 10 ∧ u.1 31 = v 31 ∧ u.1 32 = v 32) (fun u => XW cy x0 x u.1 u.2) := by
  refine ctI_of (by decide) (Nat.le_of_ble_eq_true rfl) (fun p e s m below meth c A ls Q hx hb hml hts hown hE hP hD hA hl ret => ?_)
  have hM_v : KV [] v v := fun _ _ => rfl
  have hA_f : KF [13, 14, 27] f f := fun _ _ => rfl
  have hown : s.vm.findClass RX10 = some m.cls := hown
  have hS : va_S A s.heap s.heap [] := va_S.rf
  have hl : lv_has ls 4 [(0, .ref x0), (1, .int p1), (2, .int p2)] := hl
  refine lv_aload_n hx hb dX10_sure_0 rfl (lv_at hl 0 rfl) ?_
  refine va_get (D := (dC, dI)) (ci := 10) (v := .ref (x 35)) (C := RX10) (T := TX10) (N := 10) hx hb hts inB_10 hown hE.1 hP 0 rfl rfl 8 (by decide) (hts _ k_499) (fun _ h9 => h9) rfl dX10_sure_1 ?_
  refine lv_iload_n hx hb dX10_sure_4 rfl (lv_at hl 2 rfl) ?_
  refine cbVi (n := 1) (rest := []) hx hb hml hown hts hE hP hD hS hA (sX_X8_growthsAt_1 l dC dI cy x0 x p2 v f hIv ) k_1247 k_1248 k_1249 k_112 k_1250 (by decide +kernel) ⟨Nat.le_of_ble_eq_true rfl, Nat.le_of_ble_eq_true rfl⟩ 36 8 rfl rfl (rfl) hl.1 rfl (Nat.le_of_ble_eq_true rfl) dX10_sure_5 (fun r1 u H locs hw hP hD hS => ?_)
  obtain ⟨v2, f3⟩ := u
  obtain ⟨kV_v2, kF_f3, hIv2, hk0_v2, hk1_v2, hk7_v2, hk8_v2, hk9_v2, hk10_v2, hk31_v2, hk32_v2⟩ := hw
  have hM_v2 : KV [] v2 v := KV.tr kV_v2 hM_v rfl
  have hA_f3 : KF [13, 14, 27] f3 f := KF.tr kF_f3 hA_f rfl
  have hP : va_P (dC, dI) vwCl (XW cy x0 x v2 f3) H := hP
  have hD : va_D A (XW cy x0 x v2 f3) := hD
  have hq0_v2 : v2 0 = (v 0) := hk0_v2
  have hq1_v2 : v2 1 = (v 1) := hk1_v2
  have hq7_v2 : v2 7 = (v 7) := hk7_v2
  have hq8_v2 : v2 8 = (v 8) := hk8_v2
  have hq9_v2 : v2 9 = (v 9) := hk9_v2
  have hq10_v2 : v2 10 = (v 10) := hk10_v2
  have hq31_v2 : v2 31 = (v 31) := hk31_v2
  have hq32_v2 : v2 32 = (v 32) := hk32_v2
  refine lv_istore_n (lv' := [(3, .int r1), (0, .ref x0), (1, .int p1), (2, .int p2)]) hx hb dX10_sure_8 rfl hl (by decide) rfl (fun ls hl => ?_)
  refine lv_iload_n hx hb dX10_sure_9 rfl (lv_at hl 0 rfl) ?_
  refine lv_if_eq (tgt := 22) hx hb dX10_sure_10 (by decide) (fun c4 => ?_) (fun c4 => ?_)
  · skip
    have zc4 : r1.toInt = 0 := by rw [fa_eq, show (0 : Int32).toInt = 0 from by decide] at c4; exact c4
    refine lv_iconst (v := (-1)) hx hb dX10_sure_22 (by decide) ?_
    exact ret (-1) (v2, f3) _ _ _ _ _ _ rfl ⟨hM_v2, hA_f3, hIv2, hk0_v2, hk1_v2, hk7_v2, hk8_v2, hk9_v2, hk10_v2, hk31_v2, hk32_v2⟩ hP hD hS dX10_sure_23 (Nat.le_refl _) (Nat.le_refl _)
  · skip
    have zc4 : ¬ (r1.toInt = 0) := by rw [fa_eq, show (0 : Int32).toInt = 0 from by decide] at c4; exact c4
    refine lv_iload_n hx hb dX10_sure_13 rfl (lv_at hl 2 rfl) ?_
    refine lv_if_lt (tgt := 22) hx hb dX10_sure_14 (by decide) (fun c5 => ?_) (fun c5 => ?_)
    · skip
      have zc5 : p1.toInt < 0 := by rw [fa_lt, show (0 : Int32).toInt = 0 from by decide] at c5; exact c5
      refine lv_iconst (v := (-1)) hx hb dX10_sure_22 (by decide) ?_
      exact ret (-1) (v2, f3) _ _ _ _ _ _ rfl ⟨hM_v2, hA_f3, hIv2, hk0_v2, hk1_v2, hk7_v2, hk8_v2, hk9_v2, hk10_v2, hk31_v2, hk32_v2⟩ hP hD hS dX10_sure_23 (Nat.le_refl _) (Nat.le_refl _)
    · skip
      have zc5 : ¬ (p1.toInt < 0) := by rw [fa_lt, show (0 : Int32).toInt = 0 from by decide] at c5; exact c5
      refine lv_iload_n hx hb dX10_sure_17 rfl (lv_at hl 2 rfl) ?_
      refine lv_iconst (v := 1) hx hb dX10_sure_18 (by decide) ?_
      refine lv_icmp_le (tgt := 24) hx hb dX10_sure_19 (by decide) (fun c6 => ?_) (fun c6 => ?_)
      · skip
        have zc6 : p1.toInt ≤ 1 := by rw [fa_le, show (1 : Int32).toInt = 1 from by decide] at c6; exact c6
        refine lv_iload_n hx hb dX10_sure_24 rfl (lv_at hl 2 rfl) ?_
        refine lv_if_ne (tgt := 35) hx hb dX10_sure_25 (by decide) (fun c7 => ?_) (fun c7 => ?_)
        · skip
          have zc7 : ¬ (p1.toInt = 0) := by rw [fa_eq, show (0 : Int32).toInt = 0 from by decide] at c7; exact c7
          refine lv_bipush (v := 31) hx hb dX10_sure_35 (by decide) ?_
          refine lv_iload_n hx hb dX10_sure_37 rfl (lv_at hl 0 rfl) ?_
          refine cbSi (n := 1) (rest := [.int 31]) hx hb hml hown hts hE hP hD hS hA (sX_J6_numberOfLeadingZeros_0f7a4_1 l dC dI cy x0 x r1 v2 f3 hIv2 ) k_1272 k_1273 k_121 k_1274 (by decide +kernel) ⟨Nat.le_of_ble_eq_true rfl, Nat.le_of_ble_eq_true rfl⟩ (rfl) hl.1 rfl (Nat.le_of_ble_eq_true rfl) dX10_sure_38 (fun r8 u H locs hw hP hD hS => ?_)
          refine lv_isub hx hb dX10_sure_41 ?_
          refine lv_topi (fun t9 et9 => ?_)
          exact ret t9 (v2, f3) _ _ _ _ _ _ rfl ⟨hM_v2, hA_f3, hIv2, hk0_v2, hk1_v2, hk7_v2, hk8_v2, hk9_v2, hk10_v2, hk31_v2, hk32_v2⟩ hP hD hS dX10_sure_42 (Nat.le_refl _) (Nat.le_refl _)
        · skip
          have zc7 : p1.toInt = 0 := by rw [fa_eq, show (0 : Int32).toInt = 0 from by decide] at c7; exact c7
          refine lv_iload_n hx hb dX10_sure_28 rfl (lv_at hl 0 rfl) ?_
          refine cbSi (n := 1) (rest := []) hx hb hml hown hts hE hP hD hS hA (sX_J6_numberOfTrailingZeros_0f7a4_1 l dC dI cy x0 x r1 v2 f3 hIv2 ) k_1268 k_1269 k_121 k_1270 (by decide +kernel) ⟨Nat.le_of_ble_eq_true rfl, Nat.le_of_ble_eq_true rfl⟩ (rfl) hl.1 rfl (Nat.le_of_ble_eq_true rfl) dX10_sure_29 (fun r10 u H locs hw hP hD hS => ?_)
          refine lv_goto (tgt := 42) hx hb dX10_sure_32 (by decide) ?_
          exact ret r10 (v2, f3) _ _ _ _ _ _ rfl ⟨hM_v2, hA_f3, hIv2, hk0_v2, hk1_v2, hk7_v2, hk8_v2, hk9_v2, hk10_v2, hk31_v2, hk32_v2⟩ hP hD hS dX10_sure_42 (Nat.le_refl _) (Nat.le_refl _)
      · skip
        have zc6 : ¬ (p1.toInt ≤ 1) := by rw [fa_le, show (1 : Int32).toInt = 1 from by decide] at c6; exact c6
        refine lv_iconst (v := (-1)) hx hb dX10_sure_22 (by decide) ?_
        exact ret (-1) (v2, f3) _ _ _ _ _ _ rfl ⟨hM_v2, hA_f3, hIv2, hk0_v2, hk1_v2, hk7_v2, hk8_v2, hk9_v2, hk10_v2, hk31_v2, hk32_v2⟩ hP hD hS dX10_sure_23 (Nat.le_refl _) (Nat.le_refl _)
set_option maxHeartbeats 4000000 in
set_option maxRecDepth 100000 in
theorem sX_X8_leftAtMost_1 (l : Launch) (dC : Nat → ClassId) (dI : Nat → Nat → Nat) (cy : Nat → ClassId) (x0 : Nat) (x : Nat → Nat) (p1 : Int32) (p2 : Int32) (v : Nat → Int32) (f : Nat → Nat → Int32) (hIv : XI v)  : ctI l (dC, dI) cy yX8_leftAtMost cX8_leftAtMost 4 .int 5 158 0 0 ((Nat → Int32) × (Nat → Nat → Int32)) [.ref (x 35), .int p1, .int p2] (XW cy x0 x v f) (fun r u => KV [] u.1 v ∧ KF [13, 14, 27] u.2 f ∧ XI u.1 ∧ u.1 0 = v 0 ∧ u.1 1 = v 1 ∧ u.1 7 = v 7 ∧ u.1 8 = v 8 ∧ u.1 9 = v 9 ∧ u.1 10 = v 10 ∧ u.1 31 = v 31 ∧ u.1 32 = v 32) (fun u => XW cy x0 x u.1 u.2) := by
  refine ctI_of (by decide) (Nat.le_of_ble_eq_true rfl) (fun p e s m below meth c A ls Q hx hb hml hts hown hE hP hD hA hl ret => ?_)
  have hM_v : KV [] v v := fun _ _ => rfl
  have hA_f : KF [13, 14, 27] f f := fun _ _ => rfl
  have hown : s.vm.findClass RX8 = some m.cls := hown
  have hS : va_S A s.heap s.heap [] := va_S.rf
  have hl : lv_has ls 4 [(0, .ref (x 35)), (1, .int p1), (2, .int p2)] := hl
  refine lv_aload_n hx hb dX8_leftAtMost_0 rfl (lv_at hl 0 rfl) ?_
  refine lv_iload_n hx hb dX8_leftAtMost_1 rfl (lv_at hl 2 rfl) ?_
  refine cbVi (n := 1) (rest := []) hx hb hml hown hts hE hP hD hS hA (sX_X8_fittingBehind_1 l dC dI cy x0 x p2 v f hIv ) k_1252 k_1254 k_38 k_112 k_1255 (by decide +kernel) ⟨Nat.le_of_ble_eq_true rfl, Nat.le_of_ble_eq_true rfl⟩ 36 8 rfl rfl (rfl) hl.1 rfl (Nat.le_of_ble_eq_true rfl) dX8_leftAtMost_2 (fun r1 u H locs hw hP hD hS => ?_)
  obtain ⟨v2, f3⟩ := u
  obtain ⟨kV_v2, kF_f3, hIv2, hk0_v2, hk1_v2, hk7_v2, hk8_v2, hk9_v2, hk10_v2, hk31_v2, hk32_v2⟩ := hw
  have hM_v2 : KV [] v2 v := KV.tr kV_v2 hM_v rfl
  have hA_f3 : KF [13, 14, 27] f3 f := KF.tr kF_f3 hA_f rfl
  have hP : va_P (dC, dI) vwCl (XW cy x0 x v2 f3) H := hP
  have hD : va_D A (XW cy x0 x v2 f3) := hD
  have hq0_v2 : v2 0 = (v 0) := hk0_v2
  have hq1_v2 : v2 1 = (v 1) := hk1_v2
  have hq7_v2 : v2 7 = (v 7) := hk7_v2
  have hq8_v2 : v2 8 = (v 8) := hk8_v2
  have hq9_v2 : v2 9 = (v 9) := hk9_v2
  have hq10_v2 : v2 10 = (v 10) := hk10_v2
  have hq31_v2 : v2 31 = (v 31) := hk31_v2
  have hq32_v2 : v2 32 = (v 32) := hk32_v2
  refine lv_istore_n (lv' := [(3, .int r1), (0, .ref (x 35)), (1, .int p1), (2, .int p2)]) hx hb dX8_leftAtMost_5 rfl hl (by decide) rfl (fun ls hl => ?_)
  refine lv_iload_n hx hb dX8_leftAtMost_6 rfl (lv_at hl 2 rfl) ?_
  refine lv_iload_n hx hb dX8_leftAtMost_7 rfl (lv_at hl 0 rfl) ?_
  refine lv_iand hx hb dX8_leftAtMost_8 ?_
  refine lv_topi (fun t4 et4 => ?_)
  refine cbSi (n := 1) (rest := []) hx hb hml hown hts hE hP hD hS hA (sX_J6_bitCount_0f7a4_1 l dC dI cy x0 x t4 v2 f3 hIv2 ) k_1287 k_1043 k_121 k_1044 (by decide +kernel) ⟨Nat.le_of_ble_eq_true rfl, Nat.le_of_ble_eq_true rfl⟩ (rfl) hl.1 rfl (Nat.le_of_ble_eq_true rfl) dX8_leftAtMost_9 (fun r5 u H locs hw hP hD hS => ?_)
  refine lv_iload_n hx hb dX8_leftAtMost_12 rfl (lv_at hl 2 rfl) ?_
  refine lv_iload_n hx hb dX8_leftAtMost_13 rfl (lv_at hl 0 rfl) ?_
  refine lv_iconst (v := (-1)) hx hb dX8_leftAtMost_14 (by decide) ?_
  refine lv_ixor hx hb dX8_leftAtMost_15 ?_
  refine lv_topi (fun t6 et6 => ?_)
  refine lv_iand hx hb dX8_leftAtMost_16 ?_
  refine lv_topi (fun t7 et7 => ?_)
  refine cbSi (n := 1) (rest := [.int r5]) hx hb hml hown hts hE hP hD hS hA (sX_J6_bitCount_0f7a4_1 l dC dI cy x0 x t7 v2 f3 hIv2 ) k_1287 k_1043 k_121 k_1044 (by decide +kernel) ⟨Nat.le_of_ble_eq_true rfl, Nat.le_of_ble_eq_true rfl⟩ (rfl) hl.1 rfl (Nat.le_of_ble_eq_true rfl) dX8_leftAtMost_17 (fun r8 u H locs hw hP hD hS => ?_)
  refine va_mmax hx hb (by rw [hml]; exact hl.1.symm) hown (hts _ k_1288) (hts _ k_640) (hts _ k_119) (hts _ k_641) (Nat.le_of_ble_eq_true rfl) (Nat.le_of_ble_eq_true rfl) (Nat.le_of_ble_eq_true rfl) (Nat.le_of_ble_eq_true rfl) dX8_leftAtMost_20 ?_
  refine lv_topi (fun t9 et9 => ?_)
  have zt9 : t9.toInt = max (r5.toInt) (r8.toInt) := by rw [et9]; exact mmax_i rfl rfl
  exact ret t9 (v2, f3) _ _ _ _ _ _ rfl ⟨hM_v2, hA_f3, hIv2, hk0_v2, hk1_v2, hk7_v2, hk8_v2, hk9_v2, hk10_v2, hk31_v2, hk32_v2⟩ hP hD hS dX8_leftAtMost_23 (Nat.le_refl _) (Nat.le_refl _)
set_option maxHeartbeats 4000000 in
set_option maxRecDepth 100000 in
theorem sX_X8_bestQuestion_1 (l : Launch) (dC : Nat → ClassId) (dI : Nat → Nat → Nat) (cy : Nat → ClassId) (x0 : Nat) (x : Nat → Nat) (p1 : Int32) (v : Nat → Int32) (f : Nat → Nat → Int32) (hIv : XI v)  : ctI l (dC, dI) cy yX8_bestQuestion cX8_bestQuestion 4 .int 6 181 0 0 ((Nat → Int32) × (Nat → Nat → Int32)) [.ref (x 35), .int p1] (XW cy x0 x v f) (fun r u => KV [] u.1 v ∧ KF [13, 14, 27] u.2 f ∧ XI u.1 ∧ u.1 0 = v 0 ∧ u.1 1 = v 1 ∧ u.1 7 = v 7 ∧ u.1 8 = v 8 ∧ u.1 9 = v 9 ∧ u.1 10 = v 10 ∧ u.1 31 = v 31 ∧ u.1 32 = v 32) (fun u => XW cy x0 x u.1 u.2) := by
  refine ctI_of (by decide) (Nat.le_of_ble_eq_true rfl) (fun p e s m below meth c A ls Q hx hb hml hts hown hE hP hD hA hl ret => ?_)
  have hM_v : KV [] v v := fun _ _ => rfl
  have hA_f : KF [13, 14, 27] f f := fun _ _ => rfl
  have hown : s.vm.findClass RX8 = some m.cls := hown
  have hS : va_S A s.heap s.heap [] := va_S.rf
  have hl : lv_has ls 4 [(0, .ref (x 35)), (1, .int p1)] := hl
  refine lv_iconst (v := 0) hx hb dX8_bestQuestion_0 (by decide) ?_
  refine lv_istore_n (lv' := [(2, .int 0), (0, .ref (x 35)), (1, .int p1)]) hx hb dX8_bestQuestion_1 rfl hl (by decide) rfl (fun ls hl => ?_)
  refine lv_iconst (v := 1) hx hb dX8_bestQuestion_2 (by decide) ?_
  refine lv_istore_n (lv' := [(3, .int 1), (2, .int 0), (0, .ref (x 35)), (1, .int p1)]) hx hb dX8_bestQuestion_3 rfl hl (by decide) rfl (fun ls hl => ?_)
  have lp1 : ∀ (n1 : Nat) (l2_1 : Int32) (l3_1 : Int32) (v1 : Nat → Int32) (f1 : Nat → Nat → Int32), XI v1 → v1 0 = (v 0) → v1 1 = (v 1) → v1 7 = (v 7) → v1 8 = (v 8) → v1 9 = (v 9) → v1 10 = (v 10) → v1 31 = (v 31) → v1 32 = (v 32) → ((1 : Int) ≤ l3_1.toInt ∧ l3_1.toInt ≤ 2147483647) → KV [] v1 v → KF [13, 14, 27] f1 f → (2147483647 - l3_1.toInt).toNat < n1 → ∀ (H : Heap) (locs : List Loc) (ls : Array Slot), va_P (dC, dI) vwCl (XW cy x0 x v1 f1) H → va_D A (XW cy x0 x v1 f1) → va_S A s.heap H locs → lv_has ls 4 [(3, .int l3_1), (2, .int l2_1), (0, .ref (x 35)), (1, .int p1)] → W p l e { frames := 6, cells := 0, slots := 0, locals := 181 } s m ([.ref (x 35), .int p1] : List Value).toArray below meth c H locs 0 0 Q (F0 m 4 ls []) := by
    intro n1
    induction n1 with
    | zero => intro l2_1 l3_1 v1 f1 hIv1 hq0_v1 hq1_v1 hq7_v1 hq8_v1 hq9_v1 hq10_v1 hq31_v1 hq32_v1 hr3_1 hM_v1 hA_f1 hm; exact absurd hm (Nat.not_lt_zero _)
    | succ n1 ih1 =>
      intro l2_1 l3_1 v1 f1 hIv1 hq0_v1 hq1_v1 hq7_v1 hq8_v1 hq9_v1 hq10_v1 hq31_v1 hq32_v1 hr3_1 hM_v1 hA_f1 hm1 H locs ls hP hD hS hl
      refine lv_iload_n hx hb dX8_bestQuestion_4 rfl (lv_at hl 0 rfl) ?_
      refine lv_bipush (v := 20) hx hb dX8_bestQuestion_5 (by decide) ?_
      refine lv_icmp_gt (tgt := 33) hx hb dX8_bestQuestion_7 (by decide) (fun c2 => ?_) (fun c2 => ?_)
      · skip
        have zc2 : 20 < l3_1.toInt := by rw [fa_lt, show (20 : Int32).toInt = 20 from by decide] at c2; exact c2
        refine lv_iload_n hx hb dX8_bestQuestion_33 rfl (lv_at hl 1 rfl) ?_
        exact ret l2_1 (v1, f1) _ _ _ _ _ _ rfl ⟨hM_v1, hA_f1, hIv1, (show v1 0 = v 0 from hq0_v1), (show v1 1 = v 1 from hq1_v1), (show v1 7 = v 7 from hq7_v1), (show v1 8 = v 8 from hq8_v1), (show v1 9 = v 9 from hq9_v1), (show v1 10 = v 10 from hq10_v1), (show v1 31 = v 31 from hq31_v1), (show v1 32 = v 32 from hq32_v1)⟩ hP hD hS dX8_bestQuestion_34 (Nat.le_refl _) (Nat.le_refl _)
      · skip
        have zc2 : ¬ (20 < l3_1.toInt) := by rw [fa_lt, show (20 : Int32).toInt = 20 from by decide] at c2; exact c2
        refine lv_aload_n hx hb dX8_bestQuestion_10 rfl (lv_at hl 2 rfl) ?_
        refine lv_iload_n hx hb dX8_bestQuestion_11 rfl (lv_at hl 3 rfl) ?_
        refine lv_iload_n hx hb dX8_bestQuestion_12 rfl (lv_at hl 0 rfl) ?_
        refine cbVi (n := 2) (rest := []) hx hb hml hown hts hE hP hD hS hA (sX_X8_leftAtMost_1 l dC dI cy x0 x p1 l3_1 v1 f1 hIv1 ) k_1283 k_1284 k_1285 k_112 k_1286 (by decide +kernel) ⟨Nat.le_of_ble_eq_true rfl, Nat.le_of_ble_eq_true rfl⟩ 36 8 rfl rfl (rfl) hl.1 rfl (Nat.le_of_ble_eq_true rfl) dX8_bestQuestion_13 (fun r3 u H locs hw hP hD hS => ?_)
        obtain ⟨v4, f5⟩ := u
        obtain ⟨kV_v4, kF_f5, hIv4, hk0_v4, hk1_v4, hk7_v4, hk8_v4, hk9_v4, hk10_v4, hk31_v4, hk32_v4⟩ := hw
        have hM_v4 : KV [] v4 v := KV.tr kV_v4 hM_v1 rfl
        have hA_f5 : KF [13, 14, 27] f5 f := KF.tr kF_f5 hA_f1 rfl
        have hP : va_P (dC, dI) vwCl (XW cy x0 x v4 f5) H := hP
        have hD : va_D A (XW cy x0 x v4 f5) := hD
        have hq0_v4 : v4 0 = (v 0) := hk0_v4.trans hq0_v1
        have hq1_v4 : v4 1 = (v 1) := hk1_v4.trans hq1_v1
        have hq7_v4 : v4 7 = (v 7) := hk7_v4.trans hq7_v1
        have hq8_v4 : v4 8 = (v 8) := hk8_v4.trans hq8_v1
        have hq9_v4 : v4 9 = (v 9) := hk9_v4.trans hq9_v1
        have hq10_v4 : v4 10 = (v 10) := hk10_v4.trans hq10_v1
        have hq31_v4 : v4 31 = (v 31) := hk31_v4.trans hq31_v1
        have hq32_v4 : v4 32 = (v 32) := hk32_v4.trans hq32_v1
        refine lv_aload_n hx hb dX8_bestQuestion_16 rfl (lv_at hl 2 rfl) ?_
        refine lv_iload_n hx hb dX8_bestQuestion_17 rfl (lv_at hl 3 rfl) ?_
        refine lv_iload_n hx hb dX8_bestQuestion_18 rfl (lv_at hl 1 rfl) ?_
        refine cbVi (n := 2) (rest := [.int r3]) hx hb hml hown hts hE hP hD hS hA (sX_X8_leftAtMost_1 l dC dI cy x0 x p1 l2_1 v4 f5 hIv4 ) k_1283 k_1284 k_1285 k_112 k_1286 (by decide +kernel) ⟨Nat.le_of_ble_eq_true rfl, Nat.le_of_ble_eq_true rfl⟩ 36 8 rfl rfl (rfl) hl.1 rfl (Nat.le_of_ble_eq_true rfl) dX8_bestQuestion_19 (fun r6 u H locs hw hP hD hS => ?_)
        obtain ⟨v7, f8⟩ := u
        obtain ⟨kV_v7, kF_f8, hIv7, hk0_v7, hk1_v7, hk7_v7, hk8_v7, hk9_v7, hk10_v7, hk31_v7, hk32_v7⟩ := hw
        have hM_v7 : KV [] v7 v := KV.tr kV_v7 hM_v4 rfl
        have hA_f8 : KF [13, 14, 27] f8 f := KF.tr kF_f8 hA_f5 rfl
        have hP : va_P (dC, dI) vwCl (XW cy x0 x v7 f8) H := hP
        have hD : va_D A (XW cy x0 x v7 f8) := hD
        have hq0_v7 : v7 0 = (v 0) := hk0_v7.trans hq0_v4
        have hq1_v7 : v7 1 = (v 1) := hk1_v7.trans hq1_v4
        have hq7_v7 : v7 7 = (v 7) := hk7_v7.trans hq7_v4
        have hq8_v7 : v7 8 = (v 8) := hk8_v7.trans hq8_v4
        have hq9_v7 : v7 9 = (v 9) := hk9_v7.trans hq9_v4
        have hq10_v7 : v7 10 = (v 10) := hk10_v7.trans hq10_v4
        have hq31_v7 : v7 31 = (v 31) := hk31_v7.trans hq31_v4
        have hq32_v7 : v7 32 = (v 32) := hk32_v7.trans hq32_v4
        refine lv_icmp_ge (tgt := 27) hx hb dX8_bestQuestion_22 (by decide) (fun c9 => ?_) (fun c9 => ?_)
        · skip
          have zc9 : r6.toInt ≤ r3.toInt := by rw [fa_le] at c9; exact c9
          have rg10 := fb_rng r3
          have rg11 := fb_rng r6
          obtain ⟨t12, et12⟩ : ∃ y : Int32, y = l3_1 + 1 := ⟨_, rfl⟩
          have rg13 := fb_rng l3_1
          have zt12 : t12.toInt = l3_1.toInt + 1 := by rw [et12]; exact add_i rfl (by decide) (by omega) (by omega)
          refine lv_iinc (v := t12) (lv' := [(3, .int t12), (2, .int l2_1), (0, .ref (x 35)), (1, .int p1)]) hx hb dX8_bestQuestion_27 hl (k := 0) rfl (by rw [et12]; rfl) (by decide) rfl (fun ls hl => ?_)
          refine lv_goto (tgt := 4) hx hb dX8_bestQuestion_30 (by decide) ?_
          have rg14 := fb_rng t12
          exact ih1 l2_1 t12 v7 f8 hIv7 hq0_v7 hq1_v7 hq7_v7 hq8_v7 hq9_v7 hq10_v7 hq31_v7 hq32_v7 ⟨show (1 : Int) ≤ t12.toInt by omega, show t12.toInt ≤ (2147483647 : Int) by omega⟩ hM_v7 hA_f8 (by show (2147483647 - t12.toInt).toNat < n1; omega) _ _ _ hP hD hS (lv_sub hl [0, 1, 2, 3] rfl)
        · skip
          have zc9 : ¬ (r6.toInt ≤ r3.toInt) := by rw [fa_le] at c9; exact c9
          have rg15 := fb_rng r3
          have rg16 := fb_rng r6
          refine lv_iload_n hx hb dX8_bestQuestion_25 rfl (lv_at hl 0 rfl) ?_
          refine lv_istore_n (lv' := [(2, .int l3_1), (3, .int l3_1), (0, .ref (x 35)), (1, .int p1)]) hx hb dX8_bestQuestion_26 rfl hl (by decide) rfl (fun ls hl => ?_)
          obtain ⟨t17, et17⟩ : ∃ y : Int32, y = l3_1 + 1 := ⟨_, rfl⟩
          have rg18 := fb_rng l3_1
          have zt17 : t17.toInt = l3_1.toInt + 1 := by rw [et17]; exact add_i rfl (by decide) (by omega) (by omega)
          refine lv_iinc (v := t17) (lv' := [(3, .int t17), (2, .int l3_1), (0, .ref (x 35)), (1, .int p1)]) hx hb dX8_bestQuestion_27 hl (k := 1) rfl (by rw [et17]; rfl) (by decide) rfl (fun ls hl => ?_)
          refine lv_goto (tgt := 4) hx hb dX8_bestQuestion_30 (by decide) ?_
          have rg19 := fb_rng t17
          exact ih1 l3_1 t17 v7 f8 hIv7 hq0_v7 hq1_v7 hq7_v7 hq8_v7 hq9_v7 hq10_v7 hq31_v7 hq32_v7 ⟨show (1 : Int) ≤ t17.toInt by omega, show t17.toInt ≤ (2147483647 : Int) by omega⟩ hM_v7 hA_f8 (by show (2147483647 - t17.toInt).toNat < n1; omega) _ _ _ hP hD hS (lv_sub hl [0, 1, 2, 3] rfl)
  exact lp1 _ 0 1 v f hIv rfl rfl rfl rfl rfl rfl rfl rfl ⟨by decide, by decide⟩ hM_v hA_f (Nat.lt_succ_self _) _ _ _ hP hD hS (lv_sub hl [0, 1, 2, 3] rfl)
set_option maxHeartbeats 4000000 in
set_option maxRecDepth 100000 in
theorem sX_X10_ask_1 (l : Launch) (dC : Nat → ClassId) (dI : Nat → Nat → Nat) (cy : Nat → ClassId) (x0 : Nat) (x : Nat → Nat) (p1 : Int32) (p2 : Int32) (v : Nat → Int32) (f : Nat → Nat → Int32) (hIv : XI v)  : ctI l (dC, dI) cy yX10_ask cX10_ask 5 .int 7 204 0 0 ((Nat → Int32) × (Nat → Nat → Int32)) [.ref x0, .int p1, .int p2] (XW cy x0 x v f) (fun r u => KV [] u.1 v ∧ KF [13, 14, 27] u.2 f ∧ XI u.1 ∧ u.1 0 = v 0 ∧ u.1 1 = v 1 ∧ u.1 7 = v 7 ∧ u.1 8 = v 8 ∧ u.1 9 = v 9 ∧ u.1 10 = v 10 ∧ u.1 31 = v 31 ∧ u.1 32 = v 32) (fun u => XW cy x0 x u.1 u.2) := by
  refine ctI_of (by decide) (Nat.le_of_ble_eq_true rfl) (fun p e s m below meth c A ls Q hx hb hml hts hown hE hP hD hA hl ret => ?_)
  have hM_v : KV [] v v := fun _ _ => rfl
  have hA_f : KF [13, 14, 27] f f := fun _ _ => rfl
  have hown : s.vm.findClass RX10 = some m.cls := hown
  have hS : va_S A s.heap s.heap [] := va_S.rf
  have hl : lv_has ls 5 [(0, .ref x0), (1, .int p1), (2, .int p2)] := hl
  refine lv_aload_n hx hb dX10_ask_0 rfl (lv_at hl 0 rfl) ?_
  refine va_get (D := (dC, dI)) (ci := 10) (v := .ref (x 35)) (C := RX10) (T := TX10) (N := 10) hx hb hts inB_10 hown hE.1 hP 0 rfl rfl 8 (by decide) (hts _ k_499) (fun _ h9 => h9) rfl dX10_ask_1 ?_
  refine lv_iload_n hx hb dX10_ask_4 rfl (lv_at hl 2 rfl) ?_
  refine cbVi (n := 1) (rest := []) hx hb hml hown hts hE hP hD hS hA (sX_X8_growthsAt_1 l dC dI cy x0 x p2 v f hIv ) k_1247 k_1248 k_1249 k_112 k_1250 (by decide +kernel) ⟨Nat.le_of_ble_eq_true rfl, Nat.le_of_ble_eq_true rfl⟩ 36 8 rfl rfl (rfl) hl.1 rfl (Nat.le_of_ble_eq_true rfl) dX10_ask_5 (fun r1 u H locs hw hP hD hS => ?_)
  obtain ⟨v2, f3⟩ := u
  obtain ⟨kV_v2, kF_f3, hIv2, hk0_v2, hk1_v2, hk7_v2, hk8_v2, hk9_v2, hk10_v2, hk31_v2, hk32_v2⟩ := hw
  have hM_v2 : KV [] v2 v := KV.tr kV_v2 hM_v rfl
  have hA_f3 : KF [13, 14, 27] f3 f := KF.tr kF_f3 hA_f rfl
  have hP : va_P (dC, dI) vwCl (XW cy x0 x v2 f3) H := hP
  have hD : va_D A (XW cy x0 x v2 f3) := hD
  have hq0_v2 : v2 0 = (v 0) := hk0_v2
  have hq1_v2 : v2 1 = (v 1) := hk1_v2
  have hq7_v2 : v2 7 = (v 7) := hk7_v2
  have hq8_v2 : v2 8 = (v 8) := hk8_v2
  have hq9_v2 : v2 9 = (v 9) := hk9_v2
  have hq10_v2 : v2 10 = (v 10) := hk10_v2
  have hq31_v2 : v2 31 = (v 31) := hk31_v2
  have hq32_v2 : v2 32 = (v 32) := hk32_v2
  refine lv_istore_n (lv' := [(3, .int r1), (0, .ref x0), (1, .int p1), (2, .int p2)]) hx hb dX10_ask_8 rfl hl (by decide) rfl (fun ls hl => ?_)
  refine lv_iload_n hx hb dX10_ask_9 rfl (lv_at hl 0 rfl) ?_
  refine lv_if_eq (tgt := 22) hx hb dX10_ask_10 (by decide) (fun c4 => ?_) (fun c4 => ?_)
  · skip
    have zc4 : r1.toInt = 0 := by rw [fa_eq, show (0 : Int32).toInt = 0 from by decide] at c4; exact c4
    refine lv_iconst (v := (-1)) hx hb dX10_ask_22 (by decide) ?_
    exact ret (-1) (v2, f3) _ _ _ _ _ _ rfl ⟨hM_v2, hA_f3, hIv2, hk0_v2, hk1_v2, hk7_v2, hk8_v2, hk9_v2, hk10_v2, hk31_v2, hk32_v2⟩ hP hD hS dX10_ask_23 (Nat.le_refl _) (Nat.le_refl _)
  · skip
    have zc4 : ¬ (r1.toInt = 0) := by rw [fa_eq, show (0 : Int32).toInt = 0 from by decide] at c4; exact c4
    refine lv_iload_n hx hb dX10_ask_13 rfl (lv_at hl 2 rfl) ?_
    refine lv_if_lt (tgt := 22) hx hb dX10_ask_14 (by decide) (fun c5 => ?_) (fun c5 => ?_)
    · skip
      have zc5 : p1.toInt < 0 := by rw [fa_lt, show (0 : Int32).toInt = 0 from by decide] at c5; exact c5
      refine lv_iconst (v := (-1)) hx hb dX10_ask_22 (by decide) ?_
      exact ret (-1) (v2, f3) _ _ _ _ _ _ rfl ⟨hM_v2, hA_f3, hIv2, hk0_v2, hk1_v2, hk7_v2, hk8_v2, hk9_v2, hk10_v2, hk31_v2, hk32_v2⟩ hP hD hS dX10_ask_23 (Nat.le_refl _) (Nat.le_refl _)
    · skip
      have zc5 : ¬ (p1.toInt < 0) := by rw [fa_lt, show (0 : Int32).toInt = 0 from by decide] at c5; exact c5
      refine lv_iload_n hx hb dX10_ask_17 rfl (lv_at hl 2 rfl) ?_
      refine lv_iconst (v := 1) hx hb dX10_ask_18 (by decide) ?_
      refine lv_icmp_le (tgt := 24) hx hb dX10_ask_19 (by decide) (fun c6 => ?_) (fun c6 => ?_)
      · skip
        have zc6 : p1.toInt ≤ 1 := by rw [fa_le, show (1 : Int32).toInt = 1 from by decide] at c6; exact c6
        refine lv_aload_n hx hb dX10_ask_24 rfl (lv_at hl 1 rfl) ?_
        refine va_get (D := (dC, dI)) (ci := 10) (v := .ref (x 35)) (C := RX10) (T := TX10) (N := 10) hx hb hts inB_10 hown hE.1 hP 0 rfl rfl 8 (by decide) (hts _ k_499) (fun _ h9 => h9) rfl dX10_ask_25 ?_
        refine lv_iload_n hx hb dX10_ask_28 rfl (lv_at hl 0 rfl) ?_
        refine cbVi (n := 1) (rest := []) hx hb hml hown hts hE hP hD hS hA (sX_X8_bestQuestion_1 l dC dI cy x0 x r1 v2 f3 hIv2 ) k_1279 k_1280 k_1281 k_112 k_1282 (by decide +kernel) ⟨Nat.le_of_ble_eq_true rfl, Nat.le_of_ble_eq_true rfl⟩ 36 8 rfl rfl (rfl) hl.1 rfl (Nat.le_of_ble_eq_true rfl) dX10_ask_29 (fun r7 u H locs hw hP hD hS => ?_)
        obtain ⟨v8, f9⟩ := u
        obtain ⟨kV_v8, kF_f9, hIv8, hk0_v8, hk1_v8, hk7_v8, hk8_v8, hk9_v8, hk10_v8, hk31_v8, hk32_v8⟩ := hw
        have hM_v8 : KV [] v8 v := KV.tr kV_v8 hM_v2 rfl
        have hA_f9 : KF [13, 14, 27] f9 f := KF.tr kF_f9 hA_f3 rfl
        have hP : va_P (dC, dI) vwCl (XW cy x0 x v8 f9) H := hP
        have hD : va_D A (XW cy x0 x v8 f9) := hD
        have hq0_v8 : v8 0 = (v 0) := hk0_v8.trans hq0_v2
        have hq1_v8 : v8 1 = (v 1) := hk1_v8.trans hq1_v2
        have hq7_v8 : v8 7 = (v 7) := hk7_v8.trans hq7_v2
        have hq8_v8 : v8 8 = (v 8) := hk8_v8.trans hq8_v2
        have hq9_v8 : v8 9 = (v 9) := hk9_v8.trans hq9_v2
        have hq10_v8 : v8 10 = (v 10) := hk10_v8.trans hq10_v2
        have hq31_v8 : v8 31 = (v 31) := hk31_v8.trans hq31_v2
        have hq32_v8 : v8 32 = (v 32) := hk32_v8.trans hq32_v2
        refine lv_istore (lv' := [(4, .int r7), (3, .int r1), (0, .ref x0), (1, .int p1), (2, .int p2)]) hx hb dX10_ask_32 hl (by decide) rfl (fun ls hl => ?_)
        refine lv_iload_n hx hb dX10_ask_34 rfl (lv_at hl 3 rfl) ?_
        refine lv_if_ne (tgt := 43) hx hb dX10_ask_35 (by decide) (fun c10 => ?_) (fun c10 => ?_)
        · skip
          have zc10 : ¬ (p1.toInt = 0) := by rw [fa_eq, show (0 : Int32).toInt = 0 from by decide] at c10; exact c10
          refine lv_aload_n hx hb dX10_ask_43 rfl (lv_at hl 2 rfl) ?_
          refine va_get (D := (dC, dI)) (ci := 10) (v := .ref (x 35)) (C := RX10) (T := TX10) (N := 10) hx hb hts inB_10 hown hE.1 hP 0 rfl rfl 8 (by decide) (hts _ k_499) (fun _ h9 => h9) rfl dX10_ask_44 ?_
          refine lv_iload_n hx hb dX10_ask_47 rfl (lv_at hl 1 rfl) ?_
          refine lv_iload hx hb dX10_ask_48 (lv_at hl 0 rfl) ?_
          refine cbVi (n := 2) (rest := []) hx hb hml hown hts hE hP hD hS hA (sX_X8_leftAtMost_1 l dC dI cy x0 x r1 r7 v8 f9 hIv8 ) k_1289 k_1284 k_1285 k_112 k_1286 (by decide +kernel) ⟨Nat.le_of_ble_eq_true rfl, Nat.le_of_ble_eq_true rfl⟩ 36 8 rfl rfl (rfl) hl.1 rfl (Nat.le_of_ble_eq_true rfl) dX10_ask_50 (fun r11 u H locs hw hP hD hS => ?_)
          obtain ⟨v12, f13⟩ := u
          obtain ⟨kV_v12, kF_f13, hIv12, hk0_v12, hk1_v12, hk7_v12, hk8_v12, hk9_v12, hk10_v12, hk31_v12, hk32_v12⟩ := hw
          have hM_v12 : KV [] v12 v := KV.tr kV_v12 hM_v8 rfl
          have hA_f13 : KF [13, 14, 27] f13 f := KF.tr kF_f13 hA_f9 rfl
          have hP : va_P (dC, dI) vwCl (XW cy x0 x v12 f13) H := hP
          have hD : va_D A (XW cy x0 x v12 f13) := hD
          have hq0_v12 : v12 0 = (v 0) := hk0_v12.trans hq0_v8
          have hq1_v12 : v12 1 = (v 1) := hk1_v12.trans hq1_v8
          have hq7_v12 : v12 7 = (v 7) := hk7_v12.trans hq7_v8
          have hq8_v12 : v12 8 = (v 8) := hk8_v12.trans hq8_v8
          have hq9_v12 : v12 9 = (v 9) := hk9_v12.trans hq9_v8
          have hq10_v12 : v12 10 = (v 10) := hk10_v12.trans hq10_v8
          have hq31_v12 : v12 31 = (v 31) := hk31_v12.trans hq31_v8
          have hq32_v12 : v12 32 = (v 32) := hk32_v12.trans hq32_v8
          exact ret r11 (v12, f13) _ _ _ _ _ _ rfl ⟨hM_v12, hA_f13, hIv12, (hk0_v12.trans (hk0_v8.trans hk0_v2)), (hk1_v12.trans (hk1_v8.trans hk1_v2)), (hk7_v12.trans (hk7_v8.trans hk7_v2)), (hk8_v12.trans (hk8_v8.trans hk8_v2)), (hk9_v12.trans (hk9_v8.trans hk9_v2)), (hk10_v12.trans (hk10_v8.trans hk10_v2)), (hk31_v12.trans (hk31_v8.trans hk31_v2)), (hk32_v12.trans (hk32_v8.trans hk32_v2))⟩ hP hD hS dX10_ask_53 (Nat.le_refl _) (Nat.le_refl _)
        · skip
          have zc10 : p1.toInt = 0 := by rw [fa_eq, show (0 : Int32).toInt = 0 from by decide] at c10; exact c10
          refine lv_iload hx hb dX10_ask_38 (lv_at hl 0 rfl) ?_
          refine lv_goto (tgt := 53) hx hb dX10_ask_40 (by decide) ?_
          exact ret r7 (v8, f9) _ _ _ _ _ _ rfl ⟨hM_v8, hA_f9, hIv8, (hk0_v8.trans hk0_v2), (hk1_v8.trans hk1_v2), (hk7_v8.trans hk7_v2), (hk8_v8.trans hk8_v2), (hk9_v8.trans hk9_v2), (hk10_v8.trans hk10_v2), (hk31_v8.trans hk31_v2), (hk32_v8.trans hk32_v2)⟩ hP hD hS dX10_ask_53 (Nat.le_refl _) (Nat.le_refl _)
      · skip
        have zc6 : ¬ (p1.toInt ≤ 1) := by rw [fa_le, show (1 : Int32).toInt = 1 from by decide] at c6; exact c6
        refine lv_iconst (v := (-1)) hx hb dX10_ask_22 (by decide) ?_
        exact ret (-1) (v2, f3) _ _ _ _ _ _ rfl ⟨hM_v2, hA_f3, hIv2, hk0_v2, hk1_v2, hk7_v2, hk8_v2, hk9_v2, hk10_v2, hk31_v2, hk32_v2⟩ hP hD hS dX10_ask_23 (Nat.le_refl _) (Nat.le_refl _)
def gsX_X1_saveTo_2 (NF : Nat) (p2 : Int32) (v : Nat → Int32) (f : Nat → Nat → Int32) : (Nat → Int32) × (Nat → Nat → Int32) :=
  if p2 < 0 then
    (v, f)
  else
    if 3 ≤ p2 then
      (v, f)
    else
      let t3 : Int32 := p2 * 44
      let f5 : Nat → Nat → Int32 := upd2 f 16 (va_cpy (f 15) (f 16) (0 : Int32).toNatClampNeg (t3).toNatClampNeg (44 : Int32).toNatClampNeg)
      (v, f5)
theorem gsX_X1_saveTo_2_q0 {NF : Nat} {p2 : Int32} {v : Nat → Int32} {f : Nat → Nat → Int32} (h0 : (p2 < 0)) : gsX_X1_saveTo_2 NF p2 v f = (v, f) := by
  simp only [gsX_X1_saveTo_2, if_pos h0]
theorem gsX_X1_saveTo_2_q1 {NF : Nat} {p2 : Int32} {v : Nat → Int32} {f : Nat → Nat → Int32} (h0 : ¬ (p2 < 0)) (h1 : (3 ≤ p2)) : gsX_X1_saveTo_2 NF p2 v f = (v, f) := by
  simp only [gsX_X1_saveTo_2, if_neg h0, if_pos h1]
theorem gsX_X1_saveTo_2_q2 {NF : Nat} {p2 : Int32} {v : Nat → Int32} {f : Nat → Nat → Int32} {t3 : Int32} {f5 : Nat → Nat → Int32} (h0 : ¬ (p2 < 0)) (h1 : ¬ (3 ≤ p2)) (h2 : t3 = p2 * 44) (h3 : f5 = upd2 f 16 (va_cpy (f 15) (f 16) (0 : Int32).toNatClampNeg (t3).toNatClampNeg (44 : Int32).toNatClampNeg)) : gsX_X1_saveTo_2 NF p2 v f = (v, f5) := by
  subst h2 h3
  simp only [gsX_X1_saveTo_2, if_neg h0, if_neg h1]
set_option maxHeartbeats 4000000 in
set_option maxRecDepth 100000 in
theorem sX_X1_saveTo_2 (NF : Nat) (l : Launch) (dC : Nat → ClassId) (dI : Nat → Nat → Nat) (cy : Nat → ClassId) (x0 : Nat) (x : Nat → Nat) (p2 : Int32) (v : Nat → Int32) (f : Nat → Nat → Int32) (hIv : XI v)  : ctV l (dC, dI) cy yX1_saveTo cX1_saveTo 3 1 100 0 0 ((Nat → Int32) × (Nat → Nat → Int32)) [.ref (x 21), .ref (x 23), .int p2] (XW cy x0 x v f) (fun u => gsX_X1_saveTo_2 NF p2 v f = u ∧ KV [] u.1 v ∧ KF [16] u.2 f ∧ XI u.1 ∧ u.1 0 = v 0 ∧ u.1 1 = v 1 ∧ u.1 7 = v 7 ∧ u.1 8 = v 8 ∧ u.1 9 = v 9 ∧ u.1 10 = v 10 ∧ u.1 31 = v 31 ∧ u.1 32 = v 32) (fun u => XW cy x0 x u.1 u.2) := by
  refine ctV_of (by decide) (Nat.le_of_ble_eq_true rfl) (fun p e s m below meth c A ls Q hx hb hml hts hown hnm hE hP hD hA hl ret => ?_)
  have hM_v : KV [] v v := fun _ _ => rfl
  have hA_f : KF [16] f f := fun _ _ => rfl
  have hown : s.vm.findClass RX1 = some m.cls := hown
  have hS : va_S A s.heap s.heap [] := va_S.rf
  have hl : lv_has ls 3 [(0, .ref (x 21)), (1, .ref (x 23)), (2, .int p2)] := hl
  refine lv_iload_n hx hb dX1_saveTo_0 rfl (lv_at hl 2 rfl) ?_
  refine lv_if_lt (tgt := 28) hx hb dX1_saveTo_1 (by decide) (fun c1 => ?_) (fun c1 => ?_)
  · skip
    have zc1 : p2.toInt < 0 := by rw [fa_lt, show (0 : Int32).toInt = 0 from by decide] at c1; exact c1
    exact ret (v, f) _ _ _ _ _ _ ⟨(gsX_X1_saveTo_2_q0 c1), hM_v, hA_f, hIv, rfl, rfl, rfl, rfl, rfl, rfl, rfl, rfl⟩ hP hD hS dX1_saveTo_28 (Nat.le_refl _) (Nat.le_refl _)
  · skip
    have zc1 : ¬ (p2.toInt < 0) := by rw [fa_lt, show (0 : Int32).toInt = 0 from by decide] at c1; exact c1
    refine lv_iload_n hx hb dX1_saveTo_4 rfl (lv_at hl 2 rfl) ?_
    refine lv_aload_n hx hb dX1_saveTo_5 rfl (lv_at hl 1 rfl) ?_
    refine va_alen (v := 132) hx hb hE.1 hP 24 1 rfl rfl rfl dX1_saveTo_6 ?_
    refine lv_bipush (v := 44) hx hb dX1_saveTo_7 (by decide) ?_
    refine lv_idiv hx hb dX1_saveTo_9 (by decide) ?_
    refine tI (y := 3) (by decide) ?_
    refine lv_icmp_ge (tgt := 28) hx hb dX1_saveTo_10 (by decide) (fun c2 => ?_) (fun c2 => ?_)
    · skip
      have zc2 : 3 ≤ p2.toInt := by rw [fa_le, show (3 : Int32).toInt = 3 from by decide] at c2; exact c2
      exact ret (v, f) _ _ _ _ _ _ ⟨(gsX_X1_saveTo_2_q1 c1 c2), hM_v, hA_f, hIv, rfl, rfl, rfl, rfl, rfl, rfl, rfl, rfl⟩ hP hD hS dX1_saveTo_28 (Nat.le_refl _) (Nat.le_refl _)
    · skip
      have zc2 : ¬ (3 ≤ p2.toInt) := by rw [fa_le, show (3 : Int32).toInt = 3 from by decide] at c2; exact c2
      refine lv_aload_n hx hb dX1_saveTo_13 rfl (lv_at hl 0 rfl) ?_
      refine va_get (D := (dC, dI)) (ci := 1) (v := .ref (x 22)) (C := RX1) (T := TX1) (N := 2) hx hb hts inB_1 hown hE.1 hP 22 rfl rfl 1 (by decide) (hts _ k_319) (fun _ h9 => h9) rfl dX1_saveTo_14 ?_
      refine lv_iconst (v := 0) hx hb dX1_saveTo_17 (by decide) ?_
      refine lv_aload_n hx hb dX1_saveTo_18 rfl (lv_at hl 1 rfl) ?_
      refine lv_iload_n hx hb dX1_saveTo_19 rfl (lv_at hl 2 rfl) ?_
      refine lv_bipush (v := 44) hx hb dX1_saveTo_20 (by decide) ?_
      refine lv_imul hx hb dX1_saveTo_22 ?_
      refine lv_topi (fun t3 et3 => ?_)
      have rg4 := fb_rng p2
      have zt3 : t3.toInt = p2.toInt * 44 := by rw [et3]; exact mul_i rfl (by decide) (by omega) (by omega)
      refine lv_bipush (v := 44) hx hb dX1_saveTo_23 (by decide) ?_
      refine cpE (zs := 0) (zd := t3.toInt) (zn := 44) hx hb (by rw [hml]; exact hl.1.symm) hown (hts _ k_335) (hts _ k_337) (hts _ k_336) (hts _ k_108) hE hP hD hS 23 24 rfl rfl (by decide) rfl (by decide) (by omega) (by omega) (by omega) (by omega) (by omega) (Nat.le_of_ble_eq_true rfl) (Nat.le_of_ble_eq_true rfl) dX1_saveTo_25 (fun H locs hP hD hS => ?_)
      obtain ⟨f5, ef5, hP, hD⟩ : ∃ fz9, fz9 = upd2 f 16 (va_cpy (f 15) (f 16) (0 : Int32).toNatClampNeg (t3).toNatClampNeg (44 : Int32).toNatClampNeg) ∧ va_P (dC, dI) vwCl (XW cy x0 x v fz9) H ∧ va_D A (XW cy x0 x v fz9) := ⟨_, rfl, hP, hD⟩
      have hA_f5 : KF [16] f5 f := by rw [ef5]; exact KF.up hA_f rfl
      exact ret (v, f5) _ _ _ _ _ _ ⟨(gsX_X1_saveTo_2_q2 c1 c2 et3 ef5), hM_v, hA_f5, hIv, rfl, rfl, rfl, rfl, rfl, rfl, rfl, rfl⟩ hP hD hS dX1_saveTo_28 (Nat.le_refl _) (Nat.le_refl _)
set_option maxHeartbeats 4000000 in
set_option maxRecDepth 100000 in
theorem sX_X5_fillBox_1 (l : Launch) (dC : Nat → ClassId) (dI : Nat → Nat → Nat) (cy : Nat → ClassId) (x0 : Nat) (x : Nat → Nat) (p1 : Int32) (v : Nat → Int32) (f : Nat → Nat → Int32) (hIv : XI v)  : ctI l (dC, dI) cy yX5_fillBox cX5_fillBox 2 .boolean 2 122 0 0 ((Nat → Int32) × (Nat → Nat → Int32)) [.ref (x 20), .int p1] (XW cy x0 x v f) (fun r u => KV [20] u.1 v ∧ KF [16] u.2 f ∧ XI u.1 ∧ u.1 0 = v 0 ∧ u.1 1 = v 1 ∧ u.1 7 = v 7 ∧ u.1 8 = v 8 ∧ u.1 9 = v 9 ∧ u.1 10 = v 10 ∧ u.1 31 = v 31 ∧ u.1 32 = v 32 ∧ ((r = 1) ∨ (r = 0))) (fun u => XW cy x0 x u.1 u.2) := by
  refine ctI_of (by decide) (Nat.le_of_ble_eq_true rfl) (fun p e s m below meth c A ls Q hx hb hml hts hown hE hP hD hA hl ret => ?_)
  have hM_v : KV [20] v v := fun _ _ => rfl
  have hA_f : KF [16] f f := fun _ _ => rfl
  have hown : s.vm.findClass RX5 = some m.cls := hown
  have hS : va_S A s.heap s.heap [] := va_S.rf
  have hl : lv_has ls 2 [(0, .ref (x 20)), (1, .int p1)] := hl
  refine lv_iload_n hx hb dX5_fillBox_0 rfl (lv_at hl 1 rfl) ?_
  refine lv_if_lt (tgt := 9) hx hb dX5_fillBox_1 (by decide) (fun c1 => ?_) (fun c1 => ?_)
  · skip
    have zc1 : p1.toInt < 0 := by rw [fa_lt, show (0 : Int32).toInt = 0 from by decide] at c1; exact c1
    refine lv_iconst (v := 0) hx hb dX5_fillBox_9 (by decide) ?_
    exact ret 0 (v, f) _ _ _ _ _ _ rfl ⟨hM_v, hA_f, hIv, rfl, rfl, rfl, rfl, rfl, rfl, rfl, rfl, (Or.inr rfl)⟩ hP hD hS dX5_fillBox_10 (Nat.le_refl _) (Nat.le_refl _)
  · skip
    have zc1 : ¬ (p1.toInt < 0) := by rw [fa_lt, show (0 : Int32).toInt = 0 from by decide] at c1; exact c1
    refine lv_iload_n hx hb dX5_fillBox_4 rfl (lv_at hl 1 rfl) ?_
    refine lv_iconst (v := 3) hx hb dX5_fillBox_5 (by decide) ?_
    refine lv_icmp_lt (tgt := 11) hx hb dX5_fillBox_6 (by decide) (fun c2 => ?_) (fun c2 => ?_)
    · skip
      have zc2 : p1.toInt < 3 := by rw [fa_lt, show (3 : Int32).toInt = 3 from by decide] at c2; exact c2
      refine lv_aload_n hx hb dX5_fillBox_11 rfl (lv_at hl 0 rfl) ?_
      refine va_get (D := (dC, dI)) (ci := 5) (v := .ref (x 21)) (C := RX5) (T := TX5) (N := 7) hx hb hts inB_5 hown hE.1 hP 21 rfl rfl 0 (by decide) (hts _ k_338) (fun _ h9 => h9) rfl dX5_fillBox_12 ?_
      refine lv_aload_n hx hb dX5_fillBox_15 rfl (lv_at hl 0 rfl) ?_
      refine va_get (D := (dC, dI)) (ci := 5) (v := .ref (x 23)) (C := RX5) (T := TX5) (N := 7) hx hb hts inB_5 hown hE.1 hP 21 rfl rfl 2 (by decide) (hts _ k_340) (fun _ h9 => h9) rfl dX5_fillBox_16 ?_
      refine lv_iload_n hx hb dX5_fillBox_19 rfl (lv_at hl 1 rfl) ?_
      refine cbVv (n := 2) (rest := []) hx hb hml hown hts hE hP hD hS hA (sX_X1_saveTo_2 0 l dC dI cy x0 x p1 v f hIv ) k_331 k_332 k_333 k_106 k_334 (by decide +kernel) ⟨Nat.le_of_ble_eq_true rfl, Nat.le_of_ble_eq_true rfl⟩ 22 1 rfl rfl (rfl) hl.1 rfl (Nat.le_of_ble_eq_true rfl) dX5_fillBox_20 (fun u H locs hw hP hD hS => ?_)
      obtain ⟨hG3, hw⟩ := hw
      obtain ⟨v4, f5⟩ := u
      obtain ⟨kV_v4, kF_f5, hIv4, hk0_v4, hk1_v4, hk7_v4, hk8_v4, hk9_v4, hk10_v4, hk31_v4, hk32_v4⟩ := hw
      have hM_v4 : KV [20] v4 v := KV.tr kV_v4 hM_v rfl
      have hA_f5 : KF [16] f5 f := KF.tr kF_f5 hA_f rfl
      have hP : va_P (dC, dI) vwCl (XW cy x0 x v4 f5) H := hP
      have hD : va_D A (XW cy x0 x v4 f5) := hD
      have hq0_v4 : v4 0 = (v 0) := hk0_v4
      have hq1_v4 : v4 1 = (v 1) := hk1_v4
      have hq7_v4 : v4 7 = (v 7) := hk7_v4
      have hq8_v4 : v4 8 = (v 8) := hk8_v4
      have hq9_v4 : v4 9 = (v 9) := hk9_v4
      have hq10_v4 : v4 10 = (v 10) := hk10_v4
      have hq31_v4 : v4 31 = (v 31) := hk31_v4
      have hq32_v4 : v4 32 = (v 32) := hk32_v4
      refine lv_aload_n hx hb dX5_fillBox_23 rfl (lv_at hl 0 rfl) ?_
      refine lv_dup hx hb dX5_fillBox_24 rfl ?_
      refine va_get (D := (dC, dI)) (ci := 5) (v := .int (v4 20)) (C := RX5) (T := TX5) (N := 7) hx hb hts inB_5 hown hE.1 hP 21 rfl rfl 3 (by decide) (hts _ k_341) (fun _ h9 => h9) rfl dX5_fillBox_25 ?_
      refine lv_iconst (v := 1) hx hb dX5_fillBox_28 (by decide) ?_
      refine lv_iload_n hx hb dX5_fillBox_29 rfl (lv_at hl 1 rfl) ?_
      refine lv_ishl hx hb dX5_fillBox_30 ?_
      refine lv_topi (fun t6 et6 => ?_)
      have zt6 : 1 ≤ t6.toInt ∧ t6.toInt ≤ 32 := by rw [et6]; exact shl1_rng (by omega) (by omega)
      refine lv_ior hx hb dX5_fillBox_31 ?_
      refine lv_topi (fun t7 et7 => ?_)
      refine va_put (D := (dC, dI)) (ci := 5) (v := .int t7) (ty := tyX5 3) (C := RX5) (T := TX5) (N := 7) hx hb hts inB_5 tyX5 tyX5_ok nmX5 hown hE.1 hP hD hS 21 rfl rfl 3 (by decide) (hts _ k_341) (fun _ h9 => h9) rfl (tyX5_ok 3 (by decide)) rfl rfl (Nat.le_of_ble_eq_true rfl) dX5_fillBox_32 (fun H locs hP hD hS => ?_)
      have hP : va_P (dC, dI) vwCl (XW cy x0 x (upd v4 20 t7) f5) H := hP
      have hD : va_D A (XW cy x0 x (upd v4 20 t7) f5) := hD
      refine lv_iconst (v := 1) hx hb dX5_fillBox_35 (by decide) ?_
      exact ret 1 ((upd v4 20 t7), f5) _ _ _ _ _ _ rfl ⟨(KV.up (j := 20) (x := t7) hM_v4 rfl), hA_f5, (XI.upd (j := 20) (x := t7) hIv4 (rlo _) (rhi _)), hk0_v4, hk1_v4, hk7_v4, hk8_v4, hk9_v4, hk10_v4, hk31_v4, hk32_v4, (Or.inl rfl)⟩ hP hD hS dX5_fillBox_36 (Nat.le_refl _) (Nat.le_refl _)
    · skip
      have zc2 : ¬ (p1.toInt < 3) := by rw [fa_lt, show (3 : Int32).toInt = 3 from by decide] at c2; exact c2
      refine lv_iconst (v := 0) hx hb dX5_fillBox_9 (by decide) ?_
      exact ret 0 (v, f) _ _ _ _ _ _ rfl ⟨hM_v, hA_f, hIv, rfl, rfl, rfl, rfl, rfl, rfl, rfl, rfl, (Or.inr rfl)⟩ hP hD hS dX5_fillBox_10 (Nat.le_refl _) (Nat.le_refl _)
set_option maxHeartbeats 4000000 in
set_option maxRecDepth 100000 in
theorem sX_X10_image_1 (l : Launch) (dC : Nat → ClassId) (dI : Nat → Nat → Nat) (cy : Nat → ClassId) (x0 : Nat) (x : Nat → Nat) (p1 : Int32) (v : Nat → Int32) (f : Nat → Nat → Int32) (hIv : XI v)  : ctI l (dC, dI) cy yX10_image cX10_image 2 .int 3 143 0 0 ((Nat → Int32) × (Nat → Nat → Int32)) [.ref x0, .int p1] (XW cy x0 x v f) (fun r u => KV [20] u.1 v ∧ KF [16] u.2 f ∧ XI u.1 ∧ u.1 0 = v 0 ∧ u.1 1 = v 1 ∧ u.1 7 = v 7 ∧ u.1 8 = v 8 ∧ u.1 9 = v 9 ∧ u.1 10 = v 10 ∧ u.1 31 = v 31 ∧ u.1 32 = v 32) (fun u => XW cy x0 x u.1 u.2) := by
  refine ctI_of (by decide) (Nat.le_of_ble_eq_true rfl) (fun p e s m below meth c A ls Q hx hb hml hts hown hE hP hD hA hl ret => ?_)
  have hM_v : KV [20] v v := fun _ _ => rfl
  have hA_f : KF [16] f f := fun _ _ => rfl
  have hown : s.vm.findClass RX10 = some m.cls := hown
  have hS : va_S A s.heap s.heap [] := va_S.rf
  have hl : lv_has ls 2 [(0, .ref x0), (1, .int p1)] := hl
  refine lv_aload_n hx hb dX10_image_0 rfl (lv_at hl 0 rfl) ?_
  refine va_get (D := (dC, dI)) (ci := 10) (v := .ref (x 20)) (C := RX10) (T := TX10) (N := 10) hx hb hts inB_10 hown hE.1 hP 0 rfl rfl 4 (by decide) (hts _ k_495) (fun _ h9 => h9) rfl dX10_image_1 ?_
  refine lv_iload_n hx hb dX10_image_4 rfl (lv_at hl 1 rfl) ?_
  refine cbVi (n := 1) (rest := []) hx hb hml hown hts hE hP hD hS hA (sX_X5_fillBox_1 l dC dI cy x0 x p1 v f hIv ) k_1294 k_1295 k_1296 k_107 k_1297 (by decide +kernel) ⟨Nat.le_of_ble_eq_true rfl, Nat.le_of_ble_eq_true rfl⟩ 21 5 rfl rfl (rfl) hl.1 rfl (Nat.le_of_ble_eq_true rfl) dX10_image_5 (fun r1 u H locs hw hP hD hS => ?_)
  obtain ⟨v2, f3⟩ := u
  obtain ⟨kV_v2, kF_f3, hIv2, hk0_v2, hk1_v2, hk7_v2, hk8_v2, hk9_v2, hk10_v2, hk31_v2, hk32_v2, hw⟩ := hw
  have hM_v2 : KV [20] v2 v := KV.tr kV_v2 hM_v rfl
  have hA_f3 : KF [16] f3 f := KF.tr kF_f3 hA_f rfl
  have hP : va_P (dC, dI) vwCl (XW cy x0 x v2 f3) H := hP
  have hD : va_D A (XW cy x0 x v2 f3) := hD
  have hq0_v2 : v2 0 = (v 0) := hk0_v2
  have hq1_v2 : v2 1 = (v 1) := hk1_v2
  have hq7_v2 : v2 7 = (v 7) := hk7_v2
  have hq8_v2 : v2 8 = (v 8) := hk8_v2
  have hq9_v2 : v2 9 = (v 9) := hk9_v2
  have hq10_v2 : v2 10 = (v 10) := hk10_v2
  have hq31_v2 : v2 31 = (v 31) := hk31_v2
  have hq32_v2 : v2 32 = (v 32) := hk32_v2
  rcases hw with ⟨g4⟩ | ⟨g4⟩
  · skip
    subst g4
    refine lv_if_eq (tgt := 21) hx hb dX10_image_8 (by decide) (fun c0 => absurd c0 (by decide)) (fun _ => ?_)
    refine lv_aload_n hx hb dX10_image_11 rfl (lv_at hl 0 rfl) ?_
    refine va_get (D := (dC, dI)) (ci := 10) (v := .ref (x 21)) (C := RX10) (T := TX10) (N := 10) hx hb hts inB_10 hown hE.1 hP 0 rfl rfl 3 (by decide) (hts _ k_494) (fun _ h9 => h9) rfl dX10_image_12 ?_
    refine cbVi (n := 0) (rest := []) hx hb hml hown hts hE hP hD hS hA (sX_X1_today_1 l dC dI cy x0 x  v2 f3 hIv2 ) k_864 k_832 k_833 k_106 k_834 (by decide +kernel) ⟨Nat.le_of_ble_eq_true rfl, Nat.le_of_ble_eq_true rfl⟩ 22 1 rfl rfl (rfl) hl.1 rfl (Nat.le_of_ble_eq_true rfl) dX10_image_15 (fun r5 u H locs hw hP hD hS => ?_)
    refine lv_goto (tgt := 22) hx hb dX10_image_18 (by decide) ?_
    exact ret r5 (v2, f3) _ _ _ _ _ _ rfl ⟨hM_v2, hA_f3, hIv2, hk0_v2, hk1_v2, hk7_v2, hk8_v2, hk9_v2, hk10_v2, hk31_v2, hk32_v2⟩ hP hD hS dX10_image_22 (Nat.le_refl _) (Nat.le_refl _)
  · skip
    subst g4
    refine lv_if_eq (tgt := 21) hx hb dX10_image_8 (by decide) (fun _ => ?_) (fun c0 => absurd (by decide) c0)
    refine lv_iconst (v := (-1)) hx hb dX10_image_21 (by decide) ?_
    exact ret (-1) (v2, f3) _ _ _ _ _ _ rfl ⟨hM_v2, hA_f3, hIv2, hk0_v2, hk1_v2, hk7_v2, hk8_v2, hk9_v2, hk10_v2, hk31_v2, hk32_v2⟩ hP hD hS dX10_image_22 (Nat.le_refl _) (Nat.le_refl _)
set_option maxHeartbeats 4000000 in
set_option maxRecDepth 100000 in
theorem sX_X1_loadFrom_2 (l : Launch) (dC : Nat → ClassId) (dI : Nat → Nat → Nat) (cy : Nat → ClassId) (x0 : Nat) (x : Nat → Nat) (p2 : Int32) (v : Nat → Int32) (f : Nat → Nat → Int32) (hIv : XI v)  : ctV l (dC, dI) cy yX1_loadFrom cX1_loadFrom 3 1 100 0 0 ((Nat → Int32) × (Nat → Nat → Int32)) [.ref (x 21), .ref (x 23), .int p2] (XW cy x0 x v f) (fun u => KV [] u.1 v ∧ KF [15] u.2 f ∧ XI u.1 ∧ u.1 0 = v 0 ∧ u.1 1 = v 1 ∧ u.1 7 = v 7 ∧ u.1 8 = v 8 ∧ u.1 9 = v 9 ∧ u.1 10 = v 10 ∧ u.1 31 = v 31 ∧ u.1 32 = v 32) (fun u => XW cy x0 x u.1 u.2) := by
  refine ctV_of (by decide) (Nat.le_of_ble_eq_true rfl) (fun p e s m below meth c A ls Q hx hb hml hts hown hnm hE hP hD hA hl ret => ?_)
  have hM_v : KV [] v v := fun _ _ => rfl
  have hA_f : KF [15] f f := fun _ _ => rfl
  have hown : s.vm.findClass RX1 = some m.cls := hown
  have hS : va_S A s.heap s.heap [] := va_S.rf
  have hl : lv_has ls 3 [(0, .ref (x 21)), (1, .ref (x 23)), (2, .int p2)] := hl
  refine lv_iload_n hx hb dX1_loadFrom_0 rfl (lv_at hl 2 rfl) ?_
  refine lv_if_lt (tgt := 28) hx hb dX1_loadFrom_1 (by decide) (fun c1 => ?_) (fun c1 => ?_)
  · skip
    have zc1 : p2.toInt < 0 := by rw [fa_lt, show (0 : Int32).toInt = 0 from by decide] at c1; exact c1
    exact ret (v, f) _ _ _ _ _ _ ⟨hM_v, hA_f, hIv, rfl, rfl, rfl, rfl, rfl, rfl, rfl, rfl⟩ hP hD hS dX1_loadFrom_28 (Nat.le_refl _) (Nat.le_refl _)
  · skip
    have zc1 : ¬ (p2.toInt < 0) := by rw [fa_lt, show (0 : Int32).toInt = 0 from by decide] at c1; exact c1
    refine lv_iload_n hx hb dX1_loadFrom_4 rfl (lv_at hl 2 rfl) ?_
    refine lv_aload_n hx hb dX1_loadFrom_5 rfl (lv_at hl 1 rfl) ?_
    refine va_alen (v := 132) hx hb hE.1 hP 24 1 rfl rfl rfl dX1_loadFrom_6 ?_
    refine lv_bipush (v := 44) hx hb dX1_loadFrom_7 (by decide) ?_
    refine lv_idiv hx hb dX1_loadFrom_9 (by decide) ?_
    refine tI (y := 3) (by decide) ?_
    refine lv_icmp_ge (tgt := 28) hx hb dX1_loadFrom_10 (by decide) (fun c2 => ?_) (fun c2 => ?_)
    · skip
      have zc2 : 3 ≤ p2.toInt := by rw [fa_le, show (3 : Int32).toInt = 3 from by decide] at c2; exact c2
      exact ret (v, f) _ _ _ _ _ _ ⟨hM_v, hA_f, hIv, rfl, rfl, rfl, rfl, rfl, rfl, rfl, rfl⟩ hP hD hS dX1_loadFrom_28 (Nat.le_refl _) (Nat.le_refl _)
    · skip
      have zc2 : ¬ (3 ≤ p2.toInt) := by rw [fa_le, show (3 : Int32).toInt = 3 from by decide] at c2; exact c2
      refine lv_aload_n hx hb dX1_loadFrom_13 rfl (lv_at hl 1 rfl) ?_
      refine lv_iload_n hx hb dX1_loadFrom_14 rfl (lv_at hl 2 rfl) ?_
      refine lv_bipush (v := 44) hx hb dX1_loadFrom_15 (by decide) ?_
      refine lv_imul hx hb dX1_loadFrom_17 ?_
      refine lv_topi (fun t3 et3 => ?_)
      have rg4 := fb_rng p2
      have zt3 : t3.toInt = p2.toInt * 44 := by rw [et3]; exact mul_i rfl (by decide) (by omega) (by omega)
      refine lv_aload_n hx hb dX1_loadFrom_18 rfl (lv_at hl 0 rfl) ?_
      refine va_get (D := (dC, dI)) (ci := 1) (v := .ref (x 22)) (C := RX1) (T := TX1) (N := 2) hx hb hts inB_1 hown hE.1 hP 22 rfl rfl 1 (by decide) (hts _ k_319) (fun _ h9 => h9) rfl dX1_loadFrom_19 ?_
      refine lv_iconst (v := 0) hx hb dX1_loadFrom_22 (by decide) ?_
      refine lv_bipush (v := 44) hx hb dX1_loadFrom_23 (by decide) ?_
      refine cpG (zs := t3.toInt) (zd := 0) (zn := 44) hx hb (by rw [hml]; exact hl.1.symm) hown (hts _ k_335) (hts _ k_337) (hts _ k_336) (hts _ k_108) hE hP hD hS 24 23 rfl rfl rfl (by decide) (by decide) (by omega) (by omega) (by omega) (by omega) (by omega) (Nat.le_of_ble_eq_true rfl) (Nat.le_of_ble_eq_true rfl) dX1_loadFrom_25 (fun g9 H locs hP hD hS => ?_)
      obtain ⟨f5, ef5, hP, hD⟩ : ∃ fz9, fz9 = upd2 f 15 g9 ∧ va_P (dC, dI) vwCl (XW cy x0 x v fz9) H ∧ va_D A (XW cy x0 x v fz9) := ⟨_, rfl, hP, hD⟩
      have hA_f5 : KF [15] f5 f := by rw [ef5]; exact KF.up hA_f rfl
      exact ret (v, f5) _ _ _ _ _ _ ⟨hM_v, hA_f5, hIv, rfl, rfl, rfl, rfl, rfl, rfl, rfl, rfl⟩ hP hD hS dX1_loadFrom_28 (Nat.le_refl _) (Nat.le_refl _)
set_option maxHeartbeats 4000000 in
set_option maxRecDepth 100000 in
theorem sX_X5_takeBox_1 (l : Launch) (dC : Nat → ClassId) (dI : Nat → Nat → Nat) (cy : Nat → ClassId) (x0 : Nat) (x : Nat → Nat) (p1 : Int32) (v : Nat → Int32) (f : Nat → Nat → Int32) (hIv : XI v)  : ctI l (dC, dI) cy yX5_takeBox cX5_takeBox 2 .boolean 3 142 0 0 ((Nat → Int32) × (Nat → Nat → Int32)) [.ref (x 20), .int p1] (XW cy x0 x v f) (fun r u => KV [21, 22, 23] u.1 v ∧ KF [15, 17] u.2 f ∧ XI u.1 ∧ u.1 0 = v 0 ∧ u.1 1 = v 1 ∧ u.1 7 = v 7 ∧ u.1 8 = v 8 ∧ u.1 9 = v 9 ∧ u.1 10 = v 10 ∧ u.1 31 = v 31 ∧ u.1 32 = v 32 ∧ ((r = 1) ∨ (r = 0))) (fun u => XW cy x0 x u.1 u.2) := by
  refine ctI_of (by decide) (Nat.le_of_ble_eq_true rfl) (fun p e s m below meth c A ls Q hx hb hml hts hown hE hP hD hA hl ret => ?_)
  have hM_v : KV [21, 22, 23] v v := fun _ _ => rfl
  have hA_f : KF [15, 17] f f := fun _ _ => rfl
  have hown : s.vm.findClass RX5 = some m.cls := hown
  have hS : va_S A s.heap s.heap [] := va_S.rf
  have hl : lv_has ls 2 [(0, .ref (x 20)), (1, .int p1)] := hl
  refine lv_iload_n hx hb dX5_takeBox_0 rfl (lv_at hl 1 rfl) ?_
  refine lv_if_lt (tgt := 20) hx hb dX5_takeBox_1 (by decide) (fun c1 => ?_) (fun c1 => ?_)
  · skip
    have zc1 : p1.toInt < 0 := by rw [fa_lt, show (0 : Int32).toInt = 0 from by decide] at c1; exact c1
    refine lv_iconst (v := 0) hx hb dX5_takeBox_20 (by decide) ?_
    exact ret 0 (v, f) _ _ _ _ _ _ rfl ⟨hM_v, hA_f, hIv, rfl, rfl, rfl, rfl, rfl, rfl, rfl, rfl, (Or.inr rfl)⟩ hP hD hS dX5_takeBox_21 (Nat.le_refl _) (Nat.le_refl _)
  · skip
    have zc1 : ¬ (p1.toInt < 0) := by rw [fa_lt, show (0 : Int32).toInt = 0 from by decide] at c1; exact c1
    refine lv_iload_n hx hb dX5_takeBox_4 rfl (lv_at hl 1 rfl) ?_
    refine lv_iconst (v := 3) hx hb dX5_takeBox_5 (by decide) ?_
    refine lv_icmp_ge (tgt := 20) hx hb dX5_takeBox_6 (by decide) (fun c2 => ?_) (fun c2 => ?_)
    · skip
      have zc2 : 3 ≤ p1.toInt := by rw [fa_le, show (3 : Int32).toInt = 3 from by decide] at c2; exact c2
      refine lv_iconst (v := 0) hx hb dX5_takeBox_20 (by decide) ?_
      exact ret 0 (v, f) _ _ _ _ _ _ rfl ⟨hM_v, hA_f, hIv, rfl, rfl, rfl, rfl, rfl, rfl, rfl, rfl, (Or.inr rfl)⟩ hP hD hS dX5_takeBox_21 (Nat.le_refl _) (Nat.le_refl _)
    · skip
      have zc2 : ¬ (3 ≤ p1.toInt) := by rw [fa_le, show (3 : Int32).toInt = 3 from by decide] at c2; exact c2
      refine lv_aload_n hx hb dX5_takeBox_9 rfl (lv_at hl 0 rfl) ?_
      refine va_get (D := (dC, dI)) (ci := 5) (v := .int (v 20)) (C := RX5) (T := TX5) (N := 7) hx hb hts inB_5 hown hE.1 hP 21 rfl rfl 3 (by decide) (hts _ k_341) (fun _ h9 => h9) rfl dX5_takeBox_10 ?_
      refine lv_iload_n hx hb dX5_takeBox_13 rfl (lv_at hl 1 rfl) ?_
      refine lv_ishr hx hb dX5_takeBox_14 ?_
      refine lv_topi (fun t3 et3 => ?_)
      refine lv_iconst (v := 1) hx hb dX5_takeBox_15 (by decide) ?_
      refine lv_iand hx hb dX5_takeBox_16 ?_
      refine lv_topi (fun t4 et4 => ?_)
      have zt4 : 0 ≤ t4.toInt ∧ t4.toInt < 2 := by rw [et4]; exact and_rng _ (k := 1) (by decide) (by decide)
      refine lv_if_ne (tgt := 22) hx hb dX5_takeBox_17 (by decide) (fun c5 => ?_) (fun c5 => ?_)
      · skip
        have zc5 : ¬ (t4.toInt = 0) := by rw [fa_eq, show (0 : Int32).toInt = 0 from by decide] at c5; exact c5
        refine lv_aload_n hx hb dX5_takeBox_22 rfl (lv_at hl 0 rfl) ?_
        refine va_get (D := (dC, dI)) (ci := 5) (v := .ref (x 21)) (C := RX5) (T := TX5) (N := 7) hx hb hts inB_5 hown hE.1 hP 21 rfl rfl 0 (by decide) (hts _ k_338) (fun _ h9 => h9) rfl dX5_takeBox_23 ?_
        refine lv_aload_n hx hb dX5_takeBox_26 rfl (lv_at hl 0 rfl) ?_
        refine va_get (D := (dC, dI)) (ci := 5) (v := .ref (x 23)) (C := RX5) (T := TX5) (N := 7) hx hb hts inB_5 hown hE.1 hP 21 rfl rfl 2 (by decide) (hts _ k_340) (fun _ h9 => h9) rfl dX5_takeBox_27 ?_
        refine lv_iload_n hx hb dX5_takeBox_30 rfl (lv_at hl 1 rfl) ?_
        refine cbVv (n := 2) (rest := []) hx hb hml hown hts hE hP hD hS hA (sX_X1_loadFrom_2 l dC dI cy x0 x p1 v f hIv ) k_925 k_926 k_927 k_106 k_928 (by decide +kernel) ⟨Nat.le_of_ble_eq_true rfl, Nat.le_of_ble_eq_true rfl⟩ 22 1 rfl rfl (rfl) hl.1 rfl (Nat.le_of_ble_eq_true rfl) dX5_takeBox_31 (fun u H locs hw hP hD hS => ?_)
        obtain ⟨v6, f7⟩ := u
        obtain ⟨kV_v6, kF_f7, hIv6, hk0_v6, hk1_v6, hk7_v6, hk8_v6, hk9_v6, hk10_v6, hk31_v6, hk32_v6⟩ := hw
        have hM_v6 : KV [21, 22, 23] v6 v := KV.tr kV_v6 hM_v rfl
        have hA_f7 : KF [15, 17] f7 f := KF.tr kF_f7 hA_f rfl
        have hP : va_P (dC, dI) vwCl (XW cy x0 x v6 f7) H := hP
        have hD : va_D A (XW cy x0 x v6 f7) := hD
        have hq0_v6 : v6 0 = (v 0) := hk0_v6
        have hq1_v6 : v6 1 = (v 1) := hk1_v6
        have hq7_v6 : v6 7 = (v 7) := hk7_v6
        have hq8_v6 : v6 8 = (v 8) := hk8_v6
        have hq9_v6 : v6 9 = (v 9) := hk9_v6
        have hq10_v6 : v6 10 = (v 10) := hk10_v6
        have hq31_v6 : v6 31 = (v 31) := hk31_v6
        have hq32_v6 : v6 32 = (v 32) := hk32_v6
        refine lv_aload_n hx hb dX5_takeBox_34 rfl (lv_at hl 0 rfl) ?_
        refine cbVv (n := 0) (rest := []) hx hb hml hown hts hE hP hD hS hA (sX_X5_forgetActs_1 0 l dC dI cy x0 x  v6 f7 hIv6 ) k_782 k_784 k_19 k_107 k_785 (by decide +kernel) ⟨Nat.le_of_ble_eq_true rfl, Nat.le_of_ble_eq_true rfl⟩ 21 5 rfl rfl (rfl) hl.1 rfl (Nat.le_of_ble_eq_true rfl) dX5_takeBox_35 (fun u H locs hw hP hD hS => ?_)
        obtain ⟨hG8, hw⟩ := hw
        obtain ⟨v9, f10⟩ := u
        obtain ⟨kV_v9, kF_f10, hIv9, hk0_v9, hk1_v9, hk7_v9, hk8_v9, hk9_v9, hk10_v9, hk31_v9, hk32_v9⟩ := hw
        have hM_v9 : KV [21, 22, 23] v9 v := KV.tr kV_v9 hM_v6 rfl
        have hA_f10 : KF [15, 17] f10 f := KF.tr kF_f10 hA_f7 rfl
        have hP : va_P (dC, dI) vwCl (XW cy x0 x v9 f10) H := hP
        have hD : va_D A (XW cy x0 x v9 f10) := hD
        have hq0_v9 : v9 0 = (v 0) := hk0_v9.trans hq0_v6
        have hq1_v9 : v9 1 = (v 1) := hk1_v9.trans hq1_v6
        have hq7_v9 : v9 7 = (v 7) := hk7_v9.trans hq7_v6
        have hq8_v9 : v9 8 = (v 8) := hk8_v9.trans hq8_v6
        have hq9_v9 : v9 9 = (v 9) := hk9_v9.trans hq9_v6
        have hq10_v9 : v9 10 = (v 10) := hk10_v9.trans hq10_v6
        have hq31_v9 : v9 31 = (v 31) := hk31_v9.trans hq31_v6
        have hq32_v9 : v9 32 = (v 32) := hk32_v9.trans hq32_v6
        refine lv_iconst (v := 1) hx hb dX5_takeBox_38 (by decide) ?_
        exact ret 1 (v9, f10) _ _ _ _ _ _ rfl ⟨hM_v9, hA_f10, hIv9, (hk0_v9.trans hk0_v6), (hk1_v9.trans hk1_v6), (hk7_v9.trans hk7_v6), (hk8_v9.trans hk8_v6), (hk9_v9.trans hk9_v6), (hk10_v9.trans hk10_v6), (hk31_v9.trans hk31_v6), (hk32_v9.trans hk32_v6), (Or.inl rfl)⟩ hP hD hS dX5_takeBox_39 (Nat.le_refl _) (Nat.le_refl _)
      · skip
        have zc5 : t4.toInt = 0 := by rw [fa_eq, show (0 : Int32).toInt = 0 from by decide] at c5; exact c5
        refine lv_iconst (v := 0) hx hb dX5_takeBox_20 (by decide) ?_
        exact ret 0 (v, f) _ _ _ _ _ _ rfl ⟨hM_v, hA_f, hIv, rfl, rfl, rfl, rfl, rfl, rfl, rfl, rfl, (Or.inr rfl)⟩ hP hD hS dX5_takeBox_21 (Nat.le_refl _) (Nat.le_refl _)
set_option maxHeartbeats 4000000 in
set_option maxRecDepth 100000 in
theorem sX_X10_back_1 (l : Launch) (dC : Nat → ClassId) (dI : Nat → Nat → Nat) (cy : Nat → ClassId) (x0 : Nat) (x : Nat → Nat) (p1 : Int32) (v : Nat → Int32) (f : Nat → Nat → Int32) (hIv : XI v)  : ctI l (dC, dI) cy yX10_back cX10_back 2 .int 4 163 0 0 ((Nat → Int32) × (Nat → Nat → Int32)) [.ref x0, .int p1] (XW cy x0 x v f) (fun r u => KV [21, 22, 23] u.1 v ∧ KF [15, 17] u.2 f ∧ XI u.1 ∧ u.1 0 = v 0 ∧ u.1 1 = v 1 ∧ u.1 7 = v 7 ∧ u.1 8 = v 8 ∧ u.1 9 = v 9 ∧ u.1 10 = v 10 ∧ u.1 31 = v 31 ∧ u.1 32 = v 32) (fun u => XW cy x0 x u.1 u.2) := by
  refine ctI_of (by decide) (Nat.le_of_ble_eq_true rfl) (fun p e s m below meth c A ls Q hx hb hml hts hown hE hP hD hA hl ret => ?_)
  have hM_v : KV [21, 22, 23] v v := fun _ _ => rfl
  have hA_f : KF [15, 17] f f := fun _ _ => rfl
  have hown : s.vm.findClass RX10 = some m.cls := hown
  have hS : va_S A s.heap s.heap [] := va_S.rf
  have hl : lv_has ls 2 [(0, .ref x0), (1, .int p1)] := hl
  refine lv_aload_n hx hb dX10_back_0 rfl (lv_at hl 0 rfl) ?_
  refine va_get (D := (dC, dI)) (ci := 10) (v := .ref (x 20)) (C := RX10) (T := TX10) (N := 10) hx hb hts inB_10 hown hE.1 hP 0 rfl rfl 4 (by decide) (hts _ k_495) (fun _ h9 => h9) rfl dX10_back_1 ?_
  refine lv_iload_n hx hb dX10_back_4 rfl (lv_at hl 1 rfl) ?_
  refine cbVi (n := 1) (rest := []) hx hb hml hown hts hE hP hD hS hA (sX_X5_takeBox_1 l dC dI cy x0 x p1 v f hIv ) k_1302 k_1303 k_1304 k_107 k_1305 (by decide +kernel) ⟨Nat.le_of_ble_eq_true rfl, Nat.le_of_ble_eq_true rfl⟩ 21 5 rfl rfl (rfl) hl.1 rfl (Nat.le_of_ble_eq_true rfl) dX10_back_5 (fun r1 u H locs hw hP hD hS => ?_)
  obtain ⟨v2, f3⟩ := u
  obtain ⟨kV_v2, kF_f3, hIv2, hk0_v2, hk1_v2, hk7_v2, hk8_v2, hk9_v2, hk10_v2, hk31_v2, hk32_v2, hw⟩ := hw
  have hM_v2 : KV [21, 22, 23] v2 v := KV.tr kV_v2 hM_v rfl
  have hA_f3 : KF [15, 17] f3 f := KF.tr kF_f3 hA_f rfl
  have hP : va_P (dC, dI) vwCl (XW cy x0 x v2 f3) H := hP
  have hD : va_D A (XW cy x0 x v2 f3) := hD
  have hq0_v2 : v2 0 = (v 0) := hk0_v2
  have hq1_v2 : v2 1 = (v 1) := hk1_v2
  have hq7_v2 : v2 7 = (v 7) := hk7_v2
  have hq8_v2 : v2 8 = (v 8) := hk8_v2
  have hq9_v2 : v2 9 = (v 9) := hk9_v2
  have hq10_v2 : v2 10 = (v 10) := hk10_v2
  have hq31_v2 : v2 31 = (v 31) := hk31_v2
  have hq32_v2 : v2 32 = (v 32) := hk32_v2
  rcases hw with ⟨g4⟩ | ⟨g4⟩
  · skip
    subst g4
    refine lv_if_eq (tgt := 21) hx hb dX10_back_8 (by decide) (fun c0 => absurd c0 (by decide)) (fun _ => ?_)
    refine lv_aload_n hx hb dX10_back_11 rfl (lv_at hl 0 rfl) ?_
    refine va_get (D := (dC, dI)) (ci := 10) (v := .ref (x 21)) (C := RX10) (T := TX10) (N := 10) hx hb hts inB_10 hown hE.1 hP 0 rfl rfl 3 (by decide) (hts _ k_494) (fun _ h9 => h9) rfl dX10_back_12 ?_
    refine cbVi (n := 0) (rest := []) hx hb hml hown hts hE hP hD hS hA (sX_X1_today_1 l dC dI cy x0 x  v2 f3 hIv2 ) k_864 k_832 k_833 k_106 k_834 (by decide +kernel) ⟨Nat.le_of_ble_eq_true rfl, Nat.le_of_ble_eq_true rfl⟩ 22 1 rfl rfl (rfl) hl.1 rfl (Nat.le_of_ble_eq_true rfl) dX10_back_15 (fun r5 u H locs hw hP hD hS => ?_)
    refine lv_goto (tgt := 22) hx hb dX10_back_18 (by decide) ?_
    exact ret r5 (v2, f3) _ _ _ _ _ _ rfl ⟨hM_v2, hA_f3, hIv2, hk0_v2, hk1_v2, hk7_v2, hk8_v2, hk9_v2, hk10_v2, hk31_v2, hk32_v2⟩ hP hD hS dX10_back_22 (Nat.le_refl _) (Nat.le_refl _)
  · skip
    subst g4
    refine lv_if_eq (tgt := 21) hx hb dX10_back_8 (by decide) (fun _ => ?_) (fun c0 => absurd (by decide) c0)
    refine lv_iconst (v := (-1)) hx hb dX10_back_21 (by decide) ?_
    exact ret (-1) (v2, f3) _ _ _ _ _ _ rfl ⟨hM_v2, hA_f3, hIv2, hk0_v2, hk1_v2, hk7_v2, hk8_v2, hk9_v2, hk10_v2, hk31_v2, hk32_v2⟩ hP hD hS dX10_back_22 (Nat.le_refl _) (Nat.le_refl _)
