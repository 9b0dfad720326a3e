set_option maxHeartbeats 4000000 in
set_option maxRecDepth 100000 in
theorem sY_X11_isOwn_1 (NF : Nat) (l : Launch) (dC : Nat → ClassId) (dI : Nat → Nat → Nat) (cy : Nat → ClassId) (y0 : Nat) (r : Nat → Nat)  (v : Nat → Int32) (f : Nat → Nat → Int32) (w : Int64) (g : Nat → Int64) (hIv : YI v) (hCf : YC f) (hRf : progOK (f 4) (f 5) (v 9).toInt.toNat)  : ctI l (dC, dI) cy yX11_isOwn cX11_isOwn 1 .boolean 1 60 0 0 Unit [.ref y0] (YW cy y0 r v f w g) (fun r u => gsY_X11_isOwn_1 NF v f w g = r ∧ ((r = 1) ∨ (r = 0))) (fun u => YW cy y0 r v f w g) := by
  refine ctI_of (by decide) (Nat.le_of_ble_eq_true rfl) (fun p e s m below meth c A ls Q hx hb hml hts hown hE hP hD hA hl ret => ?_)
  have hUv : (v 35).toInt + (v 36).toInt ≤ 40 := hIv.2
  have hown : s.vm.findClass RX11 = some m.cls := hown
  have hS : va_S A s.heap s.heap [] := va_S.rf
  have hl : lv_has ls 1 [(0, .ref y0)] := hl
  refine lv_aload_n hx hb dX11_isOwn_0 rfl (lv_at hl 0 rfl) ?_
  refine va_get (D := (dC, dI)) (ci := 11) (v := .long w) (C := RX11) (T := TX11) (N := 79) hx hb hts inB_11 hown hE.1 hP 0 rfl rfl 9 (by decide) (hts _ k_1329) (fun _ h9 => h9) rfl dX11_isOwn_1 ?_
  refine lv_ldc2 (v := 7168366) hx hb hown (hts _ k_1600) dX11_isOwn_4 ?_
  refine W.lcmp hx hb dX11_isOwn_7 ?_
  refine lv_topi (fun t1 et1 => ?_)
  refine lv_if_eq (tgt := 231) hx hb dX11_isOwn_8 (by decide) (fun c2 => ?_) (fun c2 => ?_)
  · skip
    have zc2 : t1.toInt = 0 := by rw [fa_eq, show (0 : Int32).toInt = 0 from by decide] at c2; exact c2
    refine lv_iconst (v := 1) hx hb dX11_isOwn_231 (by decide) ?_
    refine lv_goto (tgt := 236) hx hb dX11_isOwn_232 (by decide) ?_
    exact ret 1 () _ _ _ _ _ _ rfl ⟨(gsY_X11_isOwn_1_q0 et1 c2), (Or.inl rfl)⟩ hP hD hS dX11_isOwn_236 (Nat.le_refl _) (Nat.le_refl _)
  · skip
    have zc2 : ¬ (t1.toInt = 0) := by rw [fa_eq, show (0 : Int32).toInt = 0 from by decide] at c2; exact c2
    refine lv_aload_n hx hb dX11_isOwn_11 rfl (lv_at hl 0 rfl) ?_
    refine va_get (D := (dC, dI)) (ci := 11) (v := .long w) (C := RX11) (T := TX11) (N := 79) hx hb hts inB_11 hown hE.1 hP 0 rfl rfl 9 (by decide) (hts _ k_1329) (fun _ h9 => h9) rfl dX11_isOwn_12 ?_
    refine lv_ldc2 (v := 1952541804) hx hb hown (hts _ k_1621) dX11_isOwn_15 ?_
    refine W.lcmp hx hb dX11_isOwn_18 ?_
    refine lv_topi (fun t3 et3 => ?_)
    refine lv_if_eq (tgt := 231) hx hb dX11_isOwn_19 (by decide) (fun c4 => ?_) (fun c4 => ?_)
    · skip
      have zc4 : t3.toInt = 0 := by rw [fa_eq, show (0 : Int32).toInt = 0 from by decide] at c4; exact c4
      refine lv_iconst (v := 1) hx hb dX11_isOwn_231 (by decide) ?_
      refine lv_goto (tgt := 236) hx hb dX11_isOwn_232 (by decide) ?_
      exact ret 1 () _ _ _ _ _ _ rfl ⟨(gsY_X11_isOwn_1_q1 et1 c2 et3 c4), (Or.inl rfl)⟩ hP hD hS dX11_isOwn_236 (Nat.le_refl _) (Nat.le_refl _)
    · skip
      have zc4 : ¬ (t3.toInt = 0) := by rw [fa_eq, show (0 : Int32).toInt = 0 from by decide] at c4; exact c4
      refine lv_aload_n hx hb dX11_isOwn_22 rfl (lv_at hl 0 rfl) ?_
      refine va_get (D := (dC, dI)) (ci := 11) (v := .long w) (C := RX11) (T := TX11) (N := 79) hx hb hts inB_11 hown hE.1 hP 0 rfl rfl 9 (by decide) (hts _ k_1329) (fun _ h9 => h9) rfl dX11_isOwn_23 ?_
      refine lv_ldc2 (v := 2003395685) hx hb hown (hts _ k_1622) dX11_isOwn_26 ?_
      refine W.lcmp hx hb dX11_isOwn_29 ?_
      refine lv_topi (fun t5 et5 => ?_)
      refine lv_if_eq (tgt := 231) hx hb dX11_isOwn_30 (by decide) (fun c6 => ?_) (fun c6 => ?_)
      · skip
        have zc6 : t5.toInt = 0 := by rw [fa_eq, show (0 : Int32).toInt = 0 from by decide] at c6; exact c6
        refine lv_iconst (v := 1) hx hb dX11_isOwn_231 (by decide) ?_
        refine lv_goto (tgt := 236) hx hb dX11_isOwn_232 (by decide) ?_
        exact ret 1 () _ _ _ _ _ _ rfl ⟨(gsY_X11_isOwn_1_q2 et1 c2 et3 c4 et5 c6), (Or.inl rfl)⟩ hP hD hS dX11_isOwn_236 (Nat.le_refl _) (Nat.le_refl _)
      · skip
        have zc6 : ¬ (t5.toInt = 0) := by rw [fa_eq, show (0 : Int32).toInt = 0 from by decide] at c6; exact c6
        refine lv_aload_n hx hb dX11_isOwn_33 rfl (lv_at hl 0 rfl) ?_
        refine va_get (D := (dC, dI)) (ci := 11) (v := .long w) (C := RX11) (T := TX11) (N := 79) hx hb hts inB_11 hown hE.1 hP 0 rfl rfl 9 (by decide) (hts _ k_1329) (fun _ h9 => h9) rfl dX11_isOwn_34 ?_
        refine lv_ldc2 (v := 444301539187) hx hb hown (hts _ k_1623) dX11_isOwn_37 ?_
        refine W.lcmp hx hb dX11_isOwn_40 ?_
        refine lv_topi (fun t7 et7 => ?_)
        refine lv_if_eq (tgt := 231) hx hb dX11_isOwn_41 (by decide) (fun c8 => ?_) (fun c8 => ?_)
        · skip
          have zc8 : t7.toInt = 0 := by rw [fa_eq, show (0 : Int32).toInt = 0 from by decide] at c8; exact c8
          refine lv_iconst (v := 1) hx hb dX11_isOwn_231 (by decide) ?_
          refine lv_goto (tgt := 236) hx hb dX11_isOwn_232 (by decide) ?_
          exact ret 1 () _ _ _ _ _ _ rfl ⟨(gsY_X11_isOwn_1_q3 et1 c2 et3 c4 et5 c6 et7 c8), (Or.inl rfl)⟩ hP hD hS dX11_isOwn_236 (Nat.le_refl _) (Nat.le_refl _)
        · skip
          have zc8 : ¬ (t7.toInt = 0) := by rw [fa_eq, show (0 : Int32).toInt = 0 from by decide] at c8; exact c8
          refine lv_aload_n hx hb dX11_isOwn_44 rfl (lv_at hl 0 rfl) ?_
          refine va_get (D := (dC, dI)) (ci := 11) (v := .long w) (C := RX11) (T := TX11) (N := 79) hx hb hts inB_11 hown hE.1 hP 0 rfl rfl 9 (by decide) (hts _ k_1329) (fun _ h9 => h9) rfl dX11_isOwn_45 ?_
          refine lv_ldc2 (v := 1668243828) hx hb hown (hts _ k_1624) dX11_isOwn_48 ?_
          refine W.lcmp hx hb dX11_isOwn_51 ?_
          refine lv_topi (fun t9 et9 => ?_)
          refine lv_if_eq (tgt := 231) hx hb dX11_isOwn_52 (by decide) (fun c10 => ?_) (fun c10 => ?_)
          · skip
            have zc10 : t9.toInt = 0 := by rw [fa_eq, show (0 : Int32).toInt = 0 from by decide] at c10; exact c10
            refine lv_iconst (v := 1) hx hb dX11_isOwn_231 (by decide) ?_
            refine lv_goto (tgt := 236) hx hb dX11_isOwn_232 (by decide) ?_
            exact ret 1 () _ _ _ _ _ _ rfl ⟨(gsY_X11_isOwn_1_q4 et1 c2 et3 c4 et5 c6 et7 c8 et9 c10), (Or.inl rfl)⟩ hP hD hS dX11_isOwn_236 (Nat.le_refl _) (Nat.le_refl _)
          · skip
            have zc10 : ¬ (t9.toInt = 0) := by rw [fa_eq, show (0 : Int32).toInt = 0 from by decide] at c10; exact c10
            refine lv_aload_n hx hb dX11_isOwn_55 rfl (lv_at hl 0 rfl) ?_
            refine va_get (D := (dC, dI)) (ci := 11) (v := .long w) (C := RX11) (T := TX11) (N := 79) hx hb hts inB_11 hown hE.1 hP 0 rfl rfl 9 (by decide) (hts _ k_1329) (fun _ h9 => h9) rfl dX11_isOwn_56 ?_
            refine lv_ldc2 (v := 1936023917) hx hb hown (hts _ k_1625) dX11_isOwn_59 ?_
            refine W.lcmp hx hb dX11_isOwn_62 ?_
            refine lv_topi (fun t11 et11 => ?_)
            refine lv_if_eq (tgt := 231) hx hb dX11_isOwn_63 (by decide) (fun c12 => ?_) (fun c12 => ?_)
            · skip
              have zc12 : t11.toInt = 0 := by rw [fa_eq, show (0 : Int32).toInt = 0 from by decide] at c12; exact c12
              refine lv_iconst (v := 1) hx hb dX11_isOwn_231 (by decide) ?_
              refine lv_goto (tgt := 236) hx hb dX11_isOwn_232 (by decide) ?_
              exact ret 1 () _ _ _ _ _ _ rfl ⟨(gsY_X11_isOwn_1_q5 et1 c2 et3 c4 et5 c6 et7 c8 et9 c10 et11 c12), (Or.inl rfl)⟩ hP hD hS dX11_isOwn_236 (Nat.le_refl _) (Nat.le_refl _)
            · skip
              have zc12 : ¬ (t11.toInt = 0) := by rw [fa_eq, show (0 : Int32).toInt = 0 from by decide] at c12; exact c12
              refine lv_aload_n hx hb dX11_isOwn_66 rfl (lv_at hl 0 rfl) ?_
              refine va_get (D := (dC, dI)) (ci := 11) (v := .long w) (C := RX11) (T := TX11) (N := 79) hx hb hts inB_11 hown hE.1 hP 0 rfl rfl 9 (by decide) (hts _ k_1329) (fun _ h9 => h9) rfl dX11_isOwn_67 ?_
              refine lv_ldc2 (v := 2003792494) hx hb hown (hts _ k_1626) dX11_isOwn_70 ?_
              refine W.lcmp hx hb dX11_isOwn_73 ?_
              refine lv_topi (fun t13 et13 => ?_)
              refine lv_if_eq (tgt := 231) hx hb dX11_isOwn_74 (by decide) (fun c14 => ?_) (fun c14 => ?_)
              · skip
                have zc14 : t13.toInt = 0 := by rw [fa_eq, show (0 : Int32).toInt = 0 from by decide] at c14; exact c14
                refine lv_iconst (v := 1) hx hb dX11_isOwn_231 (by decide) ?_
                refine lv_goto (tgt := 236) hx hb dX11_isOwn_232 (by decide) ?_
                exact ret 1 () _ _ _ _ _ _ rfl ⟨(gsY_X11_isOwn_1_q6 et1 c2 et3 c4 et5 c6 et7 c8 et9 c10 et11 c12 et13 c14), (Or.inl rfl)⟩ hP hD hS dX11_isOwn_236 (Nat.le_refl _) (Nat.le_refl _)
              · skip
                have zc14 : ¬ (t13.toInt = 0) := by rw [fa_eq, show (0 : Int32).toInt = 0 from by decide] at c14; exact c14
                refine lv_aload_n hx hb dX11_isOwn_77 rfl (lv_at hl 0 rfl) ?_
                refine va_get (D := (dC, dI)) (ci := 11) (v := .long w) (C := RX11) (T := TX11) (N := 79) hx hb hts inB_11 hown hE.1 hP 0 rfl rfl 9 (by decide) (hts _ k_1329) (fun _ h9 => h9) rfl dX11_isOwn_78 ?_
                refine lv_ldc2 (v := 6909036) hx hb hown (hts _ k_1627) dX11_isOwn_81 ?_
                refine W.lcmp hx hb dX11_isOwn_84 ?_
                refine lv_topi (fun t15 et15 => ?_)
                refine lv_if_eq (tgt := 231) hx hb dX11_isOwn_85 (by decide) (fun c16 => ?_) (fun c16 => ?_)
                · skip
                  have zc16 : t15.toInt = 0 := by rw [fa_eq, show (0 : Int32).toInt = 0 from by decide] at c16; exact c16
                  refine lv_iconst (v := 1) hx hb dX11_isOwn_231 (by decide) ?_
                  refine lv_goto (tgt := 236) hx hb dX11_isOwn_232 (by decide) ?_
                  exact ret 1 () _ _ _ _ _ _ rfl ⟨(gsY_X11_isOwn_1_q7 et1 c2 et3 c4 et5 c6 et7 c8 et9 c10 et11 c12 et13 c14 et15 c16), (Or.inl rfl)⟩ hP hD hS dX11_isOwn_236 (Nat.le_refl _) (Nat.le_refl _)
                · skip
                  have zc16 : ¬ (t15.toInt = 0) := by rw [fa_eq, show (0 : Int32).toInt = 0 from by decide] at c16; exact c16
                  refine lv_aload_n hx hb dX11_isOwn_88 rfl (lv_at hl 0 rfl) ?_
                  refine va_get (D := (dC, dI)) (ci := 11) (v := .long w) (C := RX11) (T := TX11) (N := 79) hx hb hts inB_11 hown hE.1 hP 0 rfl rfl 9 (by decide) (hts _ k_1329) (fun _ h9 => h9) rfl dX11_isOwn_89 ?_
                  refine lv_ldc2 (v := 1700885369) hx hb hown (hts _ k_1628) dX11_isOwn_92 ?_
                  refine W.lcmp hx hb dX11_isOwn_95 ?_
                  refine lv_topi (fun t17 et17 => ?_)
                  refine lv_if_eq (tgt := 231) hx hb dX11_isOwn_96 (by decide) (fun c18 => ?_) (fun c18 => ?_)
                  · skip
                    have zc18 : t17.toInt = 0 := by rw [fa_eq, show (0 : Int32).toInt = 0 from by decide] at c18; exact c18
                    refine lv_iconst (v := 1) hx hb dX11_isOwn_231 (by decide) ?_
                    refine lv_goto (tgt := 236) hx hb dX11_isOwn_232 (by decide) ?_
                    exact ret 1 () _ _ _ _ _ _ rfl ⟨(gsY_X11_isOwn_1_q8 et1 c2 et3 c4 et5 c6 et7 c8 et9 c10 et11 c12 et13 c14 et15 c16 et17 c18), (Or.inl rfl)⟩ hP hD hS dX11_isOwn_236 (Nat.le_refl _) (Nat.le_refl _)
                  · skip
                    have zc18 : ¬ (t17.toInt = 0) := by rw [fa_eq, show (0 : Int32).toInt = 0 from by decide] at c18; exact c18
                    refine lv_aload_n hx hb dX11_isOwn_99 rfl (lv_at hl 0 rfl) ?_
                    refine va_get (D := (dC, dI)) (ci := 11) (v := .long w) (C := RX11) (T := TX11) (N := 79) hx hb hts inB_11 hown hE.1 hP 0 rfl rfl 9 (by decide) (hts _ k_1329) (fun _ h9 => h9) rfl dX11_isOwn_100 ?_
                    refine lv_ldc2 (v := 1651469428) hx hb hown (hts _ k_1629) dX11_isOwn_103 ?_
                    refine W.lcmp hx hb dX11_isOwn_106 ?_
                    refine lv_topi (fun t19 et19 => ?_)
                    refine lv_if_eq (tgt := 231) hx hb dX11_isOwn_107 (by decide) (fun c20 => ?_) (fun c20 => ?_)
                    · skip
                      have zc20 : t19.toInt = 0 := by rw [fa_eq, show (0 : Int32).toInt = 0 from by decide] at c20; exact c20
                      refine lv_iconst (v := 1) hx hb dX11_isOwn_231 (by decide) ?_
                      refine lv_goto (tgt := 236) hx hb dX11_isOwn_232 (by decide) ?_
                      exact ret 1 () _ _ _ _ _ _ rfl ⟨(gsY_X11_isOwn_1_q9 et1 c2 et3 c4 et5 c6 et7 c8 et9 c10 et11 c12 et13 c14 et15 c16 et17 c18 et19 c20), (Or.inl rfl)⟩ hP hD hS dX11_isOwn_236 (Nat.le_refl _) (Nat.le_refl _)
                    · skip
                      have zc20 : ¬ (t19.toInt = 0) := by rw [fa_eq, show (0 : Int32).toInt = 0 from by decide] at c20; exact c20
                      refine lv_aload_n hx hb dX11_isOwn_110 rfl (lv_at hl 0 rfl) ?_
                      refine va_get (D := (dC, dI)) (ci := 11) (v := .long w) (C := RX11) (T := TX11) (N := 79) hx hb hts inB_11 hown hE.1 hP 0 rfl rfl 9 (by decide) (hts _ k_1329) (fun _ h9 => h9) rfl dX11_isOwn_111 ?_
                      refine lv_ldc2 (v := 1818848101) hx hb hown (hts _ k_1630) dX11_isOwn_114 ?_
                      refine W.lcmp hx hb dX11_isOwn_117 ?_
                      refine lv_topi (fun t21 et21 => ?_)
                      refine lv_if_eq (tgt := 231) hx hb dX11_isOwn_118 (by decide) (fun c22 => ?_) (fun c22 => ?_)
                      · skip
                        have zc22 : t21.toInt = 0 := by rw [fa_eq, show (0 : Int32).toInt = 0 from by decide] at c22; exact c22
                        refine lv_iconst (v := 1) hx hb dX11_isOwn_231 (by decide) ?_
                        refine lv_goto (tgt := 236) hx hb dX11_isOwn_232 (by decide) ?_
                        exact ret 1 () _ _ _ _ _ _ rfl ⟨(gsY_X11_isOwn_1_q10 et1 c2 et3 c4 et5 c6 et7 c8 et9 c10 et11 c12 et13 c14 et15 c16 et17 c18 et19 c20 et21 c22), (Or.inl rfl)⟩ hP hD hS dX11_isOwn_236 (Nat.le_refl _) (Nat.le_refl _)
                      · skip
                        have zc22 : ¬ (t21.toInt = 0) := by rw [fa_eq, show (0 : Int32).toInt = 0 from by decide] at c22; exact c22
                        refine lv_aload_n hx hb dX11_isOwn_121 rfl (lv_at hl 0 rfl) ?_
                        refine va_get (D := (dC, dI)) (ci := 11) (v := .long w) (C := RX11) (T := TX11) (N := 79) hx hb hts inB_11 hown hE.1 hP 0 rfl rfl 9 (by decide) (hts _ k_1329) (fun _ h9 => h9) rfl dX11_isOwn_122 ?_
                        refine lv_ldc2 (v := 1918986606) hx hb hown (hts _ k_1631) dX11_isOwn_125 ?_
                        refine W.lcmp hx hb dX11_isOwn_128 ?_
                        refine lv_topi (fun t23 et23 => ?_)
                        refine lv_if_eq (tgt := 231) hx hb dX11_isOwn_129 (by decide) (fun c24 => ?_) (fun c24 => ?_)
                        · skip
                          have zc24 : t23.toInt = 0 := by rw [fa_eq, show (0 : Int32).toInt = 0 from by decide] at c24; exact c24
                          refine lv_iconst (v := 1) hx hb dX11_isOwn_231 (by decide) ?_
                          refine lv_goto (tgt := 236) hx hb dX11_isOwn_232 (by decide) ?_
                          exact ret 1 () _ _ _ _ _ _ rfl ⟨(gsY_X11_isOwn_1_q11 et1 c2 et3 c4 et5 c6 et7 c8 et9 c10 et11 c12 et13 c14 et15 c16 et17 c18 et19 c20 et21 c22 et23 c24), (Or.inl rfl)⟩ hP hD hS dX11_isOwn_236 (Nat.le_refl _) (Nat.le_refl _)
                        · skip
                          have zc24 : ¬ (t23.toInt = 0) := by rw [fa_eq, show (0 : Int32).toInt = 0 from by decide] at c24; exact c24
                          refine lv_aload_n hx hb dX11_isOwn_132 rfl (lv_at hl 0 rfl) ?_
                          refine va_get (D := (dC, dI)) (ci := 11) (v := .long w) (C := RX11) (T := TX11) (N := 79) hx hb hts inB_11 hown hE.1 hP 0 rfl rfl 9 (by decide) (hts _ k_1329) (fun _ h9 => h9) rfl dX11_isOwn_133 ?_
                          refine lv_ldc2 (v := 1685217655) hx hb hown (hts _ k_1632) dX11_isOwn_136 ?_
                          refine W.lcmp hx hb dX11_isOwn_139 ?_
                          refine lv_topi (fun t25 et25 => ?_)
                          refine lv_if_eq (tgt := 231) hx hb dX11_isOwn_140 (by decide) (fun c26 => ?_) (fun c26 => ?_)
                          · skip
                            have zc26 : t25.toInt = 0 := by rw [fa_eq, show (0 : Int32).toInt = 0 from by decide] at c26; exact c26
                            refine lv_iconst (v := 1) hx hb dX11_isOwn_231 (by decide) ?_
                            refine lv_goto (tgt := 236) hx hb dX11_isOwn_232 (by decide) ?_
                            exact ret 1 () _ _ _ _ _ _ rfl ⟨(gsY_X11_isOwn_1_q12 et1 c2 et3 c4 et5 c6 et7 c8 et9 c10 et11 c12 et13 c14 et15 c16 et17 c18 et19 c20 et21 c22 et23 c24 et25 c26), (Or.inl rfl)⟩ hP hD hS dX11_isOwn_236 (Nat.le_refl _) (Nat.le_refl _)
                          · skip
                            have zc26 : ¬ (t25.toInt = 0) := by rw [fa_eq, show (0 : Int32).toInt = 0 from by decide] at c26; exact c26
                            refine lv_aload_n hx hb dX11_isOwn_143 rfl (lv_at hl 0 rfl) ?_
                            refine va_get (D := (dC, dI)) (ci := 11) (v := .long w) (C := RX11) (T := TX11) (N := 79) hx hb hts inB_11 hown hE.1 hP 0 rfl rfl 9 (by decide) (hts _ k_1329) (fun _ h9 => h9) rfl dX11_isOwn_144 ?_
                            refine lv_ldc2 (v := 499984590964) hx hb hown (hts _ k_1633) dX11_isOwn_147 ?_
                            refine W.lcmp hx hb dX11_isOwn_150 ?_
                            refine lv_topi (fun t27 et27 => ?_)
                            refine lv_if_eq (tgt := 231) hx hb dX11_isOwn_151 (by decide) (fun c28 => ?_) (fun c28 => ?_)
                            · skip
                              have zc28 : t27.toInt = 0 := by rw [fa_eq, show (0 : Int32).toInt = 0 from by decide] at c28; exact c28
                              refine lv_iconst (v := 1) hx hb dX11_isOwn_231 (by decide) ?_
                              refine lv_goto (tgt := 236) hx hb dX11_isOwn_232 (by decide) ?_
                              exact ret 1 () _ _ _ _ _ _ rfl ⟨(gsY_X11_isOwn_1_q13 et1 c2 et3 c4 et5 c6 et7 c8 et9 c10 et11 c12 et13 c14 et15 c16 et17 c18 et19 c20 et21 c22 et23 c24 et25 c26 et27 c28), (Or.inl rfl)⟩ hP hD hS dX11_isOwn_236 (Nat.le_refl _) (Nat.le_refl _)
                            · skip
                              have zc28 : ¬ (t27.toInt = 0) := by rw [fa_eq, show (0 : Int32).toInt = 0 from by decide] at c28; exact c28
                              refine lv_aload_n hx hb dX11_isOwn_154 rfl (lv_at hl 0 rfl) ?_
                              refine va_get (D := (dC, dI)) (ci := 11) (v := .long w) (C := RX11) (T := TX11) (N := 79) hx hb hts inB_11 hown hE.1 hP 0 rfl rfl 9 (by decide) (hts _ k_1329) (fun _ h9 => h9) rfl dX11_isOwn_155 ?_
                              refine lv_ldc2 (v := 465726042981) hx hb hown (hts _ k_1634) dX11_isOwn_158 ?_
                              refine W.lcmp hx hb dX11_isOwn_161 ?_
                              refine lv_topi (fun t29 et29 => ?_)
                              refine lv_if_eq (tgt := 231) hx hb dX11_isOwn_162 (by decide) (fun c30 => ?_) (fun c30 => ?_)
                              · skip
                                have zc30 : t29.toInt = 0 := by rw [fa_eq, show (0 : Int32).toInt = 0 from by decide] at c30; exact c30
                                refine lv_iconst (v := 1) hx hb dX11_isOwn_231 (by decide) ?_
                                refine lv_goto (tgt := 236) hx hb dX11_isOwn_232 (by decide) ?_
                                exact ret 1 () _ _ _ _ _ _ rfl ⟨(gsY_X11_isOwn_1_q14 et1 c2 et3 c4 et5 c6 et7 c8 et9 c10 et11 c12 et13 c14 et15 c16 et17 c18 et19 c20 et21 c22 et23 c24 et25 c26 et27 c28 et29 c30), (Or.inl rfl)⟩ hP hD hS dX11_isOwn_236 (Nat.le_refl _) (Nat.le_refl _)
                              · skip
                                have zc30 : ¬ (t29.toInt = 0) := by rw [fa_eq, show (0 : Int32).toInt = 0 from by decide] at c30; exact c30
                                refine lv_aload_n hx hb dX11_isOwn_165 rfl (lv_at hl 0 rfl) ?_
                                refine va_get (D := (dC, dI)) (ci := 11) (v := .long w) (C := RX11) (T := TX11) (N := 79) hx hb hts inB_11 hown hE.1 hP 0 rfl rfl 9 (by decide) (hts _ k_1329) (fun _ h9 => h9) rfl dX11_isOwn_166 ?_
                                refine lv_ldc2 (v := 495673373300) hx hb hown (hts _ k_1635) dX11_isOwn_169 ?_
                                refine W.lcmp hx hb dX11_isOwn_172 ?_
                                refine lv_topi (fun t31 et31 => ?_)
                                refine lv_if_eq (tgt := 231) hx hb dX11_isOwn_173 (by decide) (fun c32 => ?_) (fun c32 => ?_)
                                · skip
                                  have zc32 : t31.toInt = 0 := by rw [fa_eq, show (0 : Int32).toInt = 0 from by decide] at c32; exact c32
                                  refine lv_iconst (v := 1) hx hb dX11_isOwn_231 (by decide) ?_
                                  refine lv_goto (tgt := 236) hx hb dX11_isOwn_232 (by decide) ?_
                                  exact ret 1 () _ _ _ _ _ _ rfl ⟨(gsY_X11_isOwn_1_q15 et1 c2 et3 c4 et5 c6 et7 c8 et9 c10 et11 c12 et13 c14 et15 c16 et17 c18 et19 c20 et21 c22 et23 c24 et25 c26 et27 c28 et29 c30 et31 c32), (Or.inl rfl)⟩ hP hD hS dX11_isOwn_236 (Nat.le_refl _) (Nat.le_refl _)
                                · skip
                                  have zc32 : ¬ (t31.toInt = 0) := by rw [fa_eq, show (0 : Int32).toInt = 0 from by decide] at c32; exact c32
                                  refine lv_aload_n hx hb dX11_isOwn_176 rfl (lv_at hl 0 rfl) ?_
                                  refine va_get (D := (dC, dI)) (ci := 11) (v := .long w) (C := RX11) (T := TX11) (N := 79) hx hb hts inB_11 hown hE.1 hP 0 rfl rfl 9 (by decide) (hts _ k_1329) (fun _ h9 => h9) rfl dX11_isOwn_177 ?_
                                  refine lv_ldc2 (v := 1819242087) hx hb hown (hts _ k_1636) dX11_isOwn_180 ?_
                                  refine W.lcmp hx hb dX11_isOwn_183 ?_
                                  refine lv_topi (fun t33 et33 => ?_)
                                  refine lv_if_eq (tgt := 231) hx hb dX11_isOwn_184 (by decide) (fun c34 => ?_) (fun c34 => ?_)
                                  · skip
                                    have zc34 : t33.toInt = 0 := by rw [fa_eq, show (0 : Int32).toInt = 0 from by decide] at c34; exact c34
                                    refine lv_iconst (v := 1) hx hb dX11_isOwn_231 (by decide) ?_
                                    refine lv_goto (tgt := 236) hx hb dX11_isOwn_232 (by decide) ?_
                                    exact ret 1 () _ _ _ _ _ _ rfl ⟨(gsY_X11_isOwn_1_q16 et1 c2 et3 c4 et5 c6 et7 c8 et9 c10 et11 c12 et13 c14 et15 c16 et17 c18 et19 c20 et21 c22 et23 c24 et25 c26 et27 c28 et29 c30 et31 c32 et33 c34), (Or.inl rfl)⟩ hP hD hS dX11_isOwn_236 (Nat.le_refl _) (Nat.le_refl _)
                                  · skip
                                    have zc34 : ¬ (t33.toInt = 0) := by rw [fa_eq, show (0 : Int32).toInt = 0 from by decide] at c34; exact c34
                                    refine lv_aload_n hx hb dX11_isOwn_187 rfl (lv_at hl 0 rfl) ?_
                                    refine va_get (D := (dC, dI)) (ci := 11) (v := .long w) (C := RX11) (T := TX11) (N := 79) hx hb hts inB_11 hown hE.1 hP 0 rfl rfl 9 (by decide) (hts _ k_1329) (fun _ h9 => h9) rfl dX11_isOwn_188 ?_
                                    refine lv_ldc2 (v := 6578553) hx hb hown (hts _ k_1637) dX11_isOwn_191 ?_
                                    refine W.lcmp hx hb dX11_isOwn_194 ?_
                                    refine lv_topi (fun t35 et35 => ?_)
                                    refine lv_if_eq (tgt := 231) hx hb dX11_isOwn_195 (by decide) (fun c36 => ?_) (fun c36 => ?_)
                                    · skip
                                      have zc36 : t35.toInt = 0 := by rw [fa_eq, show (0 : Int32).toInt = 0 from by decide] at c36; exact c36
                                      refine lv_iconst (v := 1) hx hb dX11_isOwn_231 (by decide) ?_
                                      refine lv_goto (tgt := 236) hx hb dX11_isOwn_232 (by decide) ?_
                                      exact ret 1 () _ _ _ _ _ _ rfl ⟨(gsY_X11_isOwn_1_q17 et1 c2 et3 c4 et5 c6 et7 c8 et9 c10 et11 c12 et13 c14 et15 c16 et17 c18 et19 c20 et21 c22 et23 c24 et25 c26 et27 c28 et29 c30 et31 c32 et33 c34 et35 c36), (Or.inl rfl)⟩ hP hD hS dX11_isOwn_236 (Nat.le_refl _) (Nat.le_refl _)
                                    · skip
                                      have zc36 : ¬ (t35.toInt = 0) := by rw [fa_eq, show (0 : Int32).toInt = 0 from by decide] at c36; exact c36
                                      refine lv_aload_n hx hb dX11_isOwn_198 rfl (lv_at hl 0 rfl) ?_
                                      refine va_get (D := (dC, dI)) (ci := 11) (v := .long w) (C := RX11) (T := TX11) (N := 79) hx hb hts inB_11 hown hE.1 hP 0 rfl rfl 9 (by decide) (hts _ k_1329) (fun _ h9 => h9) rfl dX11_isOwn_199 ?_
                                      refine lv_ldc2 (v := 6385252) hx hb hown (hts _ k_1638) dX11_isOwn_202 ?_
                                      refine W.lcmp hx hb dX11_isOwn_205 ?_
                                      refine lv_topi (fun t37 et37 => ?_)
                                      refine lv_if_eq (tgt := 231) hx hb dX11_isOwn_206 (by decide) (fun c38 => ?_) (fun c38 => ?_)
                                      · skip
                                        have zc38 : t37.toInt = 0 := by rw [fa_eq, show (0 : Int32).toInt = 0 from by decide] at c38; exact c38
                                        refine lv_iconst (v := 1) hx hb dX11_isOwn_231 (by decide) ?_
                                        refine lv_goto (tgt := 236) hx hb dX11_isOwn_232 (by decide) ?_
                                        exact ret 1 () _ _ _ _ _ _ rfl ⟨(gsY_X11_isOwn_1_q18 et1 c2 et3 c4 et5 c6 et7 c8 et9 c10 et11 c12 et13 c14 et15 c16 et17 c18 et19 c20 et21 c22 et23 c24 et25 c26 et27 c28 et29 c30 et31 c32 et33 c34 et35 c36 et37 c38), (Or.inl rfl)⟩ hP hD hS dX11_isOwn_236 (Nat.le_refl _) (Nat.le_refl _)
                                      · skip
                                        have zc38 : ¬ (t37.toInt = 0) := by rw [fa_eq, show (0 : Int32).toInt = 0 from by decide] at c38; exact c38
                                        refine lv_aload_n hx hb dX11_isOwn_209 rfl (lv_at hl 0 rfl) ?_
                                        refine va_get (D := (dC, dI)) (ci := 11) (v := .long w) (C := RX11) (T := TX11) (N := 79) hx hb hts inB_11 hown hE.1 hP 0 rfl rfl 9 (by decide) (hts _ k_1329) (fun _ h9 => h9) rfl dX11_isOwn_210 ?_
                                        refine lv_ldc2 (v := 28530) hx hb hown (hts _ k_1639) dX11_isOwn_213 ?_
                                        refine W.lcmp hx hb dX11_isOwn_216 ?_
                                        refine lv_topi (fun t39 et39 => ?_)
                                        refine lv_if_eq (tgt := 231) hx hb dX11_isOwn_217 (by decide) (fun c40 => ?_) (fun c40 => ?_)
                                        · skip
                                          have zc40 : t39.toInt = 0 := by rw [fa_eq, show (0 : Int32).toInt = 0 from by decide] at c40; exact c40
                                          refine lv_iconst (v := 1) hx hb dX11_isOwn_231 (by decide) ?_
                                          refine lv_goto (tgt := 236) hx hb dX11_isOwn_232 (by decide) ?_
                                          exact ret 1 () _ _ _ _ _ _ rfl ⟨(gsY_X11_isOwn_1_q19 et1 c2 et3 c4 et5 c6 et7 c8 et9 c10 et11 c12 et13 c14 et15 c16 et17 c18 et19 c20 et21 c22 et23 c24 et25 c26 et27 c28 et29 c30 et31 c32 et33 c34 et35 c36 et37 c38 et39 c40), (Or.inl rfl)⟩ hP hD hS dX11_isOwn_236 (Nat.le_refl _) (Nat.le_refl _)
                                        · skip
                                          have zc40 : ¬ (t39.toInt = 0) := by rw [fa_eq, show (0 : Int32).toInt = 0 from by decide] at c40; exact c40
                                          refine lv_aload_n hx hb dX11_isOwn_220 rfl (lv_at hl 0 rfl) ?_
                                          refine va_get (D := (dC, dI)) (ci := 11) (v := .long w) (C := RX11) (T := TX11) (N := 79) hx hb hts inB_11 hown hE.1 hP 0 rfl rfl 9 (by decide) (hts _ k_1329) (fun _ h9 => h9) rfl dX11_isOwn_221 ?_
                                          refine lv_ldc2 (v := 7237492) hx hb hown (hts _ k_1640) dX11_isOwn_224 ?_
                                          refine W.lcmp hx hb dX11_isOwn_227 ?_
                                          refine lv_topi (fun t41 et41 => ?_)
                                          refine lv_if_ne (tgt := 235) hx hb dX11_isOwn_228 (by decide) (fun c42 => ?_) (fun c42 => ?_)
                                          · skip
                                            have zc42 : ¬ (t41.toInt = 0) := by rw [fa_eq, show (0 : Int32).toInt = 0 from by decide] at c42; exact c42
                                            refine lv_iconst (v := 0) hx hb dX11_isOwn_235 (by decide) ?_
                                            exact ret 0 () _ _ _ _ _ _ rfl ⟨(gsY_X11_isOwn_1_q20 et1 c2 et3 c4 et5 c6 et7 c8 et9 c10 et11 c12 et13 c14 et15 c16 et17 c18 et19 c20 et21 c22 et23 c24 et25 c26 et27 c28 et29 c30 et31 c32 et33 c34 et35 c36 et37 c38 et39 c40 et41 c42), (Or.inr rfl)⟩ hP hD hS dX11_isOwn_236 (Nat.le_refl _) (Nat.le_refl _)
                                          · skip
                                            have zc42 : t41.toInt = 0 := by rw [fa_eq, show (0 : Int32).toInt = 0 from by decide] at c42; exact c42
                                            refine lv_iconst (v := 1) hx hb dX11_isOwn_231 (by decide) ?_
                                            refine lv_goto (tgt := 236) hx hb dX11_isOwn_232 (by decide) ?_
                                            exact ret 1 () _ _ _ _ _ _ rfl ⟨(gsY_X11_isOwn_1_q21 et1 c2 et3 c4 et5 c6 et7 c8 et9 c10 et11 c12 et13 c14 et15 c16 et17 c18 et19 c20 et21 c22 et23 c24 et25 c26 et27 c28 et29 c30 et31 c32 et33 c34 et35 c36 et37 c38 et39 c40 et41 c42), (Or.inl rfl)⟩ hP hD hS dX11_isOwn_236 (Nat.le_refl _) (Nat.le_refl _)
set_option maxHeartbeats 4000000 in
set_option maxRecDepth 100000 in
theorem sY_X11_isName_1 (NF : Nat) (l : Launch) (dC : Nat → ClassId) (dI : Nat → Nat → Nat) (cy : Nat → ClassId) (y0 : Nat) (r : Nat → Nat)  (v : Nat → Int32) (f : Nat → Nat → Int32) (w : Int64) (g : Nat → Int64) (hIv : YI v) (hCf : YC f) (hRf : progOK (f 4) (f 5) (v 9).toInt.toNat)  : ctI l (dC, dI) cy yX11_isName cX11_isName 1 .boolean 2 80 0 0 Unit [.ref y0] (YW cy y0 r v f w g) (fun r u => gsY_X11_isName_1 NF v f w g = r ∧ ((r = 1) ∨ (r = 0))) (fun u => YW cy y0 r v f w g) := by
  refine ctI_of (by decide) (Nat.le_of_ble_eq_true rfl) (fun p e s m below meth c A ls Q hx hb hml hts hown hE hP hD hA hl ret => ?_)
  have hUv : (v 35).toInt + (v 36).toInt ≤ 40 := hIv.2
  have hown : s.vm.findClass RX11 = some m.cls := hown
  have hS : va_S A s.heap s.heap [] := va_S.rf
  have hl : lv_has ls 1 [(0, .ref y0)] := hl
  refine lv_aload_n hx hb dX11_isName_0 rfl (lv_at hl 0 rfl) ?_
  refine va_get (D := (dC, dI)) (ci := 11) (v := .int (v 5)) (C := RX11) (T := TX11) (N := 79) hx hb hts inB_11 hown hE.1 hP 0 rfl rfl 6 (by decide) (hts _ k_1326) (fun _ h9 => h9) rfl dX11_isName_1 ?_
  refine lv_iconst (v := 1) hx hb dX11_isName_4 (by decide) ?_
  refine lv_icmp_ne (tgt := 19) hx hb dX11_isName_5 (by decide) (fun c1 => ?_) (fun c1 => ?_)
  · skip
    have zc1 : ¬ ((v 5).toInt = 1) := by rw [fa_eq, show (1 : Int32).toInt = 1 from by decide] at c1; exact c1
    refine lv_iconst (v := 0) hx hb dX11_isName_19 (by decide) ?_
    exact ret 0 () _ _ _ _ _ _ rfl ⟨(gsY_X11_isName_1_q0 c1), (Or.inr rfl)⟩ hP hD hS dX11_isName_20 (Nat.le_refl _) (Nat.le_refl _)
  · skip
    have zc1 : (v 5).toInt = 1 := by rw [fa_eq, show (1 : Int32).toInt = 1 from by decide] at c1; exact c1
    refine lv_aload_n hx hb dX11_isName_8 rfl (lv_at hl 0 rfl) ?_
    refine cbVi (n := 0) (rest := []) hx hb hml hown hts hE hP hD hS hA (sY_X11_isOwn_1 NF l dC dI cy y0 r  v f w g hIv hCf hRf ) k_1617 k_1619 k_49 k_114 k_1620 (by decide +kernel) ⟨Nat.le_of_ble_eq_true rfl, Nat.le_of_ble_eq_true rfl⟩ 0 11 rfl rfl (rfl) hl.1 rfl (Nat.le_of_ble_eq_true rfl) dX11_isName_9 (fun r2 u H locs hw hP hD hS => ?_)
    obtain ⟨hG3, hw⟩ := hw
    rcases hw with ⟨g4⟩ | ⟨g4⟩
    · skip
      subst g4
      refine lv_if_ne (tgt := 19) hx hb dX11_isName_12 (by decide) (fun _ => ?_) (fun c0 => absurd c0 (by decide))
      refine lv_iconst (v := 0) hx hb dX11_isName_19 (by decide) ?_
      exact ret 0 () _ _ _ _ _ _ rfl ⟨(gsY_X11_isName_1_q1 c1 hG3), (Or.inr rfl)⟩ hP hD hS dX11_isName_20 (Nat.le_refl _) (Nat.le_refl _)
    · skip
      subst g4
      refine lv_if_ne (tgt := 19) hx hb dX11_isName_12 (by decide) (fun c0 => absurd (by decide) c0) (fun _ => ?_)
      refine lv_iconst (v := 1) hx hb dX11_isName_15 (by decide) ?_
      refine lv_goto (tgt := 20) hx hb dX11_isName_16 (by decide) ?_
      exact ret 1 () _ _ _ _ _ _ rfl ⟨(gsY_X11_isName_1_q2 c1 hG3), (Or.inl rfl)⟩ hP hD hS dX11_isName_20 (Nat.le_refl _) (Nat.le_refl _)
