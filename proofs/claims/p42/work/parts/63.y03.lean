set_option maxHeartbeats 4000000 in
set_option maxRecDepth 100000 in
theorem sY_X11_isOwn_1 (l : Launch) (dC : Nat → ClassId) (dI : Nat → Nat → Nat) (cy : Nat → ClassId) (y0 : Nat) (r : Nat → Nat)  (v : Nat → Int32) (f : Nat → Nat → Int32) (w : Int64) (g : Nat → Int64) (hIv : YI v) (hCf : YC f) (hRf : progOK (f 4) (f 5) (v 9).toInt.toNat)  : ctI l (dC, dI) cy yX11_isOwn cX11_isOwn 1 .boolean 1 60 0 0 Unit [.ref y0] (YW cy y0 r v f w g) (fun r u => ((r = 1) ∨ (r = 0))) (fun u => YW cy y0 r v f w g) := by
  refine ctI_of (by decide) (Nat.le_of_ble_eq_true rfl) (fun p e s m below meth c A ls Q hx hb hml hts hown hE hP hD hA hl ret => ?_)
  have hUv : (v 35).toInt + (v 36).toInt ≤ 40 := hIv.2
  have hown : s.vm.findClass RX11 = some m.cls := hown
  have hS : va_S A s.heap s.heap [] := va_S.rf
  have hl : lv_has ls 1 [(0, .ref y0)] := hl
  refine lv_aload_n hx hb dX11_isOwn_0 rfl (lv_at hl 0 rfl) ?_
  refine va_get (D := (dC, dI)) (ci := 11) (v := .long w) (C := RX11) (T := TX11) (N := 79) hx hb hts inB_11 hown hE.1 hP 0 rfl rfl 9 (by decide) (hts _ k_1329) (fun _ h9 => h9) rfl dX11_isOwn_1 ?_
  refine lv_ldc2 (v := 7168366) hx hb hown (hts _ k_1600) dX11_isOwn_4 ?_
  refine W.lcmp hx hb dX11_isOwn_7 ?_
  refine lv_topi (fun t1 et1 => ?_)
  refine lv_if_eq (tgt := 231) hx hb dX11_isOwn_8 (by decide) (fun c2 => ?_) (fun c2 => ?_)
  · skip
    have zc2 : t1.toInt = 0 := by rw [fa_eq, show (0 : Int32).toInt = 0 from by decide] at c2; exact c2
    refine lv_iconst (v := 1) hx hb dX11_isOwn_231 (by decide) ?_
    refine lv_goto (tgt := 236) hx hb dX11_isOwn_232 (by decide) ?_
    exact ret 1 () _ _ _ _ _ _ rfl (Or.inl rfl) hP hD hS dX11_isOwn_236 (Nat.le_refl _) (Nat.le_refl _)
  · skip
    have zc2 : ¬ (t1.toInt = 0) := by rw [fa_eq, show (0 : Int32).toInt = 0 from by decide] at c2; exact c2
    refine lv_aload_n hx hb dX11_isOwn_11 rfl (lv_at hl 0 rfl) ?_
    refine va_get (D := (dC, dI)) (ci := 11) (v := .long w) (C := RX11) (T := TX11) (N := 79) hx hb hts inB_11 hown hE.1 hP 0 rfl rfl 9 (by decide) (hts _ k_1329) (fun _ h9 => h9) rfl dX11_isOwn_12 ?_
    refine lv_ldc2 (v := 1952541804) hx hb hown (hts _ k_1621) dX11_isOwn_15 ?_
    refine W.lcmp hx hb dX11_isOwn_18 ?_
    refine lv_topi (fun t3 et3 => ?_)
    refine lv_if_eq (tgt := 231) hx hb dX11_isOwn_19 (by decide) (fun c4 => ?_) (fun c4 => ?_)
    · skip
      have zc4 : t3.toInt = 0 := by rw [fa_eq, show (0 : Int32).toInt = 0 from by decide] at c4; exact c4
      refine lv_iconst (v := 1) hx hb dX11_isOwn_231 (by decide) ?_
      refine lv_goto (tgt := 236) hx hb dX11_isOwn_232 (by decide) ?_
      exact ret 1 () _ _ _ _ _ _ rfl (Or.inl rfl) hP hD hS dX11_isOwn_236 (Nat.le_refl _) (Nat.le_refl _)
    · skip
      have zc4 : ¬ (t3.toInt = 0) := by rw [fa_eq, show (0 : Int32).toInt = 0 from by decide] at c4; exact c4
      refine lv_aload_n hx hb dX11_isOwn_22 rfl (lv_at hl 0 rfl) ?_
      refine va_get (D := (dC, dI)) (ci := 11) (v := .long w) (C := RX11) (T := TX11) (N := 79) hx hb hts inB_11 hown hE.1 hP 0 rfl rfl 9 (by decide) (hts _ k_1329) (fun _ h9 => h9) rfl dX11_isOwn_23 ?_
      refine lv_ldc2 (v := 2003395685) hx hb hown (hts _ k_1622) dX11_isOwn_26 ?_
      refine W.lcmp hx hb dX11_isOwn_29 ?_
      refine lv_topi (fun t5 et5 => ?_)
      refine lv_if_eq (tgt := 231) hx hb dX11_isOwn_30 (by decide) (fun c6 => ?_) (fun c6 => ?_)
      · skip
        have zc6 : t5.toInt = 0 := by rw [fa_eq, show (0 : Int32).toInt = 0 from by decide] at c6; exact c6
        refine lv_iconst (v := 1) hx hb dX11_isOwn_231 (by decide) ?_
        refine lv_goto (tgt := 236) hx hb dX11_isOwn_232 (by decide) ?_
        exact ret 1 () _ _ _ _ _ _ rfl (Or.inl rfl) hP hD hS dX11_isOwn_236 (Nat.le_refl _) (Nat.le_refl _)
      · skip
        have zc6 : ¬ (t5.toInt = 0) := by rw [fa_eq, show (0 : Int32).toInt = 0 from by decide] at c6; exact c6
        refine lv_aload_n hx hb dX11_isOwn_33 rfl (lv_at hl 0 rfl) ?_
        refine va_get (D := (dC, dI)) (ci := 11) (v := .long w) (C := RX11) (T := TX11) (N := 79) hx hb hts inB_11 hown hE.1 hP 0 rfl rfl 9 (by decide) (hts _ k_1329) (fun _ h9 => h9) rfl dX11_isOwn_34 ?_
        refine lv_ldc2 (v := 444301539187) hx hb hown (hts _ k_1623) dX11_isOwn_37 ?_
        refine W.lcmp hx hb dX11_isOwn_40 ?_
        refine lv_topi (fun t7 et7 => ?_)
        refine lv_if_eq (tgt := 231) hx hb dX11_isOwn_41 (by decide) (fun c8 => ?_) (fun c8 => ?_)
        · skip
          have zc8 : t7.toInt = 0 := by rw [fa_eq, show (0 : Int32).toInt = 0 from by decide] at c8; exact c8
          refine lv_iconst (v := 1) hx hb dX11_isOwn_231 (by decide) ?_
          refine lv_goto (tgt := 236) hx hb dX11_isOwn_232 (by decide) ?_
          exact ret 1 () _ _ _ _ _ _ rfl (Or.inl rfl) hP hD hS dX11_isOwn_236 (Nat.le_refl _) (Nat.le_refl _)
        · skip
          have zc8 : ¬ (t7.toInt = 0) := by rw [fa_eq, show (0 : Int32).toInt = 0 from by decide] at c8; exact c8
          refine lv_aload_n hx hb dX11_isOwn_44 rfl (lv_at hl 0 rfl) ?_
          refine va_get (D := (dC, dI)) (ci := 11) (v := .long w) (C := RX11) (T := TX11) (N := 79) hx hb hts inB_11 hown hE.1 hP 0 rfl rfl 9 (by decide) (hts _ k_1329) (fun _ h9 => h9) rfl dX11_isOwn_45 ?_
          refine lv_ldc2 (v := 1668243828) hx hb hown (hts _ k_1624) dX11_isOwn_48 ?_
          refine W.lcmp hx hb dX11_isOwn_51 ?_
          refine lv_topi (fun t9 et9 => ?_)
          refine lv_if_eq (tgt := 231) hx hb dX11_isOwn_52 (by decide) (fun c10 => ?_) (fun c10 => ?_)
          · skip
            have zc10 : t9.toInt = 0 := by rw [fa_eq, show (0 : Int32).toInt = 0 from by decide] at c10; exact c10
            refine lv_iconst (v := 1) hx hb dX11_isOwn_231 (by decide) ?_
            refine lv_goto (tgt := 236) hx hb dX11_isOwn_232 (by decide) ?_
            exact ret 1 () _ _ _ _ _ _ rfl (Or.inl rfl) hP hD hS dX11_isOwn_236 (Nat.le_refl _) (Nat.le_refl _)
          · skip
            have zc10 : ¬ (t9.toInt = 0) := by rw [fa_eq, show (0 : Int32).toInt = 0 from by decide] at c10; exact c10
            refine lv_aload_n hx hb dX11_isOwn_55 rfl (lv_at hl 0 rfl) ?_
            refine va_get (D := (dC, dI)) (ci := 11) (v := .long w) (C := RX11) (T := TX11) (N := 79) hx hb hts inB_11 hown hE.1 hP 0 rfl rfl 9 (by decide) (hts _ k_1329) (fun _ h9 => h9) rfl dX11_isOwn_56 ?_
            refine lv_ldc2 (v := 1936023917) hx hb hown (hts _ k_1625) dX11_isOwn_59 ?_
            refine W.lcmp hx hb dX11_isOwn_62 ?_
            refine lv_topi (fun t11 et11 => ?_)
            refine lv_if_eq (tgt := 231) hx hb dX11_isOwn_63 (by decide) (fun c12 => ?_) (fun c12 => ?_)
            · skip
              have zc12 : t11.toInt = 0 := by rw [fa_eq, show (0 : Int32).toInt = 0 from by decide] at c12; exact c12
              refine lv_iconst (v := 1) hx hb dX11_isOwn_231 (by decide) ?_
              refine lv_goto (tgt := 236) hx hb dX11_isOwn_232 (by decide) ?_
              exact ret 1 () _ _ _ _ _ _ rfl (Or.inl rfl) hP hD hS dX11_isOwn_236 (Nat.le_refl _) (Nat.le_refl _)
            · skip
              have zc12 : ¬ (t11.toInt = 0) := by rw [fa_eq, show (0 : Int32).toInt = 0 from by decide] at c12; exact c12
              refine lv_aload_n hx hb dX11_isOwn_66 rfl (lv_at hl 0 rfl) ?_
              refine va_get (D := (dC, dI)) (ci := 11) (v := .long w) (C := RX11) (T := TX11) (N := 79) hx hb hts inB_11 hown hE.1 hP 0 rfl rfl 9 (by decide) (hts _ k_1329) (fun _ h9 => h9) rfl dX11_isOwn_67 ?_
              refine lv_ldc2 (v := 2003792494) hx hb hown (hts _ k_1626) dX11_isOwn_70 ?_
              refine W.lcmp hx hb dX11_isOwn_73 ?_
              refine lv_topi (fun t13 et13 => ?_)
              refine lv_if_eq (tgt := 231) hx hb dX11_isOwn_74 (by decide) (fun c14 => ?_) (fun c14 => ?_)
              · skip
                have zc14 : t13.toInt = 0 := by rw [fa_eq, show (0 : Int32).toInt = 0 from by decide] at c14; exact c14
                refine lv_iconst (v := 1) hx hb dX11_isOwn_231 (by decide) ?_
                refine lv_goto (tgt := 236) hx hb dX11_isOwn_232 (by decide) ?_
                exact ret 1 () _ _ _ _ _ _ rfl (Or.inl rfl) hP hD hS dX11_isOwn_236 (Nat.le_refl _) (Nat.le_refl _)
              · skip
                have zc14 : ¬ (t13.toInt = 0) := by rw [fa_eq, show (0 : Int32).toInt = 0 from by decide] at c14; exact c14
                refine lv_aload_n hx hb dX11_isOwn_77 rfl (lv_at hl 0 rfl) ?_
                refine va_get (D := (dC, dI)) (ci := 11) (v := .long w) (C := RX11) (T := TX11) (N := 79) hx hb hts inB_11 hown hE.1 hP 0 rfl rfl 9 (by decide) (hts _ k_1329) (fun _ h9 => h9) rfl dX11_isOwn_78 ?_
                refine lv_ldc2 (v := 6909036) hx hb hown (hts _ k_1627) dX11_isOwn_81 ?_
                refine W.lcmp hx hb dX11_isOwn_84 ?_
                refine lv_topi (fun t15 et15 => ?_)
                refine lv_if_eq (tgt := 231) hx hb dX11_isOwn_85 (by decide) (fun c16 => ?_) (fun c16 => ?_)
                · skip
                  have zc16 : t15.toInt = 0 := by rw [fa_eq, show (0 : Int32).toInt = 0 from by decide] at c16; exact c16
                  refine lv_iconst (v := 1) hx hb dX11_isOwn_231 (by decide) ?_
                  refine lv_goto (tgt := 236) hx hb dX11_isOwn_232 (by decide) ?_
                  exact ret 1 () _ _ _ _ _ _ rfl (Or.inl rfl) hP hD hS dX11_isOwn_236 (Nat.le_refl _) (Nat.le_refl _)
                · skip
                  have zc16 : ¬ (t15.toInt = 0) := by rw [fa_eq, show (0 : Int32).toInt = 0 from by decide] at c16; exact c16
                  refine lv_aload_n hx hb dX11_isOwn_88 rfl (lv_at hl 0 rfl) ?_
                  refine va_get (D := (dC, dI)) (ci := 11) (v := .long w) (C := RX11) (T := TX11) (N := 79) hx hb hts inB_11 hown hE.1 hP 0 rfl rfl 9 (by decide) (hts _ k_1329) (fun _ h9 => h9) rfl dX11_isOwn_89 ?_
                  refine lv_ldc2 (v := 1700885369) hx hb hown (hts _ k_1628) dX11_isOwn_92 ?_
                  refine W.lcmp hx hb dX11_isOwn_95 ?_
                  refine lv_topi (fun t17 et17 => ?_)
                  refine lv_if_eq (tgt := 231) hx hb dX11_isOwn_96 (by decide) (fun c18 => ?_) (fun c18 => ?_)
                  · skip
                    have zc18 : t17.toInt = 0 := by rw [fa_eq, show (0 : Int32).toInt = 0 from by decide] at c18; exact c18
                    refine lv_iconst (v := 1) hx hb dX11_isOwn_231 (by decide) ?_
                    refine lv_goto (tgt := 236) hx hb dX11_isOwn_232 (by decide) ?_
                    exact ret 1 () _ _ _ _ _ _ rfl (Or.inl rfl) hP hD hS dX11_isOwn_236 (Nat.le_refl _) (Nat.le_refl _)
                  · skip
                    have zc18 : ¬ (t17.toInt = 0) := by rw [fa_eq, show (0 : Int32).toInt = 0 from by decide] at c18; exact c18
                    refine lv_aload_n hx hb dX11_isOwn_99 rfl (lv_at hl 0 rfl) ?_
                    refine va_get (D := (dC, dI)) (ci := 11) (v := .long w) (C := RX11) (T := TX11) (N := 79) hx hb hts inB_11 hown hE.1 hP 0 rfl rfl 9 (by decide) (hts _ k_1329) (fun _ h9 => h9) rfl dX11_isOwn_100 ?_
                    refine lv_ldc2 (v := 1651469428) hx hb hown (hts _ k_1629) dX11_isOwn_103 ?_
                    refine W.lcmp hx hb dX11_isOwn_106 ?_
                    refine lv_topi (fun t19 et19 => ?_)
                    refine lv_if_eq (tgt := 231) hx hb dX11_isOwn_107 (by decide) (fun c20 => ?_) (fun c20 => ?_)
                    · skip
                      have zc20 : t19.toInt = 0 := by rw [fa_eq, show (0 : Int32).toInt = 0 from by decide] at c20; exact c20
                      refine lv_iconst (v := 1) hx hb dX11_isOwn_231 (by decide) ?_
                      refine lv_goto (tgt := 236) hx hb dX11_isOwn_232 (by decide) ?_
                      exact ret 1 () _ _ _ _ _ _ rfl (Or.inl rfl) hP hD hS dX11_isOwn_236 (Nat.le_refl _) (Nat.le_refl _)
                    · skip
                      have zc20 : ¬ (t19.toInt = 0) := by rw [fa_eq, show (0 : Int32).toInt = 0 from by decide] at c20; exact c20
                      refine lv_aload_n hx hb dX11_isOwn_110 rfl (lv_at hl 0 rfl) ?_
                      refine va_get (D := (dC, dI)) (ci := 11) (v := .long w) (C := RX11) (T := TX11) (N := 79) hx hb hts inB_11 hown hE.1 hP 0 rfl rfl 9 (by decide) (hts _ k_1329) (fun _ h9 => h9) rfl dX11_isOwn_111 ?_
                      refine lv_ldc2 (v := 1818848101) hx hb hown (hts _ k_1630) dX11_isOwn_114 ?_
                      refine W.lcmp hx hb dX11_isOwn_117 ?_
                      refine lv_topi (fun t21 et21 => ?_)
                      refine lv_if_eq (tgt := 231) hx hb dX11_isOwn_118 (by decide) (fun c22 => ?_) (fun c22 => ?_)
                      · skip
                        have zc22 : t21.toInt = 0 := by rw [fa_eq, show (0 : Int32).toInt = 0 from by decide] at c22; exact c22
                        refine lv_iconst (v := 1) hx hb dX11_isOwn_231 (by decide) ?_
                        refine lv_goto (tgt := 236) hx hb dX11_isOwn_232 (by decide) ?_
                        exact ret 1 () _ _ _ _ _ _ rfl (Or.inl rfl) hP hD hS dX11_isOwn_236 (Nat.le_refl _) (Nat.le_refl _)
                      · skip
                        have zc22 : ¬ (t21.toInt = 0) := by rw [fa_eq, show (0 : Int32).toInt = 0 from by decide] at c22; exact c22
                        refine lv_aload_n hx hb dX11_isOwn_121 rfl (lv_at hl 0 rfl) ?_
                        refine va_get (D := (dC, dI)) (ci := 11) (v := .long w) (C := RX11) (T := TX11) (N := 79) hx hb hts inB_11 hown hE.1 hP 0 rfl rfl 9 (by decide) (hts _ k_1329) (fun _ h9 => h9) rfl dX11_isOwn_122 ?_
                        refine lv_ldc2 (v := 1918986606) hx hb hown (hts _ k_1631) dX11_isOwn_125 ?_
                        refine W.lcmp hx hb dX11_isOwn_128 ?_
                        refine lv_topi (fun t23 et23 => ?_)
                        refine lv_if_eq (tgt := 231) hx hb dX11_isOwn_129 (by decide) (fun c24 => ?_) (fun c24 => ?_)
                        · skip
                          have zc24 : t23.toInt = 0 := by rw [fa_eq, show (0 : Int32).toInt = 0 from by decide] at c24; exact c24
                          refine lv_iconst (v := 1) hx hb dX11_isOwn_231 (by decide) ?_
                          refine lv_goto (tgt := 236) hx hb dX11_isOwn_232 (by decide) ?_
                          exact ret 1 () _ _ _ _ _ _ rfl (Or.inl rfl) hP hD hS dX11_isOwn_236 (Nat.le_refl _) (Nat.le_refl _)
                        · skip
                          have zc24 : ¬ (t23.toInt = 0) := by rw [fa_eq, show (0 : Int32).toInt = 0 from by decide] at c24; exact c24
                          refine lv_aload_n hx hb dX11_isOwn_132 rfl (lv_at hl 0 rfl) ?_
                          refine va_get (D := (dC, dI)) (ci := 11) (v := .long w) (C := RX11) (T := TX11) (N := 79) hx hb hts inB_11 hown hE.1 hP 0 rfl rfl 9 (by decide) (hts _ k_1329) (fun _ h9 => h9) rfl dX11_isOwn_133 ?_
                          refine lv_ldc2 (v := 1685217655) hx hb hown (hts _ k_1632) dX11_isOwn_136 ?_
                          refine W.lcmp hx hb dX11_isOwn_139 ?_
                          refine lv_topi (fun t25 et25 => ?_)
                          refine lv_if_eq (tgt := 231) hx hb dX11_isOwn_140 (by decide) (fun c26 => ?_) (fun c26 => ?_)
                          · skip
                            have zc26 : t25.toInt = 0 := by rw [fa_eq, show (0 : Int32).toInt = 0 from by decide] at c26; exact c26
                            refine lv_iconst (v := 1) hx hb dX11_isOwn_231 (by decide) ?_
                            refine lv_goto (tgt := 236) hx hb dX11_isOwn_232 (by decide) ?_
                            exact ret 1 () _ _ _ _ _ _ rfl (Or.inl rfl) hP hD hS dX11_isOwn_236 (Nat.le_refl _) (Nat.le_refl _)
                          · skip
                            have zc26 : ¬ (t25.toInt = 0) := by rw [fa_eq, show (0 : Int32).toInt = 0 from by decide] at c26; exact c26
                            refine lv_aload_n hx hb dX11_isOwn_143 rfl (lv_at hl 0 rfl) ?_
                            refine va_get (D := (dC, dI)) (ci := 11) (v := .long w) (C := RX11) (T := TX11) (N := 79) hx hb hts inB_11 hown hE.1 hP 0 rfl rfl 9 (by decide) (hts _ k_1329) (fun _ h9 => h9) rfl dX11_isOwn_144 ?_
                            refine lv_ldc2 (v := 499984590964) hx hb hown (hts _ k_1633) dX11_isOwn_147 ?_
                            refine W.lcmp hx hb dX11_isOwn_150 ?_
                            refine lv_topi (fun t27 et27 => ?_)
                            refine lv_if_eq (tgt := 231) hx hb dX11_isOwn_151 (by decide) (fun c28 => ?_) (fun c28 => ?_)
                            · skip
                              have zc28 : t27.toInt = 0 := by rw [fa_eq, show (0 : Int32).toInt = 0 from by decide] at c28; exact c28
                              refine lv_iconst (v := 1) hx hb dX11_isOwn_231 (by decide) ?_
                              refine lv_goto (tgt := 236) hx hb dX11_isOwn_232 (by decide) ?_
                              exact ret 1 () _ _ _ _ _ _ rfl (Or.inl rfl) hP hD hS dX11_isOwn_236 (Nat.le_refl _) (Nat.le_refl _)
                            · skip
                              have zc28 : ¬ (t27.toInt = 0) := by rw [fa_eq, show (0 : Int32).toInt = 0 from by decide] at c28; exact c28
                              refine lv_aload_n hx hb dX11_isOwn_154 rfl (lv_at hl 0 rfl) ?_
                              refine va_get (D := (dC, dI)) (ci := 11) (v := .long w) (C := RX11) (T := TX11) (N := 79) hx hb hts inB_11 hown hE.1 hP 0 rfl rfl 9 (by decide) (hts _ k_1329) (fun _ h9 => h9) rfl dX11_isOwn_155 ?_
                              refine lv_ldc2 (v := 465726042981) hx hb hown (hts _ k_1634) dX11_isOwn_158 ?_
                              refine W.lcmp hx hb dX11_isOwn_161 ?_
                              refine lv_topi (fun t29 et29 => ?_)
                              refine lv_if_eq (tgt := 231) hx hb dX11_isOwn_162 (by decide) (fun c30 => ?_) (fun c30 => ?_)
                              · skip
                                have zc30 : t29.toInt = 0 := by rw [fa_eq, show (0 : Int32).toInt = 0 from by decide] at c30; exact c30
                                refine lv_iconst (v := 1) hx hb dX11_isOwn_231 (by decide) ?_
                                refine lv_goto (tgt := 236) hx hb dX11_isOwn_232 (by decide) ?_
                                exact ret 1 () _ _ _ _ _ _ rfl (Or.inl rfl) hP hD hS dX11_isOwn_236 (Nat.le_refl _) (Nat.le_refl _)
                              · skip
                                have zc30 : ¬ (t29.toInt = 0) := by rw [fa_eq, show (0 : Int32).toInt = 0 from by decide] at c30; exact c30
                                refine lv_aload_n hx hb dX11_isOwn_165 rfl (lv_at hl 0 rfl) ?_
                                refine va_get (D := (dC, dI)) (ci := 11) (v := .long w) (C := RX11) (T := TX11) (N := 79) hx hb hts inB_11 hown hE.1 hP 0 rfl rfl 9 (by decide) (hts _ k_1329) (fun _ h9 => h9) rfl dX11_isOwn_166 ?_
                                refine lv_ldc2 (v := 495673373300) hx hb hown (hts _ k_1635) dX11_isOwn_169 ?_
                                refine W.lcmp hx hb dX11_isOwn_172 ?_
                                refine lv_topi (fun t31 et31 => ?_)
                                refine lv_if_eq (tgt := 231) hx hb dX11_isOwn_173 (by decide) (fun c32 => ?_) (fun c32 => ?_)
                                · skip
                                  have zc32 : t31.toInt = 0 := by rw [fa_eq, show (0 : Int32).toInt = 0 from by decide] at c32; exact c32
                                  refine lv_iconst (v := 1) hx hb dX11_isOwn_231 (by decide) ?_
                                  refine lv_goto (tgt := 236) hx hb dX11_isOwn_232 (by decide) ?_
                                  exact ret 1 () _ _ _ _ _ _ rfl (Or.inl rfl) hP hD hS dX11_isOwn_236 (Nat.le_refl _) (Nat.le_refl _)
                                · skip
                                  have zc32 : ¬ (t31.toInt = 0) := by rw [fa_eq, show (0 : Int32).toInt = 0 from by decide] at c32; exact c32
                                  refine lv_aload_n hx hb dX11_isOwn_176 rfl (lv_at hl 0 rfl) ?_
                                  refine va_get (D := (dC, dI)) (ci := 11) (v := .long w) (C := RX11) (T := TX11) (N := 79) hx hb hts inB_11 hown hE.1 hP 0 rfl rfl 9 (by decide) (hts _ k_1329) (fun _ h9 => h9) rfl dX11_isOwn_177 ?_
                                  refine lv_ldc2 (v := 1819242087) hx hb hown (hts _ k_1636) dX11_isOwn_180 ?_
                                  refine W.lcmp hx hb dX11_isOwn_183 ?_
                                  refine lv_topi (fun t33 et33 => ?_)
                                  refine lv_if_eq (tgt := 231) hx hb dX11_isOwn_184 (by decide) (fun c34 => ?_) (fun c34 => ?_)
                                  · skip
                                    have zc34 : t33.toInt = 0 := by rw [fa_eq, show (0 : Int32).toInt = 0 from by decide] at c34; exact c34
                                    refine lv_iconst (v := 1) hx hb dX11_isOwn_231 (by decide) ?_
                                    refine lv_goto (tgt := 236) hx hb dX11_isOwn_232 (by decide) ?_
                                    exact ret 1 () _ _ _ _ _ _ rfl (Or.inl rfl) hP hD hS dX11_isOwn_236 (Nat.le_refl _) (Nat.le_refl _)
                                  · skip
                                    have zc34 : ¬ (t33.toInt = 0) := by rw [fa_eq, show (0 : Int32).toInt = 0 from by decide] at c34; exact c34
                                    refine lv_aload_n hx hb dX11_isOwn_187 rfl (lv_at hl 0 rfl) ?_
                                    refine va_get (D := (dC, dI)) (ci := 11) (v := .long w) (C := RX11) (T := TX11) (N := 79) hx hb hts inB_11 hown hE.1 hP 0 rfl rfl 9 (by decide) (hts _ k_1329) (fun _ h9 => h9) rfl dX11_isOwn_188 ?_
                                    refine lv_ldc2 (v := 6578553) hx hb hown (hts _ k_1637) dX11_isOwn_191 ?_
                                    refine W.lcmp hx hb dX11_isOwn_194 ?_
                                    refine lv_topi (fun t35 et35 => ?_)
                                    refine lv_if_eq (tgt := 231) hx hb dX11_isOwn_195 (by decide) (fun c36 => ?_) (fun c36 => ?_)
                                    · skip
                                      have zc36 : t35.toInt = 0 := by rw [fa_eq, show (0 : Int32).toInt = 0 from by decide] at c36; exact c36
                                      refine lv_iconst (v := 1) hx hb dX11_isOwn_231 (by decide) ?_
                                      refine lv_goto (tgt := 236) hx hb dX11_isOwn_232 (by decide) ?_
                                      exact ret 1 () _ _ _ _ _ _ rfl (Or.inl rfl) hP hD hS dX11_isOwn_236 (Nat.le_refl _) (Nat.le_refl _)
                                    · skip
                                      have zc36 : ¬ (t35.toInt = 0) := by rw [fa_eq, show (0 : Int32).toInt = 0 from by decide] at c36; exact c36
                                      refine lv_aload_n hx hb dX11_isOwn_198 rfl (lv_at hl 0 rfl) ?_
                                      refine va_get (D := (dC, dI)) (ci := 11) (v := .long w) (C := RX11) (T := TX11) (N := 79) hx hb hts inB_11 hown hE.1 hP 0 rfl rfl 9 (by decide) (hts _ k_1329) (fun _ h9 => h9) rfl dX11_isOwn_199 ?_
                                      refine lv_ldc2 (v := 6385252) hx hb hown (hts _ k_1638) dX11_isOwn_202 ?_
                                      refine W.lcmp hx hb dX11_isOwn_205 ?_
                                      refine lv_topi (fun t37 et37 => ?_)
                                      refine lv_if_eq (tgt := 231) hx hb dX11_isOwn_206 (by decide) (fun c38 => ?_) (fun c38 => ?_)
                                      · skip
                                        have zc38 : t37.toInt = 0 := by rw [fa_eq, show (0 : Int32).toInt = 0 from by decide] at c38; exact c38
                                        refine lv_iconst (v := 1) hx hb dX11_isOwn_231 (by decide) ?_
                                        refine lv_goto (tgt := 236) hx hb dX11_isOwn_232 (by decide) ?_
                                        exact ret 1 () _ _ _ _ _ _ rfl (Or.inl rfl) hP hD hS dX11_isOwn_236 (Nat.le_refl _) (Nat.le_refl _)
                                      · skip
                                        have zc38 : ¬ (t37.toInt = 0) := by rw [fa_eq, show (0 : Int32).toInt = 0 from by decide] at c38; exact c38
                                        refine lv_aload_n hx hb dX11_isOwn_209 rfl (lv_at hl 0 rfl) ?_
                                        refine va_get (D := (dC, dI)) (ci := 11) (v := .long w) (C := RX11) (T := TX11) (N := 79) hx hb hts inB_11 hown hE.1 hP 0 rfl rfl 9 (by decide) (hts _ k_1329) (fun _ h9 => h9) rfl dX11_isOwn_210 ?_
                                        refine lv_ldc2 (v := 28530) hx hb hown (hts _ k_1639) dX11_isOwn_213 ?_
                                        refine W.lcmp hx hb dX11_isOwn_216 ?_
                                        refine lv_topi (fun t39 et39 => ?_)
                                        refine lv_if_eq (tgt := 231) hx hb dX11_isOwn_217 (by decide) (fun c40 => ?_) (fun c40 => ?_)
                                        · skip
                                          have zc40 : t39.toInt = 0 := by rw [fa_eq, show (0 : Int32).toInt = 0 from by decide] at c40; exact c40
                                          refine lv_iconst (v := 1) hx hb dX11_isOwn_231 (by decide) ?_
                                          refine lv_goto (tgt := 236) hx hb dX11_isOwn_232 (by decide) ?_
                                          exact ret 1 () _ _ _ _ _ _ rfl (Or.inl rfl) hP hD hS dX11_isOwn_236 (Nat.le_refl _) (Nat.le_refl _)
                                        · skip
                                          have zc40 : ¬ (t39.toInt = 0) := by rw [fa_eq, show (0 : Int32).toInt = 0 from by decide] at c40; exact c40
                                          refine lv_aload_n hx hb dX11_isOwn_220 rfl (lv_at hl 0 rfl) ?_
                                          refine va_get (D := (dC, dI)) (ci := 11) (v := .long w) (C := RX11) (T := TX11) (N := 79) hx hb hts inB_11 hown hE.1 hP 0 rfl rfl 9 (by decide) (hts _ k_1329) (fun _ h9 => h9) rfl dX11_isOwn_221 ?_
                                          refine lv_ldc2 (v := 7237492) hx hb hown (hts _ k_1640) dX11_isOwn_224 ?_
                                          refine W.lcmp hx hb dX11_isOwn_227 ?_
                                          refine lv_topi (fun t41 et41 => ?_)
                                          refine lv_if_ne (tgt := 235) hx hb dX11_isOwn_228 (by decide) (fun c42 => ?_) (fun c42 => ?_)
                                          · skip
                                            have zc42 : ¬ (t41.toInt = 0) := by rw [fa_eq, show (0 : Int32).toInt = 0 from by decide] at c42; exact c42
                                            refine lv_iconst (v := 0) hx hb dX11_isOwn_235 (by decide) ?_
                                            exact ret 0 () _ _ _ _ _ _ rfl (Or.inr rfl) hP hD hS dX11_isOwn_236 (Nat.le_refl _) (Nat.le_refl _)
                                          · skip
                                            have zc42 : t41.toInt = 0 := by rw [fa_eq, show (0 : Int32).toInt = 0 from by decide] at c42; exact c42
                                            refine lv_iconst (v := 1) hx hb dX11_isOwn_231 (by decide) ?_
                                            refine lv_goto (tgt := 236) hx hb dX11_isOwn_232 (by decide) ?_
                                            exact ret 1 () _ _ _ _ _ _ rfl (Or.inl rfl) hP hD hS dX11_isOwn_236 (Nat.le_refl _) (Nat.le_refl _)
set_option maxHeartbeats 4000000 in
set_option maxRecDepth 100000 in
theorem sY_X11_isName_1 (l : Launch) (dC : Nat → ClassId) (dI : Nat → Nat → Nat) (cy : Nat → ClassId) (y0 : Nat) (r : Nat → Nat)  (v : Nat → Int32) (f : Nat → Nat → Int32) (w : Int64) (g : Nat → Int64) (hIv : YI v) (hCf : YC f) (hRf : progOK (f 4) (f 5) (v 9).toInt.toNat)  : ctI l (dC, dI) cy yX11_isName cX11_isName 1 .boolean 2 80 0 0 Unit [.ref y0] (YW cy y0 r v f w g) (fun r u => ((r = 1) ∨ (r = 0))) (fun u => YW cy y0 r v f w g) := by
  refine ctI_of (by decide) (Nat.le_of_ble_eq_true rfl) (fun p e s m below meth c A ls Q hx hb hml hts hown hE hP hD hA hl ret => ?_)
  have hUv : (v 35).toInt + (v 36).toInt ≤ 40 := hIv.2
  have hown : s.vm.findClass RX11 = some m.cls := hown
  have hS : va_S A s.heap s.heap [] := va_S.rf
  have hl : lv_has ls 1 [(0, .ref y0)] := hl
  refine lv_aload_n hx hb dX11_isName_0 rfl (lv_at hl 0 rfl) ?_
  refine va_get (D := (dC, dI)) (ci := 11) (v := .int (v 5)) (C := RX11) (T := TX11) (N := 79) hx hb hts inB_11 hown hE.1 hP 0 rfl rfl 6 (by decide) (hts _ k_1326) (fun _ h9 => h9) rfl dX11_isName_1 ?_
  refine lv_iconst (v := 1) hx hb dX11_isName_4 (by decide) ?_
  refine lv_icmp_ne (tgt := 19) hx hb dX11_isName_5 (by decide) (fun c1 => ?_) (fun c1 => ?_)
  · skip
    have zc1 : ¬ ((v 5).toInt = 1) := by rw [fa_eq, show (1 : Int32).toInt = 1 from by decide] at c1; exact c1
    refine lv_iconst (v := 0) hx hb dX11_isName_19 (by decide) ?_
    exact ret 0 () _ _ _ _ _ _ rfl (Or.inr rfl) hP hD hS dX11_isName_20 (Nat.le_refl _) (Nat.le_refl _)
  · skip
    have zc1 : (v 5).toInt = 1 := by rw [fa_eq, show (1 : Int32).toInt = 1 from by decide] at c1; exact c1
    refine lv_aload_n hx hb dX11_isName_8 rfl (lv_at hl 0 rfl) ?_
    refine cbVi (n := 0) (rest := []) hx hb hml hown hts hE hP hD hS hA (sY_X11_isOwn_1 l dC dI cy y0 r  v f w g hIv hCf hRf ) k_1617 k_1619 k_49 k_114 k_1620 (by decide +kernel) ⟨Nat.le_of_ble_eq_true rfl, Nat.le_of_ble_eq_true rfl⟩ 0 11 rfl rfl (rfl) hl.1 rfl (Nat.le_of_ble_eq_true rfl) dX11_isName_9 (fun r2 u H locs hw hP hD hS => ?_)
    rcases hw with ⟨g3⟩ | ⟨g3⟩
    · skip
      subst g3
      refine lv_if_ne (tgt := 19) hx hb dX11_isName_12 (by decide) (fun _ => ?_) (fun c0 => absurd c0 (by decide))
      refine lv_iconst (v := 0) hx hb dX11_isName_19 (by decide) ?_
      exact ret 0 () _ _ _ _ _ _ rfl (Or.inr rfl) hP hD hS dX11_isName_20 (Nat.le_refl _) (Nat.le_refl _)
    · skip
      subst g3
      refine lv_if_ne (tgt := 19) hx hb dX11_isName_12 (by decide) (fun c0 => absurd (by decide) c0) (fun _ => ?_)
      refine lv_iconst (v := 1) hx hb dX11_isName_15 (by decide) ?_
      refine lv_goto (tgt := 20) hx hb dX11_isName_16 (by decide) ?_
      exact ret 1 () _ _ _ _ _ _ rfl (Or.inl rfl) hP hD hS dX11_isName_20 (Nat.le_refl _) (Nat.le_refl _)
set_option maxHeartbeats 4000000 in
set_option maxRecDepth 100000 in
theorem sY_X11_newName_1 (l : Launch) (dC : Nat → ClassId) (dI : Nat → Nat → Nat) (cy : Nat → ClassId) (y0 : Nat) (r : Nat → Nat) (p1 : Int32) (p2 : Int32) (v : Nat → Int32) (f : Nat → Nat → Int32) (w : Int64) (g : Nat → Int64) (hIv : YI v) (hCf : YC f) (hRf : progOK (f 4) (f 5) (v 9).toInt.toNat) (hp1 : (0 : Int) ≤ p1.toInt ∧ p1.toInt ≤ 6) (hp2 : (0 : Int) ≤ p2.toInt ∧ p2.toInt ≤ 5) : ctV l (dC, dI) cy yX11_newName cX11_newName 4 3 103 0 0 ((Nat → Int32) × (Nat → Nat → Int32) × (Int64) × (Nat → Int64)) [.ref y0, .int p1, .int p2] (YW cy y0 r v f w g) (fun u => YI u.1 ∧ YC u.2.1 ∧ progOK (u.2.1 4) (u.2.1 5) (u.1 9).toInt.toNat ∧ u.1 0 = v 0 ∧ u.1 4 = v 4 ∧ u.1 8 = v 8 ∧ u.1 9 = v 9 ∧ u.1 10 = v 10 ∧ u.1 13 = v 13 ∧ u.1 14 = v 14 ∧ u.1 15 = v 15 ∧ u.1 17 = v 17 ∧ u.1 18 = v 18 ∧ u.1 24 = v 24 ∧ u.1 25 = v 25 ∧ u.1 35 = v 35 ∧ u.1 36 = v 36 ∧ u.1 38 = v 38 ∧ u.1 39 = v 39 ∧ ((v 3).toInt ≤ (u.1 3).toInt) ∧ ((u.1 5).toInt = (v 5).toInt ∨ (v 3).toInt < (u.1 3).toInt ∨ ¬ (u.1 5).toInt = 59) ∧ u.2.1 2 = f 2 ∧ u.2.1 3 = f 3 ∧ u.2.1 6 = f 6) (fun u => YW cy y0 r u.1 u.2.1 u.2.2.1 u.2.2.2) := by
  refine ctV_of (by decide) (Nat.le_of_ble_eq_true rfl) (fun p e s m below meth c A ls Q hx hb hml hts hown hnm hE hP hD hA hl ret => ?_)
  have hUv : (v 35).toInt + (v 36).toInt ≤ 40 := hIv.2
  have b0_v : (0 : Int) ≤ (v 0).toInt ∧ (v 0).toInt ≤ 1600 := YIb.b hIv.1 0 (by decide)
  have b1_v : (0 : Int) ≤ (v 1).toInt ∧ (v 1).toInt ≤ 4 := YIb.b hIv.1 1 (by decide)
  have b3_v : (0 : Int) ≤ (v 3).toInt ∧ (v 3).toInt ≤ 1600 := YIb.b hIv.1 3 (by decide)
  have b4_v : (0 : Int) ≤ (v 4).toInt ∧ (v 4).toInt ≤ 1600 := YIb.b hIv.1 4 (by decide)
  have b8_v : (0 : Int) ≤ (v 8).toInt ∧ (v 8).toInt ≤ 320 := YIb.b hIv.1 8 (by decide)
  have b9_v : (0 : Int) ≤ (v 9).toInt ∧ (v 9).toInt ≤ 320 := YIb.b hIv.1 9 (by decide)
  have b10_v : (0 : Int) ≤ (v 10).toInt ∧ (v 10).toInt ≤ 160 := YIb.b hIv.1 10 (by decide)
  have b13_v : (0 : Int) ≤ (v 13).toInt ∧ (v 13).toInt ≤ 31 := YIb.b hIv.1 13 (by decide)
  have b14_v : (0 : Int) ≤ (v 14).toInt ∧ (v 14).toInt ≤ 8 := YIb.b hIv.1 14 (by decide)
  have b17_v : (0 : Int) ≤ (v 17).toInt ∧ (v 17).toInt ≤ 6 := YIb.b hIv.1 17 (by decide)
  have b18_v : (0 : Int) ≤ (v 18).toInt ∧ (v 18).toInt ≤ 6 := YIb.b hIv.1 18 (by decide)
  have b24_v : (0 : Int) ≤ (v 24).toInt ∧ (v 24).toInt ≤ 6 := YIb.b hIv.1 24 (by decide)
  have b25_v : (0 : Int) ≤ (v 25).toInt ∧ (v 25).toInt ≤ 6 := YIb.b hIv.1 25 (by decide)
  have b35_v : (0 : Int) ≤ (v 35).toInt ∧ (v 35).toInt ≤ 40 := YIb.b hIv.1 35 (by decide)
  have b36_v : (0 : Int) ≤ (v 36).toInt ∧ (v 36).toInt ≤ 40 := YIb.b hIv.1 36 (by decide)
  have b37_v : (0 : Int) ≤ (v 37).toInt ∧ (v 37).toInt ≤ 6 := YIb.b hIv.1 37 (by decide)
  have b38_v : (0 : Int) ≤ (v 38).toInt ∧ (v 38).toInt ≤ 30 := YIb.b hIv.1 38 (by decide)
  have b39_v : (0 : Int) ≤ (v 39).toInt ∧ (v 39).toInt ≤ 100000 := YIb.b hIv.1 39 (by decide)
  have hown : s.vm.findClass RX11 = some m.cls := hown
  have hS : va_S A s.heap s.heap [] := va_S.rf
  have hl : lv_has ls 4 [(0, .ref y0), (1, .int p1), (2, .int p2)] := hl
  refine lv_aload_n hx hb dX11_newName_0 rfl (lv_at hl 0 rfl) ?_
  refine cbVv (n := 0) (rest := []) hx hb hml hown hts hE hP hD hS hA (sY_X11_token_1 l dC dI cy y0 r  v f w g hIv hCf hRf ) k_1579 k_1581 k_42 k_114 k_1582 (by decide +kernel) ⟨Nat.le_of_ble_eq_true rfl, Nat.le_of_ble_eq_true rfl⟩ 0 11 rfl rfl (rfl) hl.1 rfl (Nat.le_of_ble_eq_true rfl) dX11_newName_1 (fun u H locs hw hP hD hS => ?_)
  obtain ⟨v1, f2, w3, g4⟩ := u
  obtain ⟨hIv1, hCf2, hRf2, hk0_v1, hk1_v1, hk4_v1, hk8_v1, hk9_v1, hk10_v1, hk13_v1, hk14_v1, hk15_v1, hk17_v1, hk18_v1, hk24_v1, hk25_v1, hk35_v1, hk36_v1, hk38_v1, hk39_v1, pv5, pv6, kq7, kq8, kq9⟩ := hw
  have hP : va_P (dC, dI) vwCl (YW cy y0 r v1 f2 w3 g4) H := hP
  have hD : va_D A (YW cy y0 r v1 f2 w3 g4) := hD
  have b3_v1 : 0 ≤ (v1 3).toInt ∧ (v1 3).toInt ≤ 1600 := YIb.b hIv1.1 3 (by decide)
  have pv5 : (v 3).toInt ≤ (v1 3).toInt := pv5
  have pv6 : (v1 5).toInt = (v 5).toInt ∨ (v 3).toInt < (v1 3).toInt ∨ ¬ (v1 5).toInt = 59 := pv6
  have hs2_f2 : f2 2 = (f 2) := kq7
  have hs3_f2 : f2 3 = (f 3) := kq8
  have hs6_f2 : f2 6 = (f 6) := kq9
  have hUv1 : (v1 35).toInt + (v1 36).toInt ≤ 40 := hIv1.2
  have hq0_v1 : v1 0 = (v 0) := hk0_v1
  have hq1_v1 : v1 1 = (v 1) := hk1_v1
  have zq1_v1 := congrArg Int32.toInt hq1_v1
  have hq4_v1 : v1 4 = (v 4) := hk4_v1
  have zq4_v1 := congrArg Int32.toInt hq4_v1
  have hq8_v1 : v1 8 = (v 8) := hk8_v1
  have zq8_v1 := congrArg Int32.toInt hq8_v1
  have hq9_v1 : v1 9 = (v 9) := hk9_v1
  have zq9_v1 := congrArg Int32.toInt hq9_v1
  have hq10_v1 : v1 10 = (v 10) := hk10_v1
  have zq10_v1 := congrArg Int32.toInt hq10_v1
  have hq13_v1 : v1 13 = (v 13) := hk13_v1
  have zq13_v1 := congrArg Int32.toInt hq13_v1
  have hq14_v1 : v1 14 = (v 14) := hk14_v1
  have zq14_v1 := congrArg Int32.toInt hq14_v1
  have hq15_v1 : v1 15 = (v 15) := hk15_v1
  have zq15_v1 := congrArg Int32.toInt hq15_v1
  have hq17_v1 : v1 17 = (v 17) := hk17_v1
  have zq17_v1 := congrArg Int32.toInt hq17_v1
  have hq18_v1 : v1 18 = (v 18) := hk18_v1
  have zq18_v1 := congrArg Int32.toInt hq18_v1
  have hq24_v1 : v1 24 = (v 24) := hk24_v1
  have hq25_v1 : v1 25 = (v 25) := hk25_v1
  have hq35_v1 : v1 35 = (v 35) := hk35_v1
  have zq35_v1 := congrArg Int32.toInt hq35_v1
  have hq36_v1 : v1 36 = (v 36) := hk36_v1
  have zq36_v1 := congrArg Int32.toInt hq36_v1
  have hq38_v1 : v1 38 = (v 38) := hk38_v1
  have hq39_v1 : v1 39 = (v 39) := hk39_v1
  refine lv_aload_n hx hb dX11_newName_4 rfl (lv_at hl 0 rfl) ?_
  refine cbVi (n := 0) (rest := []) hx hb hml hown hts hE hP hD hS hA (sY_X11_isName_1 l dC dI cy y0 r  v1 f2 w3 g4 hIv1 hCf2 hRf2 ) k_1613 k_1615 k_48 k_114 k_1616 (by decide +kernel) ⟨Nat.le_of_ble_eq_true rfl, Nat.le_of_ble_eq_true rfl⟩ 0 11 rfl rfl (rfl) hl.1 rfl (Nat.le_of_ble_eq_true rfl) dX11_newName_5 (fun r10 u H locs hw hP hD hS => ?_)
  rcases hw with ⟨g11⟩ | ⟨g11⟩
  · skip
    subst g11
    refine lv_if_ne (tgt := 16) hx hb dX11_newName_8 (by decide) (fun _ => ?_) (fun c0 => absurd c0 (by decide))
    refine lv_iconst (v := 0) hx hb dX11_newName_16 (by decide) ?_
    refine lv_istore_n (lv' := [(3, .int 0), (0, .ref y0), (1, .int p1), (2, .int p2)]) hx hb dX11_newName_17 rfl hl (by decide) rfl (fun ls hl => ?_)
    have lp12 : ∀ (n12 : Nat) (l3_12 : Int32) (v12 : Nat → Int32) (f12 : Nat → Nat → Int32) (w12 : Int64) (g12 : Nat → Int64), YI v12 → YC f12 → progOK (f12 4) (f12 5) (v12 9).toInt.toNat → v12 0 = (v 0) → v12 3 = (v1 3) → v12 4 = (v 4) → v12 5 = (v1 5) → v12 8 = (v 8) → v12 9 = (v 9) → v12 10 = (v 10) → v12 13 = (v 13) → v12 14 = (v 14) → v12 15 = (v 15) → v12 17 = (v 17) → v12 18 = (v 18) → v12 24 = (v 24) → v12 25 = (v 25) → v12 35 = (v 35) → v12 36 = (v 36) → v12 38 = (v 38) → v12 39 = (v 39) → ((0 : Int) ≤ l3_12.toInt ∧ l3_12.toInt ≤ 2147483647) → f12 2 = (f 2) → f12 3 = (f 3) → f12 6 = (f 6) → (2147483647 - l3_12.toInt).toNat < n12 → ∀ (H : Heap) (locs : List Loc) (ls : Array Slot), va_P (dC, dI) vwCl (YW cy y0 r v12 f12 w12 g12) H → va_D A (YW cy y0 r v12 f12 w12 g12) → va_S A s.heap H locs → lv_has ls 4 [(3, .int l3_12), (0, .ref y0), (1, .int p1), (2, .int p2)] → W p l e { frames := 3, cells := 0, slots := 0, locals := 103 } s m ([.ref y0, .int p1, .int p2] : List Value).toArray below meth c H locs 0 0 Q (F0 m 18 ls []) := by
      intro n12
      induction n12 with
      | zero => intro l3_12 v12 f12 w12 g12 hIv12 hCf12 hRf12 hq0_v12 hq3_v12 hq4_v12 hq5_v12 hq8_v12 hq9_v12 hq10_v12 hq13_v12 hq14_v12 hq15_v12 hq17_v12 hq18_v12 hq24_v12 hq25_v12 hq35_v12 hq36_v12 hq38_v12 hq39_v12 hr3_12 hs2_f12 hs3_f12 hs6_f12 hm; exact absurd hm (Nat.not_lt_zero _)
      | succ n12 ih12 =>
        intro l3_12 v12 f12 w12 g12 hIv12 hCf12 hRf12 hq0_v12 hq3_v12 hq4_v12 hq5_v12 hq8_v12 hq9_v12 hq10_v12 hq13_v12 hq14_v12 hq15_v12 hq17_v12 hq18_v12 hq24_v12 hq25_v12 hq35_v12 hq36_v12 hq38_v12 hq39_v12 hr3_12 hs2_f12 hs3_f12 hs6_f12 hm12 H locs ls hP hD hS hl
        have hUv12 : (v12 35).toInt + (v12 36).toInt ≤ 40 := hIv12.2
        have zq3_v12 := congrArg Int32.toInt hq3_v12
        have zq4_v12 := congrArg Int32.toInt hq4_v12
        have zq5_v12 := congrArg Int32.toInt hq5_v12
        have zq8_v12 := congrArg Int32.toInt hq8_v12
        have zq9_v12 := congrArg Int32.toInt hq9_v12
        have zq10_v12 := congrArg Int32.toInt hq10_v12
        have zq13_v12 := congrArg Int32.toInt hq13_v12
        have zq14_v12 := congrArg Int32.toInt hq14_v12
        have zq15_v12 := congrArg Int32.toInt hq15_v12
        have zq17_v12 := congrArg Int32.toInt hq17_v12
        have zq18_v12 := congrArg Int32.toInt hq18_v12
        have zq35_v12 := congrArg Int32.toInt hq35_v12
        have zq36_v12 := congrArg Int32.toInt hq36_v12
        refine lv_iload_n hx hb dX11_newName_18 rfl (lv_at hl 0 rfl) ?_
        refine lv_iload_n hx hb dX11_newName_19 rfl (lv_at hl 3 rfl) ?_
        refine lv_icmp_ge (tgt := 57) hx hb dX11_newName_20 (by decide) (fun c13 => ?_) (fun c13 => ?_)
        · skip
          have zc13 : p2.toInt ≤ l3_12.toInt := by rw [fa_le] at c13; exact c13
          have rg14 := fb_rng l3_12
          have rg15 := fb_rng p2
          refine lv_aload_n hx hb dX11_newName_57 rfl (lv_at hl 1 rfl) ?_
          refine va_get (D := (dC, dI)) (ci := 11) (v := .int (v12 1)) (C := RX11) (T := TX11) (N := 79) hx hb hts inB_11 hown hE.1 hP 0 rfl rfl 2 (by decide) (hts _ k_1322) (fun _ h9 => h9) rfl dX11_newName_58 ?_
          have b1_v12 : 0 ≤ (v12 1).toInt ∧ (v12 1).toInt ≤ 4 := YIb.b hIv12.1 1 (by decide)
          refine lv_if_le (tgt := 65) hx hb dX11_newName_61 (by decide) (fun c16 => ?_) (fun c16 => ?_)
          · skip
            have zc16 : (v12 1).toInt ≤ 0 := by rw [fa_le, show (0 : Int32).toInt = 0 from by decide] at c16; exact c16
            refine lv_aload_n hx hb dX11_newName_65 rfl (lv_at hl 1 rfl) ?_
            refine va_get (D := (dC, dI)) (ci := 11) (v := .ref (r 10)) (C := RX11) (T := TX11) (N := 79) hx hb hts inB_11 hown hE.1 hP 0 rfl rfl 10 (by decide) (hts _ k_1330) (fun _ h9 => h9) rfl dX11_newName_66 ?_
            refine lv_iload_n hx hb dX11_newName_69 rfl (lv_at hl 2 rfl) ?_
            refine lv_iload_n hx hb dX11_newName_70 rfl (lv_at hl 3 rfl) ?_
            refine lv_iadd hx hb dX11_newName_71 ?_
            refine lv_topi (fun t17 et17 => ?_)
            have rg18 := fb_rng p1
            have zt17 : t17.toInt = p1.toInt + p2.toInt := by rw [et17]; exact add_i rfl rfl (by omega) (by omega)
            refine lv_aload_n hx hb dX11_newName_72 rfl (lv_at hl 1 rfl) ?_
            refine va_get (D := (dC, dI)) (ci := 11) (v := .long w12) (C := RX11) (T := TX11) (N := 79) hx hb hts inB_11 hown hE.1 hP 0 rfl rfl 9 (by decide) (hts _ k_1329) (fun _ h9 => h9) rfl dX11_newName_73 ?_
            refine va_last hx hb hE.1 hP hD hS 2 2 rfl rfl (vp_in_iff.mpr ⟨by omega, by omega⟩) dX11_newName_76 (fun H locs hP hD hS => ?_)
            obtain ⟨g19, hP, hD⟩ : ∃ fz9, va_P (dC, dI) vwCl (YW cy y0 r v12 f12 w12 fz9) H ∧ va_D A (YW cy y0 r v12 f12 w12 fz9) := ⟨_, hP, hD⟩
            refine lv_aload_n hx hb dX11_newName_77 rfl (lv_at hl 1 rfl) ?_
            refine cbVv (n := 0) (rest := []) hx hb hml hown hts hE hP hD hS hA (sY_X11_token_1 l dC dI cy y0 r  v12 f12 w12 g19 hIv12 hCf12 hRf12 ) k_1579 k_1581 k_42 k_114 k_1582 (by decide +kernel) ⟨Nat.le_of_ble_eq_true rfl, Nat.le_of_ble_eq_true rfl⟩ 0 11 rfl rfl (rfl) hl.1 rfl (Nat.le_of_ble_eq_true rfl) dX11_newName_78 (fun u H locs hw hP hD hS => ?_)
            obtain ⟨v20, f21, w22, g23⟩ := u
            obtain ⟨hIv20, hCf21, hRf21, hk0_v20, hk1_v20, hk4_v20, hk8_v20, hk9_v20, hk10_v20, hk13_v20, hk14_v20, hk15_v20, hk17_v20, hk18_v20, hk24_v20, hk25_v20, hk35_v20, hk36_v20, hk38_v20, hk39_v20, pv24, pv25, kq26, kq27, kq28⟩ := hw
            have hP : va_P (dC, dI) vwCl (YW cy y0 r v20 f21 w22 g23) H := hP
            have hD : va_D A (YW cy y0 r v20 f21 w22 g23) := hD
            have b3_v20 : 0 ≤ (v20 3).toInt ∧ (v20 3).toInt ≤ 1600 := YIb.b hIv20.1 3 (by decide)
            have pv24 : (v12 3).toInt ≤ (v20 3).toInt := pv24
            have pv25 : (v20 5).toInt = (v12 5).toInt ∨ (v12 3).toInt < (v20 3).toInt ∨ ¬ (v20 5).toInt = 59 := pv25
            have hs2_f21 : f21 2 = (f 2) := kq26.trans hs2_f12
            have hs3_f21 : f21 3 = (f 3) := kq27.trans hs3_f12
            have hs6_f21 : f21 6 = (f 6) := kq28.trans hs6_f12
            have hUv20 : (v20 35).toInt + (v20 36).toInt ≤ 40 := hIv20.2
            have hq0_v20 : v20 0 = (v 0) := hk0_v20.trans hq0_v12
            have hq1_v20 : v20 1 = (v12 1) := hk1_v20
            have zq1_v20 := congrArg Int32.toInt hq1_v20
            have hq4_v20 : v20 4 = (v 4) := hk4_v20.trans hq4_v12
            have zq4_v20 := congrArg Int32.toInt hq4_v20
            have hq8_v20 : v20 8 = (v 8) := hk8_v20.trans hq8_v12
            have zq8_v20 := congrArg Int32.toInt hq8_v20
            have hq9_v20 : v20 9 = (v 9) := hk9_v20.trans hq9_v12
            have zq9_v20 := congrArg Int32.toInt hq9_v20
            have hq10_v20 : v20 10 = (v 10) := hk10_v20.trans hq10_v12
            have zq10_v20 := congrArg Int32.toInt hq10_v20
            have hq13_v20 : v20 13 = (v 13) := hk13_v20.trans hq13_v12
            have zq13_v20 := congrArg Int32.toInt hq13_v20
            have hq14_v20 : v20 14 = (v 14) := hk14_v20.trans hq14_v12
            have zq14_v20 := congrArg Int32.toInt hq14_v20
            have hq15_v20 : v20 15 = (v 15) := hk15_v20.trans hq15_v12
            have zq15_v20 := congrArg Int32.toInt hq15_v20
            have hq17_v20 : v20 17 = (v 17) := hk17_v20.trans hq17_v12
            have zq17_v20 := congrArg Int32.toInt hq17_v20
            have hq18_v20 : v20 18 = (v 18) := hk18_v20.trans hq18_v12
            have zq18_v20 := congrArg Int32.toInt hq18_v20
            have hq24_v20 : v20 24 = (v 24) := hk24_v20.trans hq24_v12
            have hq25_v20 : v20 25 = (v 25) := hk25_v20.trans hq25_v12
            have hq35_v20 : v20 35 = (v 35) := hk35_v20.trans hq35_v12
            have zq35_v20 := congrArg Int32.toInt hq35_v20
            have hq36_v20 : v20 36 = (v 36) := hk36_v20.trans hq36_v12
            have zq36_v20 := congrArg Int32.toInt hq36_v20
            have hq38_v20 : v20 38 = (v 38) := hk38_v20.trans hq38_v12
            have hq39_v20 : v20 39 = (v 39) := hk39_v20.trans hq39_v12
            exact ret (v20, f21, w22, g23) _ _ _ _ _ _ ⟨hIv20, hCf21, hRf21, (hk0_v20.trans hq0_v12), (hk4_v20.trans hq4_v12), (hk8_v20.trans hq8_v12), (hk9_v20.trans hq9_v12), (hk10_v20.trans hq10_v12), (hk13_v20.trans hq13_v12), (hk14_v20.trans hq14_v12), (hk15_v20.trans hq15_v12), (hk17_v20.trans hq17_v12), (hk18_v20.trans hq18_v12), (hk24_v20.trans hq24_v12), (hk25_v20.trans hq25_v12), (hk35_v20.trans hq35_v12), (hk36_v20.trans hq36_v12), (hk38_v20.trans hq38_v12), (hk39_v20.trans hq39_v12), (by show (v 3).toInt ≤ (v20 3).toInt; omega), (by show (v20 5).toInt = (v 5).toInt ∨ (v 3).toInt < (v20 3).toInt ∨ ¬ (v20 5).toInt = 59; omega), hs2_f21, hs3_f21, hs6_f21⟩ hP hD hS dX11_newName_81 (Nat.le_refl _) (Nat.le_refl _)
          · skip
            have zc16 : ¬ ((v12 1).toInt ≤ 0) := by rw [fa_le, show (0 : Int32).toInt = 0 from by decide] at c16; exact c16
            exact ret (v12, f12, w12, g12) _ _ _ _ _ _ ⟨hIv12, hCf12, hRf12, hq0_v12, hq4_v12, hq8_v12, hq9_v12, hq10_v12, hq13_v12, hq14_v12, hq15_v12, hq17_v12, hq18_v12, hq24_v12, hq25_v12, hq35_v12, hq36_v12, hq38_v12, hq39_v12, (by show (v 3).toInt ≤ (v12 3).toInt; omega), (by show (v12 5).toInt = (v 5).toInt ∨ (v 3).toInt < (v12 3).toInt ∨ ¬ (v12 5).toInt = 59; omega), hs2_f12, hs3_f12, hs6_f12⟩ hP hD hS dX11_newName_64 (Nat.le_refl _) (Nat.le_refl _)
        · skip
          have zc13 : ¬ (p2.toInt ≤ l3_12.toInt) := by rw [fa_le] at c13; exact c13
          have rg29 := fb_rng l3_12
          have rg30 := fb_rng p2
          refine lv_aload_n hx hb dX11_newName_23 rfl (lv_at hl 1 rfl) ?_
          refine va_get (D := (dC, dI)) (ci := 11) (v := .int (v12 1)) (C := RX11) (T := TX11) (N := 79) hx hb hts inB_11 hown hE.1 hP 0 rfl rfl 2 (by decide) (hts _ k_1322) (fun _ h9 => h9) rfl dX11_newName_24 ?_
          have b1_v12 : 0 ≤ (v12 1).toInt ∧ (v12 1).toInt ≤ 4 := YIb.b hIv12.1 1 (by decide)
          refine lv_if_ne (tgt := 57) hx hb dX11_newName_27 (by decide) (fun c31 => ?_) (fun c31 => ?_)
          · skip
            have zc31 : ¬ ((v12 1).toInt = 0) := by rw [fa_eq, show (0 : Int32).toInt = 0 from by decide] at c31; exact c31
            refine lv_aload_n hx hb dX11_newName_57 rfl (lv_at hl 1 rfl) ?_
            refine va_get (D := (dC, dI)) (ci := 11) (v := .int (v12 1)) (C := RX11) (T := TX11) (N := 79) hx hb hts inB_11 hown hE.1 hP 0 rfl rfl 2 (by decide) (hts _ k_1322) (fun _ h9 => h9) rfl dX11_newName_58 ?_
            refine lv_if_le (tgt := 65) hx hb dX11_newName_61 (by decide) (fun c32 => ?_) (fun c32 => ?_)
            · skip
              have zc32 : (v12 1).toInt ≤ 0 := by rw [fa_le, show (0 : Int32).toInt = 0 from by decide] at c32; exact c32
              refine lv_aload_n hx hb dX11_newName_65 rfl (lv_at hl 1 rfl) ?_
              refine va_get (D := (dC, dI)) (ci := 11) (v := .ref (r 10)) (C := RX11) (T := TX11) (N := 79) hx hb hts inB_11 hown hE.1 hP 0 rfl rfl 10 (by decide) (hts _ k_1330) (fun _ h9 => h9) rfl dX11_newName_66 ?_
              refine lv_iload_n hx hb dX11_newName_69 rfl (lv_at hl 2 rfl) ?_
              refine lv_iload_n hx hb dX11_newName_70 rfl (lv_at hl 3 rfl) ?_
              refine lv_iadd hx hb dX11_newName_71 ?_
              refine lv_topi (fun t33 et33 => ?_)
              have rg34 := fb_rng p1
              have zt33 : t33.toInt = p1.toInt + p2.toInt := by rw [et33]; exact add_i rfl rfl (by omega) (by omega)
              refine lv_aload_n hx hb dX11_newName_72 rfl (lv_at hl 1 rfl) ?_
              refine va_get (D := (dC, dI)) (ci := 11) (v := .long w12) (C := RX11) (T := TX11) (N := 79) hx hb hts inB_11 hown hE.1 hP 0 rfl rfl 9 (by decide) (hts _ k_1329) (fun _ h9 => h9) rfl dX11_newName_73 ?_
              refine va_last hx hb hE.1 hP hD hS 2 2 rfl rfl (vp_in_iff.mpr ⟨by omega, by omega⟩) dX11_newName_76 (fun H locs hP hD hS => ?_)
              obtain ⟨g35, hP, hD⟩ : ∃ fz9, va_P (dC, dI) vwCl (YW cy y0 r v12 f12 w12 fz9) H ∧ va_D A (YW cy y0 r v12 f12 w12 fz9) := ⟨_, hP, hD⟩
              refine lv_aload_n hx hb dX11_newName_77 rfl (lv_at hl 1 rfl) ?_
              refine cbVv (n := 0) (rest := []) hx hb hml hown hts hE hP hD hS hA (sY_X11_token_1 l dC dI cy y0 r  v12 f12 w12 g35 hIv12 hCf12 hRf12 ) k_1579 k_1581 k_42 k_114 k_1582 (by decide +kernel) ⟨Nat.le_of_ble_eq_true rfl, Nat.le_of_ble_eq_true rfl⟩ 0 11 rfl rfl (rfl) hl.1 rfl (Nat.le_of_ble_eq_true rfl) dX11_newName_78 (fun u H locs hw hP hD hS => ?_)
              obtain ⟨v36, f37, w38, g39⟩ := u
              obtain ⟨hIv36, hCf37, hRf37, hk0_v36, hk1_v36, hk4_v36, hk8_v36, hk9_v36, hk10_v36, hk13_v36, hk14_v36, hk15_v36, hk17_v36, hk18_v36, hk24_v36, hk25_v36, hk35_v36, hk36_v36, hk38_v36, hk39_v36, pv40, pv41, kq42, kq43, kq44⟩ := hw
              have hP : va_P (dC, dI) vwCl (YW cy y0 r v36 f37 w38 g39) H := hP
              have hD : va_D A (YW cy y0 r v36 f37 w38 g39) := hD
              have b3_v36 : 0 ≤ (v36 3).toInt ∧ (v36 3).toInt ≤ 1600 := YIb.b hIv36.1 3 (by decide)
              have pv40 : (v12 3).toInt ≤ (v36 3).toInt := pv40
              have pv41 : (v36 5).toInt = (v12 5).toInt ∨ (v12 3).toInt < (v36 3).toInt ∨ ¬ (v36 5).toInt = 59 := pv41
              have hs2_f37 : f37 2 = (f 2) := kq42.trans hs2_f12
              have hs3_f37 : f37 3 = (f 3) := kq43.trans hs3_f12
              have hs6_f37 : f37 6 = (f 6) := kq44.trans hs6_f12
              have hUv36 : (v36 35).toInt + (v36 36).toInt ≤ 40 := hIv36.2
              have hq0_v36 : v36 0 = (v 0) := hk0_v36.trans hq0_v12
              have hq1_v36 : v36 1 = (v12 1) := hk1_v36
              have zq1_v36 := congrArg Int32.toInt hq1_v36
              have hq4_v36 : v36 4 = (v 4) := hk4_v36.trans hq4_v12
              have zq4_v36 := congrArg Int32.toInt hq4_v36
              have hq8_v36 : v36 8 = (v 8) := hk8_v36.trans hq8_v12
              have zq8_v36 := congrArg Int32.toInt hq8_v36
              have hq9_v36 : v36 9 = (v 9) := hk9_v36.trans hq9_v12
              have zq9_v36 := congrArg Int32.toInt hq9_v36
              have hq10_v36 : v36 10 = (v 10) := hk10_v36.trans hq10_v12
              have zq10_v36 := congrArg Int32.toInt hq10_v36
              have hq13_v36 : v36 13 = (v 13) := hk13_v36.trans hq13_v12
              have zq13_v36 := congrArg Int32.toInt hq13_v36
              have hq14_v36 : v36 14 = (v 14) := hk14_v36.trans hq14_v12
              have zq14_v36 := congrArg Int32.toInt hq14_v36
              have hq15_v36 : v36 15 = (v 15) := hk15_v36.trans hq15_v12
              have zq15_v36 := congrArg Int32.toInt hq15_v36
              have hq17_v36 : v36 17 = (v 17) := hk17_v36.trans hq17_v12
              have zq17_v36 := congrArg Int32.toInt hq17_v36
              have hq18_v36 : v36 18 = (v 18) := hk18_v36.trans hq18_v12
              have zq18_v36 := congrArg Int32.toInt hq18_v36
              have hq24_v36 : v36 24 = (v 24) := hk24_v36.trans hq24_v12
              have hq25_v36 : v36 25 = (v 25) := hk25_v36.trans hq25_v12
              have hq35_v36 : v36 35 = (v 35) := hk35_v36.trans hq35_v12
              have zq35_v36 := congrArg Int32.toInt hq35_v36
              have hq36_v36 : v36 36 = (v 36) := hk36_v36.trans hq36_v12
              have zq36_v36 := congrArg Int32.toInt hq36_v36
              have hq38_v36 : v36 38 = (v 38) := hk38_v36.trans hq38_v12
              have hq39_v36 : v36 39 = (v 39) := hk39_v36.trans hq39_v12
              exact ret (v36, f37, w38, g39) _ _ _ _ _ _ ⟨hIv36, hCf37, hRf37, (hk0_v36.trans hq0_v12), (hk4_v36.trans hq4_v12), (hk8_v36.trans hq8_v12), (hk9_v36.trans hq9_v12), (hk10_v36.trans hq10_v12), (hk13_v36.trans hq13_v12), (hk14_v36.trans hq14_v12), (hk15_v36.trans hq15_v12), (hk17_v36.trans hq17_v12), (hk18_v36.trans hq18_v12), (hk24_v36.trans hq24_v12), (hk25_v36.trans hq25_v12), (hk35_v36.trans hq35_v12), (hk36_v36.trans hq36_v12), (hk38_v36.trans hq38_v12), (hk39_v36.trans hq39_v12), (by show (v 3).toInt ≤ (v36 3).toInt; omega), (by show (v36 5).toInt = (v 5).toInt ∨ (v 3).toInt < (v36 3).toInt ∨ ¬ (v36 5).toInt = 59; omega), hs2_f37, hs3_f37, hs6_f37⟩ hP hD hS dX11_newName_81 (Nat.le_refl _) (Nat.le_refl _)
            · skip
              have zc32 : ¬ ((v12 1).toInt ≤ 0) := by rw [fa_le, show (0 : Int32).toInt = 0 from by decide] at c32; exact c32
              exact ret (v12, f12, w12, g12) _ _ _ _ _ _ ⟨hIv12, hCf12, hRf12, hq0_v12, hq4_v12, hq8_v12, hq9_v12, hq10_v12, hq13_v12, hq14_v12, hq15_v12, hq17_v12, hq18_v12, hq24_v12, hq25_v12, hq35_v12, hq36_v12, hq38_v12, hq39_v12, (by show (v 3).toInt ≤ (v12 3).toInt; omega), (by show (v12 5).toInt = (v 5).toInt ∨ (v 3).toInt < (v12 3).toInt ∨ ¬ (v12 5).toInt = 59; omega), hs2_f12, hs3_f12, hs6_f12⟩ hP hD hS dX11_newName_64 (Nat.le_refl _) (Nat.le_refl _)
          · skip
            have zc31 : (v12 1).toInt = 0 := by rw [fa_eq, show (0 : Int32).toInt = 0 from by decide] at c31; exact c31
            refine lv_aload_n hx hb dX11_newName_30 rfl (lv_at hl 1 rfl) ?_
            refine va_get (D := (dC, dI)) (ci := 11) (v := .ref (r 10)) (C := RX11) (T := TX11) (N := 79) hx hb hts inB_11 hown hE.1 hP 0 rfl rfl 10 (by decide) (hts _ k_1330) (fun _ h9 => h9) rfl dX11_newName_31 ?_
            refine lv_iload_n hx hb dX11_newName_34 rfl (lv_at hl 2 rfl) ?_
            refine lv_iload_n hx hb dX11_newName_35 rfl (lv_at hl 0 rfl) ?_
            refine lv_iadd hx hb dX11_newName_36 ?_
            refine lv_topi (fun t45 et45 => ?_)
            have rg46 := fb_rng p1
            have zt45 : t45.toInt = p1.toInt + l3_12.toInt := by rw [et45]; exact add_i rfl rfl (by omega) (by omega)
            refine va_lald hx hb hE.1 hP 2 2 rfl rfl (vp_in_iff.mpr ⟨by omega, by omega⟩) dX11_newName_37 ?_
            refine lv_topl (fun j47 ej47 => ?_)
            refine lv_aload_n hx hb dX11_newName_38 rfl (lv_at hl 1 rfl) ?_
            refine va_get (D := (dC, dI)) (ci := 11) (v := .long w12) (C := RX11) (T := TX11) (N := 79) hx hb hts inB_11 hown hE.1 hP 0 rfl rfl 9 (by decide) (hts _ k_1329) (fun _ h9 => h9) rfl dX11_newName_39 ?_
            refine W.lcmp hx hb dX11_newName_42 ?_
            refine lv_topi (fun t48 et48 => ?_)
            refine lv_if_ne (tgt := 51) hx hb dX11_newName_43 (by decide) (fun c49 => ?_) (fun c49 => ?_)
            · skip
              have zc49 : ¬ (t48.toInt = 0) := by rw [fa_eq, show (0 : Int32).toInt = 0 from by decide] at c49; exact c49
              obtain ⟨t50, et50⟩ : ∃ y : Int32, y = l3_12 + 1 := ⟨_, rfl⟩
              have zt50 : t50.toInt = l3_12.toInt + 1 := by rw [et50]; exact add_i rfl (by decide) (by omega) (by omega)
              refine lv_iinc (v := t50) (lv' := [(3, .int t50), (0, .ref y0), (1, .int p1), (2, .int p2)]) hx hb dX11_newName_51 hl (k := 0) rfl (by rw [et50]; rfl) (by decide) rfl (fun ls hl => ?_)
              refine lv_goto (tgt := 18) hx hb dX11_newName_54 (by decide) ?_
              have rg51 := fb_rng t50
              exact ih12 t50 v12 f12 w12 g12 hIv12 hCf12 hRf12 hq0_v12 hq3_v12 hq4_v12 hq5_v12 hq8_v12 hq9_v12 hq10_v12 hq13_v12 hq14_v12 hq15_v12 hq17_v12 hq18_v12 hq24_v12 hq25_v12 hq35_v12 hq36_v12 hq38_v12 hq39_v12 ⟨show (0 : Int) ≤ t50.toInt by omega, show t50.toInt ≤ (2147483647 : Int) by omega⟩ hs2_f12 hs3_f12 hs6_f12 (by show (2147483647 - t50.toInt).toNat < n12; omega) _ _ _ hP hD hS (lv_sub hl [0, 1, 2, 3] rfl)
            · skip
              have zc49 : t48.toInt = 0 := by rw [fa_eq, show (0 : Int32).toInt = 0 from by decide] at c49; exact c49
              refine lv_aload_n hx hb dX11_newName_46 rfl (lv_at hl 1 rfl) ?_
              refine lv_iconst (v := 3) hx hb dX11_newName_47 (by decide) ?_
              refine cbVv (n := 1) (rest := []) hx hb hml hown hts hE hP hD hS hA (sY_X11_wrong_1 l dC dI cy y0 r 3 v12 f12 w12 g12 hIv12 hCf12 hRf12 ⟨by decide, by decide⟩) k_1641 k_1643 k_50 k_114 k_1644 (by decide +kernel) ⟨Nat.le_of_ble_eq_true rfl, Nat.le_of_ble_eq_true rfl⟩ 0 11 rfl rfl (rfl) hl.1 rfl (Nat.le_of_ble_eq_true rfl) dX11_newName_48 (fun u H locs hw hP hD hS => ?_)
              obtain ⟨v52, f53, w54, g55⟩ := u
              obtain ⟨hIv52, hCf53, hRf53, hk0_v52, hk3_v52, hk4_v52, hk5_v52, hk8_v52, hk9_v52, hk10_v52, hk13_v52, hk14_v52, hk15_v52, hk17_v52, hk18_v52, hk24_v52, hk25_v52, hk35_v52, hk36_v52, hk38_v52, hk39_v52, pv56, pv57, pv58, kq59, kq60, kq61⟩ := hw
              have hP : va_P (dC, dI) vwCl (YW cy y0 r v52 f53 w54 g55) H := hP
              have hD : va_D A (YW cy y0 r v52 f53 w54 g55) := hD
              have b3_v52 : 0 ≤ (v52 3).toInt ∧ (v52 3).toInt ≤ 1600 := YIb.b hIv52.1 3 (by decide)
              have b1_v52 : 0 ≤ (v52 1).toInt ∧ (v52 1).toInt ≤ 4 := YIb.b hIv52.1 1 (by decide)
              have pv56 : (v12 3).toInt ≤ (v52 3).toInt := pv56
              have pv57 : (v52 5).toInt = (v12 5).toInt ∨ (v12 3).toInt < (v52 3).toInt ∨ ¬ (v52 5).toInt = 59 := pv57
              have pv58 : 0 < (v52 1).toInt := pv58
              have hs2_f53 : f53 2 = (f 2) := kq59.trans hs2_f12
              have hs3_f53 : f53 3 = (f 3) := kq60.trans hs3_f12
              have hs6_f53 : f53 6 = (f 6) := kq61.trans hs6_f12
              have hUv52 : (v52 35).toInt + (v52 36).toInt ≤ 40 := hIv52.2
              have hq0_v52 : v52 0 = (v 0) := hk0_v52.trans hq0_v12
              have hq3_v52 : v52 3 = (v1 3) := hk3_v52.trans hq3_v12
              have zq3_v52 := congrArg Int32.toInt hq3_v52
              have hq4_v52 : v52 4 = (v 4) := hk4_v52.trans hq4_v12
              have zq4_v52 := congrArg Int32.toInt hq4_v52
              have hq5_v52 : v52 5 = (v1 5) := hk5_v52.trans hq5_v12
              have zq5_v52 := congrArg Int32.toInt hq5_v52
              have hq8_v52 : v52 8 = (v 8) := hk8_v52.trans hq8_v12
              have zq8_v52 := congrArg Int32.toInt hq8_v52
              have hq9_v52 : v52 9 = (v 9) := hk9_v52.trans hq9_v12
              have zq9_v52 := congrArg Int32.toInt hq9_v52
              have hq10_v52 : v52 10 = (v 10) := hk10_v52.trans hq10_v12
              have zq10_v52 := congrArg Int32.toInt hq10_v52
              have hq13_v52 : v52 13 = (v 13) := hk13_v52.trans hq13_v12
              have zq13_v52 := congrArg Int32.toInt hq13_v52
              have hq14_v52 : v52 14 = (v 14) := hk14_v52.trans hq14_v12
              have zq14_v52 := congrArg Int32.toInt hq14_v52
              have hq15_v52 : v52 15 = (v 15) := hk15_v52.trans hq15_v12
              have zq15_v52 := congrArg Int32.toInt hq15_v52
              have hq17_v52 : v52 17 = (v 17) := hk17_v52.trans hq17_v12
              have zq17_v52 := congrArg Int32.toInt hq17_v52
              have hq18_v52 : v52 18 = (v 18) := hk18_v52.trans hq18_v12
              have zq18_v52 := congrArg Int32.toInt hq18_v52
              have hq24_v52 : v52 24 = (v 24) := hk24_v52.trans hq24_v12
              have hq25_v52 : v52 25 = (v 25) := hk25_v52.trans hq25_v12
              have hq35_v52 : v52 35 = (v 35) := hk35_v52.trans hq35_v12
              have zq35_v52 := congrArg Int32.toInt hq35_v52
              have hq36_v52 : v52 36 = (v 36) := hk36_v52.trans hq36_v12
              have zq36_v52 := congrArg Int32.toInt hq36_v52
              have hq38_v52 : v52 38 = (v 38) := hk38_v52.trans hq38_v12
              have hq39_v52 : v52 39 = (v 39) := hk39_v52.trans hq39_v12
              obtain ⟨t62, et62⟩ : ∃ y : Int32, y = l3_12 + 1 := ⟨_, rfl⟩
              have zt62 : t62.toInt = l3_12.toInt + 1 := by rw [et62]; exact add_i rfl (by decide) (by omega) (by omega)
              refine lv_iinc (v := t62) (lv' := [(3, .int t62), (0, .ref y0), (1, .int p1), (2, .int p2)]) hx hb dX11_newName_51 hl (k := 0) rfl (by rw [et62]; rfl) (by decide) rfl (fun ls hl => ?_)
              refine lv_goto (tgt := 18) hx hb dX11_newName_54 (by decide) ?_
              have rg63 := fb_rng t62
              exact ih12 t62 v52 f53 w54 g55 hIv52 hCf53 hRf53 hq0_v52 hq3_v52 hq4_v52 hq5_v52 hq8_v52 hq9_v52 hq10_v52 hq13_v52 hq14_v52 hq15_v52 hq17_v52 hq18_v52 hq24_v52 hq25_v52 hq35_v52 hq36_v52 hq38_v52 hq39_v52 ⟨show (0 : Int) ≤ t62.toInt by omega, show t62.toInt ≤ (2147483647 : Int) by omega⟩ hs2_f53 hs3_f53 hs6_f53 (by show (2147483647 - t62.toInt).toNat < n12; omega) _ _ _ hP hD hS (lv_sub hl [0, 1, 2, 3] rfl)
    exact lp12 _ 0 v1 f2 w3 g4 hIv1 hCf2 hRf2 hq0_v1 rfl hq4_v1 rfl hq8_v1 hq9_v1 hq10_v1 hq13_v1 hq14_v1 hq15_v1 hq17_v1 hq18_v1 hq24_v1 hq25_v1 hq35_v1 hq36_v1 hq38_v1 hq39_v1 ⟨by decide, by decide⟩ hs2_f2 hs3_f2 hs6_f2 (Nat.lt_succ_self _) _ _ _ hP hD hS (lv_sub hl [0, 1, 2, 3] rfl)
  · skip
    subst g11
    refine lv_if_ne (tgt := 16) hx hb dX11_newName_8 (by decide) (fun c0 => absurd (by decide) c0) (fun _ => ?_)
    refine lv_aload_n hx hb dX11_newName_11 rfl (lv_at hl 0 rfl) ?_
    refine lv_iconst (v := 2) hx hb dX11_newName_12 (by decide) ?_
    refine cbVv (n := 1) (rest := []) hx hb hml hown hts hE hP hD hS hA (sY_X11_wrong_1 l dC dI cy y0 r 2 v1 f2 w3 g4 hIv1 hCf2 hRf2 ⟨by decide, by decide⟩) k_1641 k_1643 k_50 k_114 k_1644 (by decide +kernel) ⟨Nat.le_of_ble_eq_true rfl, Nat.le_of_ble_eq_true rfl⟩ 0 11 rfl rfl (rfl) hl.1 rfl (Nat.le_of_ble_eq_true rfl) dX11_newName_13 (fun u H locs hw hP hD hS => ?_)
    obtain ⟨v64, f65, w66, g67⟩ := u
    obtain ⟨hIv64, hCf65, hRf65, hk0_v64, hk3_v64, hk4_v64, hk5_v64, hk8_v64, hk9_v64, hk10_v64, hk13_v64, hk14_v64, hk15_v64, hk17_v64, hk18_v64, hk24_v64, hk25_v64, hk35_v64, hk36_v64, hk38_v64, hk39_v64, pv68, pv69, pv70, kq71, kq72, kq73⟩ := hw
    have hP : va_P (dC, dI) vwCl (YW cy y0 r v64 f65 w66 g67) H := hP
    have hD : va_D A (YW cy y0 r v64 f65 w66 g67) := hD
    have b3_v64 : 0 ≤ (v64 3).toInt ∧ (v64 3).toInt ≤ 1600 := YIb.b hIv64.1 3 (by decide)
    have b1_v64 : 0 ≤ (v64 1).toInt ∧ (v64 1).toInt ≤ 4 := YIb.b hIv64.1 1 (by decide)
    have pv68 : (v1 3).toInt ≤ (v64 3).toInt := pv68
    have pv69 : (v64 5).toInt = (v1 5).toInt ∨ (v1 3).toInt < (v64 3).toInt ∨ ¬ (v64 5).toInt = 59 := pv69
    have pv70 : 0 < (v64 1).toInt := pv70
    have hs2_f65 : f65 2 = (f 2) := kq71.trans hs2_f2
    have hs3_f65 : f65 3 = (f 3) := kq72.trans hs3_f2
    have hs6_f65 : f65 6 = (f 6) := kq73.trans hs6_f2
    have hUv64 : (v64 35).toInt + (v64 36).toInt ≤ 40 := hIv64.2
    have hq0_v64 : v64 0 = (v 0) := hk0_v64.trans hq0_v1
    have hq3_v64 : v64 3 = (v1 3) := hk3_v64
    have zq3_v64 := congrArg Int32.toInt hq3_v64
    have hq4_v64 : v64 4 = (v 4) := hk4_v64.trans hq4_v1
    have zq4_v64 := congrArg Int32.toInt hq4_v64
    have hq5_v64 : v64 5 = (v1 5) := hk5_v64
    have zq5_v64 := congrArg Int32.toInt hq5_v64
    have hq8_v64 : v64 8 = (v 8) := hk8_v64.trans hq8_v1
    have zq8_v64 := congrArg Int32.toInt hq8_v64
    have hq9_v64 : v64 9 = (v 9) := hk9_v64.trans hq9_v1
    have zq9_v64 := congrArg Int32.toInt hq9_v64
    have hq10_v64 : v64 10 = (v 10) := hk10_v64.trans hq10_v1
    have zq10_v64 := congrArg Int32.toInt hq10_v64
    have hq13_v64 : v64 13 = (v 13) := hk13_v64.trans hq13_v1
    have zq13_v64 := congrArg Int32.toInt hq13_v64
    have hq14_v64 : v64 14 = (v 14) := hk14_v64.trans hq14_v1
    have zq14_v64 := congrArg Int32.toInt hq14_v64
    have hq15_v64 : v64 15 = (v 15) := hk15_v64.trans hq15_v1
    have zq15_v64 := congrArg Int32.toInt hq15_v64
    have hq17_v64 : v64 17 = (v 17) := hk17_v64.trans hq17_v1
    have zq17_v64 := congrArg Int32.toInt hq17_v64
    have hq18_v64 : v64 18 = (v 18) := hk18_v64.trans hq18_v1
    have zq18_v64 := congrArg Int32.toInt hq18_v64
    have hq24_v64 : v64 24 = (v 24) := hk24_v64.trans hq24_v1
    have hq25_v64 : v64 25 = (v 25) := hk25_v64.trans hq25_v1
    have hq35_v64 : v64 35 = (v 35) := hk35_v64.trans hq35_v1
    have zq35_v64 := congrArg Int32.toInt hq35_v64
    have hq36_v64 : v64 36 = (v 36) := hk36_v64.trans hq36_v1
    have zq36_v64 := congrArg Int32.toInt hq36_v64
    have hq38_v64 : v64 38 = (v 38) := hk38_v64.trans hq38_v1
    have hq39_v64 : v64 39 = (v 39) := hk39_v64.trans hq39_v1
    refine lv_iconst (v := 0) hx hb dX11_newName_16 (by decide) ?_
    refine lv_istore_n (lv' := [(3, .int 0), (0, .ref y0), (1, .int p1), (2, .int p2)]) hx hb dX11_newName_17 rfl hl (by decide) rfl (fun ls hl => ?_)
    have lp74 : ∀ (n74 : Nat) (l3_74 : Int32) (v74 : Nat → Int32) (f74 : Nat → Nat → Int32) (w74 : Int64) (g74 : Nat → Int64), YI v74 → YC f74 → progOK (f74 4) (f74 5) (v74 9).toInt.toNat → v74 0 = (v 0) → v74 3 = (v1 3) → v74 4 = (v 4) → v74 5 = (v1 5) → v74 8 = (v 8) → v74 9 = (v 9) → v74 10 = (v 10) → v74 13 = (v 13) → v74 14 = (v 14) → v74 15 = (v 15) → v74 17 = (v 17) → v74 18 = (v 18) → v74 24 = (v 24) → v74 25 = (v 25) → v74 35 = (v 35) → v74 36 = (v 36) → v74 38 = (v 38) → v74 39 = (v 39) → ((0 : Int) ≤ l3_74.toInt ∧ l3_74.toInt ≤ 2147483647) → f74 2 = (f 2) → f74 3 = (f 3) → f74 6 = (f 6) → (2147483647 - l3_74.toInt).toNat < n74 → ∀ (H : Heap) (locs : List Loc) (ls : Array Slot), va_P (dC, dI) vwCl (YW cy y0 r v74 f74 w74 g74) H → va_D A (YW cy y0 r v74 f74 w74 g74) → va_S A s.heap H locs → lv_has ls 4 [(3, .int l3_74), (0, .ref y0), (1, .int p1), (2, .int p2)] → W p l e { frames := 3, cells := 0, slots := 0, locals := 103 } s m ([.ref y0, .int p1, .int p2] : List Value).toArray below meth c H locs 0 0 Q (F0 m 18 ls []) := by
      intro n74
      induction n74 with
      | zero => intro l3_74 v74 f74 w74 g74 hIv74 hCf74 hRf74 hq0_v74 hq3_v74 hq4_v74 hq5_v74 hq8_v74 hq9_v74 hq10_v74 hq13_v74 hq14_v74 hq15_v74 hq17_v74 hq18_v74 hq24_v74 hq25_v74 hq35_v74 hq36_v74 hq38_v74 hq39_v74 hr3_74 hs2_f74 hs3_f74 hs6_f74 hm; exact absurd hm (Nat.not_lt_zero _)
      | succ n74 ih74 =>
        intro l3_74 v74 f74 w74 g74 hIv74 hCf74 hRf74 hq0_v74 hq3_v74 hq4_v74 hq5_v74 hq8_v74 hq9_v74 hq10_v74 hq13_v74 hq14_v74 hq15_v74 hq17_v74 hq18_v74 hq24_v74 hq25_v74 hq35_v74 hq36_v74 hq38_v74 hq39_v74 hr3_74 hs2_f74 hs3_f74 hs6_f74 hm74 H locs ls hP hD hS hl
        have hUv74 : (v74 35).toInt + (v74 36).toInt ≤ 40 := hIv74.2
        have zq3_v74 := congrArg Int32.toInt hq3_v74
        have zq4_v74 := congrArg Int32.toInt hq4_v74
        have zq5_v74 := congrArg Int32.toInt hq5_v74
        have zq8_v74 := congrArg Int32.toInt hq8_v74
        have zq9_v74 := congrArg Int32.toInt hq9_v74
        have zq10_v74 := congrArg Int32.toInt hq10_v74
        have zq13_v74 := congrArg Int32.toInt hq13_v74
        have zq14_v74 := congrArg Int32.toInt hq14_v74
        have zq15_v74 := congrArg Int32.toInt hq15_v74
        have zq17_v74 := congrArg Int32.toInt hq17_v74
        have zq18_v74 := congrArg Int32.toInt hq18_v74
        have zq35_v74 := congrArg Int32.toInt hq35_v74
        have zq36_v74 := congrArg Int32.toInt hq36_v74
        refine lv_iload_n hx hb dX11_newName_18 rfl (lv_at hl 0 rfl) ?_
        refine lv_iload_n hx hb dX11_newName_19 rfl (lv_at hl 3 rfl) ?_
        refine lv_icmp_ge (tgt := 57) hx hb dX11_newName_20 (by decide) (fun c75 => ?_) (fun c75 => ?_)
        · skip
          have zc75 : p2.toInt ≤ l3_74.toInt := by rw [fa_le] at c75; exact c75
          have rg76 := fb_rng l3_74
          have rg77 := fb_rng p2
          refine lv_aload_n hx hb dX11_newName_57 rfl (lv_at hl 1 rfl) ?_
          refine va_get (D := (dC, dI)) (ci := 11) (v := .int (v74 1)) (C := RX11) (T := TX11) (N := 79) hx hb hts inB_11 hown hE.1 hP 0 rfl rfl 2 (by decide) (hts _ k_1322) (fun _ h9 => h9) rfl dX11_newName_58 ?_
          have b1_v74 : 0 ≤ (v74 1).toInt ∧ (v74 1).toInt ≤ 4 := YIb.b hIv74.1 1 (by decide)
          refine lv_if_le (tgt := 65) hx hb dX11_newName_61 (by decide) (fun c78 => ?_) (fun c78 => ?_)
          · skip
            have zc78 : (v74 1).toInt ≤ 0 := by rw [fa_le, show (0 : Int32).toInt = 0 from by decide] at c78; exact c78
            refine lv_aload_n hx hb dX11_newName_65 rfl (lv_at hl 1 rfl) ?_
            refine va_get (D := (dC, dI)) (ci := 11) (v := .ref (r 10)) (C := RX11) (T := TX11) (N := 79) hx hb hts inB_11 hown hE.1 hP 0 rfl rfl 10 (by decide) (hts _ k_1330) (fun _ h9 => h9) rfl dX11_newName_66 ?_
            refine lv_iload_n hx hb dX11_newName_69 rfl (lv_at hl 2 rfl) ?_
            refine lv_iload_n hx hb dX11_newName_70 rfl (lv_at hl 3 rfl) ?_
            refine lv_iadd hx hb dX11_newName_71 ?_
            refine lv_topi (fun t79 et79 => ?_)
            have rg80 := fb_rng p1
            have zt79 : t79.toInt = p1.toInt + p2.toInt := by rw [et79]; exact add_i rfl rfl (by omega) (by omega)
            refine lv_aload_n hx hb dX11_newName_72 rfl (lv_at hl 1 rfl) ?_
            refine va_get (D := (dC, dI)) (ci := 11) (v := .long w74) (C := RX11) (T := TX11) (N := 79) hx hb hts inB_11 hown hE.1 hP 0 rfl rfl 9 (by decide) (hts _ k_1329) (fun _ h9 => h9) rfl dX11_newName_73 ?_
            refine va_last hx hb hE.1 hP hD hS 2 2 rfl rfl (vp_in_iff.mpr ⟨by omega, by omega⟩) dX11_newName_76 (fun H locs hP hD hS => ?_)
            obtain ⟨g81, hP, hD⟩ : ∃ fz9, va_P (dC, dI) vwCl (YW cy y0 r v74 f74 w74 fz9) H ∧ va_D A (YW cy y0 r v74 f74 w74 fz9) := ⟨_, hP, hD⟩
            refine lv_aload_n hx hb dX11_newName_77 rfl (lv_at hl 1 rfl) ?_
            refine cbVv (n := 0) (rest := []) hx hb hml hown hts hE hP hD hS hA (sY_X11_token_1 l dC dI cy y0 r  v74 f74 w74 g81 hIv74 hCf74 hRf74 ) k_1579 k_1581 k_42 k_114 k_1582 (by decide +kernel) ⟨Nat.le_of_ble_eq_true rfl, Nat.le_of_ble_eq_true rfl⟩ 0 11 rfl rfl (rfl) hl.1 rfl (Nat.le_of_ble_eq_true rfl) dX11_newName_78 (fun u H locs hw hP hD hS => ?_)
            obtain ⟨v82, f83, w84, g85⟩ := u
            obtain ⟨hIv82, hCf83, hRf83, hk0_v82, hk1_v82, hk4_v82, hk8_v82, hk9_v82, hk10_v82, hk13_v82, hk14_v82, hk15_v82, hk17_v82, hk18_v82, hk24_v82, hk25_v82, hk35_v82, hk36_v82, hk38_v82, hk39_v82, pv86, pv87, kq88, kq89, kq90⟩ := hw
            have hP : va_P (dC, dI) vwCl (YW cy y0 r v82 f83 w84 g85) H := hP
            have hD : va_D A (YW cy y0 r v82 f83 w84 g85) := hD
            have b3_v82 : 0 ≤ (v82 3).toInt ∧ (v82 3).toInt ≤ 1600 := YIb.b hIv82.1 3 (by decide)
            have pv86 : (v74 3).toInt ≤ (v82 3).toInt := pv86
            have pv87 : (v82 5).toInt = (v74 5).toInt ∨ (v74 3).toInt < (v82 3).toInt ∨ ¬ (v82 5).toInt = 59 := pv87
            have hs2_f83 : f83 2 = (f 2) := kq88.trans hs2_f74
            have hs3_f83 : f83 3 = (f 3) := kq89.trans hs3_f74
            have hs6_f83 : f83 6 = (f 6) := kq90.trans hs6_f74
            have hUv82 : (v82 35).toInt + (v82 36).toInt ≤ 40 := hIv82.2
            have hq0_v82 : v82 0 = (v 0) := hk0_v82.trans hq0_v74
            have hq1_v82 : v82 1 = (v74 1) := hk1_v82
            have zq1_v82 := congrArg Int32.toInt hq1_v82
            have hq4_v82 : v82 4 = (v 4) := hk4_v82.trans hq4_v74
            have zq4_v82 := congrArg Int32.toInt hq4_v82
            have hq8_v82 : v82 8 = (v 8) := hk8_v82.trans hq8_v74
            have zq8_v82 := congrArg Int32.toInt hq8_v82
            have hq9_v82 : v82 9 = (v 9) := hk9_v82.trans hq9_v74
            have zq9_v82 := congrArg Int32.toInt hq9_v82
            have hq10_v82 : v82 10 = (v 10) := hk10_v82.trans hq10_v74
            have zq10_v82 := congrArg Int32.toInt hq10_v82
            have hq13_v82 : v82 13 = (v 13) := hk13_v82.trans hq13_v74
            have zq13_v82 := congrArg Int32.toInt hq13_v82
            have hq14_v82 : v82 14 = (v 14) := hk14_v82.trans hq14_v74
            have zq14_v82 := congrArg Int32.toInt hq14_v82
            have hq15_v82 : v82 15 = (v 15) := hk15_v82.trans hq15_v74
            have zq15_v82 := congrArg Int32.toInt hq15_v82
            have hq17_v82 : v82 17 = (v 17) := hk17_v82.trans hq17_v74
            have zq17_v82 := congrArg Int32.toInt hq17_v82
            have hq18_v82 : v82 18 = (v 18) := hk18_v82.trans hq18_v74
            have zq18_v82 := congrArg Int32.toInt hq18_v82
            have hq24_v82 : v82 24 = (v 24) := hk24_v82.trans hq24_v74
            have hq25_v82 : v82 25 = (v 25) := hk25_v82.trans hq25_v74
            have hq35_v82 : v82 35 = (v 35) := hk35_v82.trans hq35_v74
            have zq35_v82 := congrArg Int32.toInt hq35_v82
            have hq36_v82 : v82 36 = (v 36) := hk36_v82.trans hq36_v74
            have zq36_v82 := congrArg Int32.toInt hq36_v82
            have hq38_v82 : v82 38 = (v 38) := hk38_v82.trans hq38_v74
            have hq39_v82 : v82 39 = (v 39) := hk39_v82.trans hq39_v74
            exact ret (v82, f83, w84, g85) _ _ _ _ _ _ ⟨hIv82, hCf83, hRf83, (hk0_v82.trans hq0_v74), (hk4_v82.trans hq4_v74), (hk8_v82.trans hq8_v74), (hk9_v82.trans hq9_v74), (hk10_v82.trans hq10_v74), (hk13_v82.trans hq13_v74), (hk14_v82.trans hq14_v74), (hk15_v82.trans hq15_v74), (hk17_v82.trans hq17_v74), (hk18_v82.trans hq18_v74), (hk24_v82.trans hq24_v74), (hk25_v82.trans hq25_v74), (hk35_v82.trans hq35_v74), (hk36_v82.trans hq36_v74), (hk38_v82.trans hq38_v74), (hk39_v82.trans hq39_v74), (by show (v 3).toInt ≤ (v82 3).toInt; omega), (by show (v82 5).toInt = (v 5).toInt ∨ (v 3).toInt < (v82 3).toInt ∨ ¬ (v82 5).toInt = 59; omega), hs2_f83, hs3_f83, hs6_f83⟩ hP hD hS dX11_newName_81 (Nat.le_refl _) (Nat.le_refl _)
          · skip
            have zc78 : ¬ ((v74 1).toInt ≤ 0) := by rw [fa_le, show (0 : Int32).toInt = 0 from by decide] at c78; exact c78
            exact ret (v74, f74, w74, g74) _ _ _ _ _ _ ⟨hIv74, hCf74, hRf74, hq0_v74, hq4_v74, hq8_v74, hq9_v74, hq10_v74, hq13_v74, hq14_v74, hq15_v74, hq17_v74, hq18_v74, hq24_v74, hq25_v74, hq35_v74, hq36_v74, hq38_v74, hq39_v74, (by show (v 3).toInt ≤ (v74 3).toInt; omega), (by show (v74 5).toInt = (v 5).toInt ∨ (v 3).toInt < (v74 3).toInt ∨ ¬ (v74 5).toInt = 59; omega), hs2_f74, hs3_f74, hs6_f74⟩ hP hD hS dX11_newName_64 (Nat.le_refl _) (Nat.le_refl _)
        · skip
          have zc75 : ¬ (p2.toInt ≤ l3_74.toInt) := by rw [fa_le] at c75; exact c75
          have rg91 := fb_rng l3_74
          have rg92 := fb_rng p2
          refine lv_aload_n hx hb dX11_newName_23 rfl (lv_at hl 1 rfl) ?_
          refine va_get (D := (dC, dI)) (ci := 11) (v := .int (v74 1)) (C := RX11) (T := TX11) (N := 79) hx hb hts inB_11 hown hE.1 hP 0 rfl rfl 2 (by decide) (hts _ k_1322) (fun _ h9 => h9) rfl dX11_newName_24 ?_
          have b1_v74 : 0 ≤ (v74 1).toInt ∧ (v74 1).toInt ≤ 4 := YIb.b hIv74.1 1 (by decide)
          refine lv_if_ne (tgt := 57) hx hb dX11_newName_27 (by decide) (fun c93 => ?_) (fun c93 => ?_)
          · skip
            have zc93 : ¬ ((v74 1).toInt = 0) := by rw [fa_eq, show (0 : Int32).toInt = 0 from by decide] at c93; exact c93
            refine lv_aload_n hx hb dX11_newName_57 rfl (lv_at hl 1 rfl) ?_
            refine va_get (D := (dC, dI)) (ci := 11) (v := .int (v74 1)) (C := RX11) (T := TX11) (N := 79) hx hb hts inB_11 hown hE.1 hP 0 rfl rfl 2 (by decide) (hts _ k_1322) (fun _ h9 => h9) rfl dX11_newName_58 ?_
            refine lv_if_le (tgt := 65) hx hb dX11_newName_61 (by decide) (fun c94 => ?_) (fun c94 => ?_)
            · skip
              have zc94 : (v74 1).toInt ≤ 0 := by rw [fa_le, show (0 : Int32).toInt = 0 from by decide] at c94; exact c94
              refine lv_aload_n hx hb dX11_newName_65 rfl (lv_at hl 1 rfl) ?_
              refine va_get (D := (dC, dI)) (ci := 11) (v := .ref (r 10)) (C := RX11) (T := TX11) (N := 79) hx hb hts inB_11 hown hE.1 hP 0 rfl rfl 10 (by decide) (hts _ k_1330) (fun _ h9 => h9) rfl dX11_newName_66 ?_
              refine lv_iload_n hx hb dX11_newName_69 rfl (lv_at hl 2 rfl) ?_
              refine lv_iload_n hx hb dX11_newName_70 rfl (lv_at hl 3 rfl) ?_
              refine lv_iadd hx hb dX11_newName_71 ?_
              refine lv_topi (fun t95 et95 => ?_)
              have rg96 := fb_rng p1
              have zt95 : t95.toInt = p1.toInt + p2.toInt := by rw [et95]; exact add_i rfl rfl (by omega) (by omega)
              refine lv_aload_n hx hb dX11_newName_72 rfl (lv_at hl 1 rfl) ?_
              refine va_get (D := (dC, dI)) (ci := 11) (v := .long w74) (C := RX11) (T := TX11) (N := 79) hx hb hts inB_11 hown hE.1 hP 0 rfl rfl 9 (by decide) (hts _ k_1329) (fun _ h9 => h9) rfl dX11_newName_73 ?_
              refine va_last hx hb hE.1 hP hD hS 2 2 rfl rfl (vp_in_iff.mpr ⟨by omega, by omega⟩) dX11_newName_76 (fun H locs hP hD hS => ?_)
              obtain ⟨g97, hP, hD⟩ : ∃ fz9, va_P (dC, dI) vwCl (YW cy y0 r v74 f74 w74 fz9) H ∧ va_D A (YW cy y0 r v74 f74 w74 fz9) := ⟨_, hP, hD⟩
              refine lv_aload_n hx hb dX11_newName_77 rfl (lv_at hl 1 rfl) ?_
              refine cbVv (n := 0) (rest := []) hx hb hml hown hts hE hP hD hS hA (sY_X11_token_1 l dC dI cy y0 r  v74 f74 w74 g97 hIv74 hCf74 hRf74 ) k_1579 k_1581 k_42 k_114 k_1582 (by decide +kernel) ⟨Nat.le_of_ble_eq_true rfl, Nat.le_of_ble_eq_true rfl⟩ 0 11 rfl rfl (rfl) hl.1 rfl (Nat.le_of_ble_eq_true rfl) dX11_newName_78 (fun u H locs hw hP hD hS => ?_)
              obtain ⟨v98, f99, w100, g101⟩ := u
              obtain ⟨hIv98, hCf99, hRf99, hk0_v98, hk1_v98, hk4_v98, hk8_v98, hk9_v98, hk10_v98, hk13_v98, hk14_v98, hk15_v98, hk17_v98, hk18_v98, hk24_v98, hk25_v98, hk35_v98, hk36_v98, hk38_v98, hk39_v98, pv102, pv103, kq104, kq105, kq106⟩ := hw
              have hP : va_P (dC, dI) vwCl (YW cy y0 r v98 f99 w100 g101) H := hP
              have hD : va_D A (YW cy y0 r v98 f99 w100 g101) := hD
              have b3_v98 : 0 ≤ (v98 3).toInt ∧ (v98 3).toInt ≤ 1600 := YIb.b hIv98.1 3 (by decide)
              have pv102 : (v74 3).toInt ≤ (v98 3).toInt := pv102
              have pv103 : (v98 5).toInt = (v74 5).toInt ∨ (v74 3).toInt < (v98 3).toInt ∨ ¬ (v98 5).toInt = 59 := pv103
              have hs2_f99 : f99 2 = (f 2) := kq104.trans hs2_f74
              have hs3_f99 : f99 3 = (f 3) := kq105.trans hs3_f74
              have hs6_f99 : f99 6 = (f 6) := kq106.trans hs6_f74
              have hUv98 : (v98 35).toInt + (v98 36).toInt ≤ 40 := hIv98.2
              have hq0_v98 : v98 0 = (v 0) := hk0_v98.trans hq0_v74
              have hq1_v98 : v98 1 = (v74 1) := hk1_v98
              have zq1_v98 := congrArg Int32.toInt hq1_v98
              have hq4_v98 : v98 4 = (v 4) := hk4_v98.trans hq4_v74
              have zq4_v98 := congrArg Int32.toInt hq4_v98
              have hq8_v98 : v98 8 = (v 8) := hk8_v98.trans hq8_v74
              have zq8_v98 := congrArg Int32.toInt hq8_v98
              have hq9_v98 : v98 9 = (v 9) := hk9_v98.trans hq9_v74
              have zq9_v98 := congrArg Int32.toInt hq9_v98
              have hq10_v98 : v98 10 = (v 10) := hk10_v98.trans hq10_v74
              have zq10_v98 := congrArg Int32.toInt hq10_v98
              have hq13_v98 : v98 13 = (v 13) := hk13_v98.trans hq13_v74
              have zq13_v98 := congrArg Int32.toInt hq13_v98
              have hq14_v98 : v98 14 = (v 14) := hk14_v98.trans hq14_v74
              have zq14_v98 := congrArg Int32.toInt hq14_v98
              have hq15_v98 : v98 15 = (v 15) := hk15_v98.trans hq15_v74
              have zq15_v98 := congrArg Int32.toInt hq15_v98
              have hq17_v98 : v98 17 = (v 17) := hk17_v98.trans hq17_v74
              have zq17_v98 := congrArg Int32.toInt hq17_v98
              have hq18_v98 : v98 18 = (v 18) := hk18_v98.trans hq18_v74
              have zq18_v98 := congrArg Int32.toInt hq18_v98
              have hq24_v98 : v98 24 = (v 24) := hk24_v98.trans hq24_v74
              have hq25_v98 : v98 25 = (v 25) := hk25_v98.trans hq25_v74
              have hq35_v98 : v98 35 = (v 35) := hk35_v98.trans hq35_v74
              have zq35_v98 := congrArg Int32.toInt hq35_v98
              have hq36_v98 : v98 36 = (v 36) := hk36_v98.trans hq36_v74
              have zq36_v98 := congrArg Int32.toInt hq36_v98
              have hq38_v98 : v98 38 = (v 38) := hk38_v98.trans hq38_v74
              have hq39_v98 : v98 39 = (v 39) := hk39_v98.trans hq39_v74
              exact ret (v98, f99, w100, g101) _ _ _ _ _ _ ⟨hIv98, hCf99, hRf99, (hk0_v98.trans hq0_v74), (hk4_v98.trans hq4_v74), (hk8_v98.trans hq8_v74), (hk9_v98.trans hq9_v74), (hk10_v98.trans hq10_v74), (hk13_v98.trans hq13_v74), (hk14_v98.trans hq14_v74), (hk15_v98.trans hq15_v74), (hk17_v98.trans hq17_v74), (hk18_v98.trans hq18_v74), (hk24_v98.trans hq24_v74), (hk25_v98.trans hq25_v74), (hk35_v98.trans hq35_v74), (hk36_v98.trans hq36_v74), (hk38_v98.trans hq38_v74), (hk39_v98.trans hq39_v74), (by show (v 3).toInt ≤ (v98 3).toInt; omega), (by show (v98 5).toInt = (v 5).toInt ∨ (v 3).toInt < (v98 3).toInt ∨ ¬ (v98 5).toInt = 59; omega), hs2_f99, hs3_f99, hs6_f99⟩ hP hD hS dX11_newName_81 (Nat.le_refl _) (Nat.le_refl _)
            · skip
              have zc94 : ¬ ((v74 1).toInt ≤ 0) := by rw [fa_le, show (0 : Int32).toInt = 0 from by decide] at c94; exact c94
              exact ret (v74, f74, w74, g74) _ _ _ _ _ _ ⟨hIv74, hCf74, hRf74, hq0_v74, hq4_v74, hq8_v74, hq9_v74, hq10_v74, hq13_v74, hq14_v74, hq15_v74, hq17_v74, hq18_v74, hq24_v74, hq25_v74, hq35_v74, hq36_v74, hq38_v74, hq39_v74, (by show (v 3).toInt ≤ (v74 3).toInt; omega), (by show (v74 5).toInt = (v 5).toInt ∨ (v 3).toInt < (v74 3).toInt ∨ ¬ (v74 5).toInt = 59; omega), hs2_f74, hs3_f74, hs6_f74⟩ hP hD hS dX11_newName_64 (Nat.le_refl _) (Nat.le_refl _)
          · skip
            have zc93 : (v74 1).toInt = 0 := by rw [fa_eq, show (0 : Int32).toInt = 0 from by decide] at c93; exact c93
            refine lv_aload_n hx hb dX11_newName_30 rfl (lv_at hl 1 rfl) ?_
            refine va_get (D := (dC, dI)) (ci := 11) (v := .ref (r 10)) (C := RX11) (T := TX11) (N := 79) hx hb hts inB_11 hown hE.1 hP 0 rfl rfl 10 (by decide) (hts _ k_1330) (fun _ h9 => h9) rfl dX11_newName_31 ?_
            refine lv_iload_n hx hb dX11_newName_34 rfl (lv_at hl 2 rfl) ?_
            refine lv_iload_n hx hb dX11_newName_35 rfl (lv_at hl 0 rfl) ?_
            refine lv_iadd hx hb dX11_newName_36 ?_
            refine lv_topi (fun t107 et107 => ?_)
            have rg108 := fb_rng p1
            have zt107 : t107.toInt = p1.toInt + l3_74.toInt := by rw [et107]; exact add_i rfl rfl (by omega) (by omega)
            refine va_lald hx hb hE.1 hP 2 2 rfl rfl (vp_in_iff.mpr ⟨by omega, by omega⟩) dX11_newName_37 ?_
            refine lv_topl (fun j109 ej109 => ?_)
            refine lv_aload_n hx hb dX11_newName_38 rfl (lv_at hl 1 rfl) ?_
            refine va_get (D := (dC, dI)) (ci := 11) (v := .long w74) (C := RX11) (T := TX11) (N := 79) hx hb hts inB_11 hown hE.1 hP 0 rfl rfl 9 (by decide) (hts _ k_1329) (fun _ h9 => h9) rfl dX11_newName_39 ?_
            refine W.lcmp hx hb dX11_newName_42 ?_
            refine lv_topi (fun t110 et110 => ?_)
            refine lv_if_ne (tgt := 51) hx hb dX11_newName_43 (by decide) (fun c111 => ?_) (fun c111 => ?_)
            · skip
              have zc111 : ¬ (t110.toInt = 0) := by rw [fa_eq, show (0 : Int32).toInt = 0 from by decide] at c111; exact c111
              obtain ⟨t112, et112⟩ : ∃ y : Int32, y = l3_74 + 1 := ⟨_, rfl⟩
              have zt112 : t112.toInt = l3_74.toInt + 1 := by rw [et112]; exact add_i rfl (by decide) (by omega) (by omega)
              refine lv_iinc (v := t112) (lv' := [(3, .int t112), (0, .ref y0), (1, .int p1), (2, .int p2)]) hx hb dX11_newName_51 hl (k := 0) rfl (by rw [et112]; rfl) (by decide) rfl (fun ls hl => ?_)
              refine lv_goto (tgt := 18) hx hb dX11_newName_54 (by decide) ?_
              have rg113 := fb_rng t112
              exact ih74 t112 v74 f74 w74 g74 hIv74 hCf74 hRf74 hq0_v74 hq3_v74 hq4_v74 hq5_v74 hq8_v74 hq9_v74 hq10_v74 hq13_v74 hq14_v74 hq15_v74 hq17_v74 hq18_v74 hq24_v74 hq25_v74 hq35_v74 hq36_v74 hq38_v74 hq39_v74 ⟨show (0 : Int) ≤ t112.toInt by omega, show t112.toInt ≤ (2147483647 : Int) by omega⟩ hs2_f74 hs3_f74 hs6_f74 (by show (2147483647 - t112.toInt).toNat < n74; omega) _ _ _ hP hD hS (lv_sub hl [0, 1, 2, 3] rfl)
            · skip
              have zc111 : t110.toInt = 0 := by rw [fa_eq, show (0 : Int32).toInt = 0 from by decide] at c111; exact c111
              refine lv_aload_n hx hb dX11_newName_46 rfl (lv_at hl 1 rfl) ?_
              refine lv_iconst (v := 3) hx hb dX11_newName_47 (by decide) ?_
              refine cbVv (n := 1) (rest := []) hx hb hml hown hts hE hP hD hS hA (sY_X11_wrong_1 l dC dI cy y0 r 3 v74 f74 w74 g74 hIv74 hCf74 hRf74 ⟨by decide, by decide⟩) k_1641 k_1643 k_50 k_114 k_1644 (by decide +kernel) ⟨Nat.le_of_ble_eq_true rfl, Nat.le_of_ble_eq_true rfl⟩ 0 11 rfl rfl (rfl) hl.1 rfl (Nat.le_of_ble_eq_true rfl) dX11_newName_48 (fun u H locs hw hP hD hS => ?_)
              obtain ⟨v114, f115, w116, g117⟩ := u
              obtain ⟨hIv114, hCf115, hRf115, hk0_v114, hk3_v114, hk4_v114, hk5_v114, hk8_v114, hk9_v114, hk10_v114, hk13_v114, hk14_v114, hk15_v114, hk17_v114, hk18_v114, hk24_v114, hk25_v114, hk35_v114, hk36_v114, hk38_v114, hk39_v114, pv118, pv119, pv120, kq121, kq122, kq123⟩ := hw
              have hP : va_P (dC, dI) vwCl (YW cy y0 r v114 f115 w116 g117) H := hP
              have hD : va_D A (YW cy y0 r v114 f115 w116 g117) := hD
              have b3_v114 : 0 ≤ (v114 3).toInt ∧ (v114 3).toInt ≤ 1600 := YIb.b hIv114.1 3 (by decide)
              have b1_v114 : 0 ≤ (v114 1).toInt ∧ (v114 1).toInt ≤ 4 := YIb.b hIv114.1 1 (by decide)
              have pv118 : (v74 3).toInt ≤ (v114 3).toInt := pv118
              have pv119 : (v114 5).toInt = (v74 5).toInt ∨ (v74 3).toInt < (v114 3).toInt ∨ ¬ (v114 5).toInt = 59 := pv119
              have pv120 : 0 < (v114 1).toInt := pv120
              have hs2_f115 : f115 2 = (f 2) := kq121.trans hs2_f74
              have hs3_f115 : f115 3 = (f 3) := kq122.trans hs3_f74
              have hs6_f115 : f115 6 = (f 6) := kq123.trans hs6_f74
              have hUv114 : (v114 35).toInt + (v114 36).toInt ≤ 40 := hIv114.2
              have hq0_v114 : v114 0 = (v 0) := hk0_v114.trans hq0_v74
              have hq3_v114 : v114 3 = (v1 3) := hk3_v114.trans hq3_v74
              have zq3_v114 := congrArg Int32.toInt hq3_v114
              have hq4_v114 : v114 4 = (v 4) := hk4_v114.trans hq4_v74
              have zq4_v114 := congrArg Int32.toInt hq4_v114
              have hq5_v114 : v114 5 = (v1 5) := hk5_v114.trans hq5_v74
              have zq5_v114 := congrArg Int32.toInt hq5_v114
              have hq8_v114 : v114 8 = (v 8) := hk8_v114.trans hq8_v74
              have zq8_v114 := congrArg Int32.toInt hq8_v114
              have hq9_v114 : v114 9 = (v 9) := hk9_v114.trans hq9_v74
              have zq9_v114 := congrArg Int32.toInt hq9_v114
              have hq10_v114 : v114 10 = (v 10) := hk10_v114.trans hq10_v74
              have zq10_v114 := congrArg Int32.toInt hq10_v114
              have hq13_v114 : v114 13 = (v 13) := hk13_v114.trans hq13_v74
              have zq13_v114 := congrArg Int32.toInt hq13_v114
              have hq14_v114 : v114 14 = (v 14) := hk14_v114.trans hq14_v74
              have zq14_v114 := congrArg Int32.toInt hq14_v114
              have hq15_v114 : v114 15 = (v 15) := hk15_v114.trans hq15_v74
              have zq15_v114 := congrArg Int32.toInt hq15_v114
              have hq17_v114 : v114 17 = (v 17) := hk17_v114.trans hq17_v74
              have zq17_v114 := congrArg Int32.toInt hq17_v114
              have hq18_v114 : v114 18 = (v 18) := hk18_v114.trans hq18_v74
              have zq18_v114 := congrArg Int32.toInt hq18_v114
              have hq24_v114 : v114 24 = (v 24) := hk24_v114.trans hq24_v74
              have hq25_v114 : v114 25 = (v 25) := hk25_v114.trans hq25_v74
              have hq35_v114 : v114 35 = (v 35) := hk35_v114.trans hq35_v74
              have zq35_v114 := congrArg Int32.toInt hq35_v114
              have hq36_v114 : v114 36 = (v 36) := hk36_v114.trans hq36_v74
              have zq36_v114 := congrArg Int32.toInt hq36_v114
              have hq38_v114 : v114 38 = (v 38) := hk38_v114.trans hq38_v74
              have hq39_v114 : v114 39 = (v 39) := hk39_v114.trans hq39_v74
              obtain ⟨t124, et124⟩ : ∃ y : Int32, y = l3_74 + 1 := ⟨_, rfl⟩
              have zt124 : t124.toInt = l3_74.toInt + 1 := by rw [et124]; exact add_i rfl (by decide) (by omega) (by omega)
              refine lv_iinc (v := t124) (lv' := [(3, .int t124), (0, .ref y0), (1, .int p1), (2, .int p2)]) hx hb dX11_newName_51 hl (k := 0) rfl (by rw [et124]; rfl) (by decide) rfl (fun ls hl => ?_)
              refine lv_goto (tgt := 18) hx hb dX11_newName_54 (by decide) ?_
              have rg125 := fb_rng t124
              exact ih74 t124 v114 f115 w116 g117 hIv114 hCf115 hRf115 hq0_v114 hq3_v114 hq4_v114 hq5_v114 hq8_v114 hq9_v114 hq10_v114 hq13_v114 hq14_v114 hq15_v114 hq17_v114 hq18_v114 hq24_v114 hq25_v114 hq35_v114 hq36_v114 hq38_v114 hq39_v114 ⟨show (0 : Int) ≤ t124.toInt by omega, show t124.toInt ≤ (2147483647 : Int) by omega⟩ hs2_f115 hs3_f115 hs6_f115 (by show (2147483647 - t124.toInt).toNat < n74; omega) _ _ _ hP hD hS (lv_sub hl [0, 1, 2, 3] rfl)
    exact lp74 _ 0 v64 f65 w66 g67 hIv64 hCf65 hRf65 hq0_v64 hq3_v64 hq4_v64 hq5_v64 hq8_v64 hq9_v64 hq10_v64 hq13_v64 hq14_v64 hq15_v64 hq17_v64 hq18_v64 hq24_v64 hq25_v64 hq35_v64 hq36_v64 hq38_v64 hq39_v64 ⟨by decide, by decide⟩ hs2_f65 hs3_f65 hs6_f65 (Nat.lt_succ_self _) _ _ _ hP hD hS (lv_sub hl [0, 1, 2, 3] rfl)
set_option maxHeartbeats 4000000 in
set_option maxRecDepth 100000 in
theorem sY_X11_option_1 (l : Launch) (dC : Nat → ClassId) (dI : Nat → Nat → Nat) (cy : Nat → ClassId) (y0 : Nat) (r : Nat → Nat) (j1 : Int64) (p2 : Int32) (v : Nat → Int32) (f : Nat → Nat → Int32) (w : Int64) (g : Nat → Int64) (hIv : YI v) (hCf : YC f) (hRf : progOK (f 4) (f 5) (v 9).toInt.toNat)  : ctI l (dC, dI) cy yX11_option cX11_option 4 .int 5 149 0 0 ((Nat → Int32) × (Nat → Nat → Int32) × (Int64) × (Nat → Int64)) [.ref y0, .long j1, .int p2] (YW cy y0 r v f w g) (fun r u => YI u.1 ∧ YC u.2.1 ∧ progOK (u.2.1 4) (u.2.1 5) (u.1 9).toInt.toNat ∧ u.1 0 = v 0 ∧ u.1 4 = v 4 ∧ u.1 8 = v 8 ∧ u.1 9 = v 9 ∧ u.1 10 = v 10 ∧ u.1 13 = v 13 ∧ u.1 14 = v 14 ∧ u.1 15 = v 15 ∧ u.1 17 = v 17 ∧ u.1 18 = v 18 ∧ u.1 24 = v 24 ∧ u.1 25 = v 25 ∧ u.1 35 = v 35 ∧ u.1 36 = v 36 ∧ u.1 38 = v 38 ∧ u.1 39 = v 39 ∧ ((v 3).toInt ≤ (u.1 3).toInt) ∧ ((u.1 5).toInt = (v 5).toInt ∨ (v 3).toInt < (u.1 3).toInt ∨ ¬ (u.1 5).toInt = 59) ∧ u.2.1 2 = f 2 ∧ u.2.1 3 = f 3 ∧ u.2.1 6 = f 6) (fun u => YW cy y0 r u.1 u.2.1 u.2.2.1 u.2.2.2) := by
  refine ctI_of (by decide) (Nat.le_of_ble_eq_true rfl) (fun p e s m below meth c A ls Q hx hb hml hts hown hE hP hD hA hl ret => ?_)
  have hUv : (v 35).toInt + (v 36).toInt ≤ 40 := hIv.2
  have b0_v : (0 : Int) ≤ (v 0).toInt ∧ (v 0).toInt ≤ 1600 := YIb.b hIv.1 0 (by decide)
  have b1_v : (0 : Int) ≤ (v 1).toInt ∧ (v 1).toInt ≤ 4 := YIb.b hIv.1 1 (by decide)
  have b3_v : (0 : Int) ≤ (v 3).toInt ∧ (v 3).toInt ≤ 1600 := YIb.b hIv.1 3 (by decide)
  have b4_v : (0 : Int) ≤ (v 4).toInt ∧ (v 4).toInt ≤ 1600 := YIb.b hIv.1 4 (by decide)
  have b8_v : (0 : Int) ≤ (v 8).toInt ∧ (v 8).toInt ≤ 320 := YIb.b hIv.1 8 (by decide)
  have b9_v : (0 : Int) ≤ (v 9).toInt ∧ (v 9).toInt ≤ 320 := YIb.b hIv.1 9 (by decide)
  have b10_v : (0 : Int) ≤ (v 10).toInt ∧ (v 10).toInt ≤ 160 := YIb.b hIv.1 10 (by decide)
  have b13_v : (0 : Int) ≤ (v 13).toInt ∧ (v 13).toInt ≤ 31 := YIb.b hIv.1 13 (by decide)
  have b14_v : (0 : Int) ≤ (v 14).toInt ∧ (v 14).toInt ≤ 8 := YIb.b hIv.1 14 (by decide)
  have b17_v : (0 : Int) ≤ (v 17).toInt ∧ (v 17).toInt ≤ 6 := YIb.b hIv.1 17 (by decide)
  have b18_v : (0 : Int) ≤ (v 18).toInt ∧ (v 18).toInt ≤ 6 := YIb.b hIv.1 18 (by decide)
  have b24_v : (0 : Int) ≤ (v 24).toInt ∧ (v 24).toInt ≤ 6 := YIb.b hIv.1 24 (by decide)
  have b25_v : (0 : Int) ≤ (v 25).toInt ∧ (v 25).toInt ≤ 6 := YIb.b hIv.1 25 (by decide)
  have b35_v : (0 : Int) ≤ (v 35).toInt ∧ (v 35).toInt ≤ 40 := YIb.b hIv.1 35 (by decide)
  have b36_v : (0 : Int) ≤ (v 36).toInt ∧ (v 36).toInt ≤ 40 := YIb.b hIv.1 36 (by decide)
  have b37_v : (0 : Int) ≤ (v 37).toInt ∧ (v 37).toInt ≤ 6 := YIb.b hIv.1 37 (by decide)
  have b38_v : (0 : Int) ≤ (v 38).toInt ∧ (v 38).toInt ≤ 30 := YIb.b hIv.1 38 (by decide)
  have b39_v : (0 : Int) ≤ (v 39).toInt ∧ (v 39).toInt ≤ 100000 := YIb.b hIv.1 39 (by decide)
  have hown : s.vm.findClass RX11 = some m.cls := hown
  have hS : va_S A s.heap s.heap [] := va_S.rf
  have hl : lv_has ls 4 [(0, .ref y0), (1, .long j1), (3, .int p2)] := hl
  refine lv_aload_n hx hb dX11_option_0 rfl (lv_at hl 0 rfl) ?_
  refine va_get (D := (dC, dI)) (ci := 11) (v := .int (v 1)) (C := RX11) (T := TX11) (N := 79) hx hb hts inB_11 hown hE.1 hP 0 rfl rfl 2 (by decide) (hts _ k_1322) (fun _ h9 => h9) rfl dX11_option_1 ?_
  have b1_v : 0 ≤ (v 1).toInt ∧ (v 1).toInt ≤ 4 := YIb.b hIv.1 1 (by decide)
  refine lv_if_ne (tgt := 24) hx hb dX11_option_4 (by decide) (fun c1 => ?_) (fun c1 => ?_)
  · skip
    have zc1 : ¬ ((v 1).toInt = 0) := by rw [fa_eq, show (0 : Int32).toInt = 0 from by decide] at c1; exact c1
    refine lv_iconst (v := 0) hx hb dX11_option_24 (by decide) ?_
    exact ret 0 (v, f, w, g) _ _ _ _ _ _ rfl ⟨hIv, hCf, hRf, rfl, rfl, rfl, rfl, rfl, rfl, rfl, rfl, rfl, rfl, rfl, rfl, rfl, rfl, rfl, rfl, (by show (v 3).toInt ≤ (v 3).toInt; omega), (by show (v 5).toInt = (v 5).toInt ∨ (v 3).toInt < (v 3).toInt ∨ ¬ (v 5).toInt = 59; omega), rfl, rfl, rfl⟩ hP hD hS dX11_option_25 (Nat.le_refl _) (Nat.le_refl _)
  · skip
    have zc1 : (v 1).toInt = 0 := by rw [fa_eq, show (0 : Int32).toInt = 0 from by decide] at c1; exact c1
    refine lv_aload_n hx hb dX11_option_7 rfl (lv_at hl 0 rfl) ?_
    refine lv_lload_n hx hb dX11_option_8 rfl (lv_at hl 1 rfl) ?_
    refine cbVi (n := 1) (rest := []) hx hb hml hown hts hE hP hD hS hA (sY_X11_isWord_1 l dC dI cy y0 r j1 v f w g hIv hCf hRf ) k_1601 k_1603 k_45 k_114 k_1604 (by decide +kernel) ⟨Nat.le_of_ble_eq_true rfl, Nat.le_of_ble_eq_true rfl⟩ 0 11 rfl rfl (rfl) hl.1 rfl (Nat.le_of_ble_eq_true rfl) dX11_option_9 (fun r2 u H locs hw hP hD hS => ?_)
    rcases hw with ⟨g3, g3_0⟩ | ⟨g3⟩
    · skip
      subst g3
      refine lv_if_eq (tgt := 24) hx hb dX11_option_12 (by decide) (fun c0 => absurd c0 (by decide)) (fun _ => ?_)
      refine lv_aload_n hx hb dX11_option_15 rfl (lv_at hl 0 rfl) ?_
      refine lv_lload_n hx hb dX11_option_16 rfl (lv_at hl 1 rfl) ?_
      refine lv_iload_n hx hb dX11_option_17 rfl (lv_at hl 2 rfl) ?_
      refine cbVi (n := 2) (rest := []) hx hb hml hown hts hE hP hD hS hA (sY_X11_told_1 l dC dI cy y0 r j1 p2 v f w g hIv hCf hRf ) k_1645 k_1647 k_51 k_114 k_1648 (by decide +kernel) ⟨Nat.le_of_ble_eq_true rfl, Nat.le_of_ble_eq_true rfl⟩ 0 11 rfl rfl (rfl) hl.1 rfl (Nat.le_of_ble_eq_true rfl) dX11_option_18 (fun r4 u H locs hw hP hD hS => ?_)
      obtain ⟨v5, f6, w7, g8⟩ := u
      obtain ⟨hIv5, hCf6, hRf6, hk0_v5, hk4_v5, hk8_v5, hk9_v5, hk10_v5, hk13_v5, hk14_v5, hk15_v5, hk17_v5, hk18_v5, hk24_v5, hk25_v5, hk35_v5, hk36_v5, hk38_v5, hk39_v5, pv9, pv10, kq11, kq12, kq13⟩ := hw
      have hP : va_P (dC, dI) vwCl (YW cy y0 r v5 f6 w7 g8) H := hP
      have hD : va_D A (YW cy y0 r v5 f6 w7 g8) := hD
      have b3_v5 : 0 ≤ (v5 3).toInt ∧ (v5 3).toInt ≤ 1600 := YIb.b hIv5.1 3 (by decide)
      have pv9 : (v 3).toInt ≤ (v5 3).toInt := pv9
      have pv10 : (v5 5).toInt = (v 5).toInt ∨ (v 3).toInt < (v5 3).toInt ∨ ¬ (v5 5).toInt = 59 := pv10
      have hs2_f6 : f6 2 = (f 2) := kq11
      have hs3_f6 : f6 3 = (f 3) := kq12
      have hs6_f6 : f6 6 = (f 6) := kq13
      have hUv5 : (v5 35).toInt + (v5 36).toInt ≤ 40 := hIv5.2
      have hq0_v5 : v5 0 = (v 0) := hk0_v5
      have hq4_v5 : v5 4 = (v 4) := hk4_v5
      have zq4_v5 := congrArg Int32.toInt hq4_v5
      have hq8_v5 : v5 8 = (v 8) := hk8_v5
      have zq8_v5 := congrArg Int32.toInt hq8_v5
      have hq9_v5 : v5 9 = (v 9) := hk9_v5
      have zq9_v5 := congrArg Int32.toInt hq9_v5
      have hq10_v5 : v5 10 = (v 10) := hk10_v5
      have zq10_v5 := congrArg Int32.toInt hq10_v5
      have hq13_v5 : v5 13 = (v 13) := hk13_v5
      have zq13_v5 := congrArg Int32.toInt hq13_v5
      have hq14_v5 : v5 14 = (v 14) := hk14_v5
      have zq14_v5 := congrArg Int32.toInt hq14_v5
      have hq15_v5 : v5 15 = (v 15) := hk15_v5
      have zq15_v5 := congrArg Int32.toInt hq15_v5
      have hq17_v5 : v5 17 = (v 17) := hk17_v5
      have zq17_v5 := congrArg Int32.toInt hq17_v5
      have hq18_v5 : v5 18 = (v 18) := hk18_v5
      have zq18_v5 := congrArg Int32.toInt hq18_v5
      have hq24_v5 : v5 24 = (v 24) := hk24_v5
      have hq25_v5 : v5 25 = (v 25) := hk25_v5
      have hq35_v5 : v5 35 = (v 35) := hk35_v5
      have zq35_v5 := congrArg Int32.toInt hq35_v5
      have hq36_v5 : v5 36 = (v 36) := hk36_v5
      have zq36_v5 := congrArg Int32.toInt hq36_v5
      have hq38_v5 : v5 38 = (v 38) := hk38_v5
      have hq39_v5 : v5 39 = (v 39) := hk39_v5
      refine lv_goto (tgt := 25) hx hb dX11_option_21 (by decide) ?_
      exact ret r4 (v5, f6, w7, g8) _ _ _ _ _ _ rfl ⟨hIv5, hCf6, hRf6, hk0_v5, hk4_v5, hk8_v5, hk9_v5, hk10_v5, hk13_v5, hk14_v5, hk15_v5, hk17_v5, hk18_v5, hk24_v5, hk25_v5, hk35_v5, hk36_v5, hk38_v5, hk39_v5, (by show (v 3).toInt ≤ (v5 3).toInt; omega), (by show (v5 5).toInt = (v 5).toInt ∨ (v 3).toInt < (v5 3).toInt ∨ ¬ (v5 5).toInt = 59; omega), hs2_f6, hs3_f6, hs6_f6⟩ hP hD hS dX11_option_25 (Nat.le_refl _) (Nat.le_refl _)
    · skip
      subst g3
      refine lv_if_eq (tgt := 24) hx hb dX11_option_12 (by decide) (fun _ => ?_) (fun c0 => absurd (by decide) c0)
      refine lv_iconst (v := 0) hx hb dX11_option_24 (by decide) ?_
      exact ret 0 (v, f, w, g) _ _ _ _ _ _ rfl ⟨hIv, hCf, hRf, rfl, rfl, rfl, rfl, rfl, rfl, rfl, rfl, rfl, rfl, rfl, rfl, rfl, rfl, rfl, rfl, (by show (v 3).toInt ≤ (v 3).toInt; omega), (by show (v 5).toInt = (v 5).toInt ∨ (v 3).toInt < (v 3).toInt ∨ ¬ (v 5).toInt = 59; omega), rfl, rfl, rfl⟩ hP hD hS dX11_option_25 (Nat.le_refl _) (Nat.le_refl _)
set_option maxHeartbeats 4000000 in
set_option maxRecDepth 100000 in
theorem sY_X11_readCoat_1 (l : Launch) (dC : Nat → ClassId) (dI : Nat → Nat → Nat) (cy : Nat → ClassId) (y0 : Nat) (r : Nat → Nat)  (v : Nat → Int32) (f : Nat → Nat → Int32) (w : Int64) (g : Nat → Int64) (hIv : YI v) (hCf : YC f) (hRf : progOK (f 4) (f 5) (v 9).toInt.toNat)  (hf0 : (v 18).toInt ≤ 5) : ctV l (dC, dI) cy yX11_readCoat cX11_readCoat 1 6 172 0 0 ((Nat → Int32) × (Nat → Nat → Int32) × (Int64) × (Nat → Int64)) [.ref y0] (YW cy y0 r v f w g) (fun u => YI u.1 ∧ YC u.2.1 ∧ progOK (u.2.1 4) (u.2.1 5) (u.1 9).toInt.toNat ∧ u.1 0 = v 0 ∧ u.1 4 = v 4 ∧ u.1 8 = v 8 ∧ u.1 9 = v 9 ∧ u.1 10 = v 10 ∧ u.1 13 = v 13 ∧ u.1 14 = v 14 ∧ u.1 15 = v 15 ∧ u.1 17 = v 17 ∧ u.1 24 = v 24 ∧ u.1 25 = v 25 ∧ u.1 35 = v 35 ∧ u.1 36 = v 36 ∧ u.1 38 = v 38 ∧ u.1 39 = v 39 ∧ ((v 3).toInt ≤ (u.1 3).toInt) ∧ ((u.1 5).toInt = (v 5).toInt ∨ (v 3).toInt < (u.1 3).toInt ∨ ¬ (u.1 5).toInt = 59) ∧ u.2.1 2 = f 2 ∧ u.2.1 3 = f 3 ∧ u.2.1 6 = f 6) (fun u => YW cy y0 r u.1 u.2.1 u.2.2.1 u.2.2.2) := by
  refine ctV_of (by decide) (Nat.le_of_ble_eq_true rfl) (fun p e s m below meth c A ls Q hx hb hml hts hown hnm hE hP hD hA hl ret => ?_)
  have hUv : (v 35).toInt + (v 36).toInt ≤ 40 := hIv.2
  have b0_v : (0 : Int) ≤ (v 0).toInt ∧ (v 0).toInt ≤ 1600 := YIb.b hIv.1 0 (by decide)
  have b1_v : (0 : Int) ≤ (v 1).toInt ∧ (v 1).toInt ≤ 4 := YIb.b hIv.1 1 (by decide)
  have b3_v : (0 : Int) ≤ (v 3).toInt ∧ (v 3).toInt ≤ 1600 := YIb.b hIv.1 3 (by decide)
  have b4_v : (0 : Int) ≤ (v 4).toInt ∧ (v 4).toInt ≤ 1600 := YIb.b hIv.1 4 (by decide)
  have b8_v : (0 : Int) ≤ (v 8).toInt ∧ (v 8).toInt ≤ 320 := YIb.b hIv.1 8 (by decide)
  have b9_v : (0 : Int) ≤ (v 9).toInt ∧ (v 9).toInt ≤ 320 := YIb.b hIv.1 9 (by decide)
  have b10_v : (0 : Int) ≤ (v 10).toInt ∧ (v 10).toInt ≤ 160 := YIb.b hIv.1 10 (by decide)
  have b13_v : (0 : Int) ≤ (v 13).toInt ∧ (v 13).toInt ≤ 31 := YIb.b hIv.1 13 (by decide)
  have b14_v : (0 : Int) ≤ (v 14).toInt ∧ (v 14).toInt ≤ 8 := YIb.b hIv.1 14 (by decide)
  have b17_v : (0 : Int) ≤ (v 17).toInt ∧ (v 17).toInt ≤ 6 := YIb.b hIv.1 17 (by decide)
  have b18_v : (0 : Int) ≤ (v 18).toInt ∧ (v 18).toInt ≤ 6 := YIb.b hIv.1 18 (by decide)
  have b24_v : (0 : Int) ≤ (v 24).toInt ∧ (v 24).toInt ≤ 6 := YIb.b hIv.1 24 (by decide)
  have b25_v : (0 : Int) ≤ (v 25).toInt ∧ (v 25).toInt ≤ 6 := YIb.b hIv.1 25 (by decide)
  have b35_v : (0 : Int) ≤ (v 35).toInt ∧ (v 35).toInt ≤ 40 := YIb.b hIv.1 35 (by decide)
  have b36_v : (0 : Int) ≤ (v 36).toInt ∧ (v 36).toInt ≤ 40 := YIb.b hIv.1 36 (by decide)
  have b37_v : (0 : Int) ≤ (v 37).toInt ∧ (v 37).toInt ≤ 6 := YIb.b hIv.1 37 (by decide)
  have b38_v : (0 : Int) ≤ (v 38).toInt ∧ (v 38).toInt ≤ 30 := YIb.b hIv.1 38 (by decide)
  have b39_v : (0 : Int) ≤ (v 39).toInt ∧ (v 39).toInt ≤ 100000 := YIb.b hIv.1 39 (by decide)
  have hown : s.vm.findClass RX11 = some m.cls := hown
  have hS : va_S A s.heap s.heap [] := va_S.rf
  have hl : lv_has ls 1 [(0, .ref y0)] := hl
  refine lv_aload_n hx hb dX11_readCoat_0 rfl (lv_at hl 0 rfl) ?_
  refine lv_bipush (v := 6) hx hb dX11_readCoat_1 (by decide) ?_
  refine lv_aload_n hx hb dX11_readCoat_3 rfl (lv_at hl 0 rfl) ?_
  refine va_get (D := (dC, dI)) (ci := 11) (v := .int (v 18)) (C := RX11) (T := TX11) (N := 79) hx hb hts inB_11 hown hE.1 hP 0 rfl rfl 42 (by decide) (hts _ k_1362) (fun _ h9 => h9) rfl dX11_readCoat_4 ?_
  have b18_v : 0 ≤ (v 18).toInt ∧ (v 18).toInt ≤ 6 := YIb.b hIv.1 18 (by decide)
  refine cbVv (n := 2) (rest := []) hx hb hml hown hts hE hP hD hS hA (sY_X11_newName_1 l dC dI cy y0 r 6 (v 18) v f w g hIv hCf hRf ⟨by decide, by decide⟩ ⟨show (0 : Int) ≤ (v 18).toInt by omega, show (v 18).toInt ≤ (5 : Int) by omega⟩) k_1609 k_1611 k_47 k_114 k_1612 (by decide +kernel) ⟨Nat.le_of_ble_eq_true rfl, Nat.le_of_ble_eq_true rfl⟩ 0 11 rfl rfl (rfl) hl.1 rfl (Nat.le_of_ble_eq_true rfl) dX11_readCoat_7 (fun u H locs hw hP hD hS => ?_)
  obtain ⟨v1, f2, w3, g4⟩ := u
  obtain ⟨hIv1, hCf2, hRf2, hk0_v1, hk4_v1, hk8_v1, hk9_v1, hk10_v1, hk13_v1, hk14_v1, hk15_v1, hk17_v1, hk18_v1, hk24_v1, hk25_v1, hk35_v1, hk36_v1, hk38_v1, hk39_v1, pv5, pv6, kq7, kq8, kq9⟩ := hw
  have hP : va_P (dC, dI) vwCl (YW cy y0 r v1 f2 w3 g4) H := hP
  have hD : va_D A (YW cy y0 r v1 f2 w3 g4) := hD
  have b3_v1 : 0 ≤ (v1 3).toInt ∧ (v1 3).toInt ≤ 1600 := YIb.b hIv1.1 3 (by decide)
  have pv5 : (v 3).toInt ≤ (v1 3).toInt := pv5
  have pv6 : (v1 5).toInt = (v 5).toInt ∨ (v 3).toInt < (v1 3).toInt ∨ ¬ (v1 5).toInt = 59 := pv6
  have hs2_f2 : f2 2 = (f 2) := kq7
  have hs3_f2 : f2 3 = (f 3) := kq8
  have hs6_f2 : f2 6 = (f 6) := kq9
  have hUv1 : (v1 35).toInt + (v1 36).toInt ≤ 40 := hIv1.2
  have hq0_v1 : v1 0 = (v 0) := hk0_v1
  have hq4_v1 : v1 4 = (v 4) := hk4_v1
  have zq4_v1 := congrArg Int32.toInt hq4_v1
  have hq8_v1 : v1 8 = (v 8) := hk8_v1
  have zq8_v1 := congrArg Int32.toInt hq8_v1
  have hq9_v1 : v1 9 = (v 9) := hk9_v1
  have zq9_v1 := congrArg Int32.toInt hq9_v1
  have hq10_v1 : v1 10 = (v 10) := hk10_v1
  have zq10_v1 := congrArg Int32.toInt hq10_v1
  have hq13_v1 : v1 13 = (v 13) := hk13_v1
  have zq13_v1 := congrArg Int32.toInt hq13_v1
  have hq14_v1 : v1 14 = (v 14) := hk14_v1
  have zq14_v1 := congrArg Int32.toInt hq14_v1
  have hq15_v1 : v1 15 = (v 15) := hk15_v1
  have zq15_v1 := congrArg Int32.toInt hq15_v1
  have hq17_v1 : v1 17 = (v 17) := hk17_v1
  have zq17_v1 := congrArg Int32.toInt hq17_v1
  have hq18_v1 : v1 18 = (v 18) := hk18_v1
  have zq18_v1 := congrArg Int32.toInt hq18_v1
  have hq24_v1 : v1 24 = (v 24) := hk24_v1
  have hq25_v1 : v1 25 = (v 25) := hk25_v1
  have hq35_v1 : v1 35 = (v 35) := hk35_v1
  have zq35_v1 := congrArg Int32.toInt hq35_v1
  have hq36_v1 : v1 36 = (v 36) := hk36_v1
  have zq36_v1 := congrArg Int32.toInt hq36_v1
  have hq38_v1 : v1 38 = (v 38) := hk38_v1
  have hq39_v1 : v1 39 = (v 39) := hk39_v1
  refine lv_aload_n hx hb dX11_readCoat_10 rfl (lv_at hl 0 rfl) ?_
  refine va_get (D := (dC, dI)) (ci := 11) (v := .ref (r 30)) (C := RX11) (T := TX11) (N := 79) hx hb hts inB_11 hown hE.1 hP 0 rfl rfl 30 (by decide) (hts _ k_1350) (fun _ h9 => h9) rfl dX11_readCoat_11 ?_
  refine lv_aload_n hx hb dX11_readCoat_14 rfl (lv_at hl 0 rfl) ?_
  refine va_get (D := (dC, dI)) (ci := 11) (v := .int (v1 18)) (C := RX11) (T := TX11) (N := 79) hx hb hts inB_11 hown hE.1 hP 0 rfl rfl 42 (by decide) (hts _ k_1362) (fun _ h9 => h9) rfl dX11_readCoat_15 ?_
  refine tI (y := (v 18)) hq18_v1 ?_
  have b18_v : 0 ≤ (v 18).toInt ∧ (v 18).toInt ≤ 6 := YIb.b hIv.1 18 (by decide)
  refine lv_aload_n hx hb dX11_readCoat_18 rfl (lv_at hl 0 rfl) ?_
  refine lv_ldc2 (v := 1952541804) hx hb hown (hts _ k_1621) dX11_readCoat_19 ?_
  refine lv_bipush (v := 99) hx hb dX11_readCoat_22 (by decide) ?_
  refine cbVi (n := 2) (rest := [.int (v 18), .ref (r 30)]) hx hb hml hown hts hE hP hD hS hA (sY_X11_told_1 l dC dI cy y0 r 1952541804 99 v1 f2 w3 g4 hIv1 hCf2 hRf2 ) k_1645 k_1647 k_51 k_114 k_1648 (by decide +kernel) ⟨Nat.le_of_ble_eq_true rfl, Nat.le_of_ble_eq_true rfl⟩ 0 11 rfl rfl (rfl) hl.1 rfl (Nat.le_of_ble_eq_true rfl) dX11_readCoat_24 (fun r10 u H locs hw hP hD hS => ?_)
  obtain ⟨v11, f12, w13, g14⟩ := u
  obtain ⟨hIv11, hCf12, hRf12, hk0_v11, hk4_v11, hk8_v11, hk9_v11, hk10_v11, hk13_v11, hk14_v11, hk15_v11, hk17_v11, hk18_v11, hk24_v11, hk25_v11, hk35_v11, hk36_v11, hk38_v11, hk39_v11, pv15, pv16, kq17, kq18, kq19⟩ := hw
  have hP : va_P (dC, dI) vwCl (YW cy y0 r v11 f12 w13 g14) H := hP
  have hD : va_D A (YW cy y0 r v11 f12 w13 g14) := hD
  have b3_v11 : 0 ≤ (v11 3).toInt ∧ (v11 3).toInt ≤ 1600 := YIb.b hIv11.1 3 (by decide)
  have pv15 : (v1 3).toInt ≤ (v11 3).toInt := pv15
  have pv16 : (v11 5).toInt = (v1 5).toInt ∨ (v1 3).toInt < (v11 3).toInt ∨ ¬ (v11 5).toInt = 59 := pv16
  have hs2_f12 : f12 2 = (f 2) := kq17.trans hs2_f2
  have hs3_f12 : f12 3 = (f 3) := kq18.trans hs3_f2
  have hs6_f12 : f12 6 = (f 6) := kq19.trans hs6_f2
  have hUv11 : (v11 35).toInt + (v11 36).toInt ≤ 40 := hIv11.2
  have hq0_v11 : v11 0 = (v 0) := hk0_v11.trans hq0_v1
  have hq4_v11 : v11 4 = (v 4) := hk4_v11.trans hq4_v1
  have zq4_v11 := congrArg Int32.toInt hq4_v11
  have hq8_v11 : v11 8 = (v 8) := hk8_v11.trans hq8_v1
  have zq8_v11 := congrArg Int32.toInt hq8_v11
  have hq9_v11 : v11 9 = (v 9) := hk9_v11.trans hq9_v1
  have zq9_v11 := congrArg Int32.toInt hq9_v11
  have hq10_v11 : v11 10 = (v 10) := hk10_v11.trans hq10_v1
  have zq10_v11 := congrArg Int32.toInt hq10_v11
  have hq13_v11 : v11 13 = (v 13) := hk13_v11.trans hq13_v1
  have zq13_v11 := congrArg Int32.toInt hq13_v11
  have hq14_v11 : v11 14 = (v 14) := hk14_v11.trans hq14_v1
  have zq14_v11 := congrArg Int32.toInt hq14_v11
  have hq15_v11 : v11 15 = (v 15) := hk15_v11.trans hq15_v1
  have zq15_v11 := congrArg Int32.toInt hq15_v11
  have hq17_v11 : v11 17 = (v 17) := hk17_v11.trans hq17_v1
  have zq17_v11 := congrArg Int32.toInt hq17_v11
  have hq18_v11 : v11 18 = (v 18) := hk18_v11.trans hq18_v1
  have zq18_v11 := congrArg Int32.toInt hq18_v11
  have hq24_v11 : v11 24 = (v 24) := hk24_v11.trans hq24_v1
  have hq25_v11 : v11 25 = (v 25) := hk25_v11.trans hq25_v1
  have hq35_v11 : v11 35 = (v 35) := hk35_v11.trans hq35_v1
  have zq35_v11 := congrArg Int32.toInt hq35_v11
  have hq36_v11 : v11 36 = (v 36) := hk36_v11.trans hq36_v1
  have zq36_v11 := congrArg Int32.toInt hq36_v11
  have hq38_v11 : v11 38 = (v 38) := hk38_v11.trans hq38_v1
  have hq39_v11 : v11 39 = (v 39) := hk39_v11.trans hq39_v1
  refine stI hx hb hE hP hD hS 13 rfl (vp_in_iff.mpr ⟨by omega, by omega⟩) rfl dX11_readCoat_27 (fun H locs hP hD hS => ?_)
  obtain ⟨f20, ef20, hP, hD⟩ : ∃ fz9, fz9 = upd2 f12 12 (upd (f12 12) (v 18).toNatClampNeg r10) ∧ va_P (dC, dI) vwCl (YW cy y0 r v11 fz9 w13 g14) H ∧ va_D A (YW cy y0 r v11 fz9 w13 g14) := ⟨_, rfl, hP, hD⟩
  have hCf20 : YC f20 := by rw [ef20]; exact hCf12
  have hRf20 : progOK (f20 4) (f20 5) (v11 9).toInt.toNat := by rw [ef20]; exact hRf12
  have hs2_f20 : f20 2 = (f 2) := by rw [ef20]; exact hs2_f12
  have hs3_f20 : f20 3 = (f 3) := by rw [ef20]; exact hs3_f12
  have hs6_f20 : f20 6 = (f 6) := by rw [ef20]; exact hs6_f12
  refine lv_aload_n hx hb dX11_readCoat_28 rfl (lv_at hl 0 rfl) ?_
  refine va_get (D := (dC, dI)) (ci := 11) (v := .ref (r 31)) (C := RX11) (T := TX11) (N := 79) hx hb hts inB_11 hown hE.1 hP 0 rfl rfl 31 (by decide) (hts _ k_1351) (fun _ h9 => h9) rfl dX11_readCoat_29 ?_
  refine lv_aload_n hx hb dX11_readCoat_32 rfl (lv_at hl 0 rfl) ?_
  refine va_get (D := (dC, dI)) (ci := 11) (v := .int (v11 18)) (C := RX11) (T := TX11) (N := 79) hx hb hts inB_11 hown hE.1 hP 0 rfl rfl 42 (by decide) (hts _ k_1362) (fun _ h9 => h9) rfl dX11_readCoat_33 ?_
  refine tI (y := (v 18)) hq18_v11 ?_
  have b18_v : 0 ≤ (v 18).toInt ∧ (v 18).toInt ≤ 6 := YIb.b hIv.1 18 (by decide)
  refine lv_aload_n hx hb dX11_readCoat_36 rfl (lv_at hl 0 rfl) ?_
  refine lv_ldc2 (v := 2003395685) hx hb hown (hts _ k_1622) dX11_readCoat_37 ?_
  refine lv_bipush (v := 99) hx hb dX11_readCoat_40 (by decide) ?_
  refine cbVi (n := 2) (rest := [.int (v 18), .ref (r 31)]) hx hb hml hown hts hE hP hD hS hA (sY_X11_told_1 l dC dI cy y0 r 2003395685 99 v11 f20 w13 g14 hIv11 hCf20 hRf20 ) k_1645 k_1647 k_51 k_114 k_1648 (by decide +kernel) ⟨Nat.le_of_ble_eq_true rfl, Nat.le_of_ble_eq_true rfl⟩ 0 11 rfl rfl (rfl) hl.1 rfl (Nat.le_of_ble_eq_true rfl) dX11_readCoat_42 (fun r21 u H locs hw hP hD hS => ?_)
  obtain ⟨v22, f23, w24, g25⟩ := u
  obtain ⟨hIv22, hCf23, hRf23, hk0_v22, hk4_v22, hk8_v22, hk9_v22, hk10_v22, hk13_v22, hk14_v22, hk15_v22, hk17_v22, hk18_v22, hk24_v22, hk25_v22, hk35_v22, hk36_v22, hk38_v22, hk39_v22, pv26, pv27, kq28, kq29, kq30⟩ := hw
  have hP : va_P (dC, dI) vwCl (YW cy y0 r v22 f23 w24 g25) H := hP
  have hD : va_D A (YW cy y0 r v22 f23 w24 g25) := hD
  have b3_v22 : 0 ≤ (v22 3).toInt ∧ (v22 3).toInt ≤ 1600 := YIb.b hIv22.1 3 (by decide)
  have pv26 : (v11 3).toInt ≤ (v22 3).toInt := pv26
  have pv27 : (v22 5).toInt = (v11 5).toInt ∨ (v11 3).toInt < (v22 3).toInt ∨ ¬ (v22 5).toInt = 59 := pv27
  have hs2_f23 : f23 2 = (f 2) := kq28.trans hs2_f20
  have hs3_f23 : f23 3 = (f 3) := kq29.trans hs3_f20
  have hs6_f23 : f23 6 = (f 6) := kq30.trans hs6_f20
  have hUv22 : (v22 35).toInt + (v22 36).toInt ≤ 40 := hIv22.2
  have hq0_v22 : v22 0 = (v 0) := hk0_v22.trans hq0_v11
  have hq4_v22 : v22 4 = (v 4) := hk4_v22.trans hq4_v11
  have zq4_v22 := congrArg Int32.toInt hq4_v22
  have hq8_v22 : v22 8 = (v 8) := hk8_v22.trans hq8_v11
  have zq8_v22 := congrArg Int32.toInt hq8_v22
  have hq9_v22 : v22 9 = (v 9) := hk9_v22.trans hq9_v11
  have zq9_v22 := congrArg Int32.toInt hq9_v22
  have hq10_v22 : v22 10 = (v 10) := hk10_v22.trans hq10_v11
  have zq10_v22 := congrArg Int32.toInt hq10_v22
  have hq13_v22 : v22 13 = (v 13) := hk13_v22.trans hq13_v11
  have zq13_v22 := congrArg Int32.toInt hq13_v22
  have hq14_v22 : v22 14 = (v 14) := hk14_v22.trans hq14_v11
  have zq14_v22 := congrArg Int32.toInt hq14_v22
  have hq15_v22 : v22 15 = (v 15) := hk15_v22.trans hq15_v11
  have zq15_v22 := congrArg Int32.toInt hq15_v22
  have hq17_v22 : v22 17 = (v 17) := hk17_v22.trans hq17_v11
  have zq17_v22 := congrArg Int32.toInt hq17_v22
  have hq18_v22 : v22 18 = (v 18) := hk18_v22.trans hq18_v11
  have zq18_v22 := congrArg Int32.toInt hq18_v22
  have hq24_v22 : v22 24 = (v 24) := hk24_v22.trans hq24_v11
  have hq25_v22 : v22 25 = (v 25) := hk25_v22.trans hq25_v11
  have hq35_v22 : v22 35 = (v 35) := hk35_v22.trans hq35_v11
  have zq35_v22 := congrArg Int32.toInt hq35_v22
  have hq36_v22 : v22 36 = (v 36) := hk36_v22.trans hq36_v11
  have zq36_v22 := congrArg Int32.toInt hq36_v22
  have hq38_v22 : v22 38 = (v 38) := hk38_v22.trans hq38_v11
  have hq39_v22 : v22 39 = (v 39) := hk39_v22.trans hq39_v11
  refine stI hx hb hE hP hD hS 14 rfl (vp_in_iff.mpr ⟨by omega, by omega⟩) rfl dX11_readCoat_45 (fun H locs hP hD hS => ?_)
  obtain ⟨f31, ef31, hP, hD⟩ : ∃ fz9, fz9 = upd2 f23 13 (upd (f23 13) (v 18).toNatClampNeg r21) ∧ va_P (dC, dI) vwCl (YW cy y0 r v22 fz9 w24 g25) H ∧ va_D A (YW cy y0 r v22 fz9 w24 g25) := ⟨_, rfl, hP, hD⟩
  have hCf31 : YC f31 := by rw [ef31]; exact hCf23
  have hRf31 : progOK (f31 4) (f31 5) (v22 9).toInt.toNat := by rw [ef31]; exact hRf23
  have hs2_f31 : f31 2 = (f 2) := by rw [ef31]; exact hs2_f23
  have hs3_f31 : f31 3 = (f 3) := by rw [ef31]; exact hs3_f23
  have hs6_f31 : f31 6 = (f 6) := by rw [ef31]; exact hs6_f23
  refine lv_aload_n hx hb dX11_readCoat_46 rfl (lv_at hl 0 rfl) ?_
  refine va_get (D := (dC, dI)) (ci := 11) (v := .ref (r 32)) (C := RX11) (T := TX11) (N := 79) hx hb hts inB_11 hown hE.1 hP 0 rfl rfl 32 (by decide) (hts _ k_1352) (fun _ h9 => h9) rfl dX11_readCoat_47 ?_
  refine lv_aload_n hx hb dX11_readCoat_50 rfl (lv_at hl 0 rfl) ?_
  refine va_get (D := (dC, dI)) (ci := 11) (v := .int (v22 18)) (C := RX11) (T := TX11) (N := 79) hx hb hts inB_11 hown hE.1 hP 0 rfl rfl 42 (by decide) (hts _ k_1362) (fun _ h9 => h9) rfl dX11_readCoat_51 ?_
  refine tI (y := (v 18)) hq18_v22 ?_
  have b18_v : 0 ≤ (v 18).toInt ∧ (v 18).toInt ≤ 6 := YIb.b hIv.1 18 (by decide)
  refine lv_aload_n hx hb dX11_readCoat_54 rfl (lv_at hl 0 rfl) ?_
  refine lv_ldc2 (v := 1936023917) hx hb hown (hts _ k_1625) dX11_readCoat_55 ?_
  refine lv_bipush (v := 20) hx hb dX11_readCoat_58 (by decide) ?_
  refine cbVi (n := 2) (rest := [.int (v 18), .ref (r 32)]) hx hb hml hown hts hE hP hD hS hA (sY_X11_option_1 l dC dI cy y0 r 1936023917 20 v22 f31 w24 g25 hIv22 hCf31 hRf31 ) k_1657 k_1659 k_54 k_114 k_1660 (by decide +kernel) ⟨Nat.le_of_ble_eq_true rfl, Nat.le_of_ble_eq_true rfl⟩ 0 11 rfl rfl (rfl) hl.1 rfl (Nat.le_of_ble_eq_true rfl) dX11_readCoat_60 (fun r32 u H locs hw hP hD hS => ?_)
  obtain ⟨v33, f34, w35, g36⟩ := u
  obtain ⟨hIv33, hCf34, hRf34, hk0_v33, hk4_v33, hk8_v33, hk9_v33, hk10_v33, hk13_v33, hk14_v33, hk15_v33, hk17_v33, hk18_v33, hk24_v33, hk25_v33, hk35_v33, hk36_v33, hk38_v33, hk39_v33, pv37, pv38, kq39, kq40, kq41⟩ := hw
  have hP : va_P (dC, dI) vwCl (YW cy y0 r v33 f34 w35 g36) H := hP
  have hD : va_D A (YW cy y0 r v33 f34 w35 g36) := hD
  have b3_v33 : 0 ≤ (v33 3).toInt ∧ (v33 3).toInt ≤ 1600 := YIb.b hIv33.1 3 (by decide)
  have pv37 : (v22 3).toInt ≤ (v33 3).toInt := pv37
  have pv38 : (v33 5).toInt = (v22 5).toInt ∨ (v22 3).toInt < (v33 3).toInt ∨ ¬ (v33 5).toInt = 59 := pv38
  have hs2_f34 : f34 2 = (f 2) := kq39.trans hs2_f31
  have hs3_f34 : f34 3 = (f 3) := kq40.trans hs3_f31
  have hs6_f34 : f34 6 = (f 6) := kq41.trans hs6_f31
  have hUv33 : (v33 35).toInt + (v33 36).toInt ≤ 40 := hIv33.2
  have hq0_v33 : v33 0 = (v 0) := hk0_v33.trans hq0_v22
  have hq4_v33 : v33 4 = (v 4) := hk4_v33.trans hq4_v22
  have zq4_v33 := congrArg Int32.toInt hq4_v33
  have hq8_v33 : v33 8 = (v 8) := hk8_v33.trans hq8_v22
  have zq8_v33 := congrArg Int32.toInt hq8_v33
  have hq9_v33 : v33 9 = (v 9) := hk9_v33.trans hq9_v22
  have zq9_v33 := congrArg Int32.toInt hq9_v33
  have hq10_v33 : v33 10 = (v 10) := hk10_v33.trans hq10_v22
  have zq10_v33 := congrArg Int32.toInt hq10_v33
  have hq13_v33 : v33 13 = (v 13) := hk13_v33.trans hq13_v22
  have zq13_v33 := congrArg Int32.toInt hq13_v33
  have hq14_v33 : v33 14 = (v 14) := hk14_v33.trans hq14_v22
  have zq14_v33 := congrArg Int32.toInt hq14_v33
  have hq15_v33 : v33 15 = (v 15) := hk15_v33.trans hq15_v22
  have zq15_v33 := congrArg Int32.toInt hq15_v33
  have hq17_v33 : v33 17 = (v 17) := hk17_v33.trans hq17_v22
  have zq17_v33 := congrArg Int32.toInt hq17_v33
  have hq18_v33 : v33 18 = (v 18) := hk18_v33.trans hq18_v22
  have zq18_v33 := congrArg Int32.toInt hq18_v33
  have hq24_v33 : v33 24 = (v 24) := hk24_v33.trans hq24_v22
  have hq25_v33 : v33 25 = (v 25) := hk25_v33.trans hq25_v22
  have hq35_v33 : v33 35 = (v 35) := hk35_v33.trans hq35_v22
  have zq35_v33 := congrArg Int32.toInt hq35_v33
  have hq36_v33 : v33 36 = (v 36) := hk36_v33.trans hq36_v22
  have zq36_v33 := congrArg Int32.toInt hq36_v33
  have hq38_v33 : v33 38 = (v 38) := hk38_v33.trans hq38_v22
  have hq39_v33 : v33 39 = (v 39) := hk39_v33.trans hq39_v22
  refine stI hx hb hE hP hD hS 15 rfl (vp_in_iff.mpr ⟨by omega, by omega⟩) rfl dX11_readCoat_63 (fun H locs hP hD hS => ?_)
  obtain ⟨f42, ef42, hP, hD⟩ : ∃ fz9, fz9 = upd2 f34 14 (upd (f34 14) (v 18).toNatClampNeg r32) ∧ va_P (dC, dI) vwCl (YW cy y0 r v33 fz9 w35 g36) H ∧ va_D A (YW cy y0 r v33 fz9 w35 g36) := ⟨_, rfl, hP, hD⟩
  have hCf42 : YC f42 := by rw [ef42]; exact hCf34
  have hRf42 : progOK (f42 4) (f42 5) (v33 9).toInt.toNat := by rw [ef42]; exact hRf34
  have hs2_f42 : f42 2 = (f 2) := by rw [ef42]; exact hs2_f34
  have hs3_f42 : f42 3 = (f 3) := by rw [ef42]; exact hs3_f34
  have hs6_f42 : f42 6 = (f 6) := by rw [ef42]; exact hs6_f34
  refine lv_aload_n hx hb dX11_readCoat_64 rfl (lv_at hl 0 rfl) ?_
  refine va_get (D := (dC, dI)) (ci := 11) (v := .ref (r 33)) (C := RX11) (T := TX11) (N := 79) hx hb hts inB_11 hown hE.1 hP 0 rfl rfl 33 (by decide) (hts _ k_1353) (fun _ h9 => h9) rfl dX11_readCoat_65 ?_
  refine lv_aload_n hx hb dX11_readCoat_68 rfl (lv_at hl 0 rfl) ?_
  refine va_get (D := (dC, dI)) (ci := 11) (v := .int (v33 18)) (C := RX11) (T := TX11) (N := 79) hx hb hts inB_11 hown hE.1 hP 0 rfl rfl 42 (by decide) (hts _ k_1362) (fun _ h9 => h9) rfl dX11_readCoat_69 ?_
  refine tI (y := (v 18)) hq18_v33 ?_
  have b18_v : 0 ≤ (v 18).toInt ∧ (v 18).toInt ≤ 6 := YIb.b hIv.1 18 (by decide)
  refine lv_aload_n hx hb dX11_readCoat_72 rfl (lv_at hl 0 rfl) ?_
  refine lv_ldc2 (v := 2003792494) hx hb hown (hts _ k_1626) dX11_readCoat_73 ?_
  refine lv_bipush (v := 99) hx hb dX11_readCoat_76 (by decide) ?_
  refine cbVi (n := 2) (rest := [.int (v 18), .ref (r 33)]) hx hb hml hown hts hE hP hD hS hA (sY_X11_option_1 l dC dI cy y0 r 2003792494 99 v33 f42 w35 g36 hIv33 hCf42 hRf42 ) k_1657 k_1659 k_54 k_114 k_1660 (by decide +kernel) ⟨Nat.le_of_ble_eq_true rfl, Nat.le_of_ble_eq_true rfl⟩ 0 11 rfl rfl (rfl) hl.1 rfl (Nat.le_of_ble_eq_true rfl) dX11_readCoat_78 (fun r43 u H locs hw hP hD hS => ?_)
  obtain ⟨v44, f45, w46, g47⟩ := u
  obtain ⟨hIv44, hCf45, hRf45, hk0_v44, hk4_v44, hk8_v44, hk9_v44, hk10_v44, hk13_v44, hk14_v44, hk15_v44, hk17_v44, hk18_v44, hk24_v44, hk25_v44, hk35_v44, hk36_v44, hk38_v44, hk39_v44, pv48, pv49, kq50, kq51, kq52⟩ := hw
  have hP : va_P (dC, dI) vwCl (YW cy y0 r v44 f45 w46 g47) H := hP
  have hD : va_D A (YW cy y0 r v44 f45 w46 g47) := hD
  have b3_v44 : 0 ≤ (v44 3).toInt ∧ (v44 3).toInt ≤ 1600 := YIb.b hIv44.1 3 (by decide)
  have pv48 : (v33 3).toInt ≤ (v44 3).toInt := pv48
  have pv49 : (v44 5).toInt = (v33 5).toInt ∨ (v33 3).toInt < (v44 3).toInt ∨ ¬ (v44 5).toInt = 59 := pv49
  have hs2_f45 : f45 2 = (f 2) := kq50.trans hs2_f42
  have hs3_f45 : f45 3 = (f 3) := kq51.trans hs3_f42
  have hs6_f45 : f45 6 = (f 6) := kq52.trans hs6_f42
  have hUv44 : (v44 35).toInt + (v44 36).toInt ≤ 40 := hIv44.2
  have hq0_v44 : v44 0 = (v 0) := hk0_v44.trans hq0_v33
  have hq4_v44 : v44 4 = (v 4) := hk4_v44.trans hq4_v33
  have zq4_v44 := congrArg Int32.toInt hq4_v44
  have hq8_v44 : v44 8 = (v 8) := hk8_v44.trans hq8_v33
  have zq8_v44 := congrArg Int32.toInt hq8_v44
  have hq9_v44 : v44 9 = (v 9) := hk9_v44.trans hq9_v33
  have zq9_v44 := congrArg Int32.toInt hq9_v44
  have hq10_v44 : v44 10 = (v 10) := hk10_v44.trans hq10_v33
  have zq10_v44 := congrArg Int32.toInt hq10_v44
  have hq13_v44 : v44 13 = (v 13) := hk13_v44.trans hq13_v33
  have zq13_v44 := congrArg Int32.toInt hq13_v44
  have hq14_v44 : v44 14 = (v 14) := hk14_v44.trans hq14_v33
  have zq14_v44 := congrArg Int32.toInt hq14_v44
  have hq15_v44 : v44 15 = (v 15) := hk15_v44.trans hq15_v33
  have zq15_v44 := congrArg Int32.toInt hq15_v44
  have hq17_v44 : v44 17 = (v 17) := hk17_v44.trans hq17_v33
  have zq17_v44 := congrArg Int32.toInt hq17_v44
  have hq18_v44 : v44 18 = (v 18) := hk18_v44.trans hq18_v33
  have zq18_v44 := congrArg Int32.toInt hq18_v44
  have hq24_v44 : v44 24 = (v 24) := hk24_v44.trans hq24_v33
  have hq25_v44 : v44 25 = (v 25) := hk25_v44.trans hq25_v33
  have hq35_v44 : v44 35 = (v 35) := hk35_v44.trans hq35_v33
  have zq35_v44 := congrArg Int32.toInt hq35_v44
  have hq36_v44 : v44 36 = (v 36) := hk36_v44.trans hq36_v33
  have zq36_v44 := congrArg Int32.toInt hq36_v44
  have hq38_v44 : v44 38 = (v 38) := hk38_v44.trans hq38_v33
  have hq39_v44 : v44 39 = (v 39) := hk39_v44.trans hq39_v33
  refine stI hx hb hE hP hD hS 16 rfl (vp_in_iff.mpr ⟨by omega, by omega⟩) rfl dX11_readCoat_81 (fun H locs hP hD hS => ?_)
  obtain ⟨f53, ef53, hP, hD⟩ : ∃ fz9, fz9 = upd2 f45 15 (upd (f45 15) (v 18).toNatClampNeg r43) ∧ va_P (dC, dI) vwCl (YW cy y0 r v44 fz9 w46 g47) H ∧ va_D A (YW cy y0 r v44 fz9 w46 g47) := ⟨_, rfl, hP, hD⟩
  have hCf53 : YC f53 := by rw [ef53]; exact hCf45
  have hRf53 : progOK (f53 4) (f53 5) (v44 9).toInt.toNat := by rw [ef53]; exact hRf45
  have hs2_f53 : f53 2 = (f 2) := by rw [ef53]; exact hs2_f45
  have hs3_f53 : f53 3 = (f 3) := by rw [ef53]; exact hs3_f45
  have hs6_f53 : f53 6 = (f 6) := by rw [ef53]; exact hs6_f45
  refine lv_aload_n hx hb dX11_readCoat_82 rfl (lv_at hl 0 rfl) ?_
  refine va_get (D := (dC, dI)) (ci := 11) (v := .int (v44 1)) (C := RX11) (T := TX11) (N := 79) hx hb hts inB_11 hown hE.1 hP 0 rfl rfl 2 (by decide) (hts _ k_1322) (fun _ h9 => h9) rfl dX11_readCoat_83 ?_
  have b1_v44 : 0 ≤ (v44 1).toInt ∧ (v44 1).toInt ≤ 4 := YIb.b hIv44.1 1 (by decide)
  refine lv_if_ne (tgt := 99) hx hb dX11_readCoat_86 (by decide) (fun c54 => ?_) (fun c54 => ?_)
  · skip
    have zc54 : ¬ ((v44 1).toInt = 0) := by rw [fa_eq, show (0 : Int32).toInt = 0 from by decide] at c54; exact c54
    exact ret (v44, f53, w46, g47) _ _ _ _ _ _ ⟨hIv44, hCf53, hRf53, (hk0_v44.trans (hk0_v33.trans (hk0_v22.trans (hk0_v11.trans hk0_v1)))), (hk4_v44.trans (hk4_v33.trans (hk4_v22.trans (hk4_v11.trans hk4_v1)))), (hk8_v44.trans (hk8_v33.trans (hk8_v22.trans (hk8_v11.trans hk8_v1)))), (hk9_v44.trans (hk9_v33.trans (hk9_v22.trans (hk9_v11.trans hk9_v1)))), (hk10_v44.trans (hk10_v33.trans (hk10_v22.trans (hk10_v11.trans hk10_v1)))), (hk13_v44.trans (hk13_v33.trans (hk13_v22.trans (hk13_v11.trans hk13_v1)))), (hk14_v44.trans (hk14_v33.trans (hk14_v22.trans (hk14_v11.trans hk14_v1)))), (hk15_v44.trans (hk15_v33.trans (hk15_v22.trans (hk15_v11.trans hk15_v1)))), (hk17_v44.trans (hk17_v33.trans (hk17_v22.trans (hk17_v11.trans hk17_v1)))), (hk24_v44.trans (hk24_v33.trans (hk24_v22.trans (hk24_v11.trans hk24_v1)))), (hk25_v44.trans (hk25_v33.trans (hk25_v22.trans (hk25_v11.trans hk25_v1)))), (hk35_v44.trans (hk35_v33.trans (hk35_v22.trans (hk35_v11.trans hk35_v1)))), (hk36_v44.trans (hk36_v33.trans (hk36_v22.trans (hk36_v11.trans hk36_v1)))), (hk38_v44.trans (hk38_v33.trans (hk38_v22.trans (hk38_v11.trans hk38_v1)))), (hk39_v44.trans (hk39_v33.trans (hk39_v22.trans (hk39_v11.trans hk39_v1)))), (by show (v 3).toInt ≤ (v44 3).toInt; omega), (by show (v44 5).toInt = (v 5).toInt ∨ (v 3).toInt < (v44 3).toInt ∨ ¬ (v44 5).toInt = 59; omega), hs2_f53, hs3_f53, hs6_f53⟩ hP hD hS dX11_readCoat_99 (Nat.le_refl _) (Nat.le_refl _)
  · skip
    have zc54 : (v44 1).toInt = 0 := by rw [fa_eq, show (0 : Int32).toInt = 0 from by decide] at c54; exact c54
    refine lv_aload_n hx hb dX11_readCoat_89 rfl (lv_at hl 0 rfl) ?_
    refine lv_dup hx hb dX11_readCoat_90 rfl ?_
    refine va_get (D := (dC, dI)) (ci := 11) (v := .int (v44 18)) (C := RX11) (T := TX11) (N := 79) hx hb hts inB_11 hown hE.1 hP 0 rfl rfl 42 (by decide) (hts _ k_1362) (fun _ h9 => h9) rfl dX11_readCoat_91 ?_
    refine tI (y := (v 18)) hq18_v44 ?_
    have b18_v : 0 ≤ (v 18).toInt ∧ (v 18).toInt ≤ 6 := YIb.b hIv.1 18 (by decide)
    refine lv_iconst (v := 1) hx hb dX11_readCoat_94 (by decide) ?_
    refine lv_iadd hx hb dX11_readCoat_95 ?_
    refine lv_topi (fun t55 et55 => ?_)
    have rg56 := fb_rng (v 18)
    have zt55 : t55.toInt = (v 18).toInt + 1 := by rw [et55]; exact add_i rfl (by decide) (by omega) (by omega)
    refine va_put (D := (dC, dI)) (ci := 11) (v := .int t55) (ty := tyX11 42) (C := RX11) (T := TX11) (N := 79) hx hb hts inB_11 tyX11 tyX11_ok nmX11 hown hE.1 hP hD hS 0 rfl rfl 42 (by decide) (hts _ k_1362) (fun _ h9 => h9) rfl (tyX11_ok 42 (by decide)) rfl rfl (Nat.le_of_ble_eq_true rfl) dX11_readCoat_96 (fun H locs hP hD hS => ?_)
    have hP : va_P (dC, dI) vwCl (YW cy y0 r (upd v44 18 t55) f53 w46 g47) H := hP
    have hD : va_D A (YW cy y0 r (upd v44 18 t55) f53 w46 g47) := hD
    exact ret ((upd v44 18 t55), f53, w46, g47) _ _ _ _ _ _ ⟨⟨(YIb.upd (j := 18) (x := t55) hIv44.1 (show (0 : Int) ≤ t55.toInt by omega) (show t55.toInt ≤ (6 : Int) by omega)), hIv44.2⟩, hCf53, hRf53, (hk0_v44.trans (hk0_v33.trans (hk0_v22.trans (hk0_v11.trans hk0_v1)))), (hk4_v44.trans (hk4_v33.trans (hk4_v22.trans (hk4_v11.trans hk4_v1)))), (hk8_v44.trans (hk8_v33.trans (hk8_v22.trans (hk8_v11.trans hk8_v1)))), (hk9_v44.trans (hk9_v33.trans (hk9_v22.trans (hk9_v11.trans hk9_v1)))), (hk10_v44.trans (hk10_v33.trans (hk10_v22.trans (hk10_v11.trans hk10_v1)))), (hk13_v44.trans (hk13_v33.trans (hk13_v22.trans (hk13_v11.trans hk13_v1)))), (hk14_v44.trans (hk14_v33.trans (hk14_v22.trans (hk14_v11.trans hk14_v1)))), (hk15_v44.trans (hk15_v33.trans (hk15_v22.trans (hk15_v11.trans hk15_v1)))), (hk17_v44.trans (hk17_v33.trans (hk17_v22.trans (hk17_v11.trans hk17_v1)))), (hk24_v44.trans (hk24_v33.trans (hk24_v22.trans (hk24_v11.trans hk24_v1)))), (hk25_v44.trans (hk25_v33.trans (hk25_v22.trans (hk25_v11.trans hk25_v1)))), (hk35_v44.trans (hk35_v33.trans (hk35_v22.trans (hk35_v11.trans hk35_v1)))), (hk36_v44.trans (hk36_v33.trans (hk36_v22.trans (hk36_v11.trans hk36_v1)))), (hk38_v44.trans (hk38_v33.trans (hk38_v22.trans (hk38_v11.trans hk38_v1)))), (hk39_v44.trans (hk39_v33.trans (hk39_v22.trans (hk39_v11.trans hk39_v1)))), (by show (v 3).toInt ≤ (v44 3).toInt; omega), (by show (v44 5).toInt = (v 5).toInt ∨ (v 3).toInt < (v44 3).toInt ∨ ¬ (v44 5).toInt = 59; omega), hs2_f53, hs3_f53, hs6_f53⟩ hP hD hS dX11_readCoat_99 (Nat.le_refl _) (Nat.le_refl _)
