set_option maxHeartbeats 4000000 in
set_option maxRecDepth 100000 in
theorem sX_X1_seed_1 (l : Launch) (dC : Nat → ClassId) (dI : Nat → Nat → Nat) (cy : Nat → ClassId) (x0 : Nat) (x : Nat → Nat)  (v : Nat → Int32) (f : Nat → Nat → Int32) (hIv : XI v)  : ctI l (dC, dI) cy yX1_seed cX1_seed 1 .int 1 60 0 0 Unit [.ref (x 21)] (XW cy x0 x v f) (fun r u => True) (fun u => XW cy x0 x v f) := by
  refine ctI_of (by decide) (Nat.le_of_ble_eq_true rfl) (fun p e s m below meth c A ls Q hx hb hml hts hown hE hP hD hA hl ret => ?_)
  have hown : s.vm.findClass RX1 = some m.cls := hown
  have hS : va_S A s.heap s.heap [] := va_S.rf
  have hl : lv_has ls 1 [(0, .ref (x 21))] := hl
  refine lv_aload_n hx hb dX1_seed_0 rfl (lv_at hl 0 rfl) ?_
  refine va_get (D := (dC, dI)) (ci := 1) (v := .ref (x 22)) (C := RX1) (T := TX1) (N := 2) hx hb hts inB_1 hown hE.1 hP 22 rfl rfl 1 (by decide) (hts _ k_319) (fun _ h9 => h9) rfl dX1_seed_1 ?_
  refine lv_bipush (v := 43) hx hb dX1_seed_4 (by decide) ?_
  refine ldI hx hb hE hP 23 rfl (vp_in_nI (n := 43) (by decide) (by decide)) rfl rfl dX1_seed_6 ?_
  refine lv_topi (fun t1 et1 => ?_)
  exact ret t1 () _ _ _ _ _ _ rfl trivial hP hD hS dX1_seed_7 (Nat.le_refl _) (Nat.le_refl _)
set_option maxHeartbeats 4000000 in
set_option maxRecDepth 100000 in
theorem sX_X10_about_1 (l : Launch) (dC : Nat → ClassId) (dI : Nat → Nat → Nat) (cy : Nat → ClassId) (x0 : Nat) (x : Nat → Nat) (p1 : Int32) (v : Nat → Int32) (f : Nat → Nat → Int32) (hIv : XI v)  : ctI l (dC, dI) cy yX10_about cX10_about 2 .int 2 80 0 0 Unit [.ref x0, .int p1] (XW cy x0 x v f) (fun r u => True) (fun u => XW cy x0 x v f) := by
  refine ctI_of (by decide) (Nat.le_of_ble_eq_true rfl) (fun p e s m below meth c A ls Q hx hb hml hts hown hE hP hD hA hl ret => ?_)
  have hown : s.vm.findClass RX10 = some m.cls := hown
  have hS : va_S A s.heap s.heap [] := va_S.rf
  have hl : lv_has ls 2 [(0, .ref x0), (1, .int p1)] := hl
  refine lv_iload_n hx hb dX10_about_0 rfl (lv_at hl 1 rfl) ?_
  by_cases c1 : p1 = 0
  · skip
    refine lv_tableIn (off := 71) (tgt := 72) hx hb dX10_about_1 (by rw [c1]; decide) (by rw [c1]; decide) (by rw [c1]; decide) (by decide) ?_
    have zc1 : p1.toInt = 0 := by rw [fa_eq, show (0 : Int32).toInt = 0 from by decide] at c1; exact c1
    refine lv_aload_n hx hb dX10_about_72 rfl (lv_at hl 0 rfl) ?_
    refine va_get (D := (dC, dI)) (ci := 10) (v := .ref (x 26)) (C := RX10) (T := TX10) (N := 10) hx hb hts inB_10 hown hE.1 hP 0 rfl rfl 2 (by decide) (hts _ k_493) (fun _ h9 => h9) rfl dX10_about_73 ?_
    refine va_getN (D := (dC, dI)) (ci := 7) (v := .int (v 31)) (C := RX7) (T := TX7) (N := 10) hx hb hts inB_7 hown hE.1 hP 27 rfl rfl 3 (by decide) (va_Nw.use rfl (hE.2 _ k_214)) (fun _ h9 => h9) rfl dX10_about_76 ?_
    have b31_v : 0 ≤ (v 31).toInt ∧ (v 31).toInt ≤ 6 := XI.b hIv 31 (by decide)
    exact ret (v 31) () _ _ _ _ _ _ rfl trivial hP hD hS dX10_about_79 (Nat.le_refl _) (Nat.le_refl _)
  · skip
    have zc1 : ¬ (p1.toInt = 0) := by rw [fa_eq, show (0 : Int32).toInt = 0 from by decide] at c1; exact c1
    by_cases c2 : p1 = 1
    · skip
      refine lv_tableIn (off := 79) (tgt := 80) hx hb dX10_about_1 (by rw [c2]; decide) (by rw [c2]; decide) (by rw [c2]; decide) (by decide) ?_
      have zc2 : p1.toInt = 1 := by rw [fa_eq, show (1 : Int32).toInt = 1 from by decide] at c2; exact c2
      refine lv_aload_n hx hb dX10_about_80 rfl (lv_at hl 0 rfl) ?_
      refine va_get (D := (dC, dI)) (ci := 10) (v := .ref (x 26)) (C := RX10) (T := TX10) (N := 10) hx hb hts inB_10 hown hE.1 hP 0 rfl rfl 2 (by decide) (hts _ k_493) (fun _ h9 => h9) rfl dX10_about_81 ?_
      refine va_getN (D := (dC, dI)) (ci := 7) (v := .int (v 32)) (C := RX7) (T := TX7) (N := 10) hx hb hts inB_7 hown hE.1 hP 27 rfl rfl 4 (by decide) (va_Nw.use rfl (hE.2 _ k_227)) (fun _ h9 => h9) rfl dX10_about_84 ?_
      have b32_v : 0 ≤ (v 32).toInt ∧ (v 32).toInt ≤ 6 := XI.b hIv 32 (by decide)
      exact ret (v 32) () _ _ _ _ _ _ rfl trivial hP hD hS dX10_about_87 (Nat.le_refl _) (Nat.le_refl _)
    · skip
      have zc2 : ¬ (p1.toInt = 1) := by rw [fa_eq, show (1 : Int32).toInt = 1 from by decide] at c2; exact c2
      by_cases c3 : p1 = 2
      · skip
        refine lv_tableIn (off := 87) (tgt := 88) hx hb dX10_about_1 (by rw [c3]; decide) (by rw [c3]; decide) (by rw [c3]; decide) (by decide) ?_
        have zc3 : p1.toInt = 2 := by rw [fa_eq, show (2 : Int32).toInt = 2 from by decide] at c3; exact c3
        refine lv_aload_n hx hb dX10_about_88 rfl (lv_at hl 0 rfl) ?_
        refine va_get (D := (dC, dI)) (ci := 10) (v := .ref (x 26)) (C := RX10) (T := TX10) (N := 10) hx hb hts inB_10 hown hE.1 hP 0 rfl rfl 2 (by decide) (hts _ k_493) (fun _ h9 => h9) rfl dX10_about_89 ?_
        refine va_getN (D := (dC, dI)) (ci := 7) (v := .int (v 33)) (C := RX7) (T := TX7) (N := 10) hx hb hts inB_7 hown hE.1 hP 27 rfl rfl 5 (by decide) (va_Nw.use rfl (hE.2 _ k_233)) (fun _ h9 => h9) rfl dX10_about_92 ?_
        exact ret (v 33) () _ _ _ _ _ _ rfl trivial hP hD hS dX10_about_95 (Nat.le_refl _) (Nat.le_refl _)
      · skip
        have zc3 : ¬ (p1.toInt = 2) := by rw [fa_eq, show (2 : Int32).toInt = 2 from by decide] at c3; exact c3
        by_cases c4 : p1 = 3
        · skip
          refine lv_tableIn (off := 95) (tgt := 96) hx hb dX10_about_1 (by rw [c4]; decide) (by rw [c4]; decide) (by rw [c4]; decide) (by decide) ?_
          have zc4 : p1.toInt = 3 := by rw [fa_eq, show (3 : Int32).toInt = 3 from by decide] at c4; exact c4
          refine lv_aload_n hx hb dX10_about_96 rfl (lv_at hl 0 rfl) ?_
          refine va_get (D := (dC, dI)) (ci := 10) (v := .ref (x 26)) (C := RX10) (T := TX10) (N := 10) hx hb hts inB_10 hown hE.1 hP 0 rfl rfl 2 (by decide) (hts _ k_493) (fun _ h9 => h9) rfl dX10_about_97 ?_
          refine va_getN (D := (dC, dI)) (ci := 7) (v := .int (v 34)) (C := RX7) (T := TX7) (N := 10) hx hb hts inB_7 hown hE.1 hP 27 rfl rfl 6 (by decide) (va_Nw.use rfl (hE.2 _ k_236)) (fun _ h9 => h9) rfl dX10_about_100 ?_
          exact ret (v 34) () _ _ _ _ _ _ rfl trivial hP hD hS dX10_about_103 (Nat.le_refl _) (Nat.le_refl _)
        · skip
          have zc4 : ¬ (p1.toInt = 3) := by rw [fa_eq, show (3 : Int32).toInt = 3 from by decide] at c4; exact c4
          by_cases c5 : p1 = 4
          · skip
            refine lv_tableIn (off := 103) (tgt := 104) hx hb dX10_about_1 (by rw [c5]; decide) (by rw [c5]; decide) (by rw [c5]; decide) (by decide) ?_
            have zc5 : p1.toInt = 4 := by rw [fa_eq, show (4 : Int32).toInt = 4 from by decide] at c5; exact c5
            refine lv_aload_n hx hb dX10_about_104 rfl (lv_at hl 0 rfl) ?_
            refine va_get (D := (dC, dI)) (ci := 10) (v := .ref (x 26)) (C := RX10) (T := TX10) (N := 10) hx hb hts inB_10 hown hE.1 hP 0 rfl rfl 2 (by decide) (hts _ k_493) (fun _ h9 => h9) rfl dX10_about_105 ?_
            refine va_getN (D := (dC, dI)) (ci := 7) (v := .int (v 35)) (C := RX7) (T := TX7) (N := 10) hx hb hts inB_7 hown hE.1 hP 27 rfl rfl 7 (by decide) (va_Nw.use rfl (hE.2 _ k_239)) (fun _ h9 => h9) rfl dX10_about_108 ?_
            exact ret (v 35) () _ _ _ _ _ _ rfl trivial hP hD hS dX10_about_111 (Nat.le_refl _) (Nat.le_refl _)
          · skip
            have zc5 : ¬ (p1.toInt = 4) := by rw [fa_eq, show (4 : Int32).toInt = 4 from by decide] at c5; exact c5
            by_cases c6 : p1 = 5
            · skip
              refine lv_tableIn (off := 111) (tgt := 112) hx hb dX10_about_1 (by rw [c6]; decide) (by rw [c6]; decide) (by rw [c6]; decide) (by decide) ?_
              have zc6 : p1.toInt = 5 := by rw [fa_eq, show (5 : Int32).toInt = 5 from by decide] at c6; exact c6
              refine lv_aload_n hx hb dX10_about_112 rfl (lv_at hl 0 rfl) ?_
              refine va_get (D := (dC, dI)) (ci := 10) (v := .ref (x 21)) (C := RX10) (T := TX10) (N := 10) hx hb hts inB_10 hown hE.1 hP 0 rfl rfl 3 (by decide) (hts _ k_494) (fun _ h9 => h9) rfl dX10_about_113 ?_
              refine cbVi (n := 0) (rest := []) hx hb hml hown hts hE hP hD hS hA (sX_X1_today_1 l dC dI cy x0 x  v f hIv ) k_864 k_832 k_833 k_106 k_834 (by decide +kernel) ⟨Nat.le_of_ble_eq_true rfl, Nat.le_of_ble_eq_true rfl⟩ 22 1 rfl rfl (rfl) hl.1 rfl (Nat.le_of_ble_eq_true rfl) dX10_about_116 (fun r7 u H locs hw hP hD hS => ?_)
              exact ret r7 () _ _ _ _ _ _ rfl trivial hP hD hS dX10_about_119 (Nat.le_refl _) (Nat.le_refl _)
            · skip
              have zc6 : ¬ (p1.toInt = 5) := by rw [fa_eq, show (5 : Int32).toInt = 5 from by decide] at c6; exact c6
              by_cases c8 : p1 = 6
              · skip
                refine lv_tableIn (off := 119) (tgt := 120) hx hb dX10_about_1 (by rw [c8]; decide) (by rw [c8]; decide) (by rw [c8]; decide) (by decide) ?_
                have zc8 : p1.toInt = 6 := by rw [fa_eq, show (6 : Int32).toInt = 6 from by decide] at c8; exact c8
                refine lv_aload_n hx hb dX10_about_120 rfl (lv_at hl 0 rfl) ?_
                refine va_get (D := (dC, dI)) (ci := 10) (v := .ref (x 21)) (C := RX10) (T := TX10) (N := 10) hx hb hts inB_10 hown hE.1 hP 0 rfl rfl 3 (by decide) (hts _ k_494) (fun _ h9 => h9) rfl dX10_about_121 ?_
                refine cbVi (n := 0) (rest := []) hx hb hml hown hts hE hP hD hS hA (sX_X1_seed_1 l dC dI cy x0 x  v f hIv ) k_1310 k_1311 k_1312 k_106 k_1313 (by decide +kernel) ⟨Nat.le_of_ble_eq_true rfl, Nat.le_of_ble_eq_true rfl⟩ 22 1 rfl rfl (rfl) hl.1 rfl (Nat.le_of_ble_eq_true rfl) dX10_about_124 (fun r9 u H locs hw hP hD hS => ?_)
                exact ret r9 () _ _ _ _ _ _ rfl trivial hP hD hS dX10_about_127 (Nat.le_refl _) (Nat.le_refl _)
              · skip
                have zc8 : ¬ (p1.toInt = 6) := by rw [fa_eq, show (6 : Int32).toInt = 6 from by decide] at c8; exact c8
                by_cases c10 : p1 = 7
                · skip
                  refine lv_tableIn (off := 127) (tgt := 128) hx hb dX10_about_1 (by rw [c10]; decide) (by rw [c10]; decide) (by rw [c10]; decide) (by decide) ?_
                  have zc10 : p1.toInt = 7 := by rw [fa_eq, show (7 : Int32).toInt = 7 from by decide] at c10; exact c10
                  refine lv_aload_n hx hb dX10_about_128 rfl (lv_at hl 0 rfl) ?_
                  refine va_get (D := (dC, dI)) (ci := 10) (v := .ref (x 20)) (C := RX10) (T := TX10) (N := 10) hx hb hts inB_10 hown hE.1 hP 0 rfl rfl 4 (by decide) (hts _ k_495) (fun _ h9 => h9) rfl dX10_about_129 ?_
                  refine va_getN (D := (dC, dI)) (ci := 5) (v := .int (v 22)) (C := RX5) (T := TX5) (N := 7) hx hb hts inB_5 hown hE.1 hP 21 rfl rfl 5 (by decide) (va_Nw.use rfl (hE.2 _ k_344)) (fun _ h9 => h9) rfl dX10_about_132 ?_
                  exact ret (v 22) () _ _ _ _ _ _ rfl trivial hP hD hS dX10_about_135 (Nat.le_refl _) (Nat.le_refl _)
                · skip
                  have zc10 : ¬ (p1.toInt = 7) := by rw [fa_eq, show (7 : Int32).toInt = 7 from by decide] at c10; exact c10
                  by_cases c11 : p1 = 8
                  · skip
                    refine lv_tableIn (off := 135) (tgt := 136) hx hb dX10_about_1 (by rw [c11]; decide) (by rw [c11]; decide) (by rw [c11]; decide) (by decide) ?_
                    have zc11 : p1.toInt = 8 := by rw [fa_eq, show (8 : Int32).toInt = 8 from by decide] at c11; exact c11
                    refine lv_aload_n hx hb dX10_about_136 rfl (lv_at hl 0 rfl) ?_
                    refine va_get (D := (dC, dI)) (ci := 10) (v := .ref (x 20)) (C := RX10) (T := TX10) (N := 10) hx hb hts inB_10 hown hE.1 hP 0 rfl rfl 4 (by decide) (hts _ k_495) (fun _ h9 => h9) rfl dX10_about_137 ?_
                    refine va_getN (D := (dC, dI)) (ci := 5) (v := .int (v 23)) (C := RX5) (T := TX5) (N := 7) hx hb hts inB_5 hown hE.1 hP 21 rfl rfl 6 (by decide) (va_Nw.use rfl (hE.2 _ k_346)) (fun _ h9 => h9) rfl dX10_about_140 ?_
                    exact ret (v 23) () _ _ _ _ _ _ rfl trivial hP hD hS dX10_about_143 (Nat.le_refl _) (Nat.le_refl _)
                  · skip
                    have zc11 : ¬ (p1.toInt = 8) := by rw [fa_eq, show (8 : Int32).toInt = 8 from by decide] at c11; exact c11
                    by_cases c12 : p1 = 9
                    · skip
                      refine lv_tableIn (off := 143) (tgt := 144) hx hb dX10_about_1 (by rw [c12]; decide) (by rw [c12]; decide) (by rw [c12]; decide) (by decide) ?_
                      have zc12 : p1.toInt = 9 := by rw [fa_eq, show (9 : Int32).toInt = 9 from by decide] at c12; exact c12
                      refine lv_aload_n hx hb dX10_about_144 rfl (lv_at hl 0 rfl) ?_
                      refine va_get (D := (dC, dI)) (ci := 10) (v := .ref (x 35)) (C := RX10) (T := TX10) (N := 10) hx hb hts inB_10 hown hE.1 hP 0 rfl rfl 8 (by decide) (hts _ k_499) (fun _ h9 => h9) rfl dX10_about_145 ?_
                      refine va_getN (D := (dC, dI)) (ci := 8) (v := .int (v 41)) (C := RX8) (T := TX8) (N := 7) hx hb hts inB_8 hown hE.1 hP 36 rfl rfl 5 (by decide) (va_Nw.use rfl (hE.2 _ k_473)) (fun _ h9 => h9) rfl dX10_about_148 ?_
                      have b41_v : 0 ≤ (v 41).toInt ∧ (v 41).toInt ≤ 30 := XI.b hIv 41 (by decide)
                      exact ret (v 41) () _ _ _ _ _ _ rfl trivial hP hD hS dX10_about_151 (Nat.le_refl _) (Nat.le_refl _)
                    · skip
                      have zc12 : ¬ (p1.toInt = 9) := by rw [fa_eq, show (9 : Int32).toInt = 9 from by decide] at c12; exact c12
                      by_cases c13 : p1 = 10
                      · skip
                        refine lv_tableIn (off := 151) (tgt := 152) hx hb dX10_about_1 (by rw [c13]; decide) (by rw [c13]; decide) (by rw [c13]; decide) (by decide) ?_
                        have zc13 : p1.toInt = 10 := by rw [fa_eq, show (10 : Int32).toInt = 10 from by decide] at c13; exact c13
                        refine lv_aload_n hx hb dX10_about_152 rfl (lv_at hl 0 rfl) ?_
                        refine va_get (D := (dC, dI)) (ci := 10) (v := .int (v 0)) (C := RX10) (T := TX10) (N := 10) hx hb hts inB_10 hown hE.1 hP 0 rfl rfl 9 (by decide) (hts _ k_500) (fun _ h9 => h9) rfl dX10_about_153 ?_
                        have b0_v : 0 ≤ (v 0).toInt ∧ (v 0).toInt ≤ 100000 := XI.b hIv 0 (by decide)
                        exact ret (v 0) () _ _ _ _ _ _ rfl trivial hP hD hS dX10_about_156 (Nat.le_refl _) (Nat.le_refl _)
                      · skip
                        have zc13 : ¬ (p1.toInt = 10) := by rw [fa_eq, show (10 : Int32).toInt = 10 from by decide] at c13; exact c13
                        by_cases c14 : p1 = 11
                        · skip
                          refine lv_tableIn (off := 156) (tgt := 157) hx hb dX10_about_1 (by rw [c14]; decide) (by rw [c14]; decide) (by rw [c14]; decide) (by decide) ?_
                          have zc14 : p1.toInt = 11 := by rw [fa_eq, show (11 : Int32).toInt = 11 from by decide] at c14; exact c14
                          refine lv_aload_n hx hb dX10_about_157 rfl (lv_at hl 0 rfl) ?_
                          refine va_get (D := (dC, dI)) (ci := 10) (v := .ref (x 0)) (C := RX10) (T := TX10) (N := 10) hx hb hts inB_10 hown hE.1 hP 0 rfl rfl 0 (by decide) (hts _ k_491) (fun _ h9 => h9) rfl dX10_about_158 ?_
                          refine va_getN (D := (dC, dI)) (ci := 9) (v := .int (v 1)) (C := RX9) (T := TX9) (N := 6) hx hb hts inB_9 hown hE.1 hP 1 rfl rfl 1 (by decide) (va_Nw.use rfl (hE.2 _ k_138)) (fun _ h9 => h9) rfl dX10_about_161 ?_
                          have b1_v : 0 ≤ (v 1).toInt ∧ (v 1).toInt ≤ 1600 := XI.b hIv 1 (by decide)
                          exact ret (v 1) () _ _ _ _ _ _ rfl trivial hP hD hS dX10_about_164 (Nat.le_refl _) (Nat.le_refl _)
                        · skip
                          have zc14 : ¬ (p1.toInt = 11) := by rw [fa_eq, show (11 : Int32).toInt = 11 from by decide] at c14; exact c14
                          by_cases c15 : p1 = 12
                          · skip
                            refine lv_tableIn (off := 164) (tgt := 165) hx hb dX10_about_1 (by rw [c15]; decide) (by rw [c15]; decide) (by rw [c15]; decide) (by decide) ?_
                            have zc15 : p1.toInt = 12 := by rw [fa_eq, show (12 : Int32).toInt = 12 from by decide] at c15; exact c15
                            refine lv_aload_n hx hb dX10_about_165 rfl (lv_at hl 0 rfl) ?_
                            refine va_get (D := (dC, dI)) (ci := 10) (v := .ref (x 26)) (C := RX10) (T := TX10) (N := 10) hx hb hts inB_10 hown hE.1 hP 0 rfl rfl 2 (by decide) (hts _ k_493) (fun _ h9 => h9) rfl dX10_about_166 ?_
                            refine va_getN (D := (dC, dI)) (ci := 7) (v := .ref (x 15)) (C := RX7) (T := TX7) (N := 10) hx hb hts inB_7 hown hE.1 hP 27 rfl rfl 2 (by decide) (va_Nw.use rfl (hE.2 _ k_211)) (fun _ h9 => h9) rfl dX10_about_169 ?_
                            refine va_getN (D := (dC, dI)) (ci := 4) (v := .int (v 19)) (C := RX4) (T := TX4) (N := 6) hx hb hts inB_4 hown hE.1 hP 16 rfl rfl 5 (by decide) (va_Nw.use rfl (hE.2 _ k_185)) (fun _ h9 => h9) rfl dX10_about_172 ?_
                            exact ret (v 19) () _ _ _ _ _ _ rfl trivial hP hD hS dX10_about_175 (Nat.le_refl _) (Nat.le_refl _)
                          · skip
                            have zc15 : ¬ (p1.toInt = 12) := by rw [fa_eq, show (12 : Int32).toInt = 12 from by decide] at c15; exact c15
                            by_cases c16 : p1 = 13
                            · skip
                              refine lv_tableIn (off := 175) (tgt := 176) hx hb dX10_about_1 (by rw [c16]; decide) (by rw [c16]; decide) (by rw [c16]; decide) (by decide) ?_
                              have zc16 : p1.toInt = 13 := by rw [fa_eq, show (13 : Int32).toInt = 13 from by decide] at c16; exact c16
                              refine lv_aload_n hx hb dX10_about_176 rfl (lv_at hl 0 rfl) ?_
                              refine va_get (D := (dC, dI)) (ci := 10) (v := .ref (x 31)) (C := RX10) (T := TX10) (N := 10) hx hb hts inB_10 hown hE.1 hP 0 rfl rfl 7 (by decide) (hts _ k_498) (fun _ h9 => h9) rfl dX10_about_177 ?_
                              refine va_getN (D := (dC, dI)) (ci := 0) (v := .int (v 38)) (C := RX0) (T := TX0) (N := 8) hx hb hts inB_0 hown hE.1 hP 32 rfl rfl 3 (by decide) (va_Nw.use rfl (hE.2 _ k_434)) (fun _ h9 => h9) rfl dX10_about_180 ?_
                              have b38_v : 0 ≤ (v 38).toInt ∧ (v 38).toInt ≤ 6 := XI.b hIv 38 (by decide)
                              exact ret (v 38) () _ _ _ _ _ _ rfl trivial hP hD hS dX10_about_183 (Nat.le_refl _) (Nat.le_refl _)
                            · skip
                              have zc16 : ¬ (p1.toInt = 13) := by rw [fa_eq, show (13 : Int32).toInt = 13 from by decide] at c16; exact c16
                              refine lv_tableOut (tgt := 184) hx hb dX10_about_1 (by omega) (by decide) ?_
                              refine lv_iconst (v := (-1)) hx hb dX10_about_184 (by decide) ?_
                              exact ret (-1) () _ _ _ _ _ _ rfl trivial hP hD hS dX10_about_185 (Nat.le_refl _) (Nat.le_refl _)
