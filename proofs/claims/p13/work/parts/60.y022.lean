set_option maxHeartbeats 4000000 in
set_option maxRecDepth 100000 in
theorem sY_X11_done_1 (NF : Nat) (l : Launch) (dC : Nat → ClassId) (dI : Nat → Nat → Nat) (cy : Nat → ClassId) (y0 : Nat) (r : Nat → Nat) (p0 : Int32) (p1 : Int32) (p2 : Int32) (v : Nat → Int32) (f : Nat → Nat → Int32) (w : Int64) (g : Nat → Int64) (hIv : YI v) (hCf : YC f) (hRf : progOK (f 4) (f 5) (v 9).toInt.toNat)  : ctI l (dC, dI) cy yX11_done cX11_done 3 .int 2 80 0 0 Unit [.int p0, .int p1, .int p2] (YW cy y0 r v f w g) (fun r u => gsY_X11_done_1 NF p0 p1 p2 v f w g = r) (fun u => YW cy y0 r v f w g) := by
  refine ctI_of (by decide) (Nat.le_of_ble_eq_true rfl) (fun p e s m below meth c A ls Q hx hb hml hts hown hE hP hD hA hl ret => ?_)
  have hUv : (v 35).toInt + (v 36).toInt ≤ 40 := hIv.2
  have hown : s.vm.findClass RX11 = some m.cls := hown
  have hS : va_S A s.heap s.heap [] := va_S.rf
  have hl : lv_has ls 3 [(0, .int p0), (1, .int p1), (2, .int p2)] := hl
  refine lv_iload_n hx hb dX11_done_0 rfl (lv_at hl 0 rfl) ?_
  by_cases c1 : p0 = 37
  · skip
    refine lv_tableIn (off := 143) (tgt := 144) hx hb dX11_done_1 (by rw [c1]; decide) (by rw [c1]; decide) (by rw [c1]; decide) (by decide) ?_
    have zc1 : p0.toInt = 37 := by rw [fa_eq, show (37 : Int32).toInt = 37 from by decide] at c1; exact c1
    refine lv_iload_n hx hb dX11_done_144 rfl (lv_at hl 2 rfl) ?_
    refine lv_if_ne (tgt := 152) hx hb dX11_done_145 (by decide) (fun c2 => ?_) (fun c2 => ?_)
    · skip
      have zc2 : ¬ (p2.toInt = 0) := by rw [fa_eq, show (0 : Int32).toInt = 0 from by decide] at c2; exact c2
      refine lv_iload_n hx hb dX11_done_152 rfl (lv_at hl 1 rfl) ?_
      refine lv_iload_n hx hb dX11_done_153 rfl (lv_at hl 2 rfl) ?_
      refine lv_irem hx hb dX11_done_154 (ne0 (by omega)) ?_
      refine lv_topi (fun t3 et3 => ?_)
      exact ret t3 () _ _ _ _ _ _ rfl (gsY_X11_done_1_q0 c1 c2 et3) hP hD hS dX11_done_155 (Nat.le_refl _) (Nat.le_refl _)
    · skip
      have zc2 : p2.toInt = 0 := by rw [fa_eq, show (0 : Int32).toInt = 0 from by decide] at c2; exact c2
      refine lv_iconst (v := 0) hx hb dX11_done_148 (by decide) ?_
      refine lv_goto (tgt := 155) hx hb dX11_done_149 (by decide) ?_
      exact ret 0 () _ _ _ _ _ _ rfl (gsY_X11_done_1_q1 c1 c2) hP hD hS dX11_done_155 (Nat.le_refl _) (Nat.le_refl _)
  · skip
    have zc1 : ¬ (p0.toInt = 37) := by rw [fa_eq, show (37 : Int32).toInt = 37 from by decide] at c1; exact c1
    by_cases c4 : p0 = 38
    · skip
      refine lv_tableIn (off := 197) (tgt := 198) hx hb dX11_done_1 (by rw [c4]; decide) (by rw [c4]; decide) (by rw [c4]; decide) (by decide) ?_
      have zc4 : p0.toInt = 38 := by rw [fa_eq, show (38 : Int32).toInt = 38 from by decide] at c4; exact c4
      refine lv_iload_n hx hb dX11_done_198 rfl (lv_at hl 1 rfl) ?_
      refine lv_if_eq (tgt := 210) hx hb dX11_done_199 (by decide) (fun c5 => ?_) (fun c5 => ?_)
      · skip
        have zc5 : p1.toInt = 0 := by rw [fa_eq, show (0 : Int32).toInt = 0 from by decide] at c5; exact c5
        refine lv_iconst (v := 0) hx hb dX11_done_210 (by decide) ?_
        have lt6 : (0 : Int32).toInt = 0 := by decide
        refine cbSi (n := 1) (rest := []) hx hb hml hown hts hE hP hD hS hA (sY_X11_truth_1 NF l dC dI cy y0 r 0 v f w g hIv hCf hRf ) k_1761 k_1762 k_114 k_1763 (by decide +kernel) ⟨Nat.le_of_ble_eq_true rfl, Nat.le_of_ble_eq_true rfl⟩ (rfl) hl.1 rfl (Nat.le_of_ble_eq_true rfl) dX11_done_211 (fun r7 u H locs hw hP hD hS => ?_)
        obtain ⟨hG8, hw⟩ := hw
        exact ret r7 () _ _ _ _ _ _ rfl (gsY_X11_done_1_q2 c1 c4 c5 hG8.symm) hP hD hS dX11_done_214 (Nat.le_refl _) (Nat.le_refl _)
      · skip
        have zc5 : ¬ (p1.toInt = 0) := by rw [fa_eq, show (0 : Int32).toInt = 0 from by decide] at c5; exact c5
        refine lv_iload_n hx hb dX11_done_202 rfl (lv_at hl 2 rfl) ?_
        refine lv_if_eq (tgt := 210) hx hb dX11_done_203 (by decide) (fun c9 => ?_) (fun c9 => ?_)
        · skip
          have zc9 : p2.toInt = 0 := by rw [fa_eq, show (0 : Int32).toInt = 0 from by decide] at c9; exact c9
          refine lv_iconst (v := 0) hx hb dX11_done_210 (by decide) ?_
          have lt10 : (0 : Int32).toInt = 0 := by decide
          refine cbSi (n := 1) (rest := []) hx hb hml hown hts hE hP hD hS hA (sY_X11_truth_1 NF l dC dI cy y0 r 0 v f w g hIv hCf hRf ) k_1761 k_1762 k_114 k_1763 (by decide +kernel) ⟨Nat.le_of_ble_eq_true rfl, Nat.le_of_ble_eq_true rfl⟩ (rfl) hl.1 rfl (Nat.le_of_ble_eq_true rfl) dX11_done_211 (fun r11 u H locs hw hP hD hS => ?_)
          obtain ⟨hG12, hw⟩ := hw
          exact ret r11 () _ _ _ _ _ _ rfl (gsY_X11_done_1_q3 c1 c4 c5 c9 hG12.symm) hP hD hS dX11_done_214 (Nat.le_refl _) (Nat.le_refl _)
        · skip
          have zc9 : ¬ (p2.toInt = 0) := by rw [fa_eq, show (0 : Int32).toInt = 0 from by decide] at c9; exact c9
          refine lv_iconst (v := 1) hx hb dX11_done_206 (by decide) ?_
          refine lv_goto (tgt := 211) hx hb dX11_done_207 (by decide) ?_
          have lt13 : (1 : Int32).toInt = 1 := by decide
          refine cbSi (n := 1) (rest := []) hx hb hml hown hts hE hP hD hS hA (sY_X11_truth_1 NF l dC dI cy y0 r 1 v f w g hIv hCf hRf ) k_1761 k_1762 k_114 k_1763 (by decide +kernel) ⟨Nat.le_of_ble_eq_true rfl, Nat.le_of_ble_eq_true rfl⟩ (rfl) hl.1 rfl (Nat.le_of_ble_eq_true rfl) dX11_done_211 (fun r14 u H locs hw hP hD hS => ?_)
          obtain ⟨hG15, hw⟩ := hw
          exact ret r14 () _ _ _ _ _ _ rfl (gsY_X11_done_1_q4 c1 c4 c5 c9 hG15.symm) hP hD hS dX11_done_214 (Nat.le_refl _) (Nat.le_refl _)
    · skip
      have zc4 : ¬ (p0.toInt = 38) := by rw [fa_eq, show (38 : Int32).toInt = 38 from by decide] at c4; exact c4
      by_cases c16 : p0 = 39
      · skip
        refine lv_tableIn (off := 214) (tgt := 215) hx hb dX11_done_1 (by rw [c16]; decide) (by rw [c16]; decide) (by rw [c16]; decide) (by decide) ?_
        have zc16 : p0.toInt = 39 := by rw [fa_eq, show (39 : Int32).toInt = 39 from by decide] at c16; exact c16
        refine lv_iload_n hx hb dX11_done_215 rfl (lv_at hl 1 rfl) ?_
        refine lv_if_ne (tgt := 223) hx hb dX11_done_216 (by decide) (fun c17 => ?_) (fun c17 => ?_)
        · skip
          have zc17 : ¬ (p1.toInt = 0) := by rw [fa_eq, show (0 : Int32).toInt = 0 from by decide] at c17; exact c17
          refine lv_iconst (v := 1) hx hb dX11_done_223 (by decide) ?_
          refine lv_goto (tgt := 228) hx hb dX11_done_224 (by decide) ?_
          have lt18 : (1 : Int32).toInt = 1 := by decide
          refine cbSi (n := 1) (rest := []) hx hb hml hown hts hE hP hD hS hA (sY_X11_truth_1 NF l dC dI cy y0 r 1 v f w g hIv hCf hRf ) k_1761 k_1762 k_114 k_1763 (by decide +kernel) ⟨Nat.le_of_ble_eq_true rfl, Nat.le_of_ble_eq_true rfl⟩ (rfl) hl.1 rfl (Nat.le_of_ble_eq_true rfl) dX11_done_228 (fun r19 u H locs hw hP hD hS => ?_)
          obtain ⟨hG20, hw⟩ := hw
          exact ret r19 () _ _ _ _ _ _ rfl (gsY_X11_done_1_q5 c1 c4 c16 c17 hG20.symm) hP hD hS dX11_done_231 (Nat.le_refl _) (Nat.le_refl _)
        · skip
          have zc17 : p1.toInt = 0 := by rw [fa_eq, show (0 : Int32).toInt = 0 from by decide] at c17; exact c17
          refine lv_iload_n hx hb dX11_done_219 rfl (lv_at hl 2 rfl) ?_
          refine lv_if_eq (tgt := 227) hx hb dX11_done_220 (by decide) (fun c21 => ?_) (fun c21 => ?_)
          · skip
            have zc21 : p2.toInt = 0 := by rw [fa_eq, show (0 : Int32).toInt = 0 from by decide] at c21; exact c21
            refine lv_iconst (v := 0) hx hb dX11_done_227 (by decide) ?_
            have lt22 : (0 : Int32).toInt = 0 := by decide
            refine cbSi (n := 1) (rest := []) hx hb hml hown hts hE hP hD hS hA (sY_X11_truth_1 NF l dC dI cy y0 r 0 v f w g hIv hCf hRf ) k_1761 k_1762 k_114 k_1763 (by decide +kernel) ⟨Nat.le_of_ble_eq_true rfl, Nat.le_of_ble_eq_true rfl⟩ (rfl) hl.1 rfl (Nat.le_of_ble_eq_true rfl) dX11_done_228 (fun r23 u H locs hw hP hD hS => ?_)
            obtain ⟨hG24, hw⟩ := hw
            exact ret r23 () _ _ _ _ _ _ rfl (gsY_X11_done_1_q6 c1 c4 c16 c17 c21 hG24.symm) hP hD hS dX11_done_231 (Nat.le_refl _) (Nat.le_refl _)
          · skip
            have zc21 : ¬ (p2.toInt = 0) := by rw [fa_eq, show (0 : Int32).toInt = 0 from by decide] at c21; exact c21
            refine lv_iconst (v := 1) hx hb dX11_done_223 (by decide) ?_
            refine lv_goto (tgt := 228) hx hb dX11_done_224 (by decide) ?_
            have lt25 : (1 : Int32).toInt = 1 := by decide
            refine cbSi (n := 1) (rest := []) hx hb hml hown hts hE hP hD hS hA (sY_X11_truth_1 NF l dC dI cy y0 r 1 v f w g hIv hCf hRf ) k_1761 k_1762 k_114 k_1763 (by decide +kernel) ⟨Nat.le_of_ble_eq_true rfl, Nat.le_of_ble_eq_true rfl⟩ (rfl) hl.1 rfl (Nat.le_of_ble_eq_true rfl) dX11_done_228 (fun r26 u H locs hw hP hD hS => ?_)
            obtain ⟨hG27, hw⟩ := hw
            exact ret r26 () _ _ _ _ _ _ rfl (gsY_X11_done_1_q7 c1 c4 c16 c17 c21 hG27.symm) hP hD hS dX11_done_231 (Nat.le_refl _) (Nat.le_refl _)
      · skip
        have zc16 : ¬ (p0.toInt = 39) := by rw [fa_eq, show (39 : Int32).toInt = 39 from by decide] at c16; exact c16
        by_cases c28 : p0 = 40
        · skip
          refine lv_tableIn (off := 214) (tgt := 215) hx hb dX11_done_1 (by rw [c28]; decide) (by rw [c28]; decide) (by rw [c28]; decide) (by decide) ?_
          have zc28 : p0.toInt = 40 := by rw [fa_eq, show (40 : Int32).toInt = 40 from by decide] at c28; exact c28
          refine lv_iload_n hx hb dX11_done_215 rfl (lv_at hl 1 rfl) ?_
          refine lv_if_ne (tgt := 223) hx hb dX11_done_216 (by decide) (fun c29 => ?_) (fun c29 => ?_)
          · skip
            have zc29 : ¬ (p1.toInt = 0) := by rw [fa_eq, show (0 : Int32).toInt = 0 from by decide] at c29; exact c29
            refine lv_iconst (v := 1) hx hb dX11_done_223 (by decide) ?_
            refine lv_goto (tgt := 228) hx hb dX11_done_224 (by decide) ?_
            have lt30 : (1 : Int32).toInt = 1 := by decide
            refine cbSi (n := 1) (rest := []) hx hb hml hown hts hE hP hD hS hA (sY_X11_truth_1 NF l dC dI cy y0 r 1 v f w g hIv hCf hRf ) k_1761 k_1762 k_114 k_1763 (by decide +kernel) ⟨Nat.le_of_ble_eq_true rfl, Nat.le_of_ble_eq_true rfl⟩ (rfl) hl.1 rfl (Nat.le_of_ble_eq_true rfl) dX11_done_228 (fun r31 u H locs hw hP hD hS => ?_)
            obtain ⟨hG32, hw⟩ := hw
            exact ret r31 () _ _ _ _ _ _ rfl (gsY_X11_done_1_q8 c1 c4 c16 c28 c29 hG32.symm) hP hD hS dX11_done_231 (Nat.le_refl _) (Nat.le_refl _)
          · skip
            have zc29 : p1.toInt = 0 := by rw [fa_eq, show (0 : Int32).toInt = 0 from by decide] at c29; exact c29
            refine lv_iload_n hx hb dX11_done_219 rfl (lv_at hl 2 rfl) ?_
            refine lv_if_eq (tgt := 227) hx hb dX11_done_220 (by decide) (fun c33 => ?_) (fun c33 => ?_)
            · skip
              have zc33 : p2.toInt = 0 := by rw [fa_eq, show (0 : Int32).toInt = 0 from by decide] at c33; exact c33
              refine lv_iconst (v := 0) hx hb dX11_done_227 (by decide) ?_
              have lt34 : (0 : Int32).toInt = 0 := by decide
              refine cbSi (n := 1) (rest := []) hx hb hml hown hts hE hP hD hS hA (sY_X11_truth_1 NF l dC dI cy y0 r 0 v f w g hIv hCf hRf ) k_1761 k_1762 k_114 k_1763 (by decide +kernel) ⟨Nat.le_of_ble_eq_true rfl, Nat.le_of_ble_eq_true rfl⟩ (rfl) hl.1 rfl (Nat.le_of_ble_eq_true rfl) dX11_done_228 (fun r35 u H locs hw hP hD hS => ?_)
              obtain ⟨hG36, hw⟩ := hw
              exact ret r35 () _ _ _ _ _ _ rfl (gsY_X11_done_1_q9 c1 c4 c16 c28 c29 c33 hG36.symm) hP hD hS dX11_done_231 (Nat.le_refl _) (Nat.le_refl _)
            · skip
              have zc33 : ¬ (p2.toInt = 0) := by rw [fa_eq, show (0 : Int32).toInt = 0 from by decide] at c33; exact c33
              refine lv_iconst (v := 1) hx hb dX11_done_223 (by decide) ?_
              refine lv_goto (tgt := 228) hx hb dX11_done_224 (by decide) ?_
              have lt37 : (1 : Int32).toInt = 1 := by decide
              refine cbSi (n := 1) (rest := []) hx hb hml hown hts hE hP hD hS hA (sY_X11_truth_1 NF l dC dI cy y0 r 1 v f w g hIv hCf hRf ) k_1761 k_1762 k_114 k_1763 (by decide +kernel) ⟨Nat.le_of_ble_eq_true rfl, Nat.le_of_ble_eq_true rfl⟩ (rfl) hl.1 rfl (Nat.le_of_ble_eq_true rfl) dX11_done_228 (fun r38 u H locs hw hP hD hS => ?_)
              obtain ⟨hG39, hw⟩ := hw
              exact ret r38 () _ _ _ _ _ _ rfl (gsY_X11_done_1_q10 c1 c4 c16 c28 c29 c33 hG39.symm) hP hD hS dX11_done_231 (Nat.le_refl _) (Nat.le_refl _)
        · skip
          have zc28 : ¬ (p0.toInt = 40) := by rw [fa_eq, show (40 : Int32).toInt = 40 from by decide] at c28; exact c28
          by_cases c40 : p0 = 41
          · skip
            refine lv_tableIn (off := 214) (tgt := 215) hx hb dX11_done_1 (by rw [c40]; decide) (by rw [c40]; decide) (by rw [c40]; decide) (by decide) ?_
            have zc40 : p0.toInt = 41 := by rw [fa_eq, show (41 : Int32).toInt = 41 from by decide] at c40; exact c40
            refine lv_iload_n hx hb dX11_done_215 rfl (lv_at hl 1 rfl) ?_
            refine lv_if_ne (tgt := 223) hx hb dX11_done_216 (by decide) (fun c41 => ?_) (fun c41 => ?_)
            · skip
              have zc41 : ¬ (p1.toInt = 0) := by rw [fa_eq, show (0 : Int32).toInt = 0 from by decide] at c41; exact c41
              refine lv_iconst (v := 1) hx hb dX11_done_223 (by decide) ?_
              refine lv_goto (tgt := 228) hx hb dX11_done_224 (by decide) ?_
              have lt42 : (1 : Int32).toInt = 1 := by decide
              refine cbSi (n := 1) (rest := []) hx hb hml hown hts hE hP hD hS hA (sY_X11_truth_1 NF l dC dI cy y0 r 1 v f w g hIv hCf hRf ) k_1761 k_1762 k_114 k_1763 (by decide +kernel) ⟨Nat.le_of_ble_eq_true rfl, Nat.le_of_ble_eq_true rfl⟩ (rfl) hl.1 rfl (Nat.le_of_ble_eq_true rfl) dX11_done_228 (fun r43 u H locs hw hP hD hS => ?_)
              obtain ⟨hG44, hw⟩ := hw
              exact ret r43 () _ _ _ _ _ _ rfl (gsY_X11_done_1_q11 c1 c4 c16 c28 c40 c41 hG44.symm) hP hD hS dX11_done_231 (Nat.le_refl _) (Nat.le_refl _)
            · skip
              have zc41 : p1.toInt = 0 := by rw [fa_eq, show (0 : Int32).toInt = 0 from by decide] at c41; exact c41
              refine lv_iload_n hx hb dX11_done_219 rfl (lv_at hl 2 rfl) ?_
              refine lv_if_eq (tgt := 227) hx hb dX11_done_220 (by decide) (fun c45 => ?_) (fun c45 => ?_)
              · skip
                have zc45 : p2.toInt = 0 := by rw [fa_eq, show (0 : Int32).toInt = 0 from by decide] at c45; exact c45
                refine lv_iconst (v := 0) hx hb dX11_done_227 (by decide) ?_
                have lt46 : (0 : Int32).toInt = 0 := by decide
                refine cbSi (n := 1) (rest := []) hx hb hml hown hts hE hP hD hS hA (sY_X11_truth_1 NF l dC dI cy y0 r 0 v f w g hIv hCf hRf ) k_1761 k_1762 k_114 k_1763 (by decide +kernel) ⟨Nat.le_of_ble_eq_true rfl, Nat.le_of_ble_eq_true rfl⟩ (rfl) hl.1 rfl (Nat.le_of_ble_eq_true rfl) dX11_done_228 (fun r47 u H locs hw hP hD hS => ?_)
                obtain ⟨hG48, hw⟩ := hw
                exact ret r47 () _ _ _ _ _ _ rfl (gsY_X11_done_1_q12 c1 c4 c16 c28 c40 c41 c45 hG48.symm) hP hD hS dX11_done_231 (Nat.le_refl _) (Nat.le_refl _)
              · skip
                have zc45 : ¬ (p2.toInt = 0) := by rw [fa_eq, show (0 : Int32).toInt = 0 from by decide] at c45; exact c45
                refine lv_iconst (v := 1) hx hb dX11_done_223 (by decide) ?_
                refine lv_goto (tgt := 228) hx hb dX11_done_224 (by decide) ?_
                have lt49 : (1 : Int32).toInt = 1 := by decide
                refine cbSi (n := 1) (rest := []) hx hb hml hown hts hE hP hD hS hA (sY_X11_truth_1 NF l dC dI cy y0 r 1 v f w g hIv hCf hRf ) k_1761 k_1762 k_114 k_1763 (by decide +kernel) ⟨Nat.le_of_ble_eq_true rfl, Nat.le_of_ble_eq_true rfl⟩ (rfl) hl.1 rfl (Nat.le_of_ble_eq_true rfl) dX11_done_228 (fun r50 u H locs hw hP hD hS => ?_)
                obtain ⟨hG51, hw⟩ := hw
                exact ret r50 () _ _ _ _ _ _ rfl (gsY_X11_done_1_q13 c1 c4 c16 c28 c40 c41 c45 hG51.symm) hP hD hS dX11_done_231 (Nat.le_refl _) (Nat.le_refl _)
          · skip
            have zc40 : ¬ (p0.toInt = 41) := by rw [fa_eq, show (41 : Int32).toInt = 41 from by decide] at c40; exact c40
            by_cases c52 : p0 = 42
            · skip
              refine lv_tableIn (off := 127) (tgt := 128) hx hb dX11_done_1 (by rw [c52]; decide) (by rw [c52]; decide) (by rw [c52]; decide) (by decide) ?_
              have zc52 : p0.toInt = 42 := by rw [fa_eq, show (42 : Int32).toInt = 42 from by decide] at c52; exact c52
              refine lv_iload_n hx hb dX11_done_128 rfl (lv_at hl 1 rfl) ?_
              refine lv_iload_n hx hb dX11_done_129 rfl (lv_at hl 2 rfl) ?_
              refine lv_imul hx hb dX11_done_130 ?_
              refine lv_topi (fun t53 et53 => ?_)
              exact ret t53 () _ _ _ _ _ _ rfl (gsY_X11_done_1_q14 c1 c4 c16 c28 c40 c52 et53) hP hD hS dX11_done_131 (Nat.le_refl _) (Nat.le_refl _)
            · skip
              have zc52 : ¬ (p0.toInt = 42) := by rw [fa_eq, show (42 : Int32).toInt = 42 from by decide] at c52; exact c52
              by_cases c54 : p0 = 43
              · skip
                refine lv_tableIn (off := 119) (tgt := 120) hx hb dX11_done_1 (by rw [c54]; decide) (by rw [c54]; decide) (by rw [c54]; decide) (by decide) ?_
                have zc54 : p0.toInt = 43 := by rw [fa_eq, show (43 : Int32).toInt = 43 from by decide] at c54; exact c54
                refine lv_iload_n hx hb dX11_done_120 rfl (lv_at hl 1 rfl) ?_
                refine lv_iload_n hx hb dX11_done_121 rfl (lv_at hl 2 rfl) ?_
                refine lv_iadd hx hb dX11_done_122 ?_
                refine lv_topi (fun t55 et55 => ?_)
                exact ret t55 () _ _ _ _ _ _ rfl (gsY_X11_done_1_q15 c1 c4 c16 c28 c40 c52 c54 et55) hP hD hS dX11_done_123 (Nat.le_refl _) (Nat.le_refl _)
              · skip
                have zc54 : ¬ (p0.toInt = 43) := by rw [fa_eq, show (43 : Int32).toInt = 43 from by decide] at c54; exact c54
                by_cases c56 : p0 = 44
                · skip
                  refine lv_tableIn (off := 214) (tgt := 215) hx hb dX11_done_1 (by rw [c56]; decide) (by rw [c56]; decide) (by rw [c56]; decide) (by decide) ?_
                  have zc56 : p0.toInt = 44 := by rw [fa_eq, show (44 : Int32).toInt = 44 from by decide] at c56; exact c56
                  refine lv_iload_n hx hb dX11_done_215 rfl (lv_at hl 1 rfl) ?_
                  refine lv_if_ne (tgt := 223) hx hb dX11_done_216 (by decide) (fun c57 => ?_) (fun c57 => ?_)
                  · skip
                    have zc57 : ¬ (p1.toInt = 0) := by rw [fa_eq, show (0 : Int32).toInt = 0 from by decide] at c57; exact c57
                    refine lv_iconst (v := 1) hx hb dX11_done_223 (by decide) ?_
                    refine lv_goto (tgt := 228) hx hb dX11_done_224 (by decide) ?_
                    have lt58 : (1 : Int32).toInt = 1 := by decide
                    refine cbSi (n := 1) (rest := []) hx hb hml hown hts hE hP hD hS hA (sY_X11_truth_1 NF l dC dI cy y0 r 1 v f w g hIv hCf hRf ) k_1761 k_1762 k_114 k_1763 (by decide +kernel) ⟨Nat.le_of_ble_eq_true rfl, Nat.le_of_ble_eq_true rfl⟩ (rfl) hl.1 rfl (Nat.le_of_ble_eq_true rfl) dX11_done_228 (fun r59 u H locs hw hP hD hS => ?_)
                    obtain ⟨hG60, hw⟩ := hw
                    exact ret r59 () _ _ _ _ _ _ rfl (gsY_X11_done_1_q16 c1 c4 c16 c28 c40 c52 c54 c56 c57 hG60.symm) hP hD hS dX11_done_231 (Nat.le_refl _) (Nat.le_refl _)
                  · skip
                    have zc57 : p1.toInt = 0 := by rw [fa_eq, show (0 : Int32).toInt = 0 from by decide] at c57; exact c57
                    refine lv_iload_n hx hb dX11_done_219 rfl (lv_at hl 2 rfl) ?_
                    refine lv_if_eq (tgt := 227) hx hb dX11_done_220 (by decide) (fun c61 => ?_) (fun c61 => ?_)
                    · skip
                      have zc61 : p2.toInt = 0 := by rw [fa_eq, show (0 : Int32).toInt = 0 from by decide] at c61; exact c61
                      refine lv_iconst (v := 0) hx hb dX11_done_227 (by decide) ?_
                      have lt62 : (0 : Int32).toInt = 0 := by decide
                      refine cbSi (n := 1) (rest := []) hx hb hml hown hts hE hP hD hS hA (sY_X11_truth_1 NF l dC dI cy y0 r 0 v f w g hIv hCf hRf ) k_1761 k_1762 k_114 k_1763 (by decide +kernel) ⟨Nat.le_of_ble_eq_true rfl, Nat.le_of_ble_eq_true rfl⟩ (rfl) hl.1 rfl (Nat.le_of_ble_eq_true rfl) dX11_done_228 (fun r63 u H locs hw hP hD hS => ?_)
                      obtain ⟨hG64, hw⟩ := hw
                      exact ret r63 () _ _ _ _ _ _ rfl (gsY_X11_done_1_q17 c1 c4 c16 c28 c40 c52 c54 c56 c57 c61 hG64.symm) hP hD hS dX11_done_231 (Nat.le_refl _) (Nat.le_refl _)
                    · skip
                      have zc61 : ¬ (p2.toInt = 0) := by rw [fa_eq, show (0 : Int32).toInt = 0 from by decide] at c61; exact c61
                      refine lv_iconst (v := 1) hx hb dX11_done_223 (by decide) ?_
                      refine lv_goto (tgt := 228) hx hb dX11_done_224 (by decide) ?_
                      have lt65 : (1 : Int32).toInt = 1 := by decide
                      refine cbSi (n := 1) (rest := []) hx hb hml hown hts hE hP hD hS hA (sY_X11_truth_1 NF l dC dI cy y0 r 1 v f w g hIv hCf hRf ) k_1761 k_1762 k_114 k_1763 (by decide +kernel) ⟨Nat.le_of_ble_eq_true rfl, Nat.le_of_ble_eq_true rfl⟩ (rfl) hl.1 rfl (Nat.le_of_ble_eq_true rfl) dX11_done_228 (fun r66 u H locs hw hP hD hS => ?_)
                      obtain ⟨hG67, hw⟩ := hw
                      exact ret r66 () _ _ _ _ _ _ rfl (gsY_X11_done_1_q18 c1 c4 c16 c28 c40 c52 c54 c56 c57 c61 hG67.symm) hP hD hS dX11_done_231 (Nat.le_refl _) (Nat.le_refl _)
                · skip
                  have zc56 : ¬ (p0.toInt = 44) := by rw [fa_eq, show (44 : Int32).toInt = 44 from by decide] at c56; exact c56
                  by_cases c68 : p0 = 45
                  · skip
                    refine lv_tableIn (off := 123) (tgt := 124) hx hb dX11_done_1 (by rw [c68]; decide) (by rw [c68]; decide) (by rw [c68]; decide) (by decide) ?_
                    have zc68 : p0.toInt = 45 := by rw [fa_eq, show (45 : Int32).toInt = 45 from by decide] at c68; exact c68
                    refine lv_iload_n hx hb dX11_done_124 rfl (lv_at hl 1 rfl) ?_
                    refine lv_iload_n hx hb dX11_done_125 rfl (lv_at hl 2 rfl) ?_
                    refine lv_isub hx hb dX11_done_126 ?_
                    refine lv_topi (fun t69 et69 => ?_)
                    exact ret t69 () _ _ _ _ _ _ rfl (gsY_X11_done_1_q19 c1 c4 c16 c28 c40 c52 c54 c56 c68 et69) hP hD hS dX11_done_127 (Nat.le_refl _) (Nat.le_refl _)
                  · skip
                    have zc68 : ¬ (p0.toInt = 45) := by rw [fa_eq, show (45 : Int32).toInt = 45 from by decide] at c68; exact c68
                    by_cases c70 : p0 = 46
                    · skip
                      refine lv_tableIn (off := 214) (tgt := 215) hx hb dX11_done_1 (by rw [c70]; decide) (by rw [c70]; decide) (by rw [c70]; decide) (by decide) ?_
                      have zc70 : p0.toInt = 46 := by rw [fa_eq, show (46 : Int32).toInt = 46 from by decide] at c70; exact c70
                      refine lv_iload_n hx hb dX11_done_215 rfl (lv_at hl 1 rfl) ?_
                      refine lv_if_ne (tgt := 223) hx hb dX11_done_216 (by decide) (fun c71 => ?_) (fun c71 => ?_)
                      · skip
                        have zc71 : ¬ (p1.toInt = 0) := by rw [fa_eq, show (0 : Int32).toInt = 0 from by decide] at c71; exact c71
                        refine lv_iconst (v := 1) hx hb dX11_done_223 (by decide) ?_
                        refine lv_goto (tgt := 228) hx hb dX11_done_224 (by decide) ?_
                        have lt72 : (1 : Int32).toInt = 1 := by decide
                        refine cbSi (n := 1) (rest := []) hx hb hml hown hts hE hP hD hS hA (sY_X11_truth_1 NF l dC dI cy y0 r 1 v f w g hIv hCf hRf ) k_1761 k_1762 k_114 k_1763 (by decide +kernel) ⟨Nat.le_of_ble_eq_true rfl, Nat.le_of_ble_eq_true rfl⟩ (rfl) hl.1 rfl (Nat.le_of_ble_eq_true rfl) dX11_done_228 (fun r73 u H locs hw hP hD hS => ?_)
                        obtain ⟨hG74, hw⟩ := hw
                        exact ret r73 () _ _ _ _ _ _ rfl (gsY_X11_done_1_q20 c1 c4 c16 c28 c40 c52 c54 c56 c68 c70 c71 hG74.symm) hP hD hS dX11_done_231 (Nat.le_refl _) (Nat.le_refl _)
                      · skip
                        have zc71 : p1.toInt = 0 := by rw [fa_eq, show (0 : Int32).toInt = 0 from by decide] at c71; exact c71
                        refine lv_iload_n hx hb dX11_done_219 rfl (lv_at hl 2 rfl) ?_
                        refine lv_if_eq (tgt := 227) hx hb dX11_done_220 (by decide) (fun c75 => ?_) (fun c75 => ?_)
                        · skip
                          have zc75 : p2.toInt = 0 := by rw [fa_eq, show (0 : Int32).toInt = 0 from by decide] at c75; exact c75
                          refine lv_iconst (v := 0) hx hb dX11_done_227 (by decide) ?_
                          have lt76 : (0 : Int32).toInt = 0 := by decide
                          refine cbSi (n := 1) (rest := []) hx hb hml hown hts hE hP hD hS hA (sY_X11_truth_1 NF l dC dI cy y0 r 0 v f w g hIv hCf hRf ) k_1761 k_1762 k_114 k_1763 (by decide +kernel) ⟨Nat.le_of_ble_eq_true rfl, Nat.le_of_ble_eq_true rfl⟩ (rfl) hl.1 rfl (Nat.le_of_ble_eq_true rfl) dX11_done_228 (fun r77 u H locs hw hP hD hS => ?_)
                          obtain ⟨hG78, hw⟩ := hw
                          exact ret r77 () _ _ _ _ _ _ rfl (gsY_X11_done_1_q21 c1 c4 c16 c28 c40 c52 c54 c56 c68 c70 c71 c75 hG78.symm) hP hD hS dX11_done_231 (Nat.le_refl _) (Nat.le_refl _)
                        · skip
                          have zc75 : ¬ (p2.toInt = 0) := by rw [fa_eq, show (0 : Int32).toInt = 0 from by decide] at c75; exact c75
                          refine lv_iconst (v := 1) hx hb dX11_done_223 (by decide) ?_
                          refine lv_goto (tgt := 228) hx hb dX11_done_224 (by decide) ?_
                          have lt79 : (1 : Int32).toInt = 1 := by decide
                          refine cbSi (n := 1) (rest := []) hx hb hml hown hts hE hP hD hS hA (sY_X11_truth_1 NF l dC dI cy y0 r 1 v f w g hIv hCf hRf ) k_1761 k_1762 k_114 k_1763 (by decide +kernel) ⟨Nat.le_of_ble_eq_true rfl, Nat.le_of_ble_eq_true rfl⟩ (rfl) hl.1 rfl (Nat.le_of_ble_eq_true rfl) dX11_done_228 (fun r80 u H locs hw hP hD hS => ?_)
                          obtain ⟨hG81, hw⟩ := hw
                          exact ret r80 () _ _ _ _ _ _ rfl (gsY_X11_done_1_q22 c1 c4 c16 c28 c40 c52 c54 c56 c68 c70 c71 c75 hG81.symm) hP hD hS dX11_done_231 (Nat.le_refl _) (Nat.le_refl _)
                    · skip
                      have zc70 : ¬ (p0.toInt = 46) := by rw [fa_eq, show (46 : Int32).toInt = 46 from by decide] at c70; exact c70
                      by_cases c82 : p0 = 47
                      · skip
                        refine lv_tableIn (off := 131) (tgt := 132) hx hb dX11_done_1 (by rw [c82]; decide) (by rw [c82]; decide) (by rw [c82]; decide) (by decide) ?_
                        have zc82 : p0.toInt = 47 := by rw [fa_eq, show (47 : Int32).toInt = 47 from by decide] at c82; exact c82
                        refine lv_iload_n hx hb dX11_done_132 rfl (lv_at hl 2 rfl) ?_
                        refine lv_if_ne (tgt := 140) hx hb dX11_done_133 (by decide) (fun c83 => ?_) (fun c83 => ?_)
                        · skip
                          have zc83 : ¬ (p2.toInt = 0) := by rw [fa_eq, show (0 : Int32).toInt = 0 from by decide] at c83; exact c83
                          refine lv_iload_n hx hb dX11_done_140 rfl (lv_at hl 1 rfl) ?_
                          refine lv_iload_n hx hb dX11_done_141 rfl (lv_at hl 2 rfl) ?_
                          refine lv_idiv hx hb dX11_done_142 (ne0 (by omega)) ?_
                          refine lv_topi (fun t84 et84 => ?_)
                          exact ret t84 () _ _ _ _ _ _ rfl (gsY_X11_done_1_q23 c1 c4 c16 c28 c40 c52 c54 c56 c68 c70 c82 c83 et84) hP hD hS dX11_done_143 (Nat.le_refl _) (Nat.le_refl _)
                        · skip
                          have zc83 : p2.toInt = 0 := by rw [fa_eq, show (0 : Int32).toInt = 0 from by decide] at c83; exact c83
                          refine lv_iconst (v := 0) hx hb dX11_done_136 (by decide) ?_
                          refine lv_goto (tgt := 143) hx hb dX11_done_137 (by decide) ?_
                          exact ret 0 () _ _ _ _ _ _ rfl (gsY_X11_done_1_q24 c1 c4 c16 c28 c40 c52 c54 c56 c68 c70 c82 c83) hP hD hS dX11_done_143 (Nat.le_refl _) (Nat.le_refl _)
                      · skip
                        have zc82 : ¬ (p0.toInt = 47) := by rw [fa_eq, show (47 : Int32).toInt = 47 from by decide] at c82; exact c82
                        by_cases c85 : p0 = 48
                        · skip
                          refine lv_tableIn (off := 214) (tgt := 215) hx hb dX11_done_1 (by rw [c85]; decide) (by rw [c85]; decide) (by rw [c85]; decide) (by decide) ?_
                          have zc85 : p0.toInt = 48 := by rw [fa_eq, show (48 : Int32).toInt = 48 from by decide] at c85; exact c85
                          refine lv_iload_n hx hb dX11_done_215 rfl (lv_at hl 1 rfl) ?_
                          refine lv_if_ne (tgt := 223) hx hb dX11_done_216 (by decide) (fun c86 => ?_) (fun c86 => ?_)
                          · skip
                            have zc86 : ¬ (p1.toInt = 0) := by rw [fa_eq, show (0 : Int32).toInt = 0 from by decide] at c86; exact c86
                            refine lv_iconst (v := 1) hx hb dX11_done_223 (by decide) ?_
                            refine lv_goto (tgt := 228) hx hb dX11_done_224 (by decide) ?_
                            have lt87 : (1 : Int32).toInt = 1 := by decide
                            refine cbSi (n := 1) (rest := []) hx hb hml hown hts hE hP hD hS hA (sY_X11_truth_1 NF l dC dI cy y0 r 1 v f w g hIv hCf hRf ) k_1761 k_1762 k_114 k_1763 (by decide +kernel) ⟨Nat.le_of_ble_eq_true rfl, Nat.le_of_ble_eq_true rfl⟩ (rfl) hl.1 rfl (Nat.le_of_ble_eq_true rfl) dX11_done_228 (fun r88 u H locs hw hP hD hS => ?_)
                            obtain ⟨hG89, hw⟩ := hw
                            exact ret r88 () _ _ _ _ _ _ rfl (gsY_X11_done_1_q25 c1 c4 c16 c28 c40 c52 c54 c56 c68 c70 c82 c85 c86 hG89.symm) hP hD hS dX11_done_231 (Nat.le_refl _) (Nat.le_refl _)
                          · skip
                            have zc86 : p1.toInt = 0 := by rw [fa_eq, show (0 : Int32).toInt = 0 from by decide] at c86; exact c86
                            refine lv_iload_n hx hb dX11_done_219 rfl (lv_at hl 2 rfl) ?_
                            refine lv_if_eq (tgt := 227) hx hb dX11_done_220 (by decide) (fun c90 => ?_) (fun c90 => ?_)
                            · skip
                              have zc90 : p2.toInt = 0 := by rw [fa_eq, show (0 : Int32).toInt = 0 from by decide] at c90; exact c90
                              refine lv_iconst (v := 0) hx hb dX11_done_227 (by decide) ?_
                              have lt91 : (0 : Int32).toInt = 0 := by decide
                              refine cbSi (n := 1) (rest := []) hx hb hml hown hts hE hP hD hS hA (sY_X11_truth_1 NF l dC dI cy y0 r 0 v f w g hIv hCf hRf ) k_1761 k_1762 k_114 k_1763 (by decide +kernel) ⟨Nat.le_of_ble_eq_true rfl, Nat.le_of_ble_eq_true rfl⟩ (rfl) hl.1 rfl (Nat.le_of_ble_eq_true rfl) dX11_done_228 (fun r92 u H locs hw hP hD hS => ?_)
                              obtain ⟨hG93, hw⟩ := hw
                              exact ret r92 () _ _ _ _ _ _ rfl (gsY_X11_done_1_q26 c1 c4 c16 c28 c40 c52 c54 c56 c68 c70 c82 c85 c86 c90 hG93.symm) hP hD hS dX11_done_231 (Nat.le_refl _) (Nat.le_refl _)
                            · skip
                              have zc90 : ¬ (p2.toInt = 0) := by rw [fa_eq, show (0 : Int32).toInt = 0 from by decide] at c90; exact c90
                              refine lv_iconst (v := 1) hx hb dX11_done_223 (by decide) ?_
                              refine lv_goto (tgt := 228) hx hb dX11_done_224 (by decide) ?_
                              have lt94 : (1 : Int32).toInt = 1 := by decide
                              refine cbSi (n := 1) (rest := []) hx hb hml hown hts hE hP hD hS hA (sY_X11_truth_1 NF l dC dI cy y0 r 1 v f w g hIv hCf hRf ) k_1761 k_1762 k_114 k_1763 (by decide +kernel) ⟨Nat.le_of_ble_eq_true rfl, Nat.le_of_ble_eq_true rfl⟩ (rfl) hl.1 rfl (Nat.le_of_ble_eq_true rfl) dX11_done_228 (fun r95 u H locs hw hP hD hS => ?_)
                              obtain ⟨hG96, hw⟩ := hw
                              exact ret r95 () _ _ _ _ _ _ rfl (gsY_X11_done_1_q27 c1 c4 c16 c28 c40 c52 c54 c56 c68 c70 c82 c85 c86 c90 hG96.symm) hP hD hS dX11_done_231 (Nat.le_refl _) (Nat.le_refl _)
                        · skip
                          have zc85 : ¬ (p0.toInt = 48) := by rw [fa_eq, show (48 : Int32).toInt = 48 from by decide] at c85; exact c85
                          by_cases c97 : p0 = 49
                          · skip
                            refine lv_tableIn (off := 214) (tgt := 215) hx hb dX11_done_1 (by rw [c97]; decide) (by rw [c97]; decide) (by rw [c97]; decide) (by decide) ?_
                            have zc97 : p0.toInt = 49 := by rw [fa_eq, show (49 : Int32).toInt = 49 from by decide] at c97; exact c97
                            refine lv_iload_n hx hb dX11_done_215 rfl (lv_at hl 1 rfl) ?_
                            refine lv_if_ne (tgt := 223) hx hb dX11_done_216 (by decide) (fun c98 => ?_) (fun c98 => ?_)
                            · skip
                              have zc98 : ¬ (p1.toInt = 0) := by rw [fa_eq, show (0 : Int32).toInt = 0 from by decide] at c98; exact c98
                              refine lv_iconst (v := 1) hx hb dX11_done_223 (by decide) ?_
                              refine lv_goto (tgt := 228) hx hb dX11_done_224 (by decide) ?_
                              have lt99 : (1 : Int32).toInt = 1 := by decide
                              refine cbSi (n := 1) (rest := []) hx hb hml hown hts hE hP hD hS hA (sY_X11_truth_1 NF l dC dI cy y0 r 1 v f w g hIv hCf hRf ) k_1761 k_1762 k_114 k_1763 (by decide +kernel) ⟨Nat.le_of_ble_eq_true rfl, Nat.le_of_ble_eq_true rfl⟩ (rfl) hl.1 rfl (Nat.le_of_ble_eq_true rfl) dX11_done_228 (fun r100 u H locs hw hP hD hS => ?_)
                              obtain ⟨hG101, hw⟩ := hw
                              exact ret r100 () _ _ _ _ _ _ rfl (gsY_X11_done_1_q28 c1 c4 c16 c28 c40 c52 c54 c56 c68 c70 c82 c85 c97 c98 hG101.symm) hP hD hS dX11_done_231 (Nat.le_refl _) (Nat.le_refl _)
                            · skip
                              have zc98 : p1.toInt = 0 := by rw [fa_eq, show (0 : Int32).toInt = 0 from by decide] at c98; exact c98
                              refine lv_iload_n hx hb dX11_done_219 rfl (lv_at hl 2 rfl) ?_
                              refine lv_if_eq (tgt := 227) hx hb dX11_done_220 (by decide) (fun c102 => ?_) (fun c102 => ?_)
                              · skip
                                have zc102 : p2.toInt = 0 := by rw [fa_eq, show (0 : Int32).toInt = 0 from by decide] at c102; exact c102
                                refine lv_iconst (v := 0) hx hb dX11_done_227 (by decide) ?_
                                have lt103 : (0 : Int32).toInt = 0 := by decide
                                refine cbSi (n := 1) (rest := []) hx hb hml hown hts hE hP hD hS hA (sY_X11_truth_1 NF l dC dI cy y0 r 0 v f w g hIv hCf hRf ) k_1761 k_1762 k_114 k_1763 (by decide +kernel) ⟨Nat.le_of_ble_eq_true rfl, Nat.le_of_ble_eq_true rfl⟩ (rfl) hl.1 rfl (Nat.le_of_ble_eq_true rfl) dX11_done_228 (fun r104 u H locs hw hP hD hS => ?_)
                                obtain ⟨hG105, hw⟩ := hw
                                exact ret r104 () _ _ _ _ _ _ rfl (gsY_X11_done_1_q29 c1 c4 c16 c28 c40 c52 c54 c56 c68 c70 c82 c85 c97 c98 c102 hG105.symm) hP hD hS dX11_done_231 (Nat.le_refl _) (Nat.le_refl _)
                              · skip
                                have zc102 : ¬ (p2.toInt = 0) := by rw [fa_eq, show (0 : Int32).toInt = 0 from by decide] at c102; exact c102
                                refine lv_iconst (v := 1) hx hb dX11_done_223 (by decide) ?_
                                refine lv_goto (tgt := 228) hx hb dX11_done_224 (by decide) ?_
                                have lt106 : (1 : Int32).toInt = 1 := by decide
                                refine cbSi (n := 1) (rest := []) hx hb hml hown hts hE hP hD hS hA (sY_X11_truth_1 NF l dC dI cy y0 r 1 v f w g hIv hCf hRf ) k_1761 k_1762 k_114 k_1763 (by decide +kernel) ⟨Nat.le_of_ble_eq_true rfl, Nat.le_of_ble_eq_true rfl⟩ (rfl) hl.1 rfl (Nat.le_of_ble_eq_true rfl) dX11_done_228 (fun r107 u H locs hw hP hD hS => ?_)
                                obtain ⟨hG108, hw⟩ := hw
                                exact ret r107 () _ _ _ _ _ _ rfl (gsY_X11_done_1_q30 c1 c4 c16 c28 c40 c52 c54 c56 c68 c70 c82 c85 c97 c98 c102 hG108.symm) hP hD hS dX11_done_231 (Nat.le_refl _) (Nat.le_refl _)
                          · skip
                            have zc97 : ¬ (p0.toInt = 49) := by rw [fa_eq, show (49 : Int32).toInt = 49 from by decide] at c97; exact c97
                            by_cases c109 : p0 = 50
                            · skip
                              refine lv_tableIn (off := 214) (tgt := 215) hx hb dX11_done_1 (by rw [c109]; decide) (by rw [c109]; decide) (by rw [c109]; decide) (by decide) ?_
                              have zc109 : p0.toInt = 50 := by rw [fa_eq, show (50 : Int32).toInt = 50 from by decide] at c109; exact c109
                              refine lv_iload_n hx hb dX11_done_215 rfl (lv_at hl 1 rfl) ?_
                              refine lv_if_ne (tgt := 223) hx hb dX11_done_216 (by decide) (fun c110 => ?_) (fun c110 => ?_)
                              · skip
                                have zc110 : ¬ (p1.toInt = 0) := by rw [fa_eq, show (0 : Int32).toInt = 0 from by decide] at c110; exact c110
                                refine lv_iconst (v := 1) hx hb dX11_done_223 (by decide) ?_
                                refine lv_goto (tgt := 228) hx hb dX11_done_224 (by decide) ?_
                                have lt111 : (1 : Int32).toInt = 1 := by decide
                                refine cbSi (n := 1) (rest := []) hx hb hml hown hts hE hP hD hS hA (sY_X11_truth_1 NF l dC dI cy y0 r 1 v f w g hIv hCf hRf ) k_1761 k_1762 k_114 k_1763 (by decide +kernel) ⟨Nat.le_of_ble_eq_true rfl, Nat.le_of_ble_eq_true rfl⟩ (rfl) hl.1 rfl (Nat.le_of_ble_eq_true rfl) dX11_done_228 (fun r112 u H locs hw hP hD hS => ?_)
                                obtain ⟨hG113, hw⟩ := hw
                                exact ret r112 () _ _ _ _ _ _ rfl (gsY_X11_done_1_q31 c1 c4 c16 c28 c40 c52 c54 c56 c68 c70 c82 c85 c97 c109 c110 hG113.symm) hP hD hS dX11_done_231 (Nat.le_refl _) (Nat.le_refl _)
                              · skip
                                have zc110 : p1.toInt = 0 := by rw [fa_eq, show (0 : Int32).toInt = 0 from by decide] at c110; exact c110
                                refine lv_iload_n hx hb dX11_done_219 rfl (lv_at hl 2 rfl) ?_
                                refine lv_if_eq (tgt := 227) hx hb dX11_done_220 (by decide) (fun c114 => ?_) (fun c114 => ?_)
                                · skip
                                  have zc114 : p2.toInt = 0 := by rw [fa_eq, show (0 : Int32).toInt = 0 from by decide] at c114; exact c114
                                  refine lv_iconst (v := 0) hx hb dX11_done_227 (by decide) ?_
                                  have lt115 : (0 : Int32).toInt = 0 := by decide
                                  refine cbSi (n := 1) (rest := []) hx hb hml hown hts hE hP hD hS hA (sY_X11_truth_1 NF l dC dI cy y0 r 0 v f w g hIv hCf hRf ) k_1761 k_1762 k_114 k_1763 (by decide +kernel) ⟨Nat.le_of_ble_eq_true rfl, Nat.le_of_ble_eq_true rfl⟩ (rfl) hl.1 rfl (Nat.le_of_ble_eq_true rfl) dX11_done_228 (fun r116 u H locs hw hP hD hS => ?_)
                                  obtain ⟨hG117, hw⟩ := hw
                                  exact ret r116 () _ _ _ _ _ _ rfl (gsY_X11_done_1_q32 c1 c4 c16 c28 c40 c52 c54 c56 c68 c70 c82 c85 c97 c109 c110 c114 hG117.symm) hP hD hS dX11_done_231 (Nat.le_refl _) (Nat.le_refl _)
                                · skip
                                  have zc114 : ¬ (p2.toInt = 0) := by rw [fa_eq, show (0 : Int32).toInt = 0 from by decide] at c114; exact c114
                                  refine lv_iconst (v := 1) hx hb dX11_done_223 (by decide) ?_
                                  refine lv_goto (tgt := 228) hx hb dX11_done_224 (by decide) ?_
                                  have lt118 : (1 : Int32).toInt = 1 := by decide
                                  refine cbSi (n := 1) (rest := []) hx hb hml hown hts hE hP hD hS hA (sY_X11_truth_1 NF l dC dI cy y0 r 1 v f w g hIv hCf hRf ) k_1761 k_1762 k_114 k_1763 (by decide +kernel) ⟨Nat.le_of_ble_eq_true rfl, Nat.le_of_ble_eq_true rfl⟩ (rfl) hl.1 rfl (Nat.le_of_ble_eq_true rfl) dX11_done_228 (fun r119 u H locs hw hP hD hS => ?_)
                                  obtain ⟨hG120, hw⟩ := hw
                                  exact ret r119 () _ _ _ _ _ _ rfl (gsY_X11_done_1_q33 c1 c4 c16 c28 c40 c52 c54 c56 c68 c70 c82 c85 c97 c109 c110 c114 hG120.symm) hP hD hS dX11_done_231 (Nat.le_refl _) (Nat.le_refl _)
                            · skip
                              have zc109 : ¬ (p0.toInt = 50) := by rw [fa_eq, show (50 : Int32).toInt = 50 from by decide] at c109; exact c109
                              by_cases c121 : p0 = 51
                              · skip
                                refine lv_tableIn (off := 214) (tgt := 215) hx hb dX11_done_1 (by rw [c121]; decide) (by rw [c121]; decide) (by rw [c121]; decide) (by decide) ?_
                                have zc121 : p0.toInt = 51 := by rw [fa_eq, show (51 : Int32).toInt = 51 from by decide] at c121; exact c121
                                refine lv_iload_n hx hb dX11_done_215 rfl (lv_at hl 1 rfl) ?_
                                refine lv_if_ne (tgt := 223) hx hb dX11_done_216 (by decide) (fun c122 => ?_) (fun c122 => ?_)
                                · skip
                                  have zc122 : ¬ (p1.toInt = 0) := by rw [fa_eq, show (0 : Int32).toInt = 0 from by decide] at c122; exact c122
                                  refine lv_iconst (v := 1) hx hb dX11_done_223 (by decide) ?_
                                  refine lv_goto (tgt := 228) hx hb dX11_done_224 (by decide) ?_
                                  have lt123 : (1 : Int32).toInt = 1 := by decide
                                  refine cbSi (n := 1) (rest := []) hx hb hml hown hts hE hP hD hS hA (sY_X11_truth_1 NF l dC dI cy y0 r 1 v f w g hIv hCf hRf ) k_1761 k_1762 k_114 k_1763 (by decide +kernel) ⟨Nat.le_of_ble_eq_true rfl, Nat.le_of_ble_eq_true rfl⟩ (rfl) hl.1 rfl (Nat.le_of_ble_eq_true rfl) dX11_done_228 (fun r124 u H locs hw hP hD hS => ?_)
                                  obtain ⟨hG125, hw⟩ := hw
                                  exact ret r124 () _ _ _ _ _ _ rfl (gsY_X11_done_1_q34 c1 c4 c16 c28 c40 c52 c54 c56 c68 c70 c82 c85 c97 c109 c121 c122 hG125.symm) hP hD hS dX11_done_231 (Nat.le_refl _) (Nat.le_refl _)
                                · skip
                                  have zc122 : p1.toInt = 0 := by rw [fa_eq, show (0 : Int32).toInt = 0 from by decide] at c122; exact c122
                                  refine lv_iload_n hx hb dX11_done_219 rfl (lv_at hl 2 rfl) ?_
                                  refine lv_if_eq (tgt := 227) hx hb dX11_done_220 (by decide) (fun c126 => ?_) (fun c126 => ?_)
                                  · skip
                                    have zc126 : p2.toInt = 0 := by rw [fa_eq, show (0 : Int32).toInt = 0 from by decide] at c126; exact c126
                                    refine lv_iconst (v := 0) hx hb dX11_done_227 (by decide) ?_
                                    have lt127 : (0 : Int32).toInt = 0 := by decide
                                    refine cbSi (n := 1) (rest := []) hx hb hml hown hts hE hP hD hS hA (sY_X11_truth_1 NF l dC dI cy y0 r 0 v f w g hIv hCf hRf ) k_1761 k_1762 k_114 k_1763 (by decide +kernel) ⟨Nat.le_of_ble_eq_true rfl, Nat.le_of_ble_eq_true rfl⟩ (rfl) hl.1 rfl (Nat.le_of_ble_eq_true rfl) dX11_done_228 (fun r128 u H locs hw hP hD hS => ?_)
                                    obtain ⟨hG129, hw⟩ := hw
                                    exact ret r128 () _ _ _ _ _ _ rfl (gsY_X11_done_1_q35 c1 c4 c16 c28 c40 c52 c54 c56 c68 c70 c82 c85 c97 c109 c121 c122 c126 hG129.symm) hP hD hS dX11_done_231 (Nat.le_refl _) (Nat.le_refl _)
                                  · skip
                                    have zc126 : ¬ (p2.toInt = 0) := by rw [fa_eq, show (0 : Int32).toInt = 0 from by decide] at c126; exact c126
                                    refine lv_iconst (v := 1) hx hb dX11_done_223 (by decide) ?_
                                    refine lv_goto (tgt := 228) hx hb dX11_done_224 (by decide) ?_
                                    have lt130 : (1 : Int32).toInt = 1 := by decide
                                    refine cbSi (n := 1) (rest := []) hx hb hml hown hts hE hP hD hS hA (sY_X11_truth_1 NF l dC dI cy y0 r 1 v f w g hIv hCf hRf ) k_1761 k_1762 k_114 k_1763 (by decide +kernel) ⟨Nat.le_of_ble_eq_true rfl, Nat.le_of_ble_eq_true rfl⟩ (rfl) hl.1 rfl (Nat.le_of_ble_eq_true rfl) dX11_done_228 (fun r131 u H locs hw hP hD hS => ?_)
                                    obtain ⟨hG132, hw⟩ := hw
                                    exact ret r131 () _ _ _ _ _ _ rfl (gsY_X11_done_1_q36 c1 c4 c16 c28 c40 c52 c54 c56 c68 c70 c82 c85 c97 c109 c121 c122 c126 hG132.symm) hP hD hS dX11_done_231 (Nat.le_refl _) (Nat.le_refl _)
                              · skip
                                have zc121 : ¬ (p0.toInt = 51) := by rw [fa_eq, show (51 : Int32).toInt = 51 from by decide] at c121; exact c121
                                by_cases c133 : p0 = 52
                                · skip
                                  refine lv_tableIn (off := 214) (tgt := 215) hx hb dX11_done_1 (by rw [c133]; decide) (by rw [c133]; decide) (by rw [c133]; decide) (by decide) ?_
                                  have zc133 : p0.toInt = 52 := by rw [fa_eq, show (52 : Int32).toInt = 52 from by decide] at c133; exact c133
                                  refine lv_iload_n hx hb dX11_done_215 rfl (lv_at hl 1 rfl) ?_
                                  refine lv_if_ne (tgt := 223) hx hb dX11_done_216 (by decide) (fun c134 => ?_) (fun c134 => ?_)
                                  · skip
                                    have zc134 : ¬ (p1.toInt = 0) := by rw [fa_eq, show (0 : Int32).toInt = 0 from by decide] at c134; exact c134
                                    refine lv_iconst (v := 1) hx hb dX11_done_223 (by decide) ?_
                                    refine lv_goto (tgt := 228) hx hb dX11_done_224 (by decide) ?_
                                    have lt135 : (1 : Int32).toInt = 1 := by decide
                                    refine cbSi (n := 1) (rest := []) hx hb hml hown hts hE hP hD hS hA (sY_X11_truth_1 NF l dC dI cy y0 r 1 v f w g hIv hCf hRf ) k_1761 k_1762 k_114 k_1763 (by decide +kernel) ⟨Nat.le_of_ble_eq_true rfl, Nat.le_of_ble_eq_true rfl⟩ (rfl) hl.1 rfl (Nat.le_of_ble_eq_true rfl) dX11_done_228 (fun r136 u H locs hw hP hD hS => ?_)
                                    obtain ⟨hG137, hw⟩ := hw
                                    exact ret r136 () _ _ _ _ _ _ rfl (gsY_X11_done_1_q37 c1 c4 c16 c28 c40 c52 c54 c56 c68 c70 c82 c85 c97 c109 c121 c133 c134 hG137.symm) hP hD hS dX11_done_231 (Nat.le_refl _) (Nat.le_refl _)
                                  · skip
                                    have zc134 : p1.toInt = 0 := by rw [fa_eq, show (0 : Int32).toInt = 0 from by decide] at c134; exact c134
                                    refine lv_iload_n hx hb dX11_done_219 rfl (lv_at hl 2 rfl) ?_
                                    refine lv_if_eq (tgt := 227) hx hb dX11_done_220 (by decide) (fun c138 => ?_) (fun c138 => ?_)
                                    · skip
                                      have zc138 : p2.toInt = 0 := by rw [fa_eq, show (0 : Int32).toInt = 0 from by decide] at c138; exact c138
                                      refine lv_iconst (v := 0) hx hb dX11_done_227 (by decide) ?_
                                      have lt139 : (0 : Int32).toInt = 0 := by decide
                                      refine cbSi (n := 1) (rest := []) hx hb hml hown hts hE hP hD hS hA (sY_X11_truth_1 NF l dC dI cy y0 r 0 v f w g hIv hCf hRf ) k_1761 k_1762 k_114 k_1763 (by decide +kernel) ⟨Nat.le_of_ble_eq_true rfl, Nat.le_of_ble_eq_true rfl⟩ (rfl) hl.1 rfl (Nat.le_of_ble_eq_true rfl) dX11_done_228 (fun r140 u H locs hw hP hD hS => ?_)
                                      obtain ⟨hG141, hw⟩ := hw
                                      exact ret r140 () _ _ _ _ _ _ rfl (gsY_X11_done_1_q38 c1 c4 c16 c28 c40 c52 c54 c56 c68 c70 c82 c85 c97 c109 c121 c133 c134 c138 hG141.symm) hP hD hS dX11_done_231 (Nat.le_refl _) (Nat.le_refl _)
                                    · skip
                                      have zc138 : ¬ (p2.toInt = 0) := by rw [fa_eq, show (0 : Int32).toInt = 0 from by decide] at c138; exact c138
                                      refine lv_iconst (v := 1) hx hb dX11_done_223 (by decide) ?_
                                      refine lv_goto (tgt := 228) hx hb dX11_done_224 (by decide) ?_
                                      have lt142 : (1 : Int32).toInt = 1 := by decide
                                      refine cbSi (n := 1) (rest := []) hx hb hml hown hts hE hP hD hS hA (sY_X11_truth_1 NF l dC dI cy y0 r 1 v f w g hIv hCf hRf ) k_1761 k_1762 k_114 k_1763 (by decide +kernel) ⟨Nat.le_of_ble_eq_true rfl, Nat.le_of_ble_eq_true rfl⟩ (rfl) hl.1 rfl (Nat.le_of_ble_eq_true rfl) dX11_done_228 (fun r143 u H locs hw hP hD hS => ?_)
                                      obtain ⟨hG144, hw⟩ := hw
                                      exact ret r143 () _ _ _ _ _ _ rfl (gsY_X11_done_1_q39 c1 c4 c16 c28 c40 c52 c54 c56 c68 c70 c82 c85 c97 c109 c121 c133 c134 c138 hG144.symm) hP hD hS dX11_done_231 (Nat.le_refl _) (Nat.le_refl _)
                                · skip
                                  have zc133 : ¬ (p0.toInt = 52) := by rw [fa_eq, show (52 : Int32).toInt = 52 from by decide] at c133; exact c133
                                  by_cases c145 : p0 = 53
                                  · skip
                                    refine lv_tableIn (off := 214) (tgt := 215) hx hb dX11_done_1 (by rw [c145]; decide) (by rw [c145]; decide) (by rw [c145]; decide) (by decide) ?_
                                    have zc145 : p0.toInt = 53 := by rw [fa_eq, show (53 : Int32).toInt = 53 from by decide] at c145; exact c145
                                    refine lv_iload_n hx hb dX11_done_215 rfl (lv_at hl 1 rfl) ?_
                                    refine lv_if_ne (tgt := 223) hx hb dX11_done_216 (by decide) (fun c146 => ?_) (fun c146 => ?_)
                                    · skip
                                      have zc146 : ¬ (p1.toInt = 0) := by rw [fa_eq, show (0 : Int32).toInt = 0 from by decide] at c146; exact c146
                                      refine lv_iconst (v := 1) hx hb dX11_done_223 (by decide) ?_
                                      refine lv_goto (tgt := 228) hx hb dX11_done_224 (by decide) ?_
                                      have lt147 : (1 : Int32).toInt = 1 := by decide
                                      refine cbSi (n := 1) (rest := []) hx hb hml hown hts hE hP hD hS hA (sY_X11_truth_1 NF l dC dI cy y0 r 1 v f w g hIv hCf hRf ) k_1761 k_1762 k_114 k_1763 (by decide +kernel) ⟨Nat.le_of_ble_eq_true rfl, Nat.le_of_ble_eq_true rfl⟩ (rfl) hl.1 rfl (Nat.le_of_ble_eq_true rfl) dX11_done_228 (fun r148 u H locs hw hP hD hS => ?_)
                                      obtain ⟨hG149, hw⟩ := hw
                                      exact ret r148 () _ _ _ _ _ _ rfl (gsY_X11_done_1_q40 c1 c4 c16 c28 c40 c52 c54 c56 c68 c70 c82 c85 c97 c109 c121 c133 c145 c146 hG149.symm) hP hD hS dX11_done_231 (Nat.le_refl _) (Nat.le_refl _)
                                    · skip
                                      have zc146 : p1.toInt = 0 := by rw [fa_eq, show (0 : Int32).toInt = 0 from by decide] at c146; exact c146
                                      refine lv_iload_n hx hb dX11_done_219 rfl (lv_at hl 2 rfl) ?_
                                      refine lv_if_eq (tgt := 227) hx hb dX11_done_220 (by decide) (fun c150 => ?_) (fun c150 => ?_)
                                      · skip
                                        have zc150 : p2.toInt = 0 := by rw [fa_eq, show (0 : Int32).toInt = 0 from by decide] at c150; exact c150
                                        refine lv_iconst (v := 0) hx hb dX11_done_227 (by decide) ?_
                                        have lt151 : (0 : Int32).toInt = 0 := by decide
                                        refine cbSi (n := 1) (rest := []) hx hb hml hown hts hE hP hD hS hA (sY_X11_truth_1 NF l dC dI cy y0 r 0 v f w g hIv hCf hRf ) k_1761 k_1762 k_114 k_1763 (by decide +kernel) ⟨Nat.le_of_ble_eq_true rfl, Nat.le_of_ble_eq_true rfl⟩ (rfl) hl.1 rfl (Nat.le_of_ble_eq_true rfl) dX11_done_228 (fun r152 u H locs hw hP hD hS => ?_)
                                        obtain ⟨hG153, hw⟩ := hw
                                        exact ret r152 () _ _ _ _ _ _ rfl (gsY_X11_done_1_q41 c1 c4 c16 c28 c40 c52 c54 c56 c68 c70 c82 c85 c97 c109 c121 c133 c145 c146 c150 hG153.symm) hP hD hS dX11_done_231 (Nat.le_refl _) (Nat.le_refl _)
                                      · skip
                                        have zc150 : ¬ (p2.toInt = 0) := by rw [fa_eq, show (0 : Int32).toInt = 0 from by decide] at c150; exact c150
                                        refine lv_iconst (v := 1) hx hb dX11_done_223 (by decide) ?_
                                        refine lv_goto (tgt := 228) hx hb dX11_done_224 (by decide) ?_
                                        have lt154 : (1 : Int32).toInt = 1 := by decide
                                        refine cbSi (n := 1) (rest := []) hx hb hml hown hts hE hP hD hS hA (sY_X11_truth_1 NF l dC dI cy y0 r 1 v f w g hIv hCf hRf ) k_1761 k_1762 k_114 k_1763 (by decide +kernel) ⟨Nat.le_of_ble_eq_true rfl, Nat.le_of_ble_eq_true rfl⟩ (rfl) hl.1 rfl (Nat.le_of_ble_eq_true rfl) dX11_done_228 (fun r155 u H locs hw hP hD hS => ?_)
                                        obtain ⟨hG156, hw⟩ := hw
                                        exact ret r155 () _ _ _ _ _ _ rfl (gsY_X11_done_1_q42 c1 c4 c16 c28 c40 c52 c54 c56 c68 c70 c82 c85 c97 c109 c121 c133 c145 c146 c150 hG156.symm) hP hD hS dX11_done_231 (Nat.le_refl _) (Nat.le_refl _)
                                  · skip
                                    have zc145 : ¬ (p0.toInt = 53) := by rw [fa_eq, show (53 : Int32).toInt = 53 from by decide] at c145; exact c145
                                    by_cases c157 : p0 = 54
                                    · skip
                                      refine lv_tableIn (off := 214) (tgt := 215) hx hb dX11_done_1 (by rw [c157]; decide) (by rw [c157]; decide) (by rw [c157]; decide) (by decide) ?_
                                      have zc157 : p0.toInt = 54 := by rw [fa_eq, show (54 : Int32).toInt = 54 from by decide] at c157; exact c157
                                      refine lv_iload_n hx hb dX11_done_215 rfl (lv_at hl 1 rfl) ?_
                                      refine lv_if_ne (tgt := 223) hx hb dX11_done_216 (by decide) (fun c158 => ?_) (fun c158 => ?_)
                                      · skip
                                        have zc158 : ¬ (p1.toInt = 0) := by rw [fa_eq, show (0 : Int32).toInt = 0 from by decide] at c158; exact c158
                                        refine lv_iconst (v := 1) hx hb dX11_done_223 (by decide) ?_
                                        refine lv_goto (tgt := 228) hx hb dX11_done_224 (by decide) ?_
                                        have lt159 : (1 : Int32).toInt = 1 := by decide
                                        refine cbSi (n := 1) (rest := []) hx hb hml hown hts hE hP hD hS hA (sY_X11_truth_1 NF l dC dI cy y0 r 1 v f w g hIv hCf hRf ) k_1761 k_1762 k_114 k_1763 (by decide +kernel) ⟨Nat.le_of_ble_eq_true rfl, Nat.le_of_ble_eq_true rfl⟩ (rfl) hl.1 rfl (Nat.le_of_ble_eq_true rfl) dX11_done_228 (fun r160 u H locs hw hP hD hS => ?_)
                                        obtain ⟨hG161, hw⟩ := hw
                                        exact ret r160 () _ _ _ _ _ _ rfl (gsY_X11_done_1_q43 c1 c4 c16 c28 c40 c52 c54 c56 c68 c70 c82 c85 c97 c109 c121 c133 c145 c157 c158 hG161.symm) hP hD hS dX11_done_231 (Nat.le_refl _) (Nat.le_refl _)
                                      · skip
                                        have zc158 : p1.toInt = 0 := by rw [fa_eq, show (0 : Int32).toInt = 0 from by decide] at c158; exact c158
                                        refine lv_iload_n hx hb dX11_done_219 rfl (lv_at hl 2 rfl) ?_
                                        refine lv_if_eq (tgt := 227) hx hb dX11_done_220 (by decide) (fun c162 => ?_) (fun c162 => ?_)
                                        · skip
                                          have zc162 : p2.toInt = 0 := by rw [fa_eq, show (0 : Int32).toInt = 0 from by decide] at c162; exact c162
                                          refine lv_iconst (v := 0) hx hb dX11_done_227 (by decide) ?_
                                          have lt163 : (0 : Int32).toInt = 0 := by decide
                                          refine cbSi (n := 1) (rest := []) hx hb hml hown hts hE hP hD hS hA (sY_X11_truth_1 NF l dC dI cy y0 r 0 v f w g hIv hCf hRf ) k_1761 k_1762 k_114 k_1763 (by decide +kernel) ⟨Nat.le_of_ble_eq_true rfl, Nat.le_of_ble_eq_true rfl⟩ (rfl) hl.1 rfl (Nat.le_of_ble_eq_true rfl) dX11_done_228 (fun r164 u H locs hw hP hD hS => ?_)
                                          obtain ⟨hG165, hw⟩ := hw
                                          exact ret r164 () _ _ _ _ _ _ rfl (gsY_X11_done_1_q44 c1 c4 c16 c28 c40 c52 c54 c56 c68 c70 c82 c85 c97 c109 c121 c133 c145 c157 c158 c162 hG165.symm) hP hD hS dX11_done_231 (Nat.le_refl _) (Nat.le_refl _)
                                        · skip
                                          have zc162 : ¬ (p2.toInt = 0) := by rw [fa_eq, show (0 : Int32).toInt = 0 from by decide] at c162; exact c162
                                          refine lv_iconst (v := 1) hx hb dX11_done_223 (by decide) ?_
                                          refine lv_goto (tgt := 228) hx hb dX11_done_224 (by decide) ?_
                                          have lt166 : (1 : Int32).toInt = 1 := by decide
                                          refine cbSi (n := 1) (rest := []) hx hb hml hown hts hE hP hD hS hA (sY_X11_truth_1 NF l dC dI cy y0 r 1 v f w g hIv hCf hRf ) k_1761 k_1762 k_114 k_1763 (by decide +kernel) ⟨Nat.le_of_ble_eq_true rfl, Nat.le_of_ble_eq_true rfl⟩ (rfl) hl.1 rfl (Nat.le_of_ble_eq_true rfl) dX11_done_228 (fun r167 u H locs hw hP hD hS => ?_)
                                          obtain ⟨hG168, hw⟩ := hw
                                          exact ret r167 () _ _ _ _ _ _ rfl (gsY_X11_done_1_q45 c1 c4 c16 c28 c40 c52 c54 c56 c68 c70 c82 c85 c97 c109 c121 c133 c145 c157 c158 c162 hG168.symm) hP hD hS dX11_done_231 (Nat.le_refl _) (Nat.le_refl _)
                                    · skip
                                      have zc157 : ¬ (p0.toInt = 54) := by rw [fa_eq, show (54 : Int32).toInt = 54 from by decide] at c157; exact c157
                                      by_cases c169 : p0 = 55
                                      · skip
                                        refine lv_tableIn (off := 214) (tgt := 215) hx hb dX11_done_1 (by rw [c169]; decide) (by rw [c169]; decide) (by rw [c169]; decide) (by decide) ?_
                                        have zc169 : p0.toInt = 55 := by rw [fa_eq, show (55 : Int32).toInt = 55 from by decide] at c169; exact c169
                                        refine lv_iload_n hx hb dX11_done_215 rfl (lv_at hl 1 rfl) ?_
                                        refine lv_if_ne (tgt := 223) hx hb dX11_done_216 (by decide) (fun c170 => ?_) (fun c170 => ?_)
                                        · skip
                                          have zc170 : ¬ (p1.toInt = 0) := by rw [fa_eq, show (0 : Int32).toInt = 0 from by decide] at c170; exact c170
                                          refine lv_iconst (v := 1) hx hb dX11_done_223 (by decide) ?_
                                          refine lv_goto (tgt := 228) hx hb dX11_done_224 (by decide) ?_
                                          have lt171 : (1 : Int32).toInt = 1 := by decide
                                          refine cbSi (n := 1) (rest := []) hx hb hml hown hts hE hP hD hS hA (sY_X11_truth_1 NF l dC dI cy y0 r 1 v f w g hIv hCf hRf ) k_1761 k_1762 k_114 k_1763 (by decide +kernel) ⟨Nat.le_of_ble_eq_true rfl, Nat.le_of_ble_eq_true rfl⟩ (rfl) hl.1 rfl (Nat.le_of_ble_eq_true rfl) dX11_done_228 (fun r172 u H locs hw hP hD hS => ?_)
                                          obtain ⟨hG173, hw⟩ := hw
                                          exact ret r172 () _ _ _ _ _ _ rfl (gsY_X11_done_1_q46 c1 c4 c16 c28 c40 c52 c54 c56 c68 c70 c82 c85 c97 c109 c121 c133 c145 c157 c169 c170 hG173.symm) hP hD hS dX11_done_231 (Nat.le_refl _) (Nat.le_refl _)
                                        · skip
                                          have zc170 : p1.toInt = 0 := by rw [fa_eq, show (0 : Int32).toInt = 0 from by decide] at c170; exact c170
                                          refine lv_iload_n hx hb dX11_done_219 rfl (lv_at hl 2 rfl) ?_
                                          refine lv_if_eq (tgt := 227) hx hb dX11_done_220 (by decide) (fun c174 => ?_) (fun c174 => ?_)
                                          · skip
                                            have zc174 : p2.toInt = 0 := by rw [fa_eq, show (0 : Int32).toInt = 0 from by decide] at c174; exact c174
                                            refine lv_iconst (v := 0) hx hb dX11_done_227 (by decide) ?_
                                            have lt175 : (0 : Int32).toInt = 0 := by decide
                                            refine cbSi (n := 1) (rest := []) hx hb hml hown hts hE hP hD hS hA (sY_X11_truth_1 NF l dC dI cy y0 r 0 v f w g hIv hCf hRf ) k_1761 k_1762 k_114 k_1763 (by decide +kernel) ⟨Nat.le_of_ble_eq_true rfl, Nat.le_of_ble_eq_true rfl⟩ (rfl) hl.1 rfl (Nat.le_of_ble_eq_true rfl) dX11_done_228 (fun r176 u H locs hw hP hD hS => ?_)
                                            obtain ⟨hG177, hw⟩ := hw
                                            exact ret r176 () _ _ _ _ _ _ rfl (gsY_X11_done_1_q47 c1 c4 c16 c28 c40 c52 c54 c56 c68 c70 c82 c85 c97 c109 c121 c133 c145 c157 c169 c170 c174 hG177.symm) hP hD hS dX11_done_231 (Nat.le_refl _) (Nat.le_refl _)
                                          · skip
                                            have zc174 : ¬ (p2.toInt = 0) := by rw [fa_eq, show (0 : Int32).toInt = 0 from by decide] at c174; exact c174
                                            refine lv_iconst (v := 1) hx hb dX11_done_223 (by decide) ?_
                                            refine lv_goto (tgt := 228) hx hb dX11_done_224 (by decide) ?_
                                            have lt178 : (1 : Int32).toInt = 1 := by decide
                                            refine cbSi (n := 1) (rest := []) hx hb hml hown hts hE hP hD hS hA (sY_X11_truth_1 NF l dC dI cy y0 r 1 v f w g hIv hCf hRf ) k_1761 k_1762 k_114 k_1763 (by decide +kernel) ⟨Nat.le_of_ble_eq_true rfl, Nat.le_of_ble_eq_true rfl⟩ (rfl) hl.1 rfl (Nat.le_of_ble_eq_true rfl) dX11_done_228 (fun r179 u H locs hw hP hD hS => ?_)
                                            obtain ⟨hG180, hw⟩ := hw
                                            exact ret r179 () _ _ _ _ _ _ rfl (gsY_X11_done_1_q48 c1 c4 c16 c28 c40 c52 c54 c56 c68 c70 c82 c85 c97 c109 c121 c133 c145 c157 c169 c170 c174 hG180.symm) hP hD hS dX11_done_231 (Nat.le_refl _) (Nat.le_refl _)
                                      · skip
                                        have zc169 : ¬ (p0.toInt = 55) := by rw [fa_eq, show (55 : Int32).toInt = 55 from by decide] at c169; exact c169
                                        by_cases c181 : p0 = 56
                                        · skip
                                          refine lv_tableIn (off := 214) (tgt := 215) hx hb dX11_done_1 (by rw [c181]; decide) (by rw [c181]; decide) (by rw [c181]; decide) (by decide) ?_
                                          have zc181 : p0.toInt = 56 := by rw [fa_eq, show (56 : Int32).toInt = 56 from by decide] at c181; exact c181
                                          refine lv_iload_n hx hb dX11_done_215 rfl (lv_at hl 1 rfl) ?_
                                          refine lv_if_ne (tgt := 223) hx hb dX11_done_216 (by decide) (fun c182 => ?_) (fun c182 => ?_)
                                          · skip
                                            have zc182 : ¬ (p1.toInt = 0) := by rw [fa_eq, show (0 : Int32).toInt = 0 from by decide] at c182; exact c182
                                            refine lv_iconst (v := 1) hx hb dX11_done_223 (by decide) ?_
                                            refine lv_goto (tgt := 228) hx hb dX11_done_224 (by decide) ?_
                                            have lt183 : (1 : Int32).toInt = 1 := by decide
                                            refine cbSi (n := 1) (rest := []) hx hb hml hown hts hE hP hD hS hA (sY_X11_truth_1 NF l dC dI cy y0 r 1 v f w g hIv hCf hRf ) k_1761 k_1762 k_114 k_1763 (by decide +kernel) ⟨Nat.le_of_ble_eq_true rfl, Nat.le_of_ble_eq_true rfl⟩ (rfl) hl.1 rfl (Nat.le_of_ble_eq_true rfl) dX11_done_228 (fun r184 u H locs hw hP hD hS => ?_)
                                            obtain ⟨hG185, hw⟩ := hw
                                            exact ret r184 () _ _ _ _ _ _ rfl (gsY_X11_done_1_q49 c1 c4 c16 c28 c40 c52 c54 c56 c68 c70 c82 c85 c97 c109 c121 c133 c145 c157 c169 c181 c182 hG185.symm) hP hD hS dX11_done_231 (Nat.le_refl _) (Nat.le_refl _)
                                          · skip
                                            have zc182 : p1.toInt = 0 := by rw [fa_eq, show (0 : Int32).toInt = 0 from by decide] at c182; exact c182
                                            refine lv_iload_n hx hb dX11_done_219 rfl (lv_at hl 2 rfl) ?_
                                            refine lv_if_eq (tgt := 227) hx hb dX11_done_220 (by decide) (fun c186 => ?_) (fun c186 => ?_)
                                            · skip
                                              have zc186 : p2.toInt = 0 := by rw [fa_eq, show (0 : Int32).toInt = 0 from by decide] at c186; exact c186
                                              refine lv_iconst (v := 0) hx hb dX11_done_227 (by decide) ?_
                                              have lt187 : (0 : Int32).toInt = 0 := by decide
                                              refine cbSi (n := 1) (rest := []) hx hb hml hown hts hE hP hD hS hA (sY_X11_truth_1 NF l dC dI cy y0 r 0 v f w g hIv hCf hRf ) k_1761 k_1762 k_114 k_1763 (by decide +kernel) ⟨Nat.le_of_ble_eq_true rfl, Nat.le_of_ble_eq_true rfl⟩ (rfl) hl.1 rfl (Nat.le_of_ble_eq_true rfl) dX11_done_228 (fun r188 u H locs hw hP hD hS => ?_)
                                              obtain ⟨hG189, hw⟩ := hw
                                              exact ret r188 () _ _ _ _ _ _ rfl (gsY_X11_done_1_q50 c1 c4 c16 c28 c40 c52 c54 c56 c68 c70 c82 c85 c97 c109 c121 c133 c145 c157 c169 c181 c182 c186 hG189.symm) hP hD hS dX11_done_231 (Nat.le_refl _) (Nat.le_refl _)
                                            · skip
                                              have zc186 : ¬ (p2.toInt = 0) := by rw [fa_eq, show (0 : Int32).toInt = 0 from by decide] at c186; exact c186
                                              refine lv_iconst (v := 1) hx hb dX11_done_223 (by decide) ?_
                                              refine lv_goto (tgt := 228) hx hb dX11_done_224 (by decide) ?_
                                              have lt190 : (1 : Int32).toInt = 1 := by decide
                                              refine cbSi (n := 1) (rest := []) hx hb hml hown hts hE hP hD hS hA (sY_X11_truth_1 NF l dC dI cy y0 r 1 v f w g hIv hCf hRf ) k_1761 k_1762 k_114 k_1763 (by decide +kernel) ⟨Nat.le_of_ble_eq_true rfl, Nat.le_of_ble_eq_true rfl⟩ (rfl) hl.1 rfl (Nat.le_of_ble_eq_true rfl) dX11_done_228 (fun r191 u H locs hw hP hD hS => ?_)
                                              obtain ⟨hG192, hw⟩ := hw
                                              exact ret r191 () _ _ _ _ _ _ rfl (gsY_X11_done_1_q51 c1 c4 c16 c28 c40 c52 c54 c56 c68 c70 c82 c85 c97 c109 c121 c133 c145 c157 c169 c181 c182 c186 hG192.symm) hP hD hS dX11_done_231 (Nat.le_refl _) (Nat.le_refl _)
                                        · skip
                                          have zc181 : ¬ (p0.toInt = 56) := by rw [fa_eq, show (56 : Int32).toInt = 56 from by decide] at c181; exact c181
                                          by_cases c193 : p0 = 57
                                          · skip
                                            refine lv_tableIn (off := 214) (tgt := 215) hx hb dX11_done_1 (by rw [c193]; decide) (by rw [c193]; decide) (by rw [c193]; decide) (by decide) ?_
                                            have zc193 : p0.toInt = 57 := by rw [fa_eq, show (57 : Int32).toInt = 57 from by decide] at c193; exact c193
                                            refine lv_iload_n hx hb dX11_done_215 rfl (lv_at hl 1 rfl) ?_
                                            refine lv_if_ne (tgt := 223) hx hb dX11_done_216 (by decide) (fun c194 => ?_) (fun c194 => ?_)
                                            · skip
                                              have zc194 : ¬ (p1.toInt = 0) := by rw [fa_eq, show (0 : Int32).toInt = 0 from by decide] at c194; exact c194
                                              refine lv_iconst (v := 1) hx hb dX11_done_223 (by decide) ?_
                                              refine lv_goto (tgt := 228) hx hb dX11_done_224 (by decide) ?_
                                              have lt195 : (1 : Int32).toInt = 1 := by decide
                                              refine cbSi (n := 1) (rest := []) hx hb hml hown hts hE hP hD hS hA (sY_X11_truth_1 NF l dC dI cy y0 r 1 v f w g hIv hCf hRf ) k_1761 k_1762 k_114 k_1763 (by decide +kernel) ⟨Nat.le_of_ble_eq_true rfl, Nat.le_of_ble_eq_true rfl⟩ (rfl) hl.1 rfl (Nat.le_of_ble_eq_true rfl) dX11_done_228 (fun r196 u H locs hw hP hD hS => ?_)
                                              obtain ⟨hG197, hw⟩ := hw
                                              exact ret r196 () _ _ _ _ _ _ rfl (gsY_X11_done_1_q52 c1 c4 c16 c28 c40 c52 c54 c56 c68 c70 c82 c85 c97 c109 c121 c133 c145 c157 c169 c181 c193 c194 hG197.symm) hP hD hS dX11_done_231 (Nat.le_refl _) (Nat.le_refl _)
                                            · skip
                                              have zc194 : p1.toInt = 0 := by rw [fa_eq, show (0 : Int32).toInt = 0 from by decide] at c194; exact c194
                                              refine lv_iload_n hx hb dX11_done_219 rfl (lv_at hl 2 rfl) ?_
                                              refine lv_if_eq (tgt := 227) hx hb dX11_done_220 (by decide) (fun c198 => ?_) (fun c198 => ?_)
                                              · skip
                                                have zc198 : p2.toInt = 0 := by rw [fa_eq, show (0 : Int32).toInt = 0 from by decide] at c198; exact c198
                                                refine lv_iconst (v := 0) hx hb dX11_done_227 (by decide) ?_
                                                have lt199 : (0 : Int32).toInt = 0 := by decide
                                                refine cbSi (n := 1) (rest := []) hx hb hml hown hts hE hP hD hS hA (sY_X11_truth_1 NF l dC dI cy y0 r 0 v f w g hIv hCf hRf ) k_1761 k_1762 k_114 k_1763 (by decide +kernel) ⟨Nat.le_of_ble_eq_true rfl, Nat.le_of_ble_eq_true rfl⟩ (rfl) hl.1 rfl (Nat.le_of_ble_eq_true rfl) dX11_done_228 (fun r200 u H locs hw hP hD hS => ?_)
                                                obtain ⟨hG201, hw⟩ := hw
                                                exact ret r200 () _ _ _ _ _ _ rfl (gsY_X11_done_1_q53 c1 c4 c16 c28 c40 c52 c54 c56 c68 c70 c82 c85 c97 c109 c121 c133 c145 c157 c169 c181 c193 c194 c198 hG201.symm) hP hD hS dX11_done_231 (Nat.le_refl _) (Nat.le_refl _)
                                              · skip
                                                have zc198 : ¬ (p2.toInt = 0) := by rw [fa_eq, show (0 : Int32).toInt = 0 from by decide] at c198; exact c198
                                                refine lv_iconst (v := 1) hx hb dX11_done_223 (by decide) ?_
                                                refine lv_goto (tgt := 228) hx hb dX11_done_224 (by decide) ?_
                                                have lt202 : (1 : Int32).toInt = 1 := by decide
                                                refine cbSi (n := 1) (rest := []) hx hb hml hown hts hE hP hD hS hA (sY_X11_truth_1 NF l dC dI cy y0 r 1 v f w g hIv hCf hRf ) k_1761 k_1762 k_114 k_1763 (by decide +kernel) ⟨Nat.le_of_ble_eq_true rfl, Nat.le_of_ble_eq_true rfl⟩ (rfl) hl.1 rfl (Nat.le_of_ble_eq_true rfl) dX11_done_228 (fun r203 u H locs hw hP hD hS => ?_)
                                                obtain ⟨hG204, hw⟩ := hw
                                                exact ret r203 () _ _ _ _ _ _ rfl (gsY_X11_done_1_q54 c1 c4 c16 c28 c40 c52 c54 c56 c68 c70 c82 c85 c97 c109 c121 c133 c145 c157 c169 c181 c193 c194 c198 hG204.symm) hP hD hS dX11_done_231 (Nat.le_refl _) (Nat.le_refl _)
                                          · skip
                                            have zc193 : ¬ (p0.toInt = 57) := by rw [fa_eq, show (57 : Int32).toInt = 57 from by decide] at c193; exact c193
                                            by_cases c205 : p0 = 58
                                            · skip
                                              refine lv_tableIn (off := 214) (tgt := 215) hx hb dX11_done_1 (by rw [c205]; decide) (by rw [c205]; decide) (by rw [c205]; decide) (by decide) ?_
                                              have zc205 : p0.toInt = 58 := by rw [fa_eq, show (58 : Int32).toInt = 58 from by decide] at c205; exact c205
                                              refine lv_iload_n hx hb dX11_done_215 rfl (lv_at hl 1 rfl) ?_
                                              refine lv_if_ne (tgt := 223) hx hb dX11_done_216 (by decide) (fun c206 => ?_) (fun c206 => ?_)
                                              · skip
                                                have zc206 : ¬ (p1.toInt = 0) := by rw [fa_eq, show (0 : Int32).toInt = 0 from by decide] at c206; exact c206
                                                refine lv_iconst (v := 1) hx hb dX11_done_223 (by decide) ?_
                                                refine lv_goto (tgt := 228) hx hb dX11_done_224 (by decide) ?_
                                                have lt207 : (1 : Int32).toInt = 1 := by decide
                                                refine cbSi (n := 1) (rest := []) hx hb hml hown hts hE hP hD hS hA (sY_X11_truth_1 NF l dC dI cy y0 r 1 v f w g hIv hCf hRf ) k_1761 k_1762 k_114 k_1763 (by decide +kernel) ⟨Nat.le_of_ble_eq_true rfl, Nat.le_of_ble_eq_true rfl⟩ (rfl) hl.1 rfl (Nat.le_of_ble_eq_true rfl) dX11_done_228 (fun r208 u H locs hw hP hD hS => ?_)
                                                obtain ⟨hG209, hw⟩ := hw
                                                exact ret r208 () _ _ _ _ _ _ rfl (gsY_X11_done_1_q55 c1 c4 c16 c28 c40 c52 c54 c56 c68 c70 c82 c85 c97 c109 c121 c133 c145 c157 c169 c181 c193 c205 c206 hG209.symm) hP hD hS dX11_done_231 (Nat.le_refl _) (Nat.le_refl _)
                                              · skip
                                                have zc206 : p1.toInt = 0 := by rw [fa_eq, show (0 : Int32).toInt = 0 from by decide] at c206; exact c206
                                                refine lv_iload_n hx hb dX11_done_219 rfl (lv_at hl 2 rfl) ?_
                                                refine lv_if_eq (tgt := 227) hx hb dX11_done_220 (by decide) (fun c210 => ?_) (fun c210 => ?_)
                                                · skip
                                                  have zc210 : p2.toInt = 0 := by rw [fa_eq, show (0 : Int32).toInt = 0 from by decide] at c210; exact c210
                                                  refine lv_iconst (v := 0) hx hb dX11_done_227 (by decide) ?_
                                                  have lt211 : (0 : Int32).toInt = 0 := by decide
                                                  refine cbSi (n := 1) (rest := []) hx hb hml hown hts hE hP hD hS hA (sY_X11_truth_1 NF l dC dI cy y0 r 0 v f w g hIv hCf hRf ) k_1761 k_1762 k_114 k_1763 (by decide +kernel) ⟨Nat.le_of_ble_eq_true rfl, Nat.le_of_ble_eq_true rfl⟩ (rfl) hl.1 rfl (Nat.le_of_ble_eq_true rfl) dX11_done_228 (fun r212 u H locs hw hP hD hS => ?_)
                                                  obtain ⟨hG213, hw⟩ := hw
                                                  exact ret r212 () _ _ _ _ _ _ rfl (gsY_X11_done_1_q56 c1 c4 c16 c28 c40 c52 c54 c56 c68 c70 c82 c85 c97 c109 c121 c133 c145 c157 c169 c181 c193 c205 c206 c210 hG213.symm) hP hD hS dX11_done_231 (Nat.le_refl _) (Nat.le_refl _)
                                                · skip
                                                  have zc210 : ¬ (p2.toInt = 0) := by rw [fa_eq, show (0 : Int32).toInt = 0 from by decide] at c210; exact c210
                                                  refine lv_iconst (v := 1) hx hb dX11_done_223 (by decide) ?_
                                                  refine lv_goto (tgt := 228) hx hb dX11_done_224 (by decide) ?_
                                                  have lt214 : (1 : Int32).toInt = 1 := by decide
                                                  refine cbSi (n := 1) (rest := []) hx hb hml hown hts hE hP hD hS hA (sY_X11_truth_1 NF l dC dI cy y0 r 1 v f w g hIv hCf hRf ) k_1761 k_1762 k_114 k_1763 (by decide +kernel) ⟨Nat.le_of_ble_eq_true rfl, Nat.le_of_ble_eq_true rfl⟩ (rfl) hl.1 rfl (Nat.le_of_ble_eq_true rfl) dX11_done_228 (fun r215 u H locs hw hP hD hS => ?_)
                                                  obtain ⟨hG216, hw⟩ := hw
                                                  exact ret r215 () _ _ _ _ _ _ rfl (gsY_X11_done_1_q57 c1 c4 c16 c28 c40 c52 c54 c56 c68 c70 c82 c85 c97 c109 c121 c133 c145 c157 c169 c181 c193 c205 c206 c210 hG216.symm) hP hD hS dX11_done_231 (Nat.le_refl _) (Nat.le_refl _)
                                            · skip
                                              have zc205 : ¬ (p0.toInt = 58) := by rw [fa_eq, show (58 : Int32).toInt = 58 from by decide] at c205; exact c205
                                              by_cases c217 : p0 = 59
                                              · skip
                                                refine lv_tableIn (off := 214) (tgt := 215) hx hb dX11_done_1 (by rw [c217]; decide) (by rw [c217]; decide) (by rw [c217]; decide) (by decide) ?_
                                                have zc217 : p0.toInt = 59 := by rw [fa_eq, show (59 : Int32).toInt = 59 from by decide] at c217; exact c217
                                                refine lv_iload_n hx hb dX11_done_215 rfl (lv_at hl 1 rfl) ?_
                                                refine lv_if_ne (tgt := 223) hx hb dX11_done_216 (by decide) (fun c218 => ?_) (fun c218 => ?_)
                                                · skip
                                                  have zc218 : ¬ (p1.toInt = 0) := by rw [fa_eq, show (0 : Int32).toInt = 0 from by decide] at c218; exact c218
                                                  refine lv_iconst (v := 1) hx hb dX11_done_223 (by decide) ?_
                                                  refine lv_goto (tgt := 228) hx hb dX11_done_224 (by decide) ?_
                                                  have lt219 : (1 : Int32).toInt = 1 := by decide
                                                  refine cbSi (n := 1) (rest := []) hx hb hml hown hts hE hP hD hS hA (sY_X11_truth_1 NF l dC dI cy y0 r 1 v f w g hIv hCf hRf ) k_1761 k_1762 k_114 k_1763 (by decide +kernel) ⟨Nat.le_of_ble_eq_true rfl, Nat.le_of_ble_eq_true rfl⟩ (rfl) hl.1 rfl (Nat.le_of_ble_eq_true rfl) dX11_done_228 (fun r220 u H locs hw hP hD hS => ?_)
                                                  obtain ⟨hG221, hw⟩ := hw
                                                  exact ret r220 () _ _ _ _ _ _ rfl (gsY_X11_done_1_q58 c1 c4 c16 c28 c40 c52 c54 c56 c68 c70 c82 c85 c97 c109 c121 c133 c145 c157 c169 c181 c193 c205 c217 c218 hG221.symm) hP hD hS dX11_done_231 (Nat.le_refl _) (Nat.le_refl _)
                                                · skip
                                                  have zc218 : p1.toInt = 0 := by rw [fa_eq, show (0 : Int32).toInt = 0 from by decide] at c218; exact c218
                                                  refine lv_iload_n hx hb dX11_done_219 rfl (lv_at hl 2 rfl) ?_
                                                  refine lv_if_eq (tgt := 227) hx hb dX11_done_220 (by decide) (fun c222 => ?_) (fun c222 => ?_)
                                                  · skip
                                                    have zc222 : p2.toInt = 0 := by rw [fa_eq, show (0 : Int32).toInt = 0 from by decide] at c222; exact c222
                                                    refine lv_iconst (v := 0) hx hb dX11_done_227 (by decide) ?_
                                                    have lt223 : (0 : Int32).toInt = 0 := by decide
                                                    refine cbSi (n := 1) (rest := []) hx hb hml hown hts hE hP hD hS hA (sY_X11_truth_1 NF l dC dI cy y0 r 0 v f w g hIv hCf hRf ) k_1761 k_1762 k_114 k_1763 (by decide +kernel) ⟨Nat.le_of_ble_eq_true rfl, Nat.le_of_ble_eq_true rfl⟩ (rfl) hl.1 rfl (Nat.le_of_ble_eq_true rfl) dX11_done_228 (fun r224 u H locs hw hP hD hS => ?_)
                                                    obtain ⟨hG225, hw⟩ := hw
                                                    exact ret r224 () _ _ _ _ _ _ rfl (gsY_X11_done_1_q59 c1 c4 c16 c28 c40 c52 c54 c56 c68 c70 c82 c85 c97 c109 c121 c133 c145 c157 c169 c181 c193 c205 c217 c218 c222 hG225.symm) hP hD hS dX11_done_231 (Nat.le_refl _) (Nat.le_refl _)
                                                  · skip
                                                    have zc222 : ¬ (p2.toInt = 0) := by rw [fa_eq, show (0 : Int32).toInt = 0 from by decide] at c222; exact c222
                                                    refine lv_iconst (v := 1) hx hb dX11_done_223 (by decide) ?_
                                                    refine lv_goto (tgt := 228) hx hb dX11_done_224 (by decide) ?_
                                                    have lt226 : (1 : Int32).toInt = 1 := by decide
                                                    refine cbSi (n := 1) (rest := []) hx hb hml hown hts hE hP hD hS hA (sY_X11_truth_1 NF l dC dI cy y0 r 1 v f w g hIv hCf hRf ) k_1761 k_1762 k_114 k_1763 (by decide +kernel) ⟨Nat.le_of_ble_eq_true rfl, Nat.le_of_ble_eq_true rfl⟩ (rfl) hl.1 rfl (Nat.le_of_ble_eq_true rfl) dX11_done_228 (fun r227 u H locs hw hP hD hS => ?_)
                                                    obtain ⟨hG228, hw⟩ := hw
                                                    exact ret r227 () _ _ _ _ _ _ rfl (gsY_X11_done_1_q60 c1 c4 c16 c28 c40 c52 c54 c56 c68 c70 c82 c85 c97 c109 c121 c133 c145 c157 c169 c181 c193 c205 c217 c218 c222 hG228.symm) hP hD hS dX11_done_231 (Nat.le_refl _) (Nat.le_refl _)
                                              · skip
                                                have zc217 : ¬ (p0.toInt = 59) := by rw [fa_eq, show (59 : Int32).toInt = 59 from by decide] at c217; exact c217
                                                by_cases c229 : p0 = 60
                                                · skip
                                                  refine lv_tableIn (off := 155) (tgt := 156) hx hb dX11_done_1 (by rw [c229]; decide) (by rw [c229]; decide) (by rw [c229]; decide) (by decide) ?_
                                                  have zc229 : p0.toInt = 60 := by rw [fa_eq, show (60 : Int32).toInt = 60 from by decide] at c229; exact c229
                                                  refine lv_iload_n hx hb dX11_done_156 rfl (lv_at hl 1 rfl) ?_
                                                  refine lv_iload_n hx hb dX11_done_157 rfl (lv_at hl 2 rfl) ?_
                                                  refine lv_icmp_ge (tgt := 165) hx hb dX11_done_158 (by decide) (fun c230 => ?_) (fun c230 => ?_)
                                                  · skip
                                                    have zc230 : p2.toInt ≤ p1.toInt := by rw [fa_le] at c230; exact c230
                                                    have rg231 := fb_rng p1
                                                    have rg232 := fb_rng p2
                                                    refine lv_iconst (v := 0) hx hb dX11_done_165 (by decide) ?_
                                                    have lt233 : (0 : Int32).toInt = 0 := by decide
                                                    refine cbSi (n := 1) (rest := []) hx hb hml hown hts hE hP hD hS hA (sY_X11_truth_1 NF l dC dI cy y0 r 0 v f w g hIv hCf hRf ) k_1761 k_1762 k_114 k_1763 (by decide +kernel) ⟨Nat.le_of_ble_eq_true rfl, Nat.le_of_ble_eq_true rfl⟩ (rfl) hl.1 rfl (Nat.le_of_ble_eq_true rfl) dX11_done_166 (fun r234 u H locs hw hP hD hS => ?_)
                                                    obtain ⟨hG235, hw⟩ := hw
                                                    exact ret r234 () _ _ _ _ _ _ rfl (gsY_X11_done_1_q61 c1 c4 c16 c28 c40 c52 c54 c56 c68 c70 c82 c85 c97 c109 c121 c133 c145 c157 c169 c181 c193 c205 c217 c229 c230 hG235.symm) hP hD hS dX11_done_169 (Nat.le_refl _) (Nat.le_refl _)
                                                  · skip
                                                    have zc230 : ¬ (p2.toInt ≤ p1.toInt) := by rw [fa_le] at c230; exact c230
                                                    have rg236 := fb_rng p1
                                                    have rg237 := fb_rng p2
                                                    refine lv_iconst (v := 1) hx hb dX11_done_161 (by decide) ?_
                                                    refine lv_goto (tgt := 166) hx hb dX11_done_162 (by decide) ?_
                                                    have lt238 : (1 : Int32).toInt = 1 := by decide
                                                    refine cbSi (n := 1) (rest := []) hx hb hml hown hts hE hP hD hS hA (sY_X11_truth_1 NF l dC dI cy y0 r 1 v f w g hIv hCf hRf ) k_1761 k_1762 k_114 k_1763 (by decide +kernel) ⟨Nat.le_of_ble_eq_true rfl, Nat.le_of_ble_eq_true rfl⟩ (rfl) hl.1 rfl (Nat.le_of_ble_eq_true rfl) dX11_done_166 (fun r239 u H locs hw hP hD hS => ?_)
                                                    obtain ⟨hG240, hw⟩ := hw
                                                    exact ret r239 () _ _ _ _ _ _ rfl (gsY_X11_done_1_q62 c1 c4 c16 c28 c40 c52 c54 c56 c68 c70 c82 c85 c97 c109 c121 c133 c145 c157 c169 c181 c193 c205 c217 c229 c230 hG240.symm) hP hD hS dX11_done_169 (Nat.le_refl _) (Nat.le_refl _)
                                                · skip
                                                  have zc229 : ¬ (p0.toInt = 60) := by rw [fa_eq, show (60 : Int32).toInt = 60 from by decide] at c229; exact c229
                                                  by_cases c241 : p0 = 61
                                                  · skip
                                                    refine lv_tableIn (off := 183) (tgt := 184) hx hb dX11_done_1 (by rw [c241]; decide) (by rw [c241]; decide) (by rw [c241]; decide) (by decide) ?_
                                                    have zc241 : p0.toInt = 61 := by rw [fa_eq, show (61 : Int32).toInt = 61 from by decide] at c241; exact c241
                                                    refine lv_iload_n hx hb dX11_done_184 rfl (lv_at hl 1 rfl) ?_
                                                    refine lv_iload_n hx hb dX11_done_185 rfl (lv_at hl 2 rfl) ?_
                                                    refine lv_icmp_ne (tgt := 193) hx hb dX11_done_186 (by decide) (fun c242 => ?_) (fun c242 => ?_)
                                                    · skip
                                                      have zc242 : ¬ (p1.toInt = p2.toInt) := by rw [fa_eq] at c242; exact c242
                                                      have rg243 := fb_rng p1
                                                      have rg244 := fb_rng p2
                                                      refine lv_iconst (v := 0) hx hb dX11_done_193 (by decide) ?_
                                                      have lt245 : (0 : Int32).toInt = 0 := by decide
                                                      refine cbSi (n := 1) (rest := []) hx hb hml hown hts hE hP hD hS hA (sY_X11_truth_1 NF l dC dI cy y0 r 0 v f w g hIv hCf hRf ) k_1761 k_1762 k_114 k_1763 (by decide +kernel) ⟨Nat.le_of_ble_eq_true rfl, Nat.le_of_ble_eq_true rfl⟩ (rfl) hl.1 rfl (Nat.le_of_ble_eq_true rfl) dX11_done_194 (fun r246 u H locs hw hP hD hS => ?_)
                                                      obtain ⟨hG247, hw⟩ := hw
                                                      exact ret r246 () _ _ _ _ _ _ rfl (gsY_X11_done_1_q63 c1 c4 c16 c28 c40 c52 c54 c56 c68 c70 c82 c85 c97 c109 c121 c133 c145 c157 c169 c181 c193 c205 c217 c229 c241 c242 hG247.symm) hP hD hS dX11_done_197 (Nat.le_refl _) (Nat.le_refl _)
                                                    · skip
                                                      have zc242 : p1.toInt = p2.toInt := by rw [fa_eq] at c242; exact c242
                                                      have rg248 := fb_rng p1
                                                      have rg249 := fb_rng p2
                                                      refine lv_iconst (v := 1) hx hb dX11_done_189 (by decide) ?_
                                                      refine lv_goto (tgt := 194) hx hb dX11_done_190 (by decide) ?_
                                                      have lt250 : (1 : Int32).toInt = 1 := by decide
                                                      refine cbSi (n := 1) (rest := []) hx hb hml hown hts hE hP hD hS hA (sY_X11_truth_1 NF l dC dI cy y0 r 1 v f w g hIv hCf hRf ) k_1761 k_1762 k_114 k_1763 (by decide +kernel) ⟨Nat.le_of_ble_eq_true rfl, Nat.le_of_ble_eq_true rfl⟩ (rfl) hl.1 rfl (Nat.le_of_ble_eq_true rfl) dX11_done_194 (fun r251 u H locs hw hP hD hS => ?_)
                                                      obtain ⟨hG252, hw⟩ := hw
                                                      exact ret r251 () _ _ _ _ _ _ rfl (gsY_X11_done_1_q64 c1 c4 c16 c28 c40 c52 c54 c56 c68 c70 c82 c85 c97 c109 c121 c133 c145 c157 c169 c181 c193 c205 c217 c229 c241 c242 hG252.symm) hP hD hS dX11_done_197 (Nat.le_refl _) (Nat.le_refl _)
                                                  · skip
                                                    have zc241 : ¬ (p0.toInt = 61) := by rw [fa_eq, show (61 : Int32).toInt = 61 from by decide] at c241; exact c241
                                                    by_cases c253 : p0 = 62
                                                    · skip
                                                      refine lv_tableIn (off := 169) (tgt := 170) hx hb dX11_done_1 (by rw [c253]; decide) (by rw [c253]; decide) (by rw [c253]; decide) (by decide) ?_
                                                      have zc253 : p0.toInt = 62 := by rw [fa_eq, show (62 : Int32).toInt = 62 from by decide] at c253; exact c253
                                                      refine lv_iload_n hx hb dX11_done_170 rfl (lv_at hl 1 rfl) ?_
                                                      refine lv_iload_n hx hb dX11_done_171 rfl (lv_at hl 2 rfl) ?_
                                                      refine lv_icmp_le (tgt := 179) hx hb dX11_done_172 (by decide) (fun c254 => ?_) (fun c254 => ?_)
                                                      · skip
                                                        have zc254 : p1.toInt ≤ p2.toInt := by rw [fa_le] at c254; exact c254
                                                        have rg255 := fb_rng p1
                                                        have rg256 := fb_rng p2
                                                        refine lv_iconst (v := 0) hx hb dX11_done_179 (by decide) ?_
                                                        have lt257 : (0 : Int32).toInt = 0 := by decide
                                                        refine cbSi (n := 1) (rest := []) hx hb hml hown hts hE hP hD hS hA (sY_X11_truth_1 NF l dC dI cy y0 r 0 v f w g hIv hCf hRf ) k_1761 k_1762 k_114 k_1763 (by decide +kernel) ⟨Nat.le_of_ble_eq_true rfl, Nat.le_of_ble_eq_true rfl⟩ (rfl) hl.1 rfl (Nat.le_of_ble_eq_true rfl) dX11_done_180 (fun r258 u H locs hw hP hD hS => ?_)
                                                        obtain ⟨hG259, hw⟩ := hw
                                                        exact ret r258 () _ _ _ _ _ _ rfl (gsY_X11_done_1_q65 c1 c4 c16 c28 c40 c52 c54 c56 c68 c70 c82 c85 c97 c109 c121 c133 c145 c157 c169 c181 c193 c205 c217 c229 c241 c253 c254 hG259.symm) hP hD hS dX11_done_183 (Nat.le_refl _) (Nat.le_refl _)
                                                      · skip
                                                        have zc254 : ¬ (p1.toInt ≤ p2.toInt) := by rw [fa_le] at c254; exact c254
                                                        have rg260 := fb_rng p1
                                                        have rg261 := fb_rng p2
                                                        refine lv_iconst (v := 1) hx hb dX11_done_175 (by decide) ?_
                                                        refine lv_goto (tgt := 180) hx hb dX11_done_176 (by decide) ?_
                                                        have lt262 : (1 : Int32).toInt = 1 := by decide
                                                        refine cbSi (n := 1) (rest := []) hx hb hml hown hts hE hP hD hS hA (sY_X11_truth_1 NF l dC dI cy y0 r 1 v f w g hIv hCf hRf ) k_1761 k_1762 k_114 k_1763 (by decide +kernel) ⟨Nat.le_of_ble_eq_true rfl, Nat.le_of_ble_eq_true rfl⟩ (rfl) hl.1 rfl (Nat.le_of_ble_eq_true rfl) dX11_done_180 (fun r263 u H locs hw hP hD hS => ?_)
                                                        obtain ⟨hG264, hw⟩ := hw
                                                        exact ret r263 () _ _ _ _ _ _ rfl (gsY_X11_done_1_q66 c1 c4 c16 c28 c40 c52 c54 c56 c68 c70 c82 c85 c97 c109 c121 c133 c145 c157 c169 c181 c193 c205 c217 c229 c241 c253 c254 hG264.symm) hP hD hS dX11_done_183 (Nat.le_refl _) (Nat.le_refl _)
                                                    · skip
                                                      have zc253 : ¬ (p0.toInt = 62) := by rw [fa_eq, show (62 : Int32).toInt = 62 from by decide] at c253; exact c253
                                                      refine lv_tableOut (tgt := 215) hx hb dX11_done_1 (by omega) (by decide) ?_
                                                      refine lv_iload_n hx hb dX11_done_215 rfl (lv_at hl 1 rfl) ?_
                                                      refine lv_if_ne (tgt := 223) hx hb dX11_done_216 (by decide) (fun c265 => ?_) (fun c265 => ?_)
                                                      · skip
                                                        have zc265 : ¬ (p1.toInt = 0) := by rw [fa_eq, show (0 : Int32).toInt = 0 from by decide] at c265; exact c265
                                                        refine lv_iconst (v := 1) hx hb dX11_done_223 (by decide) ?_
                                                        refine lv_goto (tgt := 228) hx hb dX11_done_224 (by decide) ?_
                                                        have lt266 : (1 : Int32).toInt = 1 := by decide
                                                        refine cbSi (n := 1) (rest := []) hx hb hml hown hts hE hP hD hS hA (sY_X11_truth_1 NF l dC dI cy y0 r 1 v f w g hIv hCf hRf ) k_1761 k_1762 k_114 k_1763 (by decide +kernel) ⟨Nat.le_of_ble_eq_true rfl, Nat.le_of_ble_eq_true rfl⟩ (rfl) hl.1 rfl (Nat.le_of_ble_eq_true rfl) dX11_done_228 (fun r267 u H locs hw hP hD hS => ?_)
                                                        obtain ⟨hG268, hw⟩ := hw
                                                        exact ret r267 () _ _ _ _ _ _ rfl (gsY_X11_done_1_q67 c1 c4 c16 c28 c40 c52 c54 c56 c68 c70 c82 c85 c97 c109 c121 c133 c145 c157 c169 c181 c193 c205 c217 c229 c241 c253 c265 hG268.symm) hP hD hS dX11_done_231 (Nat.le_refl _) (Nat.le_refl _)
                                                      · skip
                                                        have zc265 : p1.toInt = 0 := by rw [fa_eq, show (0 : Int32).toInt = 0 from by decide] at c265; exact c265
                                                        refine lv_iload_n hx hb dX11_done_219 rfl (lv_at hl 2 rfl) ?_
                                                        refine lv_if_eq (tgt := 227) hx hb dX11_done_220 (by decide) (fun c269 => ?_) (fun c269 => ?_)
                                                        · skip
                                                          have zc269 : p2.toInt = 0 := by rw [fa_eq, show (0 : Int32).toInt = 0 from by decide] at c269; exact c269
                                                          refine lv_iconst (v := 0) hx hb dX11_done_227 (by decide) ?_
                                                          have lt270 : (0 : Int32).toInt = 0 := by decide
                                                          refine cbSi (n := 1) (rest := []) hx hb hml hown hts hE hP hD hS hA (sY_X11_truth_1 NF l dC dI cy y0 r 0 v f w g hIv hCf hRf ) k_1761 k_1762 k_114 k_1763 (by decide +kernel) ⟨Nat.le_of_ble_eq_true rfl, Nat.le_of_ble_eq_true rfl⟩ (rfl) hl.1 rfl (Nat.le_of_ble_eq_true rfl) dX11_done_228 (fun r271 u H locs hw hP hD hS => ?_)
                                                          obtain ⟨hG272, hw⟩ := hw
                                                          exact ret r271 () _ _ _ _ _ _ rfl (gsY_X11_done_1_q68 c1 c4 c16 c28 c40 c52 c54 c56 c68 c70 c82 c85 c97 c109 c121 c133 c145 c157 c169 c181 c193 c205 c217 c229 c241 c253 c265 c269 hG272.symm) hP hD hS dX11_done_231 (Nat.le_refl _) (Nat.le_refl _)
                                                        · skip
                                                          have zc269 : ¬ (p2.toInt = 0) := by rw [fa_eq, show (0 : Int32).toInt = 0 from by decide] at c269; exact c269
                                                          refine lv_iconst (v := 1) hx hb dX11_done_223 (by decide) ?_
                                                          refine lv_goto (tgt := 228) hx hb dX11_done_224 (by decide) ?_
                                                          have lt273 : (1 : Int32).toInt = 1 := by decide
                                                          refine cbSi (n := 1) (rest := []) hx hb hml hown hts hE hP hD hS hA (sY_X11_truth_1 NF l dC dI cy y0 r 1 v f w g hIv hCf hRf ) k_1761 k_1762 k_114 k_1763 (by decide +kernel) ⟨Nat.le_of_ble_eq_true rfl, Nat.le_of_ble_eq_true rfl⟩ (rfl) hl.1 rfl (Nat.le_of_ble_eq_true rfl) dX11_done_228 (fun r274 u H locs hw hP hD hS => ?_)
                                                          obtain ⟨hG275, hw⟩ := hw
                                                          exact ret r274 () _ _ _ _ _ _ rfl (gsY_X11_done_1_q69 c1 c4 c16 c28 c40 c52 c54 c56 c68 c70 c82 c85 c97 c109 c121 c133 c145 c157 c169 c181 c193 c205 c217 c229 c241 c253 c265 c269 hG275.symm) hP hD hS dX11_done_231 (Nat.le_refl _) (Nat.le_refl _)
