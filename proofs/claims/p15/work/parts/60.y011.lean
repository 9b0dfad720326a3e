set_option maxHeartbeats 4000000 in
set_option maxRecDepth 100000 in
theorem sY_X11_done_1 (NF : Nat) (l : Launch) (dC : Nat → ClassId) (dI : Nat → Nat → Nat) (cy : Nat → ClassId) (y0 : Nat) (r : Nat → Nat) (p0 : Int32) (p1 : Int32) (p2 : Int32) (v : Nat → Int32) (f : Nat → Nat → Int32) (w : Int64) (g : Nat → Int64) (hIv : YI v) (hCf : YC f) (hRf : progOK (f 4) (f 5) (v 9).toInt.toNat)  : ctI l (dC, dI) cy yX11_done cX11_done 3 .int 2 80 0 0 Unit [.int p0, .int p1, .int p2] (YW cy y0 r v f w g) (fun r u => gsY_X11_done_1 NF p0 p1 p2 v f w g = r) (fun u => YW cy y0 r v f w g) := by
  refine ctI_of (by decide) (Nat.le_of_ble_eq_true rfl) (fun p e s m below meth c A ls Q hx hb hml hts hown hE hP hD hA hl ret => ?_)
  have hUv : (v 35).toInt + (v 36).toInt ≤ 40 := hIv.2
  have hown : s.vm.findClass RX11 = some m.cls := hown
  have hS : va_S A s.heap s.heap [] := va_S.rf
  have hl : lv_has ls 3 [(0, .int p0), (1, .int p1), (2, .int p2)] := hl
  refine lv_iload_n hx hb dX11_done_0 rfl (lv_at hl 0 rfl) ?_
  by_cases c1 : p0 = 37
  · skip
    refine lv_tableIn (off := 143) (tgt := 144) hx hb dX11_done_1 (by rw [c1]; decide) (by rw [c1]; decide) (by rw [c1]; decide) (by decide) ?_
    have zc1 : p0.toInt = 37 := by rw [fa_eq, show (37 : Int32).toInt = 37 from by decide] at c1; exact c1
    refine lv_iload_n hx hb dX11_done_144 rfl (lv_at hl 2 rfl) ?_
    refine lv_if_ne (tgt := 152) hx hb dX11_done_145 (by decide) (fun c2 => ?_) (fun c2 => ?_)
    · skip
      have zc2 : ¬ (p2.toInt = 0) := by rw [fa_eq, show (0 : Int32).toInt = 0 from by decide] at c2; exact c2
      refine lv_iload_n hx hb dX11_done_152 rfl (lv_at hl 1 rfl) ?_
      refine lv_iload_n hx hb dX11_done_153 rfl (lv_at hl 2 rfl) ?_
      refine lv_irem hx hb dX11_done_154 (ne0 (by omega)) ?_
      refine lv_topi (fun t3 et3 => ?_)
      exact ret t3 () _ _ _ _ _ _ rfl (gsY_X11_done_1_q0 c1 c2 et3) hP hD hS dX11_done_155 (Nat.le_refl _) (Nat.le_refl _)
    · skip
      have zc2 : p2.toInt = 0 := by rw [fa_eq, show (0 : Int32).toInt = 0 from by decide] at c2; exact c2
      refine lv_iconst (v := 0) hx hb dX11_done_148 (by decide) ?_
      refine lv_goto (tgt := 155) hx hb dX11_done_149 (by decide) ?_
      exact ret 0 () _ _ _ _ _ _ rfl (gsY_X11_done_1_q1 c1 c2) hP hD hS dX11_done_155 (Nat.le_refl _) (Nat.le_refl _)
  · skip
    have zc1 : ¬ (p0.toInt = 37) := by rw [fa_eq, show (37 : Int32).toInt = 37 from by decide] at c1; exact c1
    by_cases c4 : p0 = 38
    · skip
      refine lv_tableIn (off := 197) (tgt := 198) hx hb dX11_done_1 (by rw [c4]; decide) (by rw [c4]; decide) (by rw [c4]; decide) (by decide) ?_
      have zc4 : p0.toInt = 38 := by rw [fa_eq, show (38 : Int32).toInt = 38 from by decide] at c4; exact c4
      refine lv_iload_n hx hb dX11_done_198 rfl (lv_at hl 1 rfl) ?_
      refine lv_if_eq (tgt := 210) hx hb dX11_done_199 (by decide) (fun c5 => ?_) (fun c5 => ?_)
      · skip
        have zc5 : p1.toInt = 0 := by rw [fa_eq, show (0 : Int32).toInt = 0 from by decide] at c5; exact c5
        refine lv_iconst (v := 0) hx hb dX11_done_210 (by decide) ?_
        have lt6 : (0 : Int32).toInt = 0 := by decide
        refine cbSi (n := 1) (rest := []) hx hb hml hown hts hE hP hD hS hA (sY_X11_truth_1 NF l dC dI cy y0 r 0 v f w g hIv hCf hRf ) k_1761 k_1762 k_114 k_1763 (by decide +kernel) ⟨Nat.le_of_ble_eq_true rfl, Nat.le_of_ble_eq_true rfl⟩ (rfl) hl.1 rfl (Nat.le_of_ble_eq_true rfl) dX11_done_211 (fun r7 u H locs hw hP hD hS => ?_)
        obtain ⟨hG8, hw⟩ := hw
        exact ret r7 () _ _ _ _ _ _ rfl (gsY_X11_done_1_q2 c1 c4 c5 hG8.symm) hP hD hS dX11_done_214 (Nat.le_refl _) (Nat.le_refl _)
      · skip
        have zc5 : ¬ (p1.toInt = 0) := by rw [fa_eq, show (0 : Int32).toInt = 0 from by decide] at c5; exact c5
        refine lv_iload_n hx hb dX11_done_202 rfl (lv_at hl 2 rfl) ?_
        refine lv_if_eq (tgt := 210) hx hb dX11_done_203 (by decide) (fun c9 => ?_) (fun c9 => ?_)
        · skip
          have zc9 : p2.toInt = 0 := by rw [fa_eq, show (0 : Int32).toInt = 0 from by decide] at c9; exact c9
          refine lv_iconst (v := 0) hx hb dX11_done_210 (by decide) ?_
          have lt10 : (0 : Int32).toInt = 0 := by decide
          refine cbSi (n := 1) (rest := []) hx hb hml hown hts hE hP hD hS hA (sY_X11_truth_1 NF l dC dI cy y0 r 0 v f w g hIv hCf hRf ) k_1761 k_1762 k_114 k_1763 (by decide +kernel) ⟨Nat.le_of_ble_eq_true rfl, Nat.le_of_ble_eq_true rfl⟩ (rfl) hl.1 rfl (Nat.le_of_ble_eq_true rfl) dX11_done_211 (fun r11 u H locs hw hP hD hS => ?_)
          obtain ⟨hG12, hw⟩ := hw
          exact ret r11 () _ _ _ _ _ _ rfl (gsY_X11_done_1_q3 c1 c4 c5 c9 hG12.symm) hP hD hS dX11_done_214 (Nat.le_refl _) (Nat.le_refl _)
        · skip
          have zc9 : ¬ (p2.toInt = 0) := by rw [fa_eq, show (0 : Int32).toInt = 0 from by decide] at c9; exact c9
          refine lv_iconst (v := 1) hx hb dX11_done_206 (by decide) ?_
          refine lv_goto (tgt := 211) hx hb dX11_done_207 (by decide) ?_
          have lt13 : (1 : Int32).toInt = 1 := by decide
          refine cbSi (n := 1) (rest := []) hx hb hml hown hts hE hP hD hS hA (sY_X11_truth_1 NF l dC dI cy y0 r 1 v f w g hIv hCf hRf ) k_1761 k_1762 k_114 k_1763 (by decide +kernel) ⟨Nat.le_of_ble_eq_true rfl, Nat.le_of_ble_eq_true rfl⟩ (rfl) hl.1 rfl (Nat.le_of_ble_eq_true rfl) dX11_done_211 (fun r14 u H locs hw hP hD hS => ?_)
          obtain ⟨hG15, hw⟩ := hw
          exact ret r14 () _ _ _ _ _ _ rfl (gsY_X11_done_1_q4 c1 c4 c5 c9 hG15.symm) hP hD hS dX11_done_214 (Nat.le_refl _) (Nat.le_refl _)
    · skip
      have zc4 : ¬ (p0.toInt = 38) := by rw [fa_eq, show (38 : Int32).toInt = 38 from by decide] at c4; exact c4
      by_cases c16 : p0 = 39
      · skip
        refine lv_tableIn (off := 214) (tgt := 215) hx hb dX11_done_1 (by rw [c16]; decide) (by rw [c16]; decide) (by rw [c16]; decide) (by decide) ?_
        have zc16 : p0.toInt = 39 := by rw [fa_eq, show (39 : Int32).toInt = 39 from by decide] at c16; exact c16
        refine lv_iload_n hx hb dX11_done_215 rfl (lv_at hl 1 rfl) ?_
        refine lv_if_ne (tgt := 223) hx hb dX11_done_216 (by decide) (fun c17 => ?_) (fun c17 => ?_)
        · skip
          have zc17 : ¬ (p1.toInt = 0) := by rw [fa_eq, show (0 : Int32).toInt = 0 from by decide] at c17; exact c17
          refine lv_iconst (v := 1) hx hb dX11_done_223 (by decide) ?_
          refine lv_goto (tgt := 228) hx hb dX11_done_224 (by decide) ?_
          have lt18 : (1 : Int32).toInt = 1 := by decide
          refine cbSi (n := 1) (rest := []) hx hb hml hown hts hE hP hD hS hA (sY_X11_truth_1 NF l dC dI cy y0 r 1 v f w g hIv hCf hRf ) k_1761 k_1762 k_114 k_1763 (by decide +kernel) ⟨Nat.le_of_ble_eq_true rfl, Nat.le_of_ble_eq_true rfl⟩ (rfl) hl.1 rfl (Nat.le_of_ble_eq_true rfl) dX11_done_228 (fun r19 u H locs hw hP hD hS => ?_)
          obtain ⟨hG20, hw⟩ := hw
          exact ret r19 () _ _ _ _ _ _ rfl (gsY_X11_done_1_q5 c1 c4 c16 c17 hG20.symm) hP hD hS dX11_done_231 (Nat.le_refl _) (Nat.le_refl _)
        · skip
          have zc17 : p1.toInt = 0 := by rw [fa_eq, show (0 : Int32).toInt = 0 from by decide] at c17; exact c17
          refine lv_iload_n hx hb dX11_done_219 rfl (lv_at hl 2 rfl) ?_
          refine lv_if_eq (tgt := 227) hx hb dX11_done_220 (by decide) (fun c21 => ?_) (fun c21 => ?_)
          · skip
            have zc21 : p2.toInt = 0 := by rw [fa_eq, show (0 : Int32).toInt = 0 from by decide] at c21; exact c21
            refine lv_iconst (v := 0) hx hb dX11_done_227 (by decide) ?_
            have lt22 : (0 : Int32).toInt = 0 := by decide
            refine cbSi (n := 1) (rest := []) hx hb hml hown hts hE hP hD hS hA (sY_X11_truth_1 NF l dC dI cy y0 r 0 v f w g hIv hCf hRf ) k_1761 k_1762 k_114 k_1763 (by decide +kernel) ⟨Nat.le_of_ble_eq_true rfl, Nat.le_of_ble_eq_true rfl⟩ (rfl) hl.1 rfl (Nat.le_of_ble_eq_true rfl) dX11_done_228 (fun r23 u H locs hw hP hD hS => ?_)
            obtain ⟨hG24, hw⟩ := hw
            exact ret r23 () _ _ _ _ _ _ rfl (gsY_X11_done_1_q6 c1 c4 c16 c17 c21 hG24.symm) hP hD hS dX11_done_231 (Nat.le_refl _) (Nat.le_refl _)
          · skip
            have zc21 : ¬ (p2.toInt = 0) := by rw [fa_eq, show (0 : Int32).toInt = 0 from by decide] at c21; exact c21
            refine lv_iconst (v := 1) hx hb dX11_done_223 (by decide) ?_
            refine lv_goto (tgt := 228) hx hb dX11_done_224 (by decide) ?_
            have lt25 : (1 : Int32).toInt = 1 := by decide
            refine cbSi (n := 1) (rest := []) hx hb hml hown hts hE hP hD hS hA (sY_X11_truth_1 NF l dC dI cy y0 r 1 v f w g hIv hCf hRf ) k_1761 k_1762 k_114 k_1763 (by decide +kernel) ⟨Nat.le_of_ble_eq_true rfl, Nat.le_of_ble_eq_true rfl⟩ (rfl) hl.1 rfl (Nat.le_of_ble_eq_true rfl) dX11_done_228 (fun r26 u H locs hw hP hD hS => ?_)
            obtain ⟨hG27, hw⟩ := hw
            exact ret r26 () _ _ _ _ _ _ rfl (gsY_X11_done_1_q7 c1 c4 c16 c17 c21 hG27.symm) hP hD hS dX11_done_231 (Nat.le_refl _) (Nat.le_refl _)
      · skip
        have zc16 : ¬ (p0.toInt = 39) := by rw [fa_eq, show (39 : Int32).toInt = 39 from by decide] at c16; exact c16
        by_cases c28 : p0 = 40
        · skip
          refine lv_tableIn (off := 214) (tgt := 215) hx hb dX11_done_1 (by rw [c28]; decide) (by rw [c28]; decide) (by rw [c28]; decide) (by decide) ?_
          have zc28 : p0.toInt = 40 := by rw [fa_eq, show (40 : Int32).toInt = 40 from by decide] at c28; exact c28
          refine lv_iload_n hx hb dX11_done_215 rfl (lv_at hl 1 rfl) ?_
          refine lv_if_ne (tgt := 223) hx hb dX11_done_216 (by decide) (fun c29 => ?_) (fun c29 => ?_)
          · skip
            have zc29 : ¬ (p1.toInt = 0) := by rw [fa_eq, show (0 : Int32).toInt = 0 from by decide] at c29; exact c29
            refine lv_iconst (v := 1) hx hb dX11_done_223 (by decide) ?_
            refine lv_goto (tgt := 228) hx hb dX11_done_224 (by decide) ?_
            have lt30 : (1 : Int32).toInt = 1 := by decide
            refine cbSi (n := 1) (rest := []) hx hb hml hown hts hE hP hD hS hA (sY_X11_truth_1 NF l dC dI cy y0 r 1 v f w g hIv hCf hRf ) k_1761 k_1762 k_114 k_1763 (by decide +kernel) ⟨Nat.le_of_ble_eq_true rfl, Nat.le_of_ble_eq_true rfl⟩ (rfl) hl.1 rfl (Nat.le_of_ble_eq_true rfl) dX11_done_228 (fun r31 u H locs hw hP hD hS => ?_)
            obtain ⟨hG32, hw⟩ := hw
            exact ret r31 () _ _ _ _ _ _ rfl (gsY_X11_done_1_q8 c1 c4 c16 c28 c29 hG32.symm) hP hD hS dX11_done_231 (Nat.le_refl _) (Nat.le_refl _)
          · skip
            have zc29 : p1.toInt = 0 := by rw [fa_eq, show (0 : Int32).toInt = 0 from by decide] at c29; exact c29
            refine lv_iload_n hx hb dX11_done_219 rfl (lv_at hl 2 rfl) ?_
            refine lv_if_eq (tgt := 227) hx hb dX11_done_220 (by decide) (fun c33 => ?_) (fun c33 => ?_)
            · skip
              have zc33 : p2.toInt = 0 := by rw [fa_eq, show (0 : Int32).toInt = 0 from by decide] at c33; exact c33
              refine lv_iconst (v := 0) hx hb dX11_done_227 (by decide) ?_
              have lt34 : (0 : Int32).toInt = 0 := by decide
              refine cbSi (n := 1) (rest := []) hx hb hml hown hts hE hP hD hS hA (sY_X11_truth_1 NF l dC dI cy y0 r 0 v f w g hIv hCf hRf ) k_1761 k_1762 k_114 k_1763 (by decide +kernel) ⟨Nat.le_of_ble_eq_true rfl, Nat.le_of_ble_eq_true rfl⟩ (rfl) hl.1 rfl (Nat.le_of_ble_eq_true rfl) dX11_done_228 (fun r35 u H locs hw hP hD hS => ?_)
              obtain ⟨hG36, hw⟩ := hw
              exact ret r35 () _ _ _ _ _ _ rfl (gsY_X11_done_1_q9 c1 c4 c16 c28 c29 c33 hG36.symm) hP hD hS dX11_done_231 (Nat.le_refl _) (Nat.le_refl _)
            · skip
              have zc33 : ¬ (p2.toInt = 0) := by rw [fa_eq, show (0 : Int32).toInt = 0 from by decide] at c33; exact c33
              refine lv_iconst (v := 1) hx hb dX11_done_223 (by decide) ?_
              refine lv_goto (tgt := 228) hx hb dX11_done_224 (by decide) ?_
              have lt37 : (1 : Int32).toInt = 1 := by decide
              refine cbSi (n := 1) (rest := []) hx hb hml hown hts hE hP hD hS hA (sY_X11_truth_1 NF l dC dI cy y0 r 1 v f w g hIv hCf hRf ) k_1761 k_1762 k_114 k_1763 (by decide +kernel) ⟨Nat.le_of_ble_eq_true rfl, Nat.le_of_ble_eq_true rfl⟩ (rfl) hl.1 rfl (Nat.le_of_ble_eq_true rfl) dX11_done_228 (fun r38 u H locs hw hP hD hS => ?_)
              obtain ⟨hG39, hw⟩ := hw
              exact ret r38 () _ _ _ _ _ _ rfl (gsY_X11_done_1_q10 c1 c4 c16 c28 c29 c33 hG39.symm) hP hD hS dX11_done_231 (Nat.le_refl _) (Nat.le_refl _)
        · skip
          have zc28 : ¬ (p0.toInt = 40) := by rw [fa_eq, show (40 : Int32).toInt = 40 from by decide] at c28; exact c28
          by_cases c40 : p0 = 41
          · skip
            refine lv_tableIn (off := 214) (tgt := 215) hx hb dX11_done_1 (by rw [c40]; decide) (by rw [c40]; decide) (by rw [c40]; decide) (by decide) ?_
            have zc40 : p0.toInt = 41 := by rw [fa_eq, show (41 : Int32).toInt = 41 from by decide] at c40; exact c40
            refine lv_iload_n hx hb dX11_done_215 rfl (lv_at hl 1 rfl) ?_
            refine lv_if_ne (tgt := 223) hx hb dX11_done_216 (by decide) (fun c41 => ?_) (fun c41 => ?_)
            · skip
              have zc41 : ¬ (p1.toInt = 0) := by rw [fa_eq, show (0 : Int32).toInt = 0 from by decide] at c41; exact c41
              refine lv_iconst (v := 1) hx hb dX11_done_223 (by decide) ?_
              refine lv_goto (tgt := 228) hx hb dX11_done_224 (by decide) ?_
              have lt42 : (1 : Int32).toInt = 1 := by decide
              refine cbSi (n := 1) (rest := []) hx hb hml hown hts hE hP hD hS hA (sY_X11_truth_1 NF l dC dI cy y0 r 1 v f w g hIv hCf hRf ) k_1761 k_1762 k_114 k_1763 (by decide +kernel) ⟨Nat.le_of_ble_eq_true rfl, Nat.le_of_ble_eq_true rfl⟩ (rfl) hl.1 rfl (Nat.le_of_ble_eq_true rfl) dX11_done_228 (fun r43 u H locs hw hP hD hS => ?_)
              obtain ⟨hG44, hw⟩ := hw
              exact ret r43 () _ _ _ _ _ _ rfl (gsY_X11_done_1_q11 c1 c4 c16 c28 c40 c41 hG44.symm) hP hD hS dX11_done_231 (Nat.le_refl _) (Nat.le_refl _)
            · skip
              have zc41 : p1.toInt = 0 := by rw [fa_eq, show (0 : Int32).toInt = 0 from by decide] at c41; exact c41
              refine lv_iload_n hx hb dX11_done_219 rfl (lv_at hl 2 rfl) ?_
              refine lv_if_eq (tgt := 227) hx hb dX11_done_220 (by decide) (fun c45 => ?_) (fun c45 => ?_)
              · skip
                have zc45 : p2.toInt = 0 := by rw [fa_eq, show (0 : Int32).toInt = 0 from by decide] at c45; exact c45
                refine lv_iconst (v := 0) hx hb dX11_done_227 (by decide) ?_
                have lt46 : (0 : Int32).toInt = 0 := by decide
                refine cbSi (n := 1) (rest := []) hx hb hml hown hts hE hP hD hS hA (sY_X11_truth_1 NF l dC dI cy y0 r 0 v f w g hIv hCf hRf ) k_1761 k_1762 k_114 k_1763 (by decide +kernel) ⟨Nat.le_of_ble_eq_true rfl, Nat.le_of_ble_eq_true rfl⟩ (rfl) hl.1 rfl (Nat.le_of_ble_eq_true rfl) dX11_done_228 (fun r47 u H locs hw hP hD hS => ?_)
                obtain ⟨hG48, hw⟩ := hw
                exact ret r47 () _ _ _ _ _ _ rfl (gsY_X11_done_1_q12 c1 c4 c16 c28 c40 c41 c45 hG48.symm) hP hD hS dX11_done_231 (Nat.le_refl _) (Nat.le_refl _)
              · skip
                have zc45 : ¬ (p2.toInt = 0) := by rw [fa_eq, show (0 : Int32).toInt = 0 from by decide] at c45; exact c45
                refine lv_iconst (v := 1) hx hb dX11_done_223 (by decide) ?_
                refine lv_goto (tgt := 228) hx hb dX11_done_224 (by decide) ?_
                have lt49 : (1 : Int32).toInt = 1 := by decide
                refine cbSi (n := 1) (rest := []) hx hb hml hown hts hE hP hD hS hA (sY_X11_truth_1 NF l dC dI cy y0 r 1 v f w g hIv hCf hRf ) k_1761 k_1762 k_114 k_1763 (by decide +kernel) ⟨Nat.le_of_ble_eq_true rfl, Nat.le_of_ble_eq_true rfl⟩ (rfl) hl.1 rfl (Nat.le_of_ble_eq_true rfl) dX11_done_228 (fun r50 u H locs hw hP hD hS => ?_)
                obtain ⟨hG51, hw⟩ := hw
                exact ret r50 () _ _ _ _ _ _ rfl (gsY_X11_done_1_q13 c1 c4 c16 c28 c40 c41 c45 hG51.symm) hP hD hS dX11_done_231 (Nat.le_refl _) (Nat.le_refl _)
          · skip
            have zc40 : ¬ (p0.toInt = 41) := by rw [fa_eq, show (41 : Int32).toInt = 41 from by decide] at c40; exact c40
            by_cases c52 : p0 = 42
            · skip
              refine lv_tableIn (off := 127) (tgt := 128) hx hb dX11_done_1 (by rw [c52]; decide) (by rw [c52]; decide) (by rw [c52]; decide) (by decide) ?_
              have zc52 : p0.toInt = 42 := by rw [fa_eq, show (42 : Int32).toInt = 42 from by decide] at c52; exact c52
              refine lv_iload_n hx hb dX11_done_128 rfl (lv_at hl 1 rfl) ?_
              refine lv_iload_n hx hb dX11_done_129 rfl (lv_at hl 2 rfl) ?_
              refine lv_imul hx hb dX11_done_130 ?_
              refine lv_topi (fun t53 et53 => ?_)
              exact ret t53 () _ _ _ _ _ _ rfl (gsY_X11_done_1_q14 c1 c4 c16 c28 c40 c52 et53) hP hD hS dX11_done_131 (Nat.le_refl _) (Nat.le_refl _)
            · skip
              have zc52 : ¬ (p0.toInt = 42) := by rw [fa_eq, show (42 : Int32).toInt = 42 from by decide] at c52; exact c52
              by_cases c54 : p0 = 43
              · skip
                refine lv_tableIn (off := 119) (tgt := 120) hx hb dX11_done_1 (by rw [c54]; decide) (by rw [c54]; decide) (by rw [c54]; decide) (by decide) ?_
                have zc54 : p0.toInt = 43 := by rw [fa_eq, show (43 : Int32).toInt = 43 from by decide] at c54; exact c54
                refine lv_iload_n hx hb dX11_done_120 rfl (lv_at hl 1 rfl) ?_
                refine lv_iload_n hx hb dX11_done_121 rfl (lv_at hl 2 rfl) ?_
                refine lv_iadd hx hb dX11_done_122 ?_
                refine lv_topi (fun t55 et55 => ?_)
                exact ret t55 () _ _ _ _ _ _ rfl (gsY_X11_done_1_q15 c1 c4 c16 c28 c40 c52 c54 et55) hP hD hS dX11_done_123 (Nat.le_refl _) (Nat.le_refl _)
              · skip
                have zc54 : ¬ (p0.toInt = 43) := by rw [fa_eq, show (43 : Int32).toInt = 43 from by decide] at c54; exact c54
                by_cases c56 : p0 = 44
                · skip
                  refine lv_tableIn (off := 214) (tgt := 215) hx hb dX11_done_1 (by rw [c56]; decide) (by rw [c56]; decide) (by rw [c56]; decide) (by decide) ?_
                  have zc56 : p0.toInt = 44 := by rw [fa_eq, show (44 : Int32).toInt = 44 from by decide] at c56; exact c56
                  refine lv_iload_n hx hb dX11_done_215 rfl (lv_at hl 1 rfl) ?_
                  refine lv_if_ne (tgt := 223) hx hb dX11_done_216 (by decide) (fun c57 => ?_) (fun c57 => ?_)
                  · skip
                    have zc57 : ¬ (p1.toInt = 0) := by rw [fa_eq, show (0 : Int32).toInt = 0 from by decide] at c57; exact c57
                    refine lv_iconst (v := 1) hx hb dX11_done_223 (by decide) ?_
                    refine lv_goto (tgt := 228) hx hb dX11_done_224 (by decide) ?_
                    have lt58 : (1 : Int32).toInt = 1 := by decide
                    refine cbSi (n := 1) (rest := []) hx hb hml hown hts hE hP hD hS hA (sY_X11_truth_1 NF l dC dI cy y0 r 1 v f w g hIv hCf hRf ) k_1761 k_1762 k_114 k_1763 (by decide +kernel) ⟨Nat.le_of_ble_eq_true rfl, Nat.le_of_ble_eq_true rfl⟩ (rfl) hl.1 rfl (Nat.le_of_ble_eq_true rfl) dX11_done_228 (fun r59 u H locs hw hP hD hS => ?_)
                    obtain ⟨hG60, hw⟩ := hw
                    exact ret r59 () _ _ _ _ _ _ rfl (gsY_X11_done_1_q16 c1 c4 c16 c28 c40 c52 c54 c56 c57 hG60.symm) hP hD hS dX11_done_231 (Nat.le_refl _) (Nat.le_refl _)
                  · skip
                    have zc57 : p1.toInt = 0 := by rw [fa_eq, show (0 : Int32).toInt = 0 from by decide] at c57; exact c57
                    refine lv_iload_n hx hb dX11_done_219 rfl (lv_at hl 2 rfl) ?_
                    refine lv_if_eq (tgt := 227) hx hb dX11_done_220 (by decide) (fun c61 => ?_) (fun c61 => ?_)
                    · skip
                      have zc61 : p2.toInt = 0 := by rw [fa_eq, show (0 : Int32).toInt = 0 from by decide] at c61; exact c61
                      refine lv_iconst (v := 0) hx hb dX11_done_227 (by decide) ?_
                      have lt62 : (0 : Int32).toInt = 0 := by decide
                      refine cbSi (n := 1) (rest := []) hx hb hml hown hts hE hP hD hS hA (sY_X11_truth_1 NF l dC dI cy y0 r 0 v f w g hIv hCf hRf ) k_1761 k_1762 k_114 k_1763 (by decide +kernel) ⟨Nat.le_of_ble_eq_true rfl, Nat.le_of_ble_eq_true rfl⟩ (rfl) hl.1 rfl (Nat.le_of_ble_eq_true rfl) dX11_done_228 (fun r63 u H locs hw hP hD hS => ?_)
                      obtain ⟨hG64, hw⟩ := hw
                      exact ret r63 () _ _ _ _ _ _ rfl (gsY_X11_done_1_q17 c1 c4 c16 c28 c40 c52 c54 c56 c57 c61 hG64.symm) hP hD hS dX11_done_231 (Nat.le_refl _) (Nat.le_refl _)
                    · skip
                      have zc61 : ¬ (p2.toInt = 0) := by rw [fa_eq, show (0 : Int32).toInt = 0 from by decide] at c61; exact c61
                      refine lv_iconst (v := 1) hx hb dX11_done_223 (by decide) ?_
                      refine lv_goto (tgt := 228) hx hb dX11_done_224 (by decide) ?_
                      have lt65 : (1 : Int32).toInt = 1 := by decide
                      refine cbSi (n := 1) (rest := []) hx hb hml hown hts hE hP hD hS hA (sY_X11_truth_1 NF l dC dI cy y0 r 1 v f w g hIv hCf hRf ) k_1761 k_1762 k_114 k_1763 (by decide +kernel) ⟨Nat.le_of_ble_eq_true rfl, Nat.le_of_ble_eq_true rfl⟩ (rfl) hl.1 rfl (Nat.le_of_ble_eq_true rfl) dX11_done_228 (fun r66 u H locs hw hP hD hS => ?_)
                      obtain ⟨hG67, hw⟩ := hw
                      exact ret r66 () _ _ _ _ _ _ rfl (gsY_X11_done_1_q18 c1 c4 c16 c28 c40 c52 c54 c56 c57 c61 hG67.symm) hP hD hS dX11_done_231 (Nat.le_refl _) (Nat.le_refl _)
                · skip
                  have zc56 : ¬ (p0.toInt = 44) := by rw [fa_eq, show (44 : Int32).toInt = 44 from by decide] at c56; exact c56
                  by_cases c68 : p0 = 45
                  · skip
                    refine lv_tableIn (off := 123) (tgt := 124) hx hb dX11_done_1 (by rw [c68]; decide) (by rw [c68]; decide) (by rw [c68]; decide) (by decide) ?_
                    have zc68 : p0.toInt = 45 := by rw [fa_eq, show (45 : Int32).toInt = 45 from by decide] at c68; exact c68
                    refine lv_iload_n hx hb dX11_done_124 rfl (lv_at hl 1 rfl) ?_
                    refine lv_iload_n hx hb dX11_done_125 rfl (lv_at hl 2 rfl) ?_
                    refine lv_isub hx hb dX11_done_126 ?_
                    refine lv_topi (fun t69 et69 => ?_)
                    exact ret t69 () _ _ _ _ _ _ rfl (gsY_X11_done_1_q19 c1 c4 c16 c28 c40 c52 c54 c56 c68 et69) hP hD hS dX11_done_127 (Nat.le_refl _) (Nat.le_refl _)
                  · skip
                    have zc68 : ¬ (p0.toInt = 45) := by rw [fa_eq, show (45 : Int32).toInt = 45 from by decide] at c68; exact c68
                    by_cases c70 : p0 = 46
                    · skip
                      refine lv_tableIn (off := 214) (tgt := 215) hx hb dX11_done_1 (by rw [c70]; decide) (by rw [c70]; decide) (by rw [c70]; decide) (by decide) ?_
                      have zc70 : p0.toInt = 46 := by rw [fa_eq, show (46 : Int32).toInt = 46 from by decide] at c70; exact c70
                      refine lv_iload_n hx hb dX11_done_215 rfl (lv_at hl 1 rfl) ?_
                      refine lv_if_ne (tgt := 223) hx hb dX11_done_216 (by decide) (fun c71 => ?_) (fun c71 => ?_)
                      · skip
                        have zc71 : ¬ (p1.toInt = 0) := by rw [fa_eq, show (0 : Int32).toInt = 0 from by decide] at c71; exact c71
                        refine lv_iconst (v := 1) hx hb dX11_done_223 (by decide) ?_
                        refine lv_goto (tgt := 228) hx hb dX11_done_224 (by decide) ?_
                        have lt72 : (1 : Int32).toInt = 1 := by decide
                        refine cbSi (n := 1) (rest := []) hx hb hml hown hts hE hP hD hS hA (sY_X11_truth_1 NF l dC dI cy y0 r 1 v f w g hIv hCf hRf ) k_1761 k_1762 k_114 k_1763 (by decide +kernel) ⟨Nat.le_of_ble_eq_true rfl, Nat.le_of_ble_eq_true rfl⟩ (rfl) hl.1 rfl (Nat.le_of_ble_eq_true rfl) dX11_done_228 (fun r73 u H locs hw hP hD hS => ?_)
                        obtain ⟨hG74, hw⟩ := hw
                        exact ret r73 () _ _ _ _ _ _ rfl (gsY_X11_done_1_q20 c1 c4 c16 c28 c40 c52 c54 c56 c68 c70 c71 hG74.symm) hP hD hS dX11_done_231 (Nat.le_refl _) (Nat.le_refl _)
                      · skip
                        have zc71 : p1.toInt = 0 := by rw [fa_eq, show (0 : Int32).toInt = 0 from by decide] at c71; exact c71
                        refine lv_iload_n hx hb dX11_done_219 rfl (lv_at hl 2 rfl) ?_
                        refine lv_if_eq (tgt := 227) hx hb dX11_done_220 (by decide) (fun c75 => ?_) (fun c75 => ?_)
                        · skip
                          have zc75 : p2.toInt = 0 := by rw [fa_eq, show (0 : Int32).toInt = 0 from by decide] at c75; exact c75
                          refine lv_iconst (v := 0) hx hb dX11_done_227 (by decide) ?_
                          have lt76 : (0 : Int32).toInt = 0 := by decide
                          refine cbSi (n := 1) (rest := []) hx hb hml hown hts hE hP hD hS hA (sY_X11_truth_1 NF l dC dI cy y0 r 0 v f w g hIv hCf hRf ) k_1761 k_1762 k_114 k_1763 (by decide +kernel) ⟨Nat.le_of_ble_eq_true rfl, Nat.le_of_ble_eq_true rfl⟩ (rfl) hl.1 rfl (Nat.le_of_ble_eq_true rfl) dX11_done_228 (fun r77 u H locs hw hP hD hS => ?_)
                          obtain ⟨hG78, hw⟩ := hw
                          exact ret r77 () _ _ _ _ _ _ rfl (gsY_X11_done_1_q21 c1 c4 c16 c28 c40 c52 c54 c56 c68 c70 c71 c75 hG78.symm) hP hD hS dX11_done_231 (Nat.le_refl _) (Nat.le_refl _)
                        · skip
                          have zc75 : ¬ (p2.toInt = 0) := by rw [fa_eq, show (0 : Int32).toInt = 0 from by decide] at c75; exact c75
                          refine lv_iconst (v := 1) hx hb dX11_done_223 (by decide) ?_
                          refine lv_goto (tgt := 228) hx hb dX11_done_224 (by decide) ?_
                          have lt79 : (1 : Int32).toInt = 1 := by decide
                          refine cbSi (n := 1) (rest := []) hx hb hml hown hts hE hP hD hS hA (sY_X11_truth_1 NF l dC dI cy y0 r 1 v f w g hIv hCf hRf ) k_1761 k_1762 k_114 k_1763 (by decide +kernel) ⟨Nat.le_of_ble_eq_true rfl, Nat.le_of_ble_eq_true rfl⟩ (rfl) hl.1 rfl (Nat.le_of_ble_eq_true rfl) dX11_done_228 (fun r80 u H locs hw hP hD hS => ?_)
                          obtain ⟨hG81, hw⟩ := hw
                          exact ret r80 () _ _ _ _ _ _ rfl (gsY_X11_done_1_q22 c1 c4 c16 c28 c40 c52 c54 c56 c68 c70 c71 c75 hG81.symm) hP hD hS dX11_done_231 (Nat.le_refl _) (Nat.le_refl _)
                    · skip
                      have zc70 : ¬ (p0.toInt = 46) := by rw [fa_eq, show (46 : Int32).toInt = 46 from by decide] at c70; exact c70
                      by_cases c82 : p0 = 47
                      · skip
                        refine lv_tableIn (off := 131) (tgt := 132) hx hb dX11_done_1 (by rw [c82]; decide) (by rw [c82]; decide) (by rw [c82]; decide) (by decide) ?_
                        have zc82 : p0.toInt = 47 := by rw [fa_eq, show (47 : Int32).toInt = 47 from by decide] at c82; exact c82
                        refine lv_iload_n hx hb dX11_done_132 rfl (lv_at hl 2 rfl) ?_
                        refine lv_if_ne (tgt := 140) hx hb dX11_done_133 (by decide) (fun c83 => ?_) (fun c83 => ?_)
                        · skip
                          have zc83 : ¬ (p2.toInt = 0) := by rw [fa_eq, show (0 : Int32).toInt = 0 from by decide] at c83; exact c83
                          refine lv_iload_n hx hb dX11_done_140 rfl (lv_at hl 1 rfl) ?_
                          refine lv_iload_n hx hb dX11_done_141 rfl (lv_at hl 2 rfl) ?_
                          refine lv_idiv hx hb dX11_done_142 (ne0 (by omega)) ?_
                          refine lv_topi (fun t84 et84 => ?_)
                          exact ret t84 () _ _ _ _ _ _ rfl (gsY_X11_done_1_q23 c1 c4 c16 c28 c40 c52 c54 c56 c68 c70 c82 c83 et84) hP hD hS dX11_done_143 (Nat.le_refl _) (Nat.le_refl _)
                        · skip
                          have zc83 : p2.toInt = 0 := by rw [fa_eq, show (0 : Int32).toInt = 0 from by decide] at c83; exact c83
                          refine lv_iconst (v := 0) hx hb dX11_done_136 (by decide) ?_
                          refine lv_goto (tgt := 143) hx hb dX11_done_137 (by decide) ?_
                          exact ret 0 () _ _ _ _ _ _ rfl (gsY_X11_done_1_q24 c1 c4 c16 c28 c40 c52 c54 c56 c68 c70 c82 c83) hP hD hS dX11_done_143 (Nat.le_refl _) (Nat.le_refl _)
                      · skip
                        have zc82 : ¬ (p0.toInt = 47) := by rw [fa_eq, show (47 : Int32).toInt = 47 from by decide] at c82; exact c82
                        by_cases c85 : p0 = 48
                        · skip
                          refine lv_tableIn (off := 214) (tgt := 215) hx hb dX11_done_1 (by rw [c85]; decide) (by rw [c85]; decide) (by rw [c85]; decide) (by decide) ?_
                          have zc85 : p0.toInt = 48 := by rw [fa_eq, show (48 : Int32).toInt = 48 from by decide] at c85; exact c85
                          refine lv_iload_n hx hb dX11_done_215 rfl (lv_at hl 1 rfl) ?_
                          refine lv_if_ne (tgt := 223) hx hb dX11_done_216 (by decide) (fun c86 => ?_) (fun c86 => ?_)
                          · skip
                            have zc86 : ¬ (p1.toInt = 0) := by rw [fa_eq, show (0 : Int32).toInt = 0 from by decide] at c86; exact c86
                            refine lv_iconst (v := 1) hx hb dX11_done_223 (by decide) ?_
                            refine lv_goto (tgt := 228) hx hb dX11_done_224 (by decide) ?_
                            have lt87 : (1 : Int32).toInt = 1 := by decide
                            refine cbSi (n := 1) (rest := []) hx hb hml hown hts hE hP hD hS hA (sY_X11_truth_1 NF l dC dI cy y0 r 1 v f w g hIv hCf hRf ) k_1761 k_1762 k_114 k_1763 (by decide +kernel) ⟨Nat.le_of_ble_eq_true rfl, Nat.le_of_ble_eq_true rfl⟩ (rfl) hl.1 rfl (Nat.le_of_ble_eq_true rfl) dX11_done_228 (fun r88 u H locs hw hP hD hS => ?_)
                            obtain ⟨hG89, hw⟩ := hw
                            exact ret r88 () _ _ _ _ _ _ rfl (gsY_X11_done_1_q25 c1 c4 c16 c28 c40 c52 c54 c56 c68 c70 c82 c85 c86 hG89.symm) hP hD hS dX11_done_231 (Nat.le_refl _) (Nat.le_refl _)
                          · skip
                            have zc86 : p1.toInt = 0 := by rw [fa_eq, show (0 : Int32).toInt = 0 from by decide] at c86; exact c86
                            refine lv_iload_n hx hb dX11_done_219 rfl (lv_at hl 2 rfl) ?_
                            refine lv_if_eq (tgt := 227) hx hb dX11_done_220 (by decide) (fun c90 => ?_) (fun c90 => ?_)
                            · skip
                              have zc90 : p2.toInt = 0 := by rw [fa_eq, show (0 : Int32).toInt = 0 from by decide] at c90; exact c90
                              refine lv_iconst (v := 0) hx hb dX11_done_227 (by decide) ?_
                              have lt91 : (0 : Int32).toInt = 0 := by decide
                              refine cbSi (n := 1) (rest := []) hx hb hml hown hts hE hP hD hS hA (sY_X11_truth_1 NF l dC dI cy y0 r 0 v f w g hIv hCf hRf ) k_1761 k_1762 k_114 k_1763 (by decide +kernel) ⟨Nat.le_of_ble_eq_true rfl, Nat.le_of_ble_eq_true rfl⟩ (rfl) hl.1 rfl (Nat.le_of_ble_eq_true rfl) dX11_done_228 (fun r92 u H locs hw hP hD hS => ?_)
                              obtain ⟨hG93, hw⟩ := hw
                              exact ret r92 () _ _ _ _ _ _ rfl (gsY_X11_done_1_q26 c1 c4 c16 c28 c40 c52 c54 c56 c68 c70 c82 c85 c86 c90 hG93.symm) hP hD hS dX11_done_231 (Nat.le_refl _) (Nat.le_refl _)
                            · skip
                              have zc90 : ¬ (p2.toInt = 0) := by rw [fa_eq, show (0 : Int32).toInt = 0 from by decide] at c90; exact c90
                              refine lv_iconst (v := 1) hx hb dX11_done_223 (by decide) ?_
                              refine lv_goto (tgt := 228) hx hb dX11_done_224 (by decide) ?_
                              have lt94 : (1 : Int32).toInt = 1 := by decide
                              refine cbSi (n := 1) (rest := []) hx hb hml hown hts hE hP hD hS hA (sY_X11_truth_1 NF l dC dI cy y0 r 1 v f w g hIv hCf hRf ) k_1761 k_1762 k_114 k_1763 (by decide +kernel) ⟨Nat.le_of_ble_eq_true rfl, Nat.le_of_ble_eq_true rfl⟩ (rfl) hl.1 rfl (Nat.le_of_ble_eq_true rfl) dX11_done_228 (fun r95 u H locs hw hP hD hS => ?_)
                              obtain ⟨hG96, hw⟩ := hw
                              exact ret r95 () _ _ _ _ _ _ rfl (gsY_X11_done_1_q27 c1 c4 c16 c28 c40 c52 c54 c56 c68 c70 c82 c85 c86 c90 hG96.symm) hP hD hS dX11_done_231 (Nat.le_refl _) (Nat.le_refl _)
                        · skip
                          have zc85 : ¬ (p0.toInt = 48) := by rw [fa_eq, show (48 : Int32).toInt = 48 from by decide] at c85; exact c85
                          by_cases c97 : p0 = 49
                          · skip
                            refine lv_tableIn (off := 214) (tgt := 215) hx hb dX11_done_1 (by rw [c97]; decide) (by rw [c97]; decide) (by rw [c97]; decide) (by decide) ?_
                            have zc97 : p0.toInt = 49 := by rw [fa_eq, show (49 : Int32).toInt = 49 from by decide] at c97; exact c97
                            refine lv_iload_n hx hb dX11_done_215 rfl (lv_at hl 1 rfl) ?_
                            refine lv_if_ne (tgt := 223) hx hb dX11_done_216 (by decide) (fun c98 => ?_) (fun c98 => ?_)
                            · skip
                              have zc98 : ¬ (p1.toInt = 0) := by rw [fa_eq, show (0 : Int32).toInt = 0 from by decide] at c98; exact c98
                              refine lv_iconst (v := 1) hx hb dX11_done_223 (by decide) ?_
                              refine lv_goto (tgt := 228) hx hb dX11_done_224 (by decide) ?_
                              have lt99 : (1 : Int32).toInt = 1 := by decide
                              refine cbSi (n := 1) (rest := []) hx hb hml hown hts hE hP hD hS hA (sY_X11_truth_1 NF l dC dI cy y0 r 1 v f w g hIv hCf hRf ) k_1761 k_1762 k_114 k_1763 (by decide +kernel) ⟨Nat.le_of_ble_eq_true rfl, Nat.le_of_ble_eq_true rfl⟩ (rfl) hl.1 rfl (Nat.le_of_ble_eq_true rfl) dX11_done_228 (fun r100 u H locs hw hP hD hS => ?_)
                              obtain ⟨hG101, hw⟩ := hw
                              exact ret r100 () _ _ _ _ _ _ rfl (gsY_X11_done_1_q28 c1 c4 c16 c28 c40 c52 c54 c56 c68 c70 c82 c85 c97 c98 hG101.symm) hP hD hS dX11_done_231 (Nat.le_refl _) (Nat.le_refl _)
                            · skip
                              have zc98 : p1.toInt = 0 := by rw [fa_eq, show (0 : Int32).toInt = 0 from by decide] at c98; exact c98
                              refine lv_iload_n hx hb dX11_done_219 rfl (lv_at hl 2 rfl) ?_
                              refine lv_if_eq (tgt := 227) hx hb dX11_done_220 (by decide) (fun c102 => ?_) (fun c102 => ?_)
                              · skip
                                have zc102 : p2.toInt = 0 := by rw [fa_eq, show (0 : Int32).toInt = 0 from by decide] at c102; exact c102
                                refine lv_iconst (v := 0) hx hb dX11_done_227 (by decide) ?_
                                have lt103 : (0 : Int32).toInt = 0 := by decide
                                refine cbSi (n := 1) (rest := []) hx hb hml hown hts hE hP hD hS hA (sY_X11_truth_1 NF l dC dI cy y0 r 0 v f w g hIv hCf hRf ) k_1761 k_1762 k_114 k_1763 (by decide +kernel) ⟨Nat.le_of_ble_eq_true rfl, Nat.le_of_ble_eq_true rfl⟩ (rfl) hl.1 rfl (Nat.le_of_ble_eq_true rfl) dX11_done_228 (fun r104 u H locs hw hP hD hS => ?_)
                                obtain ⟨hG105, hw⟩ := hw
                                exact ret r104 () _ _ _ _ _ _ rfl (gsY_X11_done_1_q29 c1 c4 c16 c28 c40 c52 c54 c56 c68 c70 c82 c85 c97 c98 c102 hG105.symm) hP hD hS dX11_done_231 (Nat.le_refl _) (Nat.le_refl _)
                              · skip
                                have zc102 : ¬ (p2.toInt = 0) := by rw [fa_eq, show (0 : Int32).toInt = 0 from by decide] at c102; exact c102
                                refine lv_iconst (v := 1) hx hb dX11_done_223 (by decide) ?_
                                refine lv_goto (tgt := 228) hx hb dX11_done_224 (by decide) ?_
                                have lt106 : (1 : Int32).toInt = 1 := by decide
                                refine cbSi (n := 1) (rest := []) hx hb hml hown hts hE hP hD hS hA (sY_X11_truth_1 NF l dC dI cy y0 r 1 v f w g hIv hCf hRf ) k_1761 k_1762 k_114 k_1763 (by decide +kernel) ⟨Nat.le_of_ble_eq_true rfl, Nat.le_of_ble_eq_true rfl⟩ (rfl) hl.1 rfl (Nat.le_of_ble_eq_true rfl) dX11_done_228 (fun r107 u H locs hw hP hD hS => ?_)
                                obtain ⟨hG108, hw⟩ := hw
                                exact ret r107 () _ _ _ _ _ _ rfl (gsY_X11_done_1_q30 c1 c4 c16 c28 c40 c52 c54 c56 c68 c70 c82 c85 c97 c98 c102 hG108.symm) hP hD hS dX11_done_231 (Nat.le_refl _) (Nat.le_refl _)
                          · skip
                            have zc97 : ¬ (p0.toInt = 49) := by rw [fa_eq, show (49 : Int32).toInt = 49 from by decide] at c97; exact c97
                            by_cases c109 : p0 = 50
                            · skip
                              refine lv_tableIn (off := 214) (tgt := 215) hx hb dX11_done_1 (by rw [c109]; decide) (by rw [c109]; decide) (by rw [c109]; decide) (by decide) ?_
                              have zc109 : p0.toInt = 50 := by rw [fa_eq, show (50 : Int32).toInt = 50 from by decide] at c109; exact c109
                              refine lv_iload_n hx hb dX11_done_215 rfl (lv_at hl 1 rfl) ?_
                              refine lv_if_ne (tgt := 223) hx hb dX11_done_216 (by decide) (fun c110 => ?_) (fun c110 => ?_)
                              · skip
                                have zc110 : ¬ (p1.toInt = 0) := by rw [fa_eq, show (0 : Int32).toInt = 0 from by decide] at c110; exact c110
                                refine lv_iconst (v := 1) hx hb dX11_done_223 (by decide) ?_
                                refine lv_goto (tgt := 228) hx hb dX11_done_224 (by decide) ?_
                                have lt111 : (1 : Int32).toInt = 1 := by decide
                                refine cbSi (n := 1) (rest := []) hx hb hml hown hts hE hP hD hS hA (sY_X11_truth_1 NF l dC dI cy y0 r 1 v f w g hIv hCf hRf ) k_1761 k_1762 k_114 k_1763 (by decide +kernel) ⟨Nat.le_of_ble_eq_true rfl, Nat.le_of_ble_eq_true rfl⟩ (rfl) hl.1 rfl (Nat.le_of_ble_eq_true rfl) dX11_done_228 (fun r112 u H locs hw hP hD hS => ?_)
                                obtain ⟨hG113, hw⟩ := hw
                                exact ret r112 () _ _ _ _ _ _ rfl (gsY_X11_done_1_q31 c1 c4 c16 c28 c40 c52 c54 c56 c68 c70 c82 c85 c97 c109 c110 hG113.symm) hP hD hS dX11_done_231 (Nat.le_refl _) (Nat.le_refl _)
                              · skip
                                have zc110 : p1.toInt = 0 := by rw [fa_eq, show (0 : Int32).toInt = 0 from by decide] at c110; exact c110
                                refine lv_iload_n hx hb dX11_done_219 rfl (lv_at hl 2 rfl) ?_
                                refine lv_if_eq (tgt := 227) hx hb dX11_done_220 (by decide) (fun c114 => ?_) (fun c114 => ?_)
                                · skip
                                  have zc114 : p2.toInt = 0 := by rw [fa_eq, show (0 : Int32).toInt = 0 from by decide] at c114; exact c114
                                  refine lv_iconst (v := 0) hx hb dX11_done_227 (by decide) ?_
                                  have lt115 : (0 : Int32).toInt = 0 := by decide
                                  refine cbSi (n := 1) (rest := []) hx hb hml hown hts hE hP hD hS hA (sY_X11_truth_1 NF l dC dI cy y0 r 0 v f w g hIv hCf hRf ) k_1761 k_1762 k_114 k_1763 (by decide +kernel) ⟨Nat.le_of_ble_eq_true rfl, Nat.le_of_ble_eq_true rfl⟩ (rfl) hl.1 rfl (Nat.le_of_ble_eq_true rfl) dX11_done_228 (fun r116 u H locs hw hP hD hS => ?_)
                                  obtain ⟨hG117, hw⟩ := hw
                                  exact ret r116 () _ _ _ _ _ _ rfl (gsY_X11_done_1_q32 c1 c4 c16 c28 c40 c52 c54 c56 c68 c70 c82 c85 c97 c109 c110 c114 hG117.symm) hP hD hS dX11_done_231 (Nat.le_refl _) (Nat.le_refl _)
                                · skip
                                  have zc114 : ¬ (p2.toInt = 0) := by rw [fa_eq, show (0 : Int32).toInt = 0 from by decide] at c114; exact c114
                                  refine lv_iconst (v := 1) hx hb dX11_done_223 (by decide) ?_
                                  refine lv_goto (tgt := 228) hx hb dX11_done_224 (by decide) ?_
                                  have lt118 : (1 : Int32).toInt = 1 := by decide
                                  refine cbSi (n := 1) (rest := []) hx hb hml hown hts hE hP hD hS hA (sY_X11_truth_1 NF l dC dI cy y0 r 1 v f w g hIv hCf hRf ) k_1761 k_1762 k_114 k_1763 (by decide +kernel) ⟨Nat.le_of_ble_eq_true rfl, Nat.le_of_ble_eq_true rfl⟩ (rfl) hl.1 rfl (Nat.le_of_ble_eq_true rfl) dX11_done_228 (fun r119 u H locs hw hP hD hS => ?_)
                                  obtain ⟨hG120, hw⟩ := hw
                                  exact ret r119 () _ _ _ _ _ _ rfl (gsY_X11_done_1_q33 c1 c4 c16 c28 c40 c52 c54 c56 c68 c70 c82 c85 c97 c109 c110 c114 hG120.symm) hP hD hS dX11_done_231 (Nat.le_refl _) (Nat.le_refl _)
                            · skip
                              have zc109 : ¬ (p0.toInt = 50) := by rw [fa_eq, show (50 : Int32).toInt = 50 from by decide] at c109; exact c109
                              by_cases c121 : p0 = 51
                              · skip
                                refine lv_tableIn (off := 214) (tgt := 215) hx hb dX11_done_1 (by rw [c121]; decide) (by rw [c121]; decide) (by rw [c121]; decide) (by decide) ?_
                                have zc121 : p0.toInt = 51 := by rw [fa_eq, show (51 : Int32).toInt = 51 from by decide] at c121; exact c121
                                refine lv_iload_n hx hb dX11_done_215 rfl (lv_at hl 1 rfl) ?_
                                refine lv_if_ne (tgt := 223) hx hb dX11_done_216 (by decide) (fun c122 => ?_) (fun c122 => ?_)
                                · skip
                                  have zc122 : ¬ (p1.toInt = 0) := by rw [fa_eq, show (0 : Int32).toInt = 0 from by decide] at c122; exact c122
                                  refine lv_iconst (v := 1) hx hb dX11_done_223 (by decide) ?_
                                  refine lv_goto (tgt := 228) hx hb dX11_done_224 (by decide) ?_
                                  have lt123 : (1 : Int32).toInt = 1 := by decide
                                  refine cbSi (n := 1) (rest := []) hx hb hml hown hts hE hP hD hS hA (sY_X11_truth_1 NF l dC dI cy y0 r 1 v f w g hIv hCf hRf ) k_1761 k_1762 k_114 k_1763 (by decide +kernel) ⟨Nat.le_of_ble_eq_true rfl, Nat.le_of_ble_eq_true rfl⟩ (rfl) hl.1 rfl (Nat.le_of_ble_eq_true rfl) dX11_done_228 (fun r124 u H locs hw hP hD hS => ?_)
                                  obtain ⟨hG125, hw⟩ := hw
                                  exact ret r124 () _ _ _ _ _ _ rfl (gsY_X11_done_1_q34 c1 c4 c16 c28 c40 c52 c54 c56 c68 c70 c82 c85 c97 c109 c121 c122 hG125.symm) hP hD hS dX11_done_231 (Nat.le_refl _) (Nat.le_refl _)
                                · skip
                                  have zc122 : p1.toInt = 0 := by rw [fa_eq, show (0 : Int32).toInt = 0 from by decide] at c122; exact c122
                                  refine lv_iload_n hx hb dX11_done_219 rfl (lv_at hl 2 rfl) ?_
                                  refine lv_if_eq (tgt := 227) hx hb dX11_done_220 (by decide) (fun c126 => ?_) (fun c126 => ?_)
                                  · skip
                                    have zc126 : p2.toInt = 0 := by rw [fa_eq, show (0 : Int32).toInt = 0 from by decide] at c126; exact c126
                                    refine lv_iconst (v := 0) hx hb dX11_done_227 (by decide) ?_
                                    have lt127 : (0 : Int32).toInt = 0 := by decide
                                    refine cbSi (n := 1) (rest := []) hx hb hml hown hts hE hP hD hS hA (sY_X11_truth_1 NF l dC dI cy y0 r 0 v f w g hIv hCf hRf ) k_1761 k_1762 k_114 k_1763 (by decide +kernel) ⟨Nat.le_of_ble_eq_true rfl, Nat.le_of_ble_eq_true rfl⟩ (rfl) hl.1 rfl (Nat.le_of_ble_eq_true rfl) dX11_done_228 (fun r128 u H locs hw hP hD hS => ?_)
                                    obtain ⟨hG129, hw⟩ := hw
                                    exact ret r128 () _ _ _ _ _ _ rfl (gsY_X11_done_1_q35 c1 c4 c16 c28 c40 c52 c54 c56 c68 c70 c82 c85 c97 c109 c121 c122 c126 hG129.symm) hP hD hS dX11_done_231 (Nat.le_refl _) (Nat.le_refl _)
                                  · skip
                                    have zc126 : ¬ (p2.toInt = 0) := by rw [fa_eq, show (0 : Int32).toInt = 0 from by decide] at c126; exact c126
                                    refine lv_iconst (v := 1) hx hb dX11_done_223 (by decide) ?_
                                    refine lv_goto (tgt := 228) hx hb dX11_done_224 (by decide) ?_
                                    have lt130 : (1 : Int32).toInt = 1 := by decide
                                    refine cbSi (n := 1) (rest := []) hx hb hml hown hts hE hP hD hS hA (sY_X11_truth_1 NF l dC dI cy y0 r 1 v f w g hIv hCf hRf ) k_1761 k_1762 k_114 k_1763 (by decide +kernel) ⟨Nat.le_of_ble_eq_true rfl, Nat.le_of_ble_eq_true rfl⟩ (rfl) hl.1 rfl (Nat.le_of_ble_eq_true rfl) dX11_done_228 (fun r131 u H locs hw hP hD hS => ?_)
                                    obtain ⟨hG132, hw⟩ := hw
                                    exact ret r131 () _ _ _ _ _ _ rfl (gsY_X11_done_1_q36 c1 c4 c16 c28 c40 c52 c54 c56 c68 c70 c82 c85 c97 c109 c121 c122 c126 hG132.symm) hP hD hS dX11_done_231 (Nat.le_refl _) (Nat.le_refl _)
                              · skip
                                have zc121 : ¬ (p0.toInt = 51) := by rw [fa_eq, show (51 : Int32).toInt = 51 from by decide] at c121; exact c121
                                by_cases c133 : p0 = 52
                                · skip
                                  refine lv_tableIn (off := 214) (tgt := 215) hx hb dX11_done_1 (by rw [c133]; decide) (by rw [c133]; decide) (by rw [c133]; decide) (by decide) ?_
                                  have zc133 : p0.toInt = 52 := by rw [fa_eq, show (52 : Int32).toInt = 52 from by decide] at c133; exact c133
                                  refine lv_iload_n hx hb dX11_done_215 rfl (lv_at hl 1 rfl) ?_
                                  refine lv_if_ne (tgt := 223) hx hb dX11_done_216 (by decide) (fun c134 => ?_) (fun c134 => ?_)
                                  · skip
                                    have zc134 : ¬ (p1.toInt = 0) := by rw [fa_eq, show (0 : Int32).toInt = 0 from by decide] at c134; exact c134
                                    refine lv_iconst (v := 1) hx hb dX11_done_223 (by decide) ?_
                                    refine lv_goto (tgt := 228) hx hb dX11_done_224 (by decide) ?_
                                    have lt135 : (1 : Int32).toInt = 1 := by decide
                                    refine cbSi (n := 1) (rest := []) hx hb hml hown hts hE hP hD hS hA (sY_X11_truth_1 NF l dC dI cy y0 r 1 v f w g hIv hCf hRf ) k_1761 k_1762 k_114 k_1763 (by decide +kernel) ⟨Nat.le_of_ble_eq_true rfl, Nat.le_of_ble_eq_true rfl⟩ (rfl) hl.1 rfl (Nat.le_of_ble_eq_true rfl) dX11_done_228 (fun r136 u H locs hw hP hD hS => ?_)
                                    obtain ⟨hG137, hw⟩ := hw
                                    exact ret r136 () _ _ _ _ _ _ rfl (gsY_X11_done_1_q37 c1 c4 c16 c28 c40 c52 c54 c56 c68 c70 c82 c85 c97 c109 c121 c133 c134 hG137.symm) hP hD hS dX11_done_231 (Nat.le_refl _) (Nat.le_refl _)
                                  · skip
                                    have zc134 : p1.toInt = 0 := by rw [fa_eq, show (0 : Int32).toInt = 0 from by decide] at c134; exact c134
                                    refine lv_iload_n hx hb dX11_done_219 rfl (lv_at hl 2 rfl) ?_
                                    refine lv_if_eq (tgt := 227) hx hb dX11_done_220 (by decide) (fun c138 => ?_) (fun c138 => ?_)
                                    · skip
                                      have zc138 : p2.toInt = 0 := by rw [fa_eq, show (0 : Int32).toInt = 0 from by decide] at c138; exact c138
                                      refine lv_iconst (v := 0) hx hb dX11_done_227 (by decide) ?_
                                      have lt139 : (0 : Int32).toInt = 0 := by decide
                                      refine cbSi (n := 1) (rest := []) hx hb hml hown hts hE hP hD hS hA (sY_X11_truth_1 NF l dC dI cy y0 r 0 v f w g hIv hCf hRf ) k_1761 k_1762 k_114 k_1763 (by decide +kernel) ⟨Nat.le_of_ble_eq_true rfl, Nat.le_of_ble_eq_true rfl⟩ (rfl) hl.1 rfl (Nat.le_of_ble_eq_true rfl) dX11_done_228 (fun r140 u H locs hw hP hD hS => ?_)
                                      obtain ⟨hG141, hw⟩ := hw
                                      exact ret r140 () _ _ _ _ _ _ rfl (gsY_X11_done_1_q38 c1 c4 c16 c28 c40 c52 c54 c56 c68 c70 c82 c85 c97 c109 c121 c133 c134 c138 hG141.symm) hP hD hS dX11_done_231 (Nat.le_refl _) (Nat.le_refl _)
                                    · skip
                                      have zc138 : ¬ (p2.toInt = 0) := by rw [fa_eq, show (0 : Int32).toInt = 0 from by decide] at c138; exact c138
                                      refine lv_iconst (v := 1) hx hb dX11_done_223 (by decide) ?_
                                      refine lv_goto (tgt := 228) hx hb dX11_done_224 (by decide) ?_
                                      have lt142 : (1 : Int32).toInt = 1 := by decide
                                      refine cbSi (n := 1) (rest := []) hx hb hml hown hts hE hP hD hS hA (sY_X11_truth_1 NF l dC dI cy y0 r 1 v f w g hIv hCf hRf ) k_1761 k_1762 k_114 k_1763 (by decide +kernel) ⟨Nat.le_of_ble_eq_true rfl, Nat.le_of_ble_eq_true rfl⟩ (rfl) hl.1 rfl (Nat.le_of_ble_eq_true rfl) dX11_done_228 (fun r143 u H locs hw hP hD hS => ?_)
                                      obtain ⟨hG144, hw⟩ := hw
                                      exact ret r143 () _ _ _ _ _ _ rfl (gsY_X11_done_1_q39 c1 c4 c16 c28 c40 c52 c54 c56 c68 c70 c82 c85 c97 c109 c121 c133 c134 c138 hG144.symm) hP hD hS dX11_done_231 (Nat.le_refl _) (Nat.le_refl _)
                                · skip
                                  have zc133 : ¬ (p0.toInt = 52) := by rw [fa_eq, show (52 : Int32).toInt = 52 from by decide] at c133; exact c133
                                  by_cases c145 : p0 = 53
                                  · skip
                                    refine lv_tableIn (off := 214) (tgt := 215) hx hb dX11_done_1 (by rw [c145]; decide) (by rw [c145]; decide) (by rw [c145]; decide) (by decide) ?_
                                    have zc145 : p0.toInt = 53 := by rw [fa_eq, show (53 : Int32).toInt = 53 from by decide] at c145; exact c145
                                    refine lv_iload_n hx hb dX11_done_215 rfl (lv_at hl 1 rfl) ?_
                                    refine lv_if_ne (tgt := 223) hx hb dX11_done_216 (by decide) (fun c146 => ?_) (fun c146 => ?_)
                                    · skip
                                      have zc146 : ¬ (p1.toInt = 0) := by rw [fa_eq, show (0 : Int32).toInt = 0 from by decide] at c146; exact c146
                                      refine lv_iconst (v := 1) hx hb dX11_done_223 (by decide) ?_
                                      refine lv_goto (tgt := 228) hx hb dX11_done_224 (by decide) ?_
                                      have lt147 : (1 : Int32).toInt = 1 := by decide
                                      refine cbSi (n := 1) (rest := []) hx hb hml hown hts hE hP hD hS hA (sY_X11_truth_1 NF l dC dI cy y0 r 1 v f w g hIv hCf hRf ) k_1761 k_1762 k_114 k_1763 (by decide +kernel) ⟨Nat.le_of_ble_eq_true rfl, Nat.le_of_ble_eq_true rfl⟩ (rfl) hl.1 rfl (Nat.le_of_ble_eq_true rfl) dX11_done_228 (fun r148 u H locs hw hP hD hS => ?_)
                                      obtain ⟨hG149, hw⟩ := hw
                                      exact ret r148 () _ _ _ _ _ _ rfl (gsY_X11_done_1_q40 c1 c4 c16 c28 c40 c52 c54 c56 c68 c70 c82 c85 c97 c109 c121 c133 c145 c146 hG149.symm) hP hD hS dX11_done_231 (Nat.le_refl _) (Nat.le_refl _)
                                    · skip
                                      have zc146 : p1.toInt = 0 := by rw [fa_eq, show (0 : Int32).toInt = 0 from by decide] at c146; exact c146
                                      refine lv_iload_n hx hb dX11_done_219 rfl (lv_at hl 2 rfl) ?_
                                      refine lv_if_eq (tgt := 227) hx hb dX11_done_220 (by decide) (fun c150 => ?_) (fun c150 => ?_)
                                      · skip
                                        have zc150 : p2.toInt = 0 := by rw [fa_eq, show (0 : Int32).toInt = 0 from by decide] at c150; exact c150
                                        refine lv_iconst (v := 0) hx hb dX11_done_227 (by decide) ?_
                                        have lt151 : (0 : Int32).toInt = 0 := by decide
                                        refine cbSi (n := 1) (rest := []) hx hb hml hown hts hE hP hD hS hA (sY_X11_truth_1 NF l dC dI cy y0 r 0 v f w g hIv hCf hRf ) k_1761 k_1762 k_114 k_1763 (by decide +kernel) ⟨Nat.le_of_ble_eq_true rfl, Nat.le_of_ble_eq_true rfl⟩ (rfl) hl.1 rfl (Nat.le_of_ble_eq_true rfl) dX11_done_228 (fun r152 u H locs hw hP hD hS => ?_)
                                        obtain ⟨hG153, hw⟩ := hw
                                        exact ret r152 () _ _ _ _ _ _ rfl (gsY_X11_done_1_q41 c1 c4 c16 c28 c40 c52 c54 c56 c68 c70 c82 c85 c97 c109 c121 c133 c145 c146 c150 hG153.symm) hP hD hS dX11_done_231 (Nat.le_refl _) (Nat.le_refl _)
                                      · skip
                                        have zc150 : ¬ (p2.toInt = 0) := by rw [fa_eq, show (0 : Int32).toInt = 0 from by decide] at c150; exact c150
                                        refine lv_iconst (v := 1) hx hb dX11_done_223 (by decide) ?_
                                        refine lv_goto (tgt := 228) hx hb dX11_done_224 (by decide) ?_
                                        have lt154 : (1 : Int32).toInt = 1 := by decide
                                        refine cbSi (n := 1) (rest := []) hx hb hml hown hts hE hP hD hS hA (sY_X11_truth_1 NF l dC dI cy y0 r 1 v f w g hIv hCf hRf ) k_1761 k_1762 k_114 k_1763 (by decide +kernel) ⟨Nat.le_of_ble_eq_true rfl, Nat.le_of_ble_eq_true rfl⟩ (rfl) hl.1 rfl (Nat.le_of_ble_eq_true rfl) dX11_done_228 (fun r155 u H locs hw hP hD hS => ?_)
                                        obtain ⟨hG156, hw⟩ := hw
                                        exact ret r155 () _ _ _ _ _ _ rfl (gsY_X11_done_1_q42 c1 c4 c16 c28 c40 c52 c54 c56 c68 c70 c82 c85 c97 c109 c121 c133 c145 c146 c150 hG156.symm) hP hD hS dX11_done_231 (Nat.le_refl _) (Nat.le_refl _)
                                  · skip
                                    have zc145 : ¬ (p0.toInt = 53) := by rw [fa_eq, show (53 : Int32).toInt = 53 from by decide] at c145; exact c145
                                    by_cases c157 : p0 = 54
                                    · skip
                                      refine lv_tableIn (off := 214) (tgt := 215) hx hb dX11_done_1 (by rw [c157]; decide) (by rw [c157]; decide) (by rw [c157]; decide) (by decide) ?_
                                      have zc157 : p0.toInt = 54 := by rw [fa_eq, show (54 : Int32).toInt = 54 from by decide] at c157; exact c157
                                      refine lv_iload_n hx hb dX11_done_215 rfl (lv_at hl 1 rfl) ?_
                                      refine lv_if_ne (tgt := 223) hx hb dX11_done_216 (by decide) (fun c158 => ?_) (fun c158 => ?_)
                                      · skip
                                        have zc158 : ¬ (p1.toInt = 0) := by rw [fa_eq, show (0 : Int32).toInt = 0 from by decide] at c158; exact c158
                                        refine lv_iconst (v := 1) hx hb dX11_done_223 (by decide) ?_
                                        refine lv_goto (tgt := 228) hx hb dX11_done_224 (by decide) ?_
                                        have lt159 : (1 : Int32).toInt = 1 := by decide
                                        refine cbSi (n := 1) (rest := []) hx hb hml hown hts hE hP hD hS hA (sY_X11_truth_1 NF l dC dI cy y0 r 1 v f w g hIv hCf hRf ) k_1761 k_1762 k_114 k_1763 (by decide +kernel) ⟨Nat.le_of_ble_eq_true rfl, Nat.le_of_ble_eq_true rfl⟩ (rfl) hl.1 rfl (Nat.le_of_ble_eq_true rfl) dX11_done_228 (fun r160 u H locs hw hP hD hS => ?_)
                                        obtain ⟨hG161, hw⟩ := hw
                                        exact ret r160 () _ _ _ _ _ _ rfl (gsY_X11_done_1_q43 c1 c4 c16 c28 c40 c52 c54 c56 c68 c70 c82 c85 c97 c109 c121 c133 c145 c157 c158 hG161.symm) hP hD hS dX11_done_231 (Nat.le_refl _) (Nat.le_refl _)
                                      · skip
                                        have zc158 : p1.toInt = 0 := by rw [fa_eq, show (0 : Int32).toInt = 0 from by decide] at c158; exact c158
                                        refine lv_iload_n hx hb dX11_done_219 rfl (lv_at hl 2 rfl) ?_
                                        refine lv_if_eq (tgt := 227) hx hb dX11_done_220 (by decide) (fun c162 => ?_) (fun c162 => ?_)
                                        · skip
                                          have zc162 : p2.toInt = 0 := by rw [fa_eq, show (0 : Int32).toInt = 0 from by decide] at c162; exact c162
                                          refine lv_iconst (v := 0) hx hb dX11_done_227 (by decide) ?_
                                          have lt163 : (0 : Int32).toInt = 0 := by decide
                                          refine cbSi (n := 1) (rest := []) hx hb hml hown hts hE hP hD hS hA (sY_X11_truth_1 NF l dC dI cy y0 r 0 v f w g hIv hCf hRf ) k_1761 k_1762 k_114 k_1763 (by decide +kernel) ⟨Nat.le_of_ble_eq_true rfl, Nat.le_of_ble_eq_true rfl⟩ (rfl) hl.1 rfl (Nat.le_of_ble_eq_true rfl) dX11_done_228 (fun r164 u H locs hw hP hD hS => ?_)
                                          obtain ⟨hG165, hw⟩ := hw
                                          exact ret r164 () _ _ _ _ _ _ rfl (gsY_X11_done_1_q44 c1 c4 c16 c28 c40 c52 c54 c56 c68 c70 c82 c85 c97 c109 c121 c133 c145 c157 c158 c162 hG165.symm) hP hD hS dX11_done_231 (Nat.le_refl _) (Nat.le_refl _)
                                        · skip
                                          have zc162 : ¬ (p2.toInt = 0) := by rw [fa_eq, show (0 : Int32).toInt = 0 from by decide] at c162; exact c162
                                          refine lv_iconst (v := 1) hx hb dX11_done_223 (by decide) ?_
                                          refine lv_goto (tgt := 228) hx hb dX11_done_224 (by decide) ?_
                                          have lt166 : (1 : Int32).toInt = 1 := by decide
                                          refine cbSi (n := 1) (rest := []) hx hb hml hown hts hE hP hD hS hA (sY_X11_truth_1 NF l dC dI cy y0 r 1 v f w g hIv hCf hRf ) k_1761 k_1762 k_114 k_1763 (by decide +kernel) ⟨Nat.le_of_ble_eq_true rfl, Nat.le_of_ble_eq_true rfl⟩ (rfl) hl.1 rfl (Nat.le_of_ble_eq_true rfl) dX11_done_228 (fun r167 u H locs hw hP hD hS => ?_)
                                          obtain ⟨hG168, hw⟩ := hw
                                          exact ret r167 () _ _ _ _ _ _ rfl (gsY_X11_done_1_q45 c1 c4 c16 c28 c40 c52 c54 c56 c68 c70 c82 c85 c97 c109 c121 c133 c145 c157 c158 c162 hG168.symm) hP hD hS dX11_done_231 (Nat.le_refl _) (Nat.le_refl _)
                                    · skip
                                      have zc157 : ¬ (p0.toInt = 54) := by rw [fa_eq, show (54 : Int32).toInt = 54 from by decide] at c157; exact c157
                                      by_cases c169 : p0 = 55
                                      · skip
                                        refine lv_tableIn (off := 214) (tgt := 215) hx hb dX11_done_1 (by rw [c169]; decide) (by rw [c169]; decide) (by rw [c169]; decide) (by decide) ?_
                                        have zc169 : p0.toInt = 55 := by rw [fa_eq, show (55 : Int32).toInt = 55 from by decide] at c169; exact c169
                                        refine lv_iload_n hx hb dX11_done_215 rfl (lv_at hl 1 rfl) ?_
                                        refine lv_if_ne (tgt := 223) hx hb dX11_done_216 (by decide) (fun c170 => ?_) (fun c170 => ?_)
                                        · skip
                                          have zc170 : ¬ (p1.toInt = 0) := by rw [fa_eq, show (0 : Int32).toInt = 0 from by decide] at c170; exact c170
                                          refine lv_iconst (v := 1) hx hb dX11_done_223 (by decide) ?_
                                          refine lv_goto (tgt := 228) hx hb dX11_done_224 (by decide) ?_
                                          have lt171 : (1 : Int32).toInt = 1 := by decide
                                          refine cbSi (n := 1) (rest := []) hx hb hml hown hts hE hP hD hS hA (sY_X11_truth_1 NF l dC dI cy y0 r 1 v f w g hIv hCf hRf ) k_1761 k_1762 k_114 k_1763 (by decide +kernel) ⟨Nat.le_of_ble_eq_true rfl, Nat.le_of_ble_eq_true rfl⟩ (rfl) hl.1 rfl (Nat.le_of_ble_eq_true rfl) dX11_done_228 (fun r172 u H locs hw hP hD hS => ?_)
                                          obtain ⟨hG173, hw⟩ := hw
                                          exact ret r172 () _ _ _ _ _ _ rfl (gsY_X11_done_1_q46 c1 c4 c16 c28 c40 c52 c54 c56 c68 c70 c82 c85 c97 c109 c121 c133 c145 c157 c169 c170 hG173.symm) hP hD hS dX11_done_231 (Nat.le_refl _) (Nat.le_refl _)
                                        · skip
                                          have zc170 : p1.toInt = 0 := by rw [fa_eq, show (0 : Int32).toInt = 0 from by decide] at c170; exact c170
                                          refine lv_iload_n hx hb dX11_done_219 rfl (lv_at hl 2 rfl) ?_
                                          refine lv_if_eq (tgt := 227) hx hb dX11_done_220 (by decide) (fun c174 => ?_) (fun c174 => ?_)
                                          · skip
                                            have zc174 : p2.toInt = 0 := by rw [fa_eq, show (0 : Int32).toInt = 0 from by decide] at c174; exact c174
                                            refine lv_iconst (v := 0) hx hb dX11_done_227 (by decide) ?_
                                            have lt175 : (0 : Int32).toInt = 0 := by decide
                                            refine cbSi (n := 1) (rest := []) hx hb hml hown hts hE hP hD hS hA (sY_X11_truth_1 NF l dC dI cy y0 r 0 v f w g hIv hCf hRf ) k_1761 k_1762 k_114 k_1763 (by decide +kernel) ⟨Nat.le_of_ble_eq_true rfl, Nat.le_of_ble_eq_true rfl⟩ (rfl) hl.1 rfl (Nat.le_of_ble_eq_true rfl) dX11_done_228 (fun r176 u H locs hw hP hD hS => ?_)
                                            obtain ⟨hG177, hw⟩ := hw
                                            exact ret r176 () _ _ _ _ _ _ rfl (gsY_X11_done_1_q47 c1 c4 c16 c28 c40 c52 c54 c56 c68 c70 c82 c85 c97 c109 c121 c133 c145 c157 c169 c170 c174 hG177.symm) hP hD hS dX11_done_231 (Nat.le_refl _) (Nat.le_refl _)
                                          · skip
                                            have zc174 : ¬ (p2.toInt = 0) := by rw [fa_eq, show (0 : Int32).toInt = 0 from by decide] at c174; exact c174
                                            refine lv_iconst (v := 1) hx hb dX11_done_223 (by decide) ?_
                                            refine lv_goto (tgt := 228) hx hb dX11_done_224 (by decide) ?_
                                            have lt178 : (1 : Int32).toInt = 1 := by decide
                                            refine cbSi (n := 1) (rest := []) hx hb hml hown hts hE hP hD hS hA (sY_X11_truth_1 NF l dC dI cy y0 r 1 v f w g hIv hCf hRf ) k_1761 k_1762 k_114 k_1763 (by decide +kernel) ⟨Nat.le_of_ble_eq_true rfl, Nat.le_of_ble_eq_true rfl⟩ (rfl) hl.1 rfl (Nat.le_of_ble_eq_true rfl) dX11_done_228 (fun r179 u H locs hw hP hD hS => ?_)
                                            obtain ⟨hG180, hw⟩ := hw
                                            exact ret r179 () _ _ _ _ _ _ rfl (gsY_X11_done_1_q48 c1 c4 c16 c28 c40 c52 c54 c56 c68 c70 c82 c85 c97 c109 c121 c133 c145 c157 c169 c170 c174 hG180.symm) hP hD hS dX11_done_231 (Nat.le_refl _) (Nat.le_refl _)
                                      · skip
                                        have zc169 : ¬ (p0.toInt = 55) := by rw [fa_eq, show (55 : Int32).toInt = 55 from by decide] at c169; exact c169
                                        by_cases c181 : p0 = 56
                                        · skip
                                          refine lv_tableIn (off := 214) (tgt := 215) hx hb dX11_done_1 (by rw [c181]; decide) (by rw [c181]; decide) (by rw [c181]; decide) (by decide) ?_
                                          have zc181 : p0.toInt = 56 := by rw [fa_eq, show (56 : Int32).toInt = 56 from by decide] at c181; exact c181
                                          refine lv_iload_n hx hb dX11_done_215 rfl (lv_at hl 1 rfl) ?_
                                          refine lv_if_ne (tgt := 223) hx hb dX11_done_216 (by decide) (fun c182 => ?_) (fun c182 => ?_)
                                          · skip
                                            have zc182 : ¬ (p1.toInt = 0) := by rw [fa_eq, show (0 : Int32).toInt = 0 from by decide] at c182; exact c182
                                            refine lv_iconst (v := 1) hx hb dX11_done_223 (by decide) ?_
                                            refine lv_goto (tgt := 228) hx hb dX11_done_224 (by decide) ?_
                                            have lt183 : (1 : Int32).toInt = 1 := by decide
                                            refine cbSi (n := 1) (rest := []) hx hb hml hown hts hE hP hD hS hA (sY_X11_truth_1 NF l dC dI cy y0 r 1 v f w g hIv hCf hRf ) k_1761 k_1762 k_114 k_1763 (by decide +kernel) ⟨Nat.le_of_ble_eq_true rfl, Nat.le_of_ble_eq_true rfl⟩ (rfl) hl.1 rfl (Nat.le_of_ble_eq_true rfl) dX11_done_228 (fun r184 u H locs hw hP hD hS => ?_)
                                            obtain ⟨hG185, hw⟩ := hw
                                            exact ret r184 () _ _ _ _ _ _ rfl (gsY_X11_done_1_q49 c1 c4 c16 c28 c40 c52 c54 c56 c68 c70 c82 c85 c97 c109 c121 c133 c145 c157 c169 c181 c182 hG185.symm) hP hD hS dX11_done_231 (Nat.le_refl _) (Nat.le_refl _)
                                          · skip
                                            have zc182 : p1.toInt = 0 := by rw [fa_eq, show (0 : Int32).toInt = 0 from by decide] at c182; exact c182
                                            refine lv_iload_n hx hb dX11_done_219 rfl (lv_at hl 2 rfl) ?_
                                            refine lv_if_eq (tgt := 227) hx hb dX11_done_220 (by decide) (fun c186 => ?_) (fun c186 => ?_)
                                            · skip
                                              have zc186 : p2.toInt = 0 := by rw [fa_eq, show (0 : Int32).toInt = 0 from by decide] at c186; exact c186
                                              refine lv_iconst (v := 0) hx hb dX11_done_227 (by decide) ?_
                                              have lt187 : (0 : Int32).toInt = 0 := by decide
                                              refine cbSi (n := 1) (rest := []) hx hb hml hown hts hE hP hD hS hA (sY_X11_truth_1 NF l dC dI cy y0 r 0 v f w g hIv hCf hRf ) k_1761 k_1762 k_114 k_1763 (by decide +kernel) ⟨Nat.le_of_ble_eq_true rfl, Nat.le_of_ble_eq_true rfl⟩ (rfl) hl.1 rfl (Nat.le_of_ble_eq_true rfl) dX11_done_228 (fun r188 u H locs hw hP hD hS => ?_)
                                              obtain ⟨hG189, hw⟩ := hw
                                              exact ret r188 () _ _ _ _ _ _ rfl (gsY_X11_done_1_q50 c1 c4 c16 c28 c40 c52 c54 c56 c68 c70 c82 c85 c97 c109 c121 c133 c145 c157 c169 c181 c182 c186 hG189.symm) hP hD hS dX11_done_231 (Nat.le_refl _) (Nat.le_refl _)
                                            · skip
                                              have zc186 : ¬ (p2.toInt = 0) := by rw [fa_eq, show (0 : Int32).toInt = 0 from by decide] at c186; exact c186
                                              refine lv_iconst (v := 1) hx hb dX11_done_223 (by decide) ?_
                                              refine lv_goto (tgt := 228) hx hb dX11_done_224 (by decide) ?_
                                              have lt190 : (1 : Int32).toInt = 1 := by decide
                                              refine cbSi (n := 1) (rest := []) hx hb hml hown hts hE hP hD hS hA (sY_X11_truth_1 NF l dC dI cy y0 r 1 v f w g hIv hCf hRf ) k_1761 k_1762 k_114 k_1763 (by decide +kernel) ⟨Nat.le_of_ble_eq_true rfl, Nat.le_of_ble_eq_true rfl⟩ (rfl) hl.1 rfl (Nat.le_of_ble_eq_true rfl) dX11_done_228 (fun r191 u H locs hw hP hD hS => ?_)
                                              obtain ⟨hG192, hw⟩ := hw
                                              exact ret r191 () _ _ _ _ _ _ rfl (gsY_X11_done_1_q51 c1 c4 c16 c28 c40 c52 c54 c56 c68 c70 c82 c85 c97 c109 c121 c133 c145 c157 c169 c181 c182 c186 hG192.symm) hP hD hS dX11_done_231 (Nat.le_refl _) (Nat.le_refl _)
                                        · skip
                                          have zc181 : ¬ (p0.toInt = 56) := by rw [fa_eq, show (56 : Int32).toInt = 56 from by decide] at c181; exact c181
                                          by_cases c193 : p0 = 57
                                          · skip
                                            refine lv_tableIn (off := 214) (tgt := 215) hx hb dX11_done_1 (by rw [c193]; decide) (by rw [c193]; decide) (by rw [c193]; decide) (by decide) ?_
                                            have zc193 : p0.toInt = 57 := by rw [fa_eq, show (57 : Int32).toInt = 57 from by decide] at c193; exact c193
                                            refine lv_iload_n hx hb dX11_done_215 rfl (lv_at hl 1 rfl) ?_
                                            refine lv_if_ne (tgt := 223) hx hb dX11_done_216 (by decide) (fun c194 => ?_) (fun c194 => ?_)
                                            · skip
                                              have zc194 : ¬ (p1.toInt = 0) := by rw [fa_eq, show (0 : Int32).toInt = 0 from by decide] at c194; exact c194
                                              refine lv_iconst (v := 1) hx hb dX11_done_223 (by decide) ?_
                                              refine lv_goto (tgt := 228) hx hb dX11_done_224 (by decide) ?_
                                              have lt195 : (1 : Int32).toInt = 1 := by decide
                                              refine cbSi (n := 1) (rest := []) hx hb hml hown hts hE hP hD hS hA (sY_X11_truth_1 NF l dC dI cy y0 r 1 v f w g hIv hCf hRf ) k_1761 k_1762 k_114 k_1763 (by decide +kernel) ⟨Nat.le_of_ble_eq_true rfl, Nat.le_of_ble_eq_true rfl⟩ (rfl) hl.1 rfl (Nat.le_of_ble_eq_true rfl) dX11_done_228 (fun r196 u H locs hw hP hD hS => ?_)
                                              obtain ⟨hG197, hw⟩ := hw
                                              exact ret r196 () _ _ _ _ _ _ rfl (gsY_X11_done_1_q52 c1 c4 c16 c28 c40 c52 c54 c56 c68 c70 c82 c85 c97 c109 c121 c133 c145 c157 c169 c181 c193 c194 hG197.symm) hP hD hS dX11_done_231 (Nat.le_refl _) (Nat.le_refl _)
                                            · skip
                                              have zc194 : p1.toInt = 0 := by rw [fa_eq, show (0 : Int32).toInt = 0 from by decide] at c194; exact c194
                                              refine lv_iload_n hx hb dX11_done_219 rfl (lv_at hl 2 rfl) ?_
                                              refine lv_if_eq (tgt := 227) hx hb dX11_done_220 (by decide) (fun c198 => ?_) (fun c198 => ?_)
                                              · skip
                                                have zc198 : p2.toInt = 0 := by rw [fa_eq, show (0 : Int32).toInt = 0 from by decide] at c198; exact c198
                                                refine lv_iconst (v := 0) hx hb dX11_done_227 (by decide) ?_
                                                have lt199 : (0 : Int32).toInt = 0 := by decide
                                                refine cbSi (n := 1) (rest := []) hx hb hml hown hts hE hP hD hS hA (sY_X11_truth_1 NF l dC dI cy y0 r 0 v f w g hIv hCf hRf ) k_1761 k_1762 k_114 k_1763 (by decide +kernel) ⟨Nat.le_of_ble_eq_true rfl, Nat.le_of_ble_eq_true rfl⟩ (rfl) hl.1 rfl (Nat.le_of_ble_eq_true rfl) dX11_done_228 (fun r200 u H locs hw hP hD hS => ?_)
                                                obtain ⟨hG201, hw⟩ := hw
                                                exact ret r200 () _ _ _ _ _ _ rfl (gsY_X11_done_1_q53 c1 c4 c16 c28 c40 c52 c54 c56 c68 c70 c82 c85 c97 c109 c121 c133 c145 c157 c169 c181 c193 c194 c198 hG201.symm) hP hD hS dX11_done_231 (Nat.le_refl _) (Nat.le_refl _)
                                              · skip
                                                have zc198 : ¬ (p2.toInt = 0) := by rw [fa_eq, show (0 : Int32).toInt = 0 from by decide] at c198; exact c198
                                                refine lv_iconst (v := 1) hx hb dX11_done_223 (by decide) ?_
                                                refine lv_goto (tgt := 228) hx hb dX11_done_224 (by decide) ?_
                                                have lt202 : (1 : Int32).toInt = 1 := by decide
                                                refine cbSi (n := 1) (rest := []) hx hb hml hown hts hE hP hD hS hA (sY_X11_truth_1 NF l dC dI cy y0 r 1 v f w g hIv hCf hRf ) k_1761 k_1762 k_114 k_1763 (by decide +kernel) ⟨Nat.le_of_ble_eq_true rfl, Nat.le_of_ble_eq_true rfl⟩ (rfl) hl.1 rfl (Nat.le_of_ble_eq_true rfl) dX11_done_228 (fun r203 u H locs hw hP hD hS => ?_)
                                                obtain ⟨hG204, hw⟩ := hw
                                                exact ret r203 () _ _ _ _ _ _ rfl (gsY_X11_done_1_q54 c1 c4 c16 c28 c40 c52 c54 c56 c68 c70 c82 c85 c97 c109 c121 c133 c145 c157 c169 c181 c193 c194 c198 hG204.symm) hP hD hS dX11_done_231 (Nat.le_refl _) (Nat.le_refl _)
                                          · skip
                                            have zc193 : ¬ (p0.toInt = 57) := by rw [fa_eq, show (57 : Int32).toInt = 57 from by decide] at c193; exact c193
                                            by_cases c205 : p0 = 58
                                            · skip
                                              refine lv_tableIn (off := 214) (tgt := 215) hx hb dX11_done_1 (by rw [c205]; decide) (by rw [c205]; decide) (by rw [c205]; decide) (by decide) ?_
                                              have zc205 : p0.toInt = 58 := by rw [fa_eq, show (58 : Int32).toInt = 58 from by decide] at c205; exact c205
                                              refine lv_iload_n hx hb dX11_done_215 rfl (lv_at hl 1 rfl) ?_
                                              refine lv_if_ne (tgt := 223) hx hb dX11_done_216 (by decide) (fun c206 => ?_) (fun c206 => ?_)
                                              · skip
                                                have zc206 : ¬ (p1.toInt = 0) := by rw [fa_eq, show (0 : Int32).toInt = 0 from by decide] at c206; exact c206
                                                refine lv_iconst (v := 1) hx hb dX11_done_223 (by decide) ?_
                                                refine lv_goto (tgt := 228) hx hb dX11_done_224 (by decide) ?_
                                                have lt207 : (1 : Int32).toInt = 1 := by decide
                                                refine cbSi (n := 1) (rest := []) hx hb hml hown hts hE hP hD hS hA (sY_X11_truth_1 NF l dC dI cy y0 r 1 v f w g hIv hCf hRf ) k_1761 k_1762 k_114 k_1763 (by decide +kernel) ⟨Nat.le_of_ble_eq_true rfl, Nat.le_of_ble_eq_true rfl⟩ (rfl) hl.1 rfl (Nat.le_of_ble_eq_true rfl) dX11_done_228 (fun r208 u H locs hw hP hD hS => ?_)
                                                obtain ⟨hG209, hw⟩ := hw
                                                exact ret r208 () _ _ _ _ _ _ rfl (gsY_X11_done_1_q55 c1 c4 c16 c28 c40 c52 c54 c56 c68 c70 c82 c85 c97 c109 c121 c133 c145 c157 c169 c181 c193 c205 c206 hG209.symm) hP hD hS dX11_done_231 (Nat.le_refl _) (Nat.le_refl _)
                                              · skip
                                                have zc206 : p1.toInt = 0 := by rw [fa_eq, show (0 : Int32).toInt = 0 from by decide] at c206; exact c206
                                                refine lv_iload_n hx hb dX11_done_219 rfl (lv_at hl 2 rfl) ?_
                                                refine lv_if_eq (tgt := 227) hx hb dX11_done_220 (by decide) (fun c210 => ?_) (fun c210 => ?_)
                                                · skip
                                                  have zc210 : p2.toInt = 0 := by rw [fa_eq, show (0 : Int32).toInt = 0 from by decide] at c210; exact c210
                                                  refine lv_iconst (v := 0) hx hb dX11_done_227 (by decide) ?_
                                                  have lt211 : (0 : Int32).toInt = 0 := by decide
                                                  refine cbSi (n := 1) (rest := []) hx hb hml hown hts hE hP hD hS hA (sY_X11_truth_1 NF l dC dI cy y0 r 0 v f w g hIv hCf hRf ) k_1761 k_1762 k_114 k_1763 (by decide +kernel) ⟨Nat.le_of_ble_eq_true rfl, Nat.le_of_ble_eq_true rfl⟩ (rfl) hl.1 rfl (Nat.le_of_ble_eq_true rfl) dX11_done_228 (fun r212 u H locs hw hP hD hS => ?_)
                                                  obtain ⟨hG213, hw⟩ := hw
                                                  exact ret r212 () _ _ _ _ _ _ rfl (gsY_X11_done_1_q56 c1 c4 c16 c28 c40 c52 c54 c56 c68 c70 c82 c85 c97 c109 c121 c133 c145 c157 c169 c181 c193 c205 c206 c210 hG213.symm) hP hD hS dX11_done_231 (Nat.le_refl _) (Nat.le_refl _)
                                                · skip
                                                  have zc210 : ¬ (p2.toInt = 0) := by rw [fa_eq, show (0 : Int32).toInt = 0 from by decide] at c210; exact c210
                                                  refine lv_iconst (v := 1) hx hb dX11_done_223 (by decide) ?_
                                                  refine lv_goto (tgt := 228) hx hb dX11_done_224 (by decide) ?_
                                                  have lt214 : (1 : Int32).toInt = 1 := by decide
                                                  refine cbSi (n := 1) (rest := []) hx hb hml hown hts hE hP hD hS hA (sY_X11_truth_1 NF l dC dI cy y0 r 1 v f w g hIv hCf hRf ) k_1761 k_1762 k_114 k_1763 (by decide +kernel) ⟨Nat.le_of_ble_eq_true rfl, Nat.le_of_ble_eq_true rfl⟩ (rfl) hl.1 rfl (Nat.le_of_ble_eq_true rfl) dX11_done_228 (fun r215 u H locs hw hP hD hS => ?_)
                                                  obtain ⟨hG216, hw⟩ := hw
                                                  exact ret r215 () _ _ _ _ _ _ rfl (gsY_X11_done_1_q57 c1 c4 c16 c28 c40 c52 c54 c56 c68 c70 c82 c85 c97 c109 c121 c133 c145 c157 c169 c181 c193 c205 c206 c210 hG216.symm) hP hD hS dX11_done_231 (Nat.le_refl _) (Nat.le_refl _)
                                            · skip
                                              have zc205 : ¬ (p0.toInt = 58) := by rw [fa_eq, show (58 : Int32).toInt = 58 from by decide] at c205; exact c205
                                              by_cases c217 : p0 = 59
                                              · skip
                                                refine lv_tableIn (off := 214) (tgt := 215) hx hb dX11_done_1 (by rw [c217]; decide) (by rw [c217]; decide) (by rw [c217]; decide) (by decide) ?_
                                                have zc217 : p0.toInt = 59 := by rw [fa_eq, show (59 : Int32).toInt = 59 from by decide] at c217; exact c217
                                                refine lv_iload_n hx hb dX11_done_215 rfl (lv_at hl 1 rfl) ?_
                                                refine lv_if_ne (tgt := 223) hx hb dX11_done_216 (by decide) (fun c218 => ?_) (fun c218 => ?_)
                                                · skip
                                                  have zc218 : ¬ (p1.toInt = 0) := by rw [fa_eq, show (0 : Int32).toInt = 0 from by decide] at c218; exact c218
                                                  refine lv_iconst (v := 1) hx hb dX11_done_223 (by decide) ?_
                                                  refine lv_goto (tgt := 228) hx hb dX11_done_224 (by decide) ?_
                                                  have lt219 : (1 : Int32).toInt = 1 := by decide
                                                  refine cbSi (n := 1) (rest := []) hx hb hml hown hts hE hP hD hS hA (sY_X11_truth_1 NF l dC dI cy y0 r 1 v f w g hIv hCf hRf ) k_1761 k_1762 k_114 k_1763 (by decide +kernel) ⟨Nat.le_of_ble_eq_true rfl, Nat.le_of_ble_eq_true rfl⟩ (rfl) hl.1 rfl (Nat.le_of_ble_eq_true rfl) dX11_done_228 (fun r220 u H locs hw hP hD hS => ?_)
                                                  obtain ⟨hG221, hw⟩ := hw
                                                  exact ret r220 () _ _ _ _ _ _ rfl (gsY_X11_done_1_q58 c1 c4 c16 c28 c40 c52 c54 c56 c68 c70 c82 c85 c97 c109 c121 c133 c145 c157 c169 c181 c193 c205 c217 c218 hG221.symm) hP hD hS dX11_done_231 (Nat.le_refl _) (Nat.le_refl _)
                                                · skip
                                                  have zc218 : p1.toInt = 0 := by rw [fa_eq, show (0 : Int32).toInt = 0 from by decide] at c218; exact c218
                                                  refine lv_iload_n hx hb dX11_done_219 rfl (lv_at hl 2 rfl) ?_
                                                  refine lv_if_eq (tgt := 227) hx hb dX11_done_220 (by decide) (fun c222 => ?_) (fun c222 => ?_)
                                                  · skip
                                                    have zc222 : p2.toInt = 0 := by rw [fa_eq, show (0 : Int32).toInt = 0 from by decide] at c222; exact c222
                                                    refine lv_iconst (v := 0) hx hb dX11_done_227 (by decide) ?_
                                                    have lt223 : (0 : Int32).toInt = 0 := by decide
                                                    refine cbSi (n := 1) (rest := []) hx hb hml hown hts hE hP hD hS hA (sY_X11_truth_1 NF l dC dI cy y0 r 0 v f w g hIv hCf hRf ) k_1761 k_1762 k_114 k_1763 (by decide +kernel) ⟨Nat.le_of_ble_eq_true rfl, Nat.le_of_ble_eq_true rfl⟩ (rfl) hl.1 rfl (Nat.le_of_ble_eq_true rfl) dX11_done_228 (fun r224 u H locs hw hP hD hS => ?_)
                                                    obtain ⟨hG225, hw⟩ := hw
                                                    exact ret r224 () _ _ _ _ _ _ rfl (gsY_X11_done_1_q59 c1 c4 c16 c28 c40 c52 c54 c56 c68 c70 c82 c85 c97 c109 c121 c133 c145 c157 c169 c181 c193 c205 c217 c218 c222 hG225.symm) hP hD hS dX11_done_231 (Nat.le_refl _) (Nat.le_refl _)
                                                  · skip
                                                    have zc222 : ¬ (p2.toInt = 0) := by rw [fa_eq, show (0 : Int32).toInt = 0 from by decide] at c222; exact c222
                                                    refine lv_iconst (v := 1) hx hb dX11_done_223 (by decide) ?_
                                                    refine lv_goto (tgt := 228) hx hb dX11_done_224 (by decide) ?_
                                                    have lt226 : (1 : Int32).toInt = 1 := by decide
                                                    refine cbSi (n := 1) (rest := []) hx hb hml hown hts hE hP hD hS hA (sY_X11_truth_1 NF l dC dI cy y0 r 1 v f w g hIv hCf hRf ) k_1761 k_1762 k_114 k_1763 (by decide +kernel) ⟨Nat.le_of_ble_eq_true rfl, Nat.le_of_ble_eq_true rfl⟩ (rfl) hl.1 rfl (Nat.le_of_ble_eq_true rfl) dX11_done_228 (fun r227 u H locs hw hP hD hS => ?_)
                                                    obtain ⟨hG228, hw⟩ := hw
                                                    exact ret r227 () _ _ _ _ _ _ rfl (gsY_X11_done_1_q60 c1 c4 c16 c28 c40 c52 c54 c56 c68 c70 c82 c85 c97 c109 c121 c133 c145 c157 c169 c181 c193 c205 c217 c218 c222 hG228.symm) hP hD hS dX11_done_231 (Nat.le_refl _) (Nat.le_refl _)
                                              · skip
                                                have zc217 : ¬ (p0.toInt = 59) := by rw [fa_eq, show (59 : Int32).toInt = 59 from by decide] at c217; exact c217
                                                by_cases c229 : p0 = 60
                                                · skip
                                                  refine lv_tableIn (off := 155) (tgt := 156) hx hb dX11_done_1 (by rw [c229]; decide) (by rw [c229]; decide) (by rw [c229]; decide) (by decide) ?_
                                                  have zc229 : p0.toInt = 60 := by rw [fa_eq, show (60 : Int32).toInt = 60 from by decide] at c229; exact c229
                                                  refine lv_iload_n hx hb dX11_done_156 rfl (lv_at hl 1 rfl) ?_
                                                  refine lv_iload_n hx hb dX11_done_157 rfl (lv_at hl 2 rfl) ?_
                                                  refine lv_icmp_ge (tgt := 165) hx hb dX11_done_158 (by decide) (fun c230 => ?_) (fun c230 => ?_)
                                                  · skip
                                                    have zc230 : p2.toInt ≤ p1.toInt := by rw [fa_le] at c230; exact c230
                                                    have rg231 := fb_rng p1
                                                    have rg232 := fb_rng p2
                                                    refine lv_iconst (v := 0) hx hb dX11_done_165 (by decide) ?_
                                                    have lt233 : (0 : Int32).toInt = 0 := by decide
                                                    refine cbSi (n := 1) (rest := []) hx hb hml hown hts hE hP hD hS hA (sY_X11_truth_1 NF l dC dI cy y0 r 0 v f w g hIv hCf hRf ) k_1761 k_1762 k_114 k_1763 (by decide +kernel) ⟨Nat.le_of_ble_eq_true rfl, Nat.le_of_ble_eq_true rfl⟩ (rfl) hl.1 rfl (Nat.le_of_ble_eq_true rfl) dX11_done_166 (fun r234 u H locs hw hP hD hS => ?_)
                                                    obtain ⟨hG235, hw⟩ := hw
                                                    exact ret r234 () _ _ _ _ _ _ rfl (gsY_X11_done_1_q61 c1 c4 c16 c28 c40 c52 c54 c56 c68 c70 c82 c85 c97 c109 c121 c133 c145 c157 c169 c181 c193 c205 c217 c229 c230 hG235.symm) hP hD hS dX11_done_169 (Nat.le_refl _) (Nat.le_refl _)
                                                  · skip
                                                    have zc230 : ¬ (p2.toInt ≤ p1.toInt) := by rw [fa_le] at c230; exact c230
                                                    have rg236 := fb_rng p1
                                                    have rg237 := fb_rng p2
                                                    refine lv_iconst (v := 1) hx hb dX11_done_161 (by decide) ?_
                                                    refine lv_goto (tgt := 166) hx hb dX11_done_162 (by decide) ?_
                                                    have lt238 : (1 : Int32).toInt = 1 := by decide
                                                    refine cbSi (n := 1) (rest := []) hx hb hml hown hts hE hP hD hS hA (sY_X11_truth_1 NF l dC dI cy y0 r 1 v f w g hIv hCf hRf ) k_1761 k_1762 k_114 k_1763 (by decide +kernel) ⟨Nat.le_of_ble_eq_true rfl, Nat.le_of_ble_eq_true rfl⟩ (rfl) hl.1 rfl (Nat.le_of_ble_eq_true rfl) dX11_done_166 (fun r239 u H locs hw hP hD hS => ?_)
                                                    obtain ⟨hG240, hw⟩ := hw
                                                    exact ret r239 () _ _ _ _ _ _ rfl (gsY_X11_done_1_q62 c1 c4 c16 c28 c40 c52 c54 c56 c68 c70 c82 c85 c97 c109 c121 c133 c145 c157 c169 c181 c193 c205 c217 c229 c230 hG240.symm) hP hD hS dX11_done_169 (Nat.le_refl _) (Nat.le_refl _)
                                                · skip
                                                  have zc229 : ¬ (p0.toInt = 60) := by rw [fa_eq, show (60 : Int32).toInt = 60 from by decide] at c229; exact c229
                                                  by_cases c241 : p0 = 61
                                                  · skip
                                                    refine lv_tableIn (off := 183) (tgt := 184) hx hb dX11_done_1 (by rw [c241]; decide) (by rw [c241]; decide) (by rw [c241]; decide) (by decide) ?_
                                                    have zc241 : p0.toInt = 61 := by rw [fa_eq, show (61 : Int32).toInt = 61 from by decide] at c241; exact c241
                                                    refine lv_iload_n hx hb dX11_done_184 rfl (lv_at hl 1 rfl) ?_
                                                    refine lv_iload_n hx hb dX11_done_185 rfl (lv_at hl 2 rfl) ?_
                                                    refine lv_icmp_ne (tgt := 193) hx hb dX11_done_186 (by decide) (fun c242 => ?_) (fun c242 => ?_)
                                                    · skip
                                                      have zc242 : ¬ (p1.toInt = p2.toInt) := by rw [fa_eq] at c242; exact c242
                                                      have rg243 := fb_rng p1
                                                      have rg244 := fb_rng p2
                                                      refine lv_iconst (v := 0) hx hb dX11_done_193 (by decide) ?_
                                                      have lt245 : (0 : Int32).toInt = 0 := by decide
                                                      refine cbSi (n := 1) (rest := []) hx hb hml hown hts hE hP hD hS hA (sY_X11_truth_1 NF l dC dI cy y0 r 0 v f w g hIv hCf hRf ) k_1761 k_1762 k_114 k_1763 (by decide +kernel) ⟨Nat.le_of_ble_eq_true rfl, Nat.le_of_ble_eq_true rfl⟩ (rfl) hl.1 rfl (Nat.le_of_ble_eq_true rfl) dX11_done_194 (fun r246 u H locs hw hP hD hS => ?_)
                                                      obtain ⟨hG247, hw⟩ := hw
                                                      exact ret r246 () _ _ _ _ _ _ rfl (gsY_X11_done_1_q63 c1 c4 c16 c28 c40 c52 c54 c56 c68 c70 c82 c85 c97 c109 c121 c133 c145 c157 c169 c181 c193 c205 c217 c229 c241 c242 hG247.symm) hP hD hS dX11_done_197 (Nat.le_refl _) (Nat.le_refl _)
                                                    · skip
                                                      have zc242 : p1.toInt = p2.toInt := by rw [fa_eq] at c242; exact c242
                                                      have rg248 := fb_rng p1
                                                      have rg249 := fb_rng p2
                                                      refine lv_iconst (v := 1) hx hb dX11_done_189 (by decide) ?_
                                                      refine lv_goto (tgt := 194) hx hb dX11_done_190 (by decide) ?_
                                                      have lt250 : (1 : Int32).toInt = 1 := by decide
                                                      refine cbSi (n := 1) (rest := []) hx hb hml hown hts hE hP hD hS hA (sY_X11_truth_1 NF l dC dI cy y0 r 1 v f w g hIv hCf hRf ) k_1761 k_1762 k_114 k_1763 (by decide +kernel) ⟨Nat.le_of_ble_eq_true rfl, Nat.le_of_ble_eq_true rfl⟩ (rfl) hl.1 rfl (Nat.le_of_ble_eq_true rfl) dX11_done_194 (fun r251 u H locs hw hP hD hS => ?_)
                                                      obtain ⟨hG252, hw⟩ := hw
                                                      exact ret r251 () _ _ _ _ _ _ rfl (gsY_X11_done_1_q64 c1 c4 c16 c28 c40 c52 c54 c56 c68 c70 c82 c85 c97 c109 c121 c133 c145 c157 c169 c181 c193 c205 c217 c229 c241 c242 hG252.symm) hP hD hS dX11_done_197 (Nat.le_refl _) (Nat.le_refl _)
                                                  · skip
                                                    have zc241 : ¬ (p0.toInt = 61) := by rw [fa_eq, show (61 : Int32).toInt = 61 from by decide] at c241; exact c241
                                                    by_cases c253 : p0 = 62
                                                    · skip
                                                      refine lv_tableIn (off := 169) (tgt := 170) hx hb dX11_done_1 (by rw [c253]; decide) (by rw [c253]; decide) (by rw [c253]; decide) (by decide) ?_
                                                      have zc253 : p0.toInt = 62 := by rw [fa_eq, show (62 : Int32).toInt = 62 from by decide] at c253; exact c253
                                                      refine lv_iload_n hx hb dX11_done_170 rfl (lv_at hl 1 rfl) ?_
                                                      refine lv_iload_n hx hb dX11_done_171 rfl (lv_at hl 2 rfl) ?_
                                                      refine lv_icmp_le (tgt := 179) hx hb dX11_done_172 (by decide) (fun c254 => ?_) (fun c254 => ?_)
                                                      · skip
                                                        have zc254 : p1.toInt ≤ p2.toInt := by rw [fa_le] at c254; exact c254
                                                        have rg255 := fb_rng p1
                                                        have rg256 := fb_rng p2
                                                        refine lv_iconst (v := 0) hx hb dX11_done_179 (by decide) ?_
                                                        have lt257 : (0 : Int32).toInt = 0 := by decide
                                                        refine cbSi (n := 1) (rest := []) hx hb hml hown hts hE hP hD hS hA (sY_X11_truth_1 NF l dC dI cy y0 r 0 v f w g hIv hCf hRf ) k_1761 k_1762 k_114 k_1763 (by decide +kernel) ⟨Nat.le_of_ble_eq_true rfl, Nat.le_of_ble_eq_true rfl⟩ (rfl) hl.1 rfl (Nat.le_of_ble_eq_true rfl) dX11_done_180 (fun r258 u H locs hw hP hD hS => ?_)
                                                        obtain ⟨hG259, hw⟩ := hw
                                                        exact ret r258 () _ _ _ _ _ _ rfl (gsY_X11_done_1_q65 c1 c4 c16 c28 c40 c52 c54 c56 c68 c70 c82 c85 c97 c109 c121 c133 c145 c157 c169 c181 c193 c205 c217 c229 c241 c253 c254 hG259.symm) hP hD hS dX11_done_183 (Nat.le_refl _) (Nat.le_refl _)
                                                      · skip
                                                        have zc254 : ¬ (p1.toInt ≤ p2.toInt) := by rw [fa_le] at c254; exact c254
                                                        have rg260 := fb_rng p1
                                                        have rg261 := fb_rng p2
                                                        refine lv_iconst (v := 1) hx hb dX11_done_175 (by decide) ?_
                                                        refine lv_goto (tgt := 180) hx hb dX11_done_176 (by decide) ?_
                                                        have lt262 : (1 : Int32).toInt = 1 := by decide
                                                        refine cbSi (n := 1) (rest := []) hx hb hml hown hts hE hP hD hS hA (sY_X11_truth_1 NF l dC dI cy y0 r 1 v f w g hIv hCf hRf ) k_1761 k_1762 k_114 k_1763 (by decide +kernel) ⟨Nat.le_of_ble_eq_true rfl, Nat.le_of_ble_eq_true rfl⟩ (rfl) hl.1 rfl (Nat.le_of_ble_eq_true rfl) dX11_done_180 (fun r263 u H locs hw hP hD hS => ?_)
                                                        obtain ⟨hG264, hw⟩ := hw
                                                        exact ret r263 () _ _ _ _ _ _ rfl (gsY_X11_done_1_q66 c1 c4 c16 c28 c40 c52 c54 c56 c68 c70 c82 c85 c97 c109 c121 c133 c145 c157 c169 c181 c193 c205 c217 c229 c241 c253 c254 hG264.symm) hP hD hS dX11_done_183 (Nat.le_refl _) (Nat.le_refl _)
                                                    · skip
                                                      have zc253 : ¬ (p0.toInt = 62) := by rw [fa_eq, show (62 : Int32).toInt = 62 from by decide] at c253; exact c253
                                                      refine lv_tableOut (tgt := 215) hx hb dX11_done_1 (by omega) (by decide) ?_
                                                      refine lv_iload_n hx hb dX11_done_215 rfl (lv_at hl 1 rfl) ?_
                                                      refine lv_if_ne (tgt := 223) hx hb dX11_done_216 (by decide) (fun c265 => ?_) (fun c265 => ?_)
                                                      · skip
                                                        have zc265 : ¬ (p1.toInt = 0) := by rw [fa_eq, show (0 : Int32).toInt = 0 from by decide] at c265; exact c265
                                                        refine lv_iconst (v := 1) hx hb dX11_done_223 (by decide) ?_
                                                        refine lv_goto (tgt := 228) hx hb dX11_done_224 (by decide) ?_
                                                        have lt266 : (1 : Int32).toInt = 1 := by decide
                                                        refine cbSi (n := 1) (rest := []) hx hb hml hown hts hE hP hD hS hA (sY_X11_truth_1 NF l dC dI cy y0 r 1 v f w g hIv hCf hRf ) k_1761 k_1762 k_114 k_1763 (by decide +kernel) ⟨Nat.le_of_ble_eq_true rfl, Nat.le_of_ble_eq_true rfl⟩ (rfl) hl.1 rfl (Nat.le_of_ble_eq_true rfl) dX11_done_228 (fun r267 u H locs hw hP hD hS => ?_)
                                                        obtain ⟨hG268, hw⟩ := hw
                                                        exact ret r267 () _ _ _ _ _ _ rfl (gsY_X11_done_1_q67 c1 c4 c16 c28 c40 c52 c54 c56 c68 c70 c82 c85 c97 c109 c121 c133 c145 c157 c169 c181 c193 c205 c217 c229 c241 c253 c265 hG268.symm) hP hD hS dX11_done_231 (Nat.le_refl _) (Nat.le_refl _)
                                                      · skip
                                                        have zc265 : p1.toInt = 0 := by rw [fa_eq, show (0 : Int32).toInt = 0 from by decide] at c265; exact c265
                                                        refine lv_iload_n hx hb dX11_done_219 rfl (lv_at hl 2 rfl) ?_
                                                        refine lv_if_eq (tgt := 227) hx hb dX11_done_220 (by decide) (fun c269 => ?_) (fun c269 => ?_)
                                                        · skip
                                                          have zc269 : p2.toInt = 0 := by rw [fa_eq, show (0 : Int32).toInt = 0 from by decide] at c269; exact c269
                                                          refine lv_iconst (v := 0) hx hb dX11_done_227 (by decide) ?_
                                                          have lt270 : (0 : Int32).toInt = 0 := by decide
                                                          refine cbSi (n := 1) (rest := []) hx hb hml hown hts hE hP hD hS hA (sY_X11_truth_1 NF l dC dI cy y0 r 0 v f w g hIv hCf hRf ) k_1761 k_1762 k_114 k_1763 (by decide +kernel) ⟨Nat.le_of_ble_eq_true rfl, Nat.le_of_ble_eq_true rfl⟩ (rfl) hl.1 rfl (Nat.le_of_ble_eq_true rfl) dX11_done_228 (fun r271 u H locs hw hP hD hS => ?_)
                                                          obtain ⟨hG272, hw⟩ := hw
                                                          exact ret r271 () _ _ _ _ _ _ rfl (gsY_X11_done_1_q68 c1 c4 c16 c28 c40 c52 c54 c56 c68 c70 c82 c85 c97 c109 c121 c133 c145 c157 c169 c181 c193 c205 c217 c229 c241 c253 c265 c269 hG272.symm) hP hD hS dX11_done_231 (Nat.le_refl _) (Nat.le_refl _)
                                                        · skip
                                                          have zc269 : ¬ (p2.toInt = 0) := by rw [fa_eq, show (0 : Int32).toInt = 0 from by decide] at c269; exact c269
                                                          refine lv_iconst (v := 1) hx hb dX11_done_223 (by decide) ?_
                                                          refine lv_goto (tgt := 228) hx hb dX11_done_224 (by decide) ?_
                                                          have lt273 : (1 : Int32).toInt = 1 := by decide
                                                          refine cbSi (n := 1) (rest := []) hx hb hml hown hts hE hP hD hS hA (sY_X11_truth_1 NF l dC dI cy y0 r 1 v f w g hIv hCf hRf ) k_1761 k_1762 k_114 k_1763 (by decide +kernel) ⟨Nat.le_of_ble_eq_true rfl, Nat.le_of_ble_eq_true rfl⟩ (rfl) hl.1 rfl (Nat.le_of_ble_eq_true rfl) dX11_done_228 (fun r274 u H locs hw hP hD hS => ?_)
                                                          obtain ⟨hG275, hw⟩ := hw
                                                          exact ret r274 () _ _ _ _ _ _ rfl (gsY_X11_done_1_q69 c1 c4 c16 c28 c40 c52 c54 c56 c68 c70 c82 c85 c97 c109 c121 c133 c145 c157 c169 c181 c193 c205 c217 c229 c241 c253 c265 c269 hG275.symm) hP hD hS dX11_done_231 (Nat.le_refl _) (Nat.le_refl _)
set_option maxHeartbeats 4000000 in
set_option maxRecDepth 100000 in
theorem sY_X11_misfitOf_1 (NF : Nat) (l : Launch) (dC : Nat → ClassId) (dI : Nat → Nat → Nat) (cy : Nat → ClassId) (y0 : Nat) (r : Nat → Nat) (p1 : Int32) (p2 : Int32) (v : Nat → Int32) (f : Nat → Nat → Int32) (w : Int64) (g : Nat → Int64) (hIv : YI v) (hCf : YC f) (hRf : progOK (f 4) (f 5) (v 9).toInt.toNat) (hp1 : (0 : Int) ≤ p1.toInt ∧ p1.toInt ≤ 5) (hp2 : (0 : Int) ≤ p2.toInt ∧ p2.toInt ≤ 5) : ctI l (dC, dI) cy yX11_misfitOf cX11_misfitOf 5 .int 3 102 0 0 ((Nat → Int32) × (Nat → Nat → Int32) × (Int64) × (Nat → Int64)) [.ref y0, .int p1, .int p2] (YW cy y0 r v f w g) (fun r u => gsY_X11_misfitOf_1 NF p1 p2 v f w g = (r, u) ∧ KV [] u.1 v ∧ KF [7, 8] u.2.1 f ∧ YI u.1 ∧ YC u.2.1 ∧ progOK (u.2.1 4) (u.2.1 5) (u.1 9).toInt.toNat ∧ u.1 0 = v 0 ∧ u.1 1 = v 1 ∧ u.1 2 = v 2 ∧ u.1 3 = v 3 ∧ u.1 4 = v 4 ∧ u.1 5 = v 5 ∧ u.1 8 = v 8 ∧ u.1 9 = v 9 ∧ u.1 10 = v 10 ∧ u.1 13 = v 13 ∧ u.1 14 = v 14 ∧ u.1 15 = v 15 ∧ u.1 17 = v 17 ∧ u.1 18 = v 18 ∧ u.1 24 = v 24 ∧ u.1 25 = v 25 ∧ u.1 35 = v 35 ∧ u.1 36 = v 36 ∧ u.1 38 = v 38 ∧ u.1 39 = v 39) (fun u => YW cy y0 r u.1 u.2.1 u.2.2.1 u.2.2.2) := by
  refine ctI_of (by decide) (Nat.le_of_ble_eq_true rfl) (fun p e s m below meth c A ls Q hx hb hml hts hown hE hP hD hA hl ret => ?_)
  have hUv : (v 35).toInt + (v 36).toInt ≤ 40 := hIv.2
  have hs4_f : f 4 = f 4 := rfl
  have hs5_f : f 5 = f 5 := rfl
  have hM_v : KV [] v v := fun _ _ => rfl
  have hA_f : KF [7, 8] f f := fun _ _ => rfl
  have hown : s.vm.findClass RX11 = some m.cls := hown
  have hS : va_S A s.heap s.heap [] := va_S.rf
  have hl : lv_has ls 5 [(0, .ref y0), (1, .int p1), (2, .int p2)] := hl
  refine lv_aload_n hx hb dX11_misfitOf_0 rfl (lv_at hl 0 rfl) ?_
  refine va_get (D := (dC, dI)) (ci := 11) (v := .ref (r 26)) (C := RX11) (T := TX11) (N := 79) hx hb hts inB_11 hown hE.1 hP 0 rfl rfl 26 (by decide) (hts _ k_1346) (fun _ h9 => h9) rfl dX11_misfitOf_1 ?_
  refine lv_iconst (v := 0) hx hb dX11_misfitOf_4 (by decide) ?_
  refine lv_aload_n hx hb dX11_misfitOf_5 rfl (lv_at hl 0 rfl) ?_
  refine va_get (D := (dC, dI)) (ci := 11) (v := .ref (r 60)) (C := RX11) (T := TX11) (N := 79) hx hb hts inB_11 hown hE.1 hP 0 rfl rfl 60 (by decide) (hts _ k_1380) (fun _ h9 => h9) rfl dX11_misfitOf_6 ?_
  refine lv_iload_n hx hb dX11_misfitOf_9 rfl (lv_at hl 1 rfl) ?_
  refine ldI hx hb hE hP 25 rfl (vp_in_iff.mpr ⟨by omega, by omega⟩) rfl rfl dX11_misfitOf_10 ?_
  refine lv_topi (fun t1 et1 => ?_)
  have zt1 : p1.toInt.toNat % 39 < 6 ∨ 12 ≤ p1.toInt.toNat % 39 ∨ (-1 ≤ t1.toInt ∧ t1.toInt ≤ 5) := by rw [et1]; exact wear_ld hCf.2.1 (show p1.toInt.toNat < 39 by omega)
  refine lv_aload_n hx hb dX11_misfitOf_11 rfl (lv_at hl 0 rfl) ?_
  refine va_get (D := (dC, dI)) (ci := 11) (v := .ref (r 60)) (C := RX11) (T := TX11) (N := 79) hx hb hts inB_11 hown hE.1 hP 0 rfl rfl 60 (by decide) (hts _ k_1380) (fun _ h9 => h9) rfl dX11_misfitOf_12 ?_
  refine lv_bipush (v := 18) hx hb dX11_misfitOf_15 (by decide) ?_
  refine lv_iload_n hx hb dX11_misfitOf_17 rfl (lv_at hl 2 rfl) ?_
  refine lv_iadd hx hb dX11_misfitOf_18 ?_
  refine lv_topi (fun t2 et2 => ?_)
  have rg3 := fb_rng p2
  have zt2 : t2.toInt = 18 + p2.toInt := by rw [et2]; exact add_i (by decide) rfl (by omega) (by omega)
  refine ldI hx hb hE hP 25 rfl (vp_in_iff.mpr ⟨by omega, by omega⟩) rfl rfl dX11_misfitOf_19 ?_
  refine lv_topi (fun t4 et4 => ?_)
  have zt4 : t2.toInt.toNat % 39 < 6 ∨ 12 ≤ t2.toInt.toNat % 39 ∨ (-1 ≤ t4.toInt ∧ t4.toInt ≤ 5) := by rw [et4]; exact wear_ld hCf.2.1 (show t2.toInt.toNat < 39 by omega)
  refine cbSi (n := 2) (rest := [.int 0, .ref (r 26)]) hx hb hml hown hts hE hP hD hS hA (sY_X11_over_1 NF l dC dI cy y0 r t1 t4 v f w g hIv hCf hRf ) k_1755 k_1756 k_114 k_1757 (by decide +kernel) ⟨Nat.le_of_ble_eq_true rfl, Nat.le_of_ble_eq_true rfl⟩ (rfl) hl.1 rfl (Nat.le_of_ble_eq_true rfl) dX11_misfitOf_20 (fun r5 u H locs hw hP hD hS => ?_)
  have hG6 := hw
  refine stI hx hb hE hP hD hS 9 rfl (vp_in_nI (n := 0) (by decide) (by decide)) rfl dX11_misfitOf_23 (fun H locs hP hD hS => ?_)
  obtain ⟨f7, ef7, hP, hD⟩ : ∃ fz9, fz9 = upd2 f 8 (upd (f 8) (0 : Int32).toNatClampNeg r5) ∧ va_P (dC, dI) vwCl (YW cy y0 r v fz9 w g) H ∧ va_D A (YW cy y0 r v fz9 w g) := ⟨_, rfl, hP, hD⟩
  have hCf7 : YC f7 := by rw [ef7]; exact hCf
  have hs4_f7 : f7 4 = f 4 := by rw [ef7]; exact hs4_f
  have hs5_f7 : f7 5 = f 5 := by rw [ef7]; exact hs5_f
  have hRf7 : progOK (f7 4) (f7 5) (v 9).toInt.toNat := by rw [ef7]; exact hRf
  have hA_f7 : KF [7, 8] f7 f := by rw [ef7]; exact KF.up hA_f rfl
  refine lv_aload_n hx hb dX11_misfitOf_24 rfl (lv_at hl 0 rfl) ?_
  refine va_get (D := (dC, dI)) (ci := 11) (v := .ref (r 26)) (C := RX11) (T := TX11) (N := 79) hx hb hts inB_11 hown hE.1 hP 0 rfl rfl 26 (by decide) (hts _ k_1346) (fun _ h9 => h9) rfl dX11_misfitOf_25 ?_
  refine lv_iconst (v := 1) hx hb dX11_misfitOf_28 (by decide) ?_
  refine lv_aload_n hx hb dX11_misfitOf_29 rfl (lv_at hl 0 rfl) ?_
  refine va_get (D := (dC, dI)) (ci := 11) (v := .ref (r 60)) (C := RX11) (T := TX11) (N := 79) hx hb hts inB_11 hown hE.1 hP 0 rfl rfl 60 (by decide) (hts _ k_1380) (fun _ h9 => h9) rfl dX11_misfitOf_30 ?_
  refine lv_bipush (v := 18) hx hb dX11_misfitOf_33 (by decide) ?_
  refine lv_iload_n hx hb dX11_misfitOf_35 rfl (lv_at hl 2 rfl) ?_
  refine lv_iadd hx hb dX11_misfitOf_36 ?_
  refine tI (y := t2) et2.symm ?_
  refine ldI hx hb hE hP 25 rfl (vp_in_iff.mpr ⟨by omega, by omega⟩) rfl rfl dX11_misfitOf_37 ?_
  refine lv_topi (fun t8 et8 => ?_)
  have zt8 : t2.toInt.toNat % 39 < 6 ∨ 12 ≤ t2.toInt.toNat % 39 ∨ (-1 ≤ t8.toInt ∧ t8.toInt ≤ 5) := by rw [et8]; exact wear_ld hCf7.2.1 (show t2.toInt.toNat < 39 by omega)
  refine lv_aload_n hx hb dX11_misfitOf_38 rfl (lv_at hl 0 rfl) ?_
  refine va_get (D := (dC, dI)) (ci := 11) (v := .ref (r 60)) (C := RX11) (T := TX11) (N := 79) hx hb hts inB_11 hown hE.1 hP 0 rfl rfl 60 (by decide) (hts _ k_1380) (fun _ h9 => h9) rfl dX11_misfitOf_39 ?_
  refine lv_iload_n hx hb dX11_misfitOf_42 rfl (lv_at hl 1 rfl) ?_
  refine ldI hx hb hE hP 25 rfl (vp_in_iff.mpr ⟨by omega, by omega⟩) rfl rfl dX11_misfitOf_43 ?_
  refine lv_topi (fun t9 et9 => ?_)
  have zt9 : p1.toInt.toNat % 39 < 6 ∨ 12 ≤ p1.toInt.toNat % 39 ∨ (-1 ≤ t9.toInt ∧ t9.toInt ≤ 5) := by rw [et9]; exact wear_ld hCf7.2.1 (show p1.toInt.toNat < 39 by omega)
  refine cbSi (n := 2) (rest := [.int 1, .ref (r 26)]) hx hb hml hown hts hE hP hD hS hA (sY_X11_over_1 NF l dC dI cy y0 r t8 t9 v f7 w g hIv hCf7 hRf7 ) k_1755 k_1756 k_114 k_1757 (by decide +kernel) ⟨Nat.le_of_ble_eq_true rfl, Nat.le_of_ble_eq_true rfl⟩ (rfl) hl.1 rfl (Nat.le_of_ble_eq_true rfl) dX11_misfitOf_44 (fun r10 u H locs hw hP hD hS => ?_)
  have hG11 := hw
  refine stI hx hb hE hP hD hS 9 rfl (vp_in_nI (n := 1) (by decide) (by decide)) rfl dX11_misfitOf_47 (fun H locs hP hD hS => ?_)
  obtain ⟨f12, ef12, hP, hD⟩ : ∃ fz9, fz9 = upd2 f7 8 (upd (f7 8) (1 : Int32).toNatClampNeg r10) ∧ va_P (dC, dI) vwCl (YW cy y0 r v fz9 w g) H ∧ va_D A (YW cy y0 r v fz9 w g) := ⟨_, rfl, hP, hD⟩
  have hCf12 : YC f12 := by rw [ef12]; exact hCf7
  have hs4_f12 : f12 4 = f 4 := by rw [ef12]; exact hs4_f7
  have hs5_f12 : f12 5 = f 5 := by rw [ef12]; exact hs5_f7
  have hRf12 : progOK (f12 4) (f12 5) (v 9).toInt.toNat := by rw [ef12]; exact hRf7
  have hA_f12 : KF [7, 8] f12 f := by rw [ef12]; exact KF.up hA_f7 rfl
  refine lv_aload_n hx hb dX11_misfitOf_48 rfl (lv_at hl 0 rfl) ?_
  refine va_get (D := (dC, dI)) (ci := 11) (v := .ref (r 26)) (C := RX11) (T := TX11) (N := 79) hx hb hts inB_11 hown hE.1 hP 0 rfl rfl 26 (by decide) (hts _ k_1346) (fun _ h9 => h9) rfl dX11_misfitOf_49 ?_
  refine lv_iconst (v := 2) hx hb dX11_misfitOf_52 (by decide) ?_
  refine lv_aload_n hx hb dX11_misfitOf_53 rfl (lv_at hl 0 rfl) ?_
  refine va_get (D := (dC, dI)) (ci := 11) (v := .ref (r 34)) (C := RX11) (T := TX11) (N := 79) hx hb hts inB_11 hown hE.1 hP 0 rfl rfl 34 (by decide) (hts _ k_1354) (fun _ h9 => h9) rfl dX11_misfitOf_54 ?_
  refine lv_iload_n hx hb dX11_misfitOf_57 rfl (lv_at hl 1 rfl) ?_
  refine ldI hx hb hE hP 17 rfl (vp_in_iff.mpr ⟨by omega, by omega⟩) rfl rfl dX11_misfitOf_58 ?_
  refine lv_topi (fun t13 et13 => ?_)
  refine lv_aload_n hx hb dX11_misfitOf_59 rfl (lv_at hl 0 rfl) ?_
  refine va_get (D := (dC, dI)) (ci := 11) (v := .ref (r 60)) (C := RX11) (T := TX11) (N := 79) hx hb hts inB_11 hown hE.1 hP 0 rfl rfl 60 (by decide) (hts _ k_1380) (fun _ h9 => h9) rfl dX11_misfitOf_60 ?_
  refine lv_bipush (v := 12) hx hb dX11_misfitOf_63 (by decide) ?_
  refine lv_iload_n hx hb dX11_misfitOf_65 rfl (lv_at hl 2 rfl) ?_
  refine lv_iadd hx hb dX11_misfitOf_66 ?_
  refine lv_topi (fun t14 et14 => ?_)
  have zt14 : t14.toInt = 12 + p2.toInt := by rw [et14]; exact add_i (by decide) rfl (by omega) (by omega)
  refine ldI hx hb hE hP 25 rfl (vp_in_iff.mpr ⟨by omega, by omega⟩) rfl rfl dX11_misfitOf_67 ?_
  refine lv_topi (fun t15 et15 => ?_)
  have zt15 : t14.toInt.toNat % 39 < 6 ∨ 12 ≤ t14.toInt.toNat % 39 ∨ (-1 ≤ t15.toInt ∧ t15.toInt ≤ 5) := by rw [et15]; exact wear_ld hCf12.2.1 (show t14.toInt.toNat < 39 by omega)
  refine cbSi (n := 2) (rest := [.int 2, .ref (r 26)]) hx hb hml hown hts hE hP hD hS hA (sY_X11_over_1 NF l dC dI cy y0 r t13 t15 v f12 w g hIv hCf12 hRf12 ) k_1755 k_1756 k_114 k_1757 (by decide +kernel) ⟨Nat.le_of_ble_eq_true rfl, Nat.le_of_ble_eq_true rfl⟩ (rfl) hl.1 rfl (Nat.le_of_ble_eq_true rfl) dX11_misfitOf_68 (fun r16 u H locs hw hP hD hS => ?_)
  have hG17 := hw
  refine stI hx hb hE hP hD hS 9 rfl (vp_in_nI (n := 2) (by decide) (by decide)) rfl dX11_misfitOf_71 (fun H locs hP hD hS => ?_)
  obtain ⟨f18, ef18, hP, hD⟩ : ∃ fz9, fz9 = upd2 f12 8 (upd (f12 8) (2 : Int32).toNatClampNeg r16) ∧ va_P (dC, dI) vwCl (YW cy y0 r v fz9 w g) H ∧ va_D A (YW cy y0 r v fz9 w g) := ⟨_, rfl, hP, hD⟩
  have hCf18 : YC f18 := by rw [ef18]; exact hCf12
  have hs4_f18 : f18 4 = f 4 := by rw [ef18]; exact hs4_f12
  have hs5_f18 : f18 5 = f 5 := by rw [ef18]; exact hs5_f12
  have hRf18 : progOK (f18 4) (f18 5) (v 9).toInt.toNat := by rw [ef18]; exact hRf12
  have hA_f18 : KF [7, 8] f18 f := by rw [ef18]; exact KF.up hA_f12 rfl
  refine lv_aload_n hx hb dX11_misfitOf_72 rfl (lv_at hl 0 rfl) ?_
  refine va_get (D := (dC, dI)) (ci := 11) (v := .ref (r 26)) (C := RX11) (T := TX11) (N := 79) hx hb hts inB_11 hown hE.1 hP 0 rfl rfl 26 (by decide) (hts _ k_1346) (fun _ h9 => h9) rfl dX11_misfitOf_73 ?_
  refine lv_iconst (v := 3) hx hb dX11_misfitOf_76 (by decide) ?_
  refine lv_aload_n hx hb dX11_misfitOf_77 rfl (lv_at hl 0 rfl) ?_
  refine va_get (D := (dC, dI)) (ci := 11) (v := .ref (r 60)) (C := RX11) (T := TX11) (N := 79) hx hb hts inB_11 hown hE.1 hP 0 rfl rfl 60 (by decide) (hts _ k_1380) (fun _ h9 => h9) rfl dX11_misfitOf_78 ?_
  refine lv_bipush (v := 12) hx hb dX11_misfitOf_81 (by decide) ?_
  refine lv_iload_n hx hb dX11_misfitOf_83 rfl (lv_at hl 2 rfl) ?_
  refine lv_iadd hx hb dX11_misfitOf_84 ?_
  refine tI (y := t14) et14.symm ?_
  refine ldI hx hb hE hP 25 rfl (vp_in_iff.mpr ⟨by omega, by omega⟩) rfl rfl dX11_misfitOf_85 ?_
  refine lv_topi (fun t19 et19 => ?_)
  have zt19 : t14.toInt.toNat % 39 < 6 ∨ 12 ≤ t14.toInt.toNat % 39 ∨ (-1 ≤ t19.toInt ∧ t19.toInt ≤ 5) := by rw [et19]; exact wear_ld hCf18.2.1 (show t14.toInt.toNat < 39 by omega)
  refine lv_aload_n hx hb dX11_misfitOf_86 rfl (lv_at hl 0 rfl) ?_
  refine va_get (D := (dC, dI)) (ci := 11) (v := .ref (r 34)) (C := RX11) (T := TX11) (N := 79) hx hb hts inB_11 hown hE.1 hP 0 rfl rfl 34 (by decide) (hts _ k_1354) (fun _ h9 => h9) rfl dX11_misfitOf_87 ?_
  refine lv_iload_n hx hb dX11_misfitOf_90 rfl (lv_at hl 1 rfl) ?_
  refine ldI hx hb hE hP 17 rfl (vp_in_iff.mpr ⟨by omega, by omega⟩) rfl rfl dX11_misfitOf_91 ?_
  refine lv_topi (fun t20 et20 => ?_)
  refine cbSi (n := 2) (rest := [.int 3, .ref (r 26)]) hx hb hml hown hts hE hP hD hS hA (sY_X11_over_1 NF l dC dI cy y0 r t19 t20 v f18 w g hIv hCf18 hRf18 ) k_1755 k_1756 k_114 k_1757 (by decide +kernel) ⟨Nat.le_of_ble_eq_true rfl, Nat.le_of_ble_eq_true rfl⟩ (rfl) hl.1 rfl (Nat.le_of_ble_eq_true rfl) dX11_misfitOf_92 (fun r21 u H locs hw hP hD hS => ?_)
  have hG22 := hw
  refine stI hx hb hE hP hD hS 9 rfl (vp_in_nI (n := 3) (by decide) (by decide)) rfl dX11_misfitOf_95 (fun H locs hP hD hS => ?_)
  obtain ⟨f23, ef23, hP, hD⟩ : ∃ fz9, fz9 = upd2 f18 8 (upd (f18 8) (3 : Int32).toNatClampNeg r21) ∧ va_P (dC, dI) vwCl (YW cy y0 r v fz9 w g) H ∧ va_D A (YW cy y0 r v fz9 w g) := ⟨_, rfl, hP, hD⟩
  have hCf23 : YC f23 := by rw [ef23]; exact hCf18
  have hs4_f23 : f23 4 = f 4 := by rw [ef23]; exact hs4_f18
  have hs5_f23 : f23 5 = f 5 := by rw [ef23]; exact hs5_f18
  have hRf23 : progOK (f23 4) (f23 5) (v 9).toInt.toNat := by rw [ef23]; exact hRf18
  have hA_f23 : KF [7, 8] f23 f := by rw [ef23]; exact KF.up hA_f18 rfl
  refine lv_aload_n hx hb dX11_misfitOf_96 rfl (lv_at hl 0 rfl) ?_
  refine va_get (D := (dC, dI)) (ci := 11) (v := .ref (r 26)) (C := RX11) (T := TX11) (N := 79) hx hb hts inB_11 hown hE.1 hP 0 rfl rfl 26 (by decide) (hts _ k_1346) (fun _ h9 => h9) rfl dX11_misfitOf_97 ?_
  refine lv_iconst (v := 4) hx hb dX11_misfitOf_100 (by decide) ?_
  refine lv_aload_n hx hb dX11_misfitOf_101 rfl (lv_at hl 0 rfl) ?_
  refine va_get (D := (dC, dI)) (ci := 11) (v := .ref (r 60)) (C := RX11) (T := TX11) (N := 79) hx hb hts inB_11 hown hE.1 hP 0 rfl rfl 60 (by decide) (hts _ k_1380) (fun _ h9 => h9) rfl dX11_misfitOf_102 ?_
  refine lv_bipush (v := 30) hx hb dX11_misfitOf_105 (by decide) ?_
  refine lv_iload_n hx hb dX11_misfitOf_107 rfl (lv_at hl 2 rfl) ?_
  refine lv_iadd hx hb dX11_misfitOf_108 ?_
  refine lv_topi (fun t24 et24 => ?_)
  have zt24 : t24.toInt = 30 + p2.toInt := by rw [et24]; exact add_i (by decide) rfl (by omega) (by omega)
  refine ldI hx hb hE hP 25 rfl (vp_in_iff.mpr ⟨by omega, by omega⟩) rfl rfl dX11_misfitOf_109 ?_
  refine lv_topi (fun t25 et25 => ?_)
  have zt25 : t24.toInt.toNat % 39 < 6 ∨ 12 ≤ t24.toInt.toNat % 39 ∨ (-1 ≤ t25.toInt ∧ t25.toInt ≤ 5) := by rw [et25]; exact wear_ld hCf23.2.1 (show t24.toInt.toNat < 39 by omega)
  refine stI hx hb hE hP hD hS 9 rfl (vp_in_nI (n := 4) (by decide) (by decide)) rfl dX11_misfitOf_110 (fun H locs hP hD hS => ?_)
  obtain ⟨f26, ef26, hP, hD⟩ : ∃ fz9, fz9 = upd2 f23 8 (upd (f23 8) (4 : Int32).toNatClampNeg t25) ∧ va_P (dC, dI) vwCl (YW cy y0 r v fz9 w g) H ∧ va_D A (YW cy y0 r v fz9 w g) := ⟨_, rfl, hP, hD⟩
  have hCf26 : YC f26 := by rw [ef26]; exact hCf23
  have hs4_f26 : f26 4 = f 4 := by rw [ef26]; exact hs4_f23
  have hs5_f26 : f26 5 = f 5 := by rw [ef26]; exact hs5_f23
  have hRf26 : progOK (f26 4) (f26 5) (v 9).toInt.toNat := by rw [ef26]; exact hRf23
  have hA_f26 : KF [7, 8] f26 f := by rw [ef26]; exact KF.up hA_f23 rfl
  refine lv_aload_n hx hb dX11_misfitOf_111 rfl (lv_at hl 0 rfl) ?_
  refine va_get (D := (dC, dI)) (ci := 11) (v := .ref (r 26)) (C := RX11) (T := TX11) (N := 79) hx hb hts inB_11 hown hE.1 hP 0 rfl rfl 26 (by decide) (hts _ k_1346) (fun _ h9 => h9) rfl dX11_misfitOf_112 ?_
  refine lv_iconst (v := 5) hx hb dX11_misfitOf_115 (by decide) ?_
  refine lv_aload_n hx hb dX11_misfitOf_116 rfl (lv_at hl 0 rfl) ?_
  refine va_get (D := (dC, dI)) (ci := 11) (v := .ref (r 60)) (C := RX11) (T := TX11) (N := 79) hx hb hts inB_11 hown hE.1 hP 0 rfl rfl 60 (by decide) (hts _ k_1380) (fun _ h9 => h9) rfl dX11_misfitOf_117 ?_
  refine lv_bipush (v := 37) hx hb dX11_misfitOf_120 (by decide) ?_
  refine ldI hx hb hE hP 25 rfl (vp_in_nI (n := 37) (by decide) (by decide)) rfl rfl dX11_misfitOf_122 ?_
  refine lv_topi (fun t27 et27 => ?_)
  have zt27 : 37 % 39 < 6 ∨ 12 ≤ 37 % 39 ∨ (-1 ≤ t27.toInt ∧ t27.toInt ≤ 5) := by rw [et27]; exact wear_ld hCf26.2.1 (show 37 < 39 by omega)
  refine stI hx hb hE hP hD hS 9 rfl (vp_in_nI (n := 5) (by decide) (by decide)) rfl dX11_misfitOf_123 (fun H locs hP hD hS => ?_)
  obtain ⟨f28, ef28, hP, hD⟩ : ∃ fz9, fz9 = upd2 f26 8 (upd (f26 8) (5 : Int32).toNatClampNeg t27) ∧ va_P (dC, dI) vwCl (YW cy y0 r v fz9 w g) H ∧ va_D A (YW cy y0 r v fz9 w g) := ⟨_, rfl, hP, hD⟩
  have hCf28 : YC f28 := by rw [ef28]; exact hCf26
  have hs4_f28 : f28 4 = f 4 := by rw [ef28]; exact hs4_f26
  have hs5_f28 : f28 5 = f 5 := by rw [ef28]; exact hs5_f26
  have hRf28 : progOK (f28 4) (f28 5) (v 9).toInt.toNat := by rw [ef28]; exact hRf26
  have hA_f28 : KF [7, 8] f28 f := by rw [ef28]; exact KF.up hA_f26 rfl
  refine lv_aload_n hx hb dX11_misfitOf_124 rfl (lv_at hl 0 rfl) ?_
  refine va_get (D := (dC, dI)) (ci := 11) (v := .int (v 16)) (C := RX11) (T := TX11) (N := 79) hx hb hts inB_11 hown hE.1 hP 0 rfl rfl 25 (by decide) (hts _ k_1345) (fun _ h9 => h9) rfl dX11_misfitOf_125 ?_
  refine lv_if_ne (tgt := 176) hx hb dX11_misfitOf_128 (by decide) (fun c29 => ?_) (fun c29 => ?_)
  · skip
    have zc29 : ¬ ((v 16).toInt = 0) := by rw [fa_eq, show (0 : Int32).toInt = 0 from by decide] at c29; exact c29
    refine lv_iconst (v := 0) hx hb dX11_misfitOf_176 (by decide) ?_
    refine lv_istore_n (lv' := [(3, .int 0), (0, .ref y0), (1, .int p1), (2, .int p2)]) hx hb dX11_misfitOf_177 rfl hl (by decide) rfl (fun ls hl => ?_)
    refine lv_iconst (v := 0) hx hb dX11_misfitOf_178 (by decide) ?_
    refine lv_istore (lv' := [(4, .int 0), (3, .int 0), (0, .ref y0), (1, .int p1), (2, .int p2)]) hx hb dX11_misfitOf_179 hl (by decide) rfl (fun ls hl => ?_)
    have lp30 : ∀ (n30 : Nat) (l3_30 : Int32) (l4_30 : Int32) (v30 : Nat → Int32) (f30 : Nat → Nat → Int32) (w30 : Int64) (g30 : Nat → Int64), YI v30 → YC f30 → progOK (f30 4) (f30 5) (v30 9).toInt.toNat → v30 0 = (v 0) → v30 1 = (v 1) → v30 2 = (v 2) → v30 3 = (v 3) → v30 4 = (v 4) → v30 5 = (v 5) → v30 8 = (v 8) → v30 9 = (v 9) → v30 10 = (v 10) → v30 13 = (v 13) → v30 14 = (v 14) → v30 15 = (v 15) → v30 17 = (v 17) → v30 18 = (v 18) → v30 24 = (v 24) → v30 25 = (v 25) → v30 35 = (v 35) → v30 36 = (v 36) → v30 38 = (v 38) → v30 39 = (v 39) → gsY_X11_misfitOf_1_L30 NF v n30 l3_30 l4_30 v30 f30 w30 g30 = (gsY_X11_misfitOf_1 NF p1 p2 v f w g) → ((0 : Int) ≤ l3_30.toInt ∧ l3_30.toInt ≤ 64) → ((0 : Int) ≤ l4_30.toInt ∧ l4_30.toInt ≤ 2147483647) → (l3_30.toInt = dpF (f 4) (l4_30.toInt).toNat) → f30 4 = f 4 → f30 5 = f 5 → KV [] v30 v → KF [7, 8] f30 f → (2147483647 - l4_30.toInt).toNat < n30 → ∀ (H : Heap) (locs : List Loc) (ls : Array Slot), va_P (dC, dI) vwCl (YW cy y0 r v30 f30 w30 g30) H → va_D A (YW cy y0 r v30 f30 w30 g30) → va_S A s.heap H locs → lv_has ls 5 [(4, .int l4_30), (3, .int l3_30), (0, .ref y0), (1, .int p1), (2, .int p2)] → W p l e { frames := 3, cells := 0, slots := 0, locals := 102 } s m ([.ref y0, .int p1, .int p2] : List Value).toArray below meth c H locs 0 0 Q (F0 m 181 ls []) := by
      intro n30
      induction n30 with
      | zero => intro l3_30 l4_30 v30 f30 w30 g30 hIv30 hCf30 hRf30 hq0_v30 hq1_v30 hq2_v30 hq3_v30 hq4_v30 hq5_v30 hq8_v30 hq9_v30 hq10_v30 hq13_v30 hq14_v30 hq15_v30 hq17_v30 hq18_v30 hq24_v30 hq25_v30 hq35_v30 hq36_v30 hq38_v30 hq39_v30 hT30 hr3_30 hr4_30 hx0_30 hs4_f30 hs5_f30 hM_v30 hA_f30 hm; exact absurd hm (Nat.not_lt_zero _)
      | succ n30 ih30 =>
        intro l3_30 l4_30 v30 f30 w30 g30 hIv30 hCf30 hRf30 hq0_v30 hq1_v30 hq2_v30 hq3_v30 hq4_v30 hq5_v30 hq8_v30 hq9_v30 hq10_v30 hq13_v30 hq14_v30 hq15_v30 hq17_v30 hq18_v30 hq24_v30 hq25_v30 hq35_v30 hq36_v30 hq38_v30 hq39_v30 hT30 hr3_30 hr4_30 hx0_30 hs4_f30 hs5_f30 hM_v30 hA_f30 hm30 H locs ls hP hD hS hl
        have hUv30 : (v30 35).toInt + (v30 36).toInt ≤ 40 := hIv30.2
        have zq9_v30 := congrArg Int32.toInt hq9_v30
        refine lv_iload hx hb dX11_misfitOf_181 (lv_at hl 0 rfl) ?_
        refine lv_aload_n hx hb dX11_misfitOf_183 rfl (lv_at hl 2 rfl) ?_
        refine va_get (D := (dC, dI)) (ci := 11) (v := .int (v30 9)) (C := RX11) (T := TX11) (N := 79) hx hb hts inB_11 hown hE.1 hP 0 rfl rfl 18 (by decide) (hts _ k_1338) (fun _ h9 => h9) rfl dX11_misfitOf_184 ?_
        refine tI (y := (v 9)) hq9_v30 ?_
        have b9_v : 0 ≤ (v 9).toInt ∧ (v 9).toInt ≤ 320 := YIb.b hIv.1 9 (by decide)
        refine lv_icmp_ge (tgt := 337) hx hb dX11_misfitOf_187 (by decide) (fun c31 => ?_) (fun c31 => ?_)
        · skip
          have zc31 : (v 9).toInt ≤ l4_30.toInt := by rw [fa_le] at c31; exact c31
          have rg32 := fb_rng l4_30
          have rg33 := fb_rng (v 9)
          refine lv_aload_n hx hb dX11_misfitOf_337 rfl (lv_at hl 2 rfl) ?_
          refine va_get (D := (dC, dI)) (ci := 11) (v := .ref (r 16)) (C := RX11) (T := TX11) (N := 79) hx hb hts inB_11 hown hE.1 hP 0 rfl rfl 16 (by decide) (hts _ k_1336) (fun _ h9 => h9) rfl dX11_misfitOf_338 ?_
          refine lv_iconst (v := 0) hx hb dX11_misfitOf_341 (by decide) ?_
          refine ldI hx hb hE hP 8 rfl (vp_in_nI (n := 0) (by decide) (by decide)) rfl rfl dX11_misfitOf_342 ?_
          refine lv_topi (fun t34 et34 => ?_)
          refine lv_sipush (v := 999) hx hb dX11_misfitOf_343 (by decide) ?_
          refine cbSi (n := 2) (rest := []) hx hb hml hown hts hE hP hD hS hA (sY_X11_within_1 NF l dC dI cy y0 r t34 999 v30 f30 w30 g30 hIv30 hCf30 hRf30 ) k_1758 k_1759 k_114 k_1760 (by decide +kernel) ⟨Nat.le_of_ble_eq_true rfl, Nat.le_of_ble_eq_true rfl⟩ (rfl) hl.1 rfl (Nat.le_of_ble_eq_true rfl) dX11_misfitOf_346 (fun r35 u H locs hw hP hD hS => ?_)
          have hG36 := hw
          exact ret r35 (v30, f30, w30, g30) _ _ _ _ _ _ rfl ⟨(hT30.symm.trans (gsY_X11_misfitOf_1_q0 c31 et34 hG36.symm)), hM_v30, hA_f30, hIv30, hCf30, hRf30, (show v30 0 = v 0 from hq0_v30), (show v30 1 = v 1 from hq1_v30), (show v30 2 = v 2 from hq2_v30), (show v30 3 = v 3 from hq3_v30), (show v30 4 = v 4 from hq4_v30), (show v30 5 = v 5 from hq5_v30), (show v30 8 = v 8 from hq8_v30), (show v30 9 = v 9 from hq9_v30), (show v30 10 = v 10 from hq10_v30), (show v30 13 = v 13 from hq13_v30), (show v30 14 = v 14 from hq14_v30), (show v30 15 = v 15 from hq15_v30), (show v30 17 = v 17 from hq17_v30), (show v30 18 = v 18 from hq18_v30), (show v30 24 = v 24 from hq24_v30), (show v30 25 = v 25 from hq25_v30), (show v30 35 = v 35 from hq35_v30), (show v30 36 = v 36 from hq36_v30), (show v30 38 = v 38 from hq38_v30), (show v30 39 = v 39 from hq39_v30)⟩ hP hD hS dX11_misfitOf_349 (Nat.le_refl _) (Nat.le_refl _)
        · skip
          have zc31 : ¬ ((v 9).toInt ≤ l4_30.toInt) := by rw [fa_le] at c31; exact c31
          have rg37 := fb_rng l4_30
          have rg38 := fb_rng (v 9)
          refine lv_aload_n hx hb dX11_misfitOf_190 rfl (lv_at hl 2 rfl) ?_
          refine va_get (D := (dC, dI)) (ci := 11) (v := .ref (r 13)) (C := RX11) (T := TX11) (N := 79) hx hb hts inB_11 hown hE.1 hP 0 rfl rfl 13 (by decide) (hts _ k_1333) (fun _ h9 => h9) rfl dX11_misfitOf_191 ?_
          refine lv_iload hx hb dX11_misfitOf_194 (lv_at hl 0 rfl) ?_
          refine ldI hx hb hE hP 5 rfl (vp_in_iff.mpr ⟨by omega, by omega⟩) rfl rfl dX11_misfitOf_196 ?_
          refine lv_topi (fun t39 et39 => ?_)
          have hpt39 := prog_facts hRf30 (s := l4_30.toInt.toNat) (by omega) (t := t39) et39
          rw [hs4_f30, hs5_f30] at hpt39
          refine lv_if_eq (tgt := 211) hx hb dX11_misfitOf_197 (by decide) (fun c40 => ?_) (fun c40 => ?_)
          · skip
            have zc40 : t39.toInt = 0 := by rw [fa_eq, show (0 : Int32).toInt = 0 from by decide] at c40; exact c40
            refine lv_aload_n hx hb dX11_misfitOf_211 rfl (lv_at hl 2 rfl) ?_
            refine va_get (D := (dC, dI)) (ci := 11) (v := .ref (r 16)) (C := RX11) (T := TX11) (N := 79) hx hb hts inB_11 hown hE.1 hP 0 rfl rfl 16 (by decide) (hts _ k_1336) (fun _ h9 => h9) rfl dX11_misfitOf_212 ?_
            refine lv_iload_n hx hb dX11_misfitOf_215 rfl (lv_at hl 1 rfl) ?_
            refine lv_aload_n hx hb dX11_misfitOf_216 rfl (lv_at hl 2 rfl) ?_
            refine va_get (D := (dC, dI)) (ci := 11) (v := .ref (r 13)) (C := RX11) (T := TX11) (N := 79) hx hb hts inB_11 hown hE.1 hP 0 rfl rfl 13 (by decide) (hts _ k_1333) (fun _ h9 => h9) rfl dX11_misfitOf_217 ?_
            refine lv_iload hx hb dX11_misfitOf_220 (lv_at hl 0 rfl) ?_
            refine ldI hx hb hE hP 5 rfl (vp_in_iff.mpr ⟨by omega, by omega⟩) rfl rfl dX11_misfitOf_222 ?_
            refine tI (y := t39) et39.symm ?_
            refine lv_if_ne (tgt := 236) hx hb dX11_misfitOf_223 (by decide) (fun c41 => ?_) (fun c41 => ?_)
            · skip
              have zc41 : ¬ (t39.toInt = 0) := by rw [fa_eq, show (0 : Int32).toInt = 0 from by decide] at c41; exact c41
              refine lv_aload_n hx hb dX11_misfitOf_236 rfl (lv_at hl 2 rfl) ?_
              refine va_get (D := (dC, dI)) (ci := 11) (v := .ref (r 26)) (C := RX11) (T := TX11) (N := 79) hx hb hts inB_11 hown hE.1 hP 0 rfl rfl 26 (by decide) (hts _ k_1346) (fun _ h9 => h9) rfl dX11_misfitOf_237 ?_
              refine lv_aload_n hx hb dX11_misfitOf_240 rfl (lv_at hl 2 rfl) ?_
              refine va_get (D := (dC, dI)) (ci := 11) (v := .ref (r 14)) (C := RX11) (T := TX11) (N := 79) hx hb hts inB_11 hown hE.1 hP 0 rfl rfl 14 (by decide) (hts _ k_1334) (fun _ h9 => h9) rfl dX11_misfitOf_241 ?_
              refine lv_iload hx hb dX11_misfitOf_244 (lv_at hl 0 rfl) ?_
              refine ldI hx hb hE hP 6 rfl (vp_in_iff.mpr ⟨by omega, by omega⟩) rfl rfl dX11_misfitOf_246 ?_
              refine lv_topi (fun t42 et42 => ?_)
              have hat42 : t42.toInt = (f 5 l4_30.toInt.toNat).toInt := by rw [et42, hs5_f30]; rfl
              refine ldI hx hb hE hP 9 rfl (vp_in_iff.mpr ⟨by omega, by omega⟩) rfl rfl dX11_misfitOf_247 ?_
              refine lv_topi (fun t43 et43 => ?_)
              refine stI hx hb hE hP hD hS 8 rfl (vp_in_iff.mpr ⟨by omega, by omega⟩) rfl dX11_misfitOf_248 (fun H locs hP hD hS => ?_)
              obtain ⟨f44, ef44, hP, hD⟩ : ∃ fz9, fz9 = upd2 f30 7 (upd (f30 7) l3_30.toNatClampNeg t43) ∧ va_P (dC, dI) vwCl (YW cy y0 r v30 fz9 w30 g30) H ∧ va_D A (YW cy y0 r v30 fz9 w30 g30) := ⟨_, rfl, hP, hD⟩
              have hCf44 : YC f44 := by rw [ef44]; exact hCf30
              have hs4_f44 : f44 4 = f 4 := by rw [ef44]; exact hs4_f30
              have hs5_f44 : f44 5 = f 5 := by rw [ef44]; exact hs5_f30
              have hRf44 : progOK (f44 4) (f44 5) (v30 9).toInt.toNat := by rw [ef44]; exact hRf30
              have hA_f44 : KF [7, 8] f44 f := by rw [ef44]; exact KF.up hA_f30 rfl
              obtain ⟨t45, et45⟩ : ∃ y : Int32, y = l3_30 + 1 := ⟨_, rfl⟩
              have rg46 := fb_rng l3_30
              have zt45 : t45.toInt = l3_30.toInt + 1 := by rw [et45]; exact add_i rfl (by decide) (by omega) (by omega)
              refine lv_iinc (v := t45) (lv' := [(3, .int t45), (4, .int l4_30), (0, .ref y0), (1, .int p1), (2, .int p2)]) hx hb dX11_misfitOf_249 hl (k := 1) rfl (by rw [et45]; rfl) (by decide) rfl (fun ls hl => ?_)
              refine lv_goto (tgt := 331) hx hb dX11_misfitOf_252 (by decide) ?_
              obtain ⟨t47, et47⟩ : ∃ y : Int32, y = l4_30 + 1 := ⟨_, rfl⟩
              have zt47 : t47.toInt = l4_30.toInt + 1 := by rw [et47]; exact add_i rfl (by decide) (by omega) (by omega)
              refine lv_iinc (v := t47) (lv' := [(4, .int t47), (3, .int t45), (0, .ref y0), (1, .int p1), (2, .int p2)]) hx hb dX11_misfitOf_331 hl (k := 1) rfl (by rw [et47]; rfl) (by decide) rfl (fun ls hl => ?_)
              refine lv_goto (tgt := 181) hx hb dX11_misfitOf_334 (by decide) ?_
              have rg48 := fb_rng t45
              have rg49 := fb_rng t47
              exact ih30 t45 t47 v30 f44 w30 g30 hIv30 hCf44 hRf44 hq0_v30 hq1_v30 hq2_v30 hq3_v30 hq4_v30 hq5_v30 hq8_v30 hq9_v30 hq10_v30 hq13_v30 hq14_v30 hq15_v30 hq17_v30 hq18_v30 hq24_v30 hq25_v30 hq35_v30 hq36_v30 hq38_v30 hq39_v30 ((gsY_X11_misfitOf_1_q1 c31 et39 c40 c41 et42 et43 ef44 et45 et47).symm.trans hT30) ⟨show (0 : Int) ≤ t45.toInt by omega, show t45.toInt ≤ (64 : Int) by omega⟩ ⟨show (0 : Int) ≤ t47.toInt by omega, show t47.toInt ≤ (2147483647 : Int) by omega⟩ (by rw [show (t47.toInt).toNat = (l4_30.toInt).toNat + 1 by omega]; omega) hs4_f44 hs5_f44 hM_v30 hA_f44 (by show (2147483647 - t47.toInt).toNat < n30; omega) _ _ _ hP hD hS (lv_sub hl [0, 1, 2, 3, 4] rfl)
            · skip
              have zc41 : t39.toInt = 0 := by rw [fa_eq, show (0 : Int32).toInt = 0 from by decide] at c41; exact c41
              refine lv_aload_n hx hb dX11_misfitOf_226 rfl (lv_at hl 2 rfl) ?_
              refine va_get (D := (dC, dI)) (ci := 11) (v := .ref (r 14)) (C := RX11) (T := TX11) (N := 79) hx hb hts inB_11 hown hE.1 hP 0 rfl rfl 14 (by decide) (hts _ k_1334) (fun _ h9 => h9) rfl dX11_misfitOf_227 ?_
              refine lv_iload hx hb dX11_misfitOf_230 (lv_at hl 0 rfl) ?_
              refine ldI hx hb hE hP 6 rfl (vp_in_iff.mpr ⟨by omega, by omega⟩) rfl rfl dX11_misfitOf_232 ?_
              refine lv_topi (fun t50 et50 => ?_)
              have hat50 : t50.toInt = (f 5 l4_30.toInt.toNat).toInt := by rw [et50, hs5_f30]; rfl
              refine lv_goto (tgt := 248) hx hb dX11_misfitOf_233 (by decide) ?_
              refine stI hx hb hE hP hD hS 8 rfl (vp_in_iff.mpr ⟨by omega, by omega⟩) rfl dX11_misfitOf_248 (fun H locs hP hD hS => ?_)
              obtain ⟨f51, ef51, hP, hD⟩ : ∃ fz9, fz9 = upd2 f30 7 (upd (f30 7) l3_30.toNatClampNeg t50) ∧ va_P (dC, dI) vwCl (YW cy y0 r v30 fz9 w30 g30) H ∧ va_D A (YW cy y0 r v30 fz9 w30 g30) := ⟨_, rfl, hP, hD⟩
              have hCf51 : YC f51 := by rw [ef51]; exact hCf30
              have hs4_f51 : f51 4 = f 4 := by rw [ef51]; exact hs4_f30
              have hs5_f51 : f51 5 = f 5 := by rw [ef51]; exact hs5_f30
              have hRf51 : progOK (f51 4) (f51 5) (v30 9).toInt.toNat := by rw [ef51]; exact hRf30
              have hA_f51 : KF [7, 8] f51 f := by rw [ef51]; exact KF.up hA_f30 rfl
              obtain ⟨t52, et52⟩ : ∃ y : Int32, y = l3_30 + 1 := ⟨_, rfl⟩
              have rg53 := fb_rng l3_30
              have zt52 : t52.toInt = l3_30.toInt + 1 := by rw [et52]; exact add_i rfl (by decide) (by omega) (by omega)
              refine lv_iinc (v := t52) (lv' := [(3, .int t52), (4, .int l4_30), (0, .ref y0), (1, .int p1), (2, .int p2)]) hx hb dX11_misfitOf_249 hl (k := 1) rfl (by rw [et52]; rfl) (by decide) rfl (fun ls hl => ?_)
              refine lv_goto (tgt := 331) hx hb dX11_misfitOf_252 (by decide) ?_
              obtain ⟨t54, et54⟩ : ∃ y : Int32, y = l4_30 + 1 := ⟨_, rfl⟩
              have zt54 : t54.toInt = l4_30.toInt + 1 := by rw [et54]; exact add_i rfl (by decide) (by omega) (by omega)
              refine lv_iinc (v := t54) (lv' := [(4, .int t54), (3, .int t52), (0, .ref y0), (1, .int p1), (2, .int p2)]) hx hb dX11_misfitOf_331 hl (k := 1) rfl (by rw [et54]; rfl) (by decide) rfl (fun ls hl => ?_)
              refine lv_goto (tgt := 181) hx hb dX11_misfitOf_334 (by decide) ?_
              have rg55 := fb_rng t52
              have rg56 := fb_rng t54
              exact ih30 t52 t54 v30 f51 w30 g30 hIv30 hCf51 hRf51 hq0_v30 hq1_v30 hq2_v30 hq3_v30 hq4_v30 hq5_v30 hq8_v30 hq9_v30 hq10_v30 hq13_v30 hq14_v30 hq15_v30 hq17_v30 hq18_v30 hq24_v30 hq25_v30 hq35_v30 hq36_v30 hq38_v30 hq39_v30 ((gsY_X11_misfitOf_1_q2 c31 et39 c40 c41 et50 ef51 et52 et54).symm.trans hT30) ⟨show (0 : Int) ≤ t52.toInt by omega, show t52.toInt ≤ (64 : Int) by omega⟩ ⟨show (0 : Int) ≤ t54.toInt by omega, show t54.toInt ≤ (2147483647 : Int) by omega⟩ (by rw [show (t54.toInt).toNat = (l4_30.toInt).toNat + 1 by omega]; omega) hs4_f51 hs5_f51 hM_v30 hA_f51 (by show (2147483647 - t54.toInt).toNat < n30; omega) _ _ _ hP hD hS (lv_sub hl [0, 1, 2, 3, 4] rfl)
          · skip
            have zc40 : ¬ (t39.toInt = 0) := by rw [fa_eq, show (0 : Int32).toInt = 0 from by decide] at c40; exact c40
            refine lv_aload_n hx hb dX11_misfitOf_200 rfl (lv_at hl 2 rfl) ?_
            refine va_get (D := (dC, dI)) (ci := 11) (v := .ref (r 13)) (C := RX11) (T := TX11) (N := 79) hx hb hts inB_11 hown hE.1 hP 0 rfl rfl 13 (by decide) (hts _ k_1333) (fun _ h9 => h9) rfl dX11_misfitOf_201 ?_
            refine lv_iload hx hb dX11_misfitOf_204 (lv_at hl 0 rfl) ?_
            refine ldI hx hb hE hP 5 rfl (vp_in_iff.mpr ⟨by omega, by omega⟩) rfl rfl dX11_misfitOf_206 ?_
            refine tI (y := t39) et39.symm ?_
            refine lv_iconst (v := 1) hx hb dX11_misfitOf_207 (by decide) ?_
            refine lv_icmp_ne (tgt := 255) hx hb dX11_misfitOf_208 (by decide) (fun c57 => ?_) (fun c57 => ?_)
            · skip
              have zc57 : ¬ (t39.toInt = 1) := by rw [fa_eq, show (1 : Int32).toInt = 1 from by decide] at c57; exact c57
              refine lv_aload_n hx hb dX11_misfitOf_255 rfl (lv_at hl 2 rfl) ?_
              refine va_get (D := (dC, dI)) (ci := 11) (v := .ref (r 13)) (C := RX11) (T := TX11) (N := 79) hx hb hts inB_11 hown hE.1 hP 0 rfl rfl 13 (by decide) (hts _ k_1333) (fun _ h9 => h9) rfl dX11_misfitOf_256 ?_
              refine lv_iload hx hb dX11_misfitOf_259 (lv_at hl 0 rfl) ?_
              refine ldI hx hb hE hP 5 rfl (vp_in_iff.mpr ⟨by omega, by omega⟩) rfl rfl dX11_misfitOf_261 ?_
              refine tI (y := t39) et39.symm ?_
              refine lv_iconst (v := 2) hx hb dX11_misfitOf_262 (by decide) ?_
              refine lv_icmp_ne (tgt := 296) hx hb dX11_misfitOf_263 (by decide) (fun c58 => ?_) (fun c58 => ?_)
              · skip
                have zc58 : ¬ (t39.toInt = 2) := by rw [fa_eq, show (2 : Int32).toInt = 2 from by decide] at c58; exact c58
                obtain ⟨t59, et59⟩ : ∃ y : Int32, y = l3_30 + (-1) := ⟨_, rfl⟩
                have rg60 := fb_rng l3_30
                have zt59 : t59.toInt = l3_30.toInt + (-1) := by rw [et59]; exact add_i rfl (by decide) (by omega) (by omega)
                refine lv_iinc (v := t59) (lv' := [(3, .int t59), (4, .int l4_30), (0, .ref y0), (1, .int p1), (2, .int p2)]) hx hb dX11_misfitOf_296 hl (k := 1) rfl (by rw [et59]; rfl) (by decide) rfl (fun ls hl => ?_)
                refine lv_aload_n hx hb dX11_misfitOf_299 rfl (lv_at hl 2 rfl) ?_
                refine va_get (D := (dC, dI)) (ci := 11) (v := .ref (r 16)) (C := RX11) (T := TX11) (N := 79) hx hb hts inB_11 hown hE.1 hP 0 rfl rfl 16 (by decide) (hts _ k_1336) (fun _ h9 => h9) rfl dX11_misfitOf_300 ?_
                refine lv_iload_n hx hb dX11_misfitOf_303 rfl (lv_at hl 0 rfl) ?_
                refine lv_iconst (v := 1) hx hb dX11_misfitOf_304 (by decide) ?_
                refine lv_isub hx hb dX11_misfitOf_305 ?_
                refine lv_topi (fun t61 et61 => ?_)
                have rg62 := fb_rng t59
                have zt61 : t61.toInt = t59.toInt - 1 := by rw [et61]; exact sub_i rfl (by decide) (by omega) (by omega)
                refine lv_aload_n hx hb dX11_misfitOf_306 rfl (lv_at hl 2 rfl) ?_
                refine va_get (D := (dC, dI)) (ci := 11) (v := .ref (r 14)) (C := RX11) (T := TX11) (N := 79) hx hb hts inB_11 hown hE.1 hP 0 rfl rfl 14 (by decide) (hts _ k_1334) (fun _ h9 => h9) rfl dX11_misfitOf_307 ?_
                refine lv_iload hx hb dX11_misfitOf_310 (lv_at hl 1 rfl) ?_
                refine ldI hx hb hE hP 6 rfl (vp_in_iff.mpr ⟨by omega, by omega⟩) rfl rfl dX11_misfitOf_312 ?_
                refine lv_topi (fun t63 et63 => ?_)
                have hat63 : t63.toInt = (f 5 l4_30.toInt.toNat).toInt := by rw [et63, hs5_f30]; rfl
                refine lv_aload_n hx hb dX11_misfitOf_313 rfl (lv_at hl 2 rfl) ?_
                refine va_get (D := (dC, dI)) (ci := 11) (v := .ref (r 16)) (C := RX11) (T := TX11) (N := 79) hx hb hts inB_11 hown hE.1 hP 0 rfl rfl 16 (by decide) (hts _ k_1336) (fun _ h9 => h9) rfl dX11_misfitOf_314 ?_
                refine lv_iload_n hx hb dX11_misfitOf_317 rfl (lv_at hl 0 rfl) ?_
                refine lv_iconst (v := 1) hx hb dX11_misfitOf_318 (by decide) ?_
                refine lv_isub hx hb dX11_misfitOf_319 ?_
                refine tI (y := t61) et61.symm ?_
                refine ldI hx hb hE hP 8 rfl (vp_in_iff.mpr ⟨by omega, by omega⟩) rfl rfl dX11_misfitOf_320 ?_
                refine lv_topi (fun t64 et64 => ?_)
                refine lv_aload_n hx hb dX11_misfitOf_321 rfl (lv_at hl 2 rfl) ?_
                refine va_get (D := (dC, dI)) (ci := 11) (v := .ref (r 16)) (C := RX11) (T := TX11) (N := 79) hx hb hts inB_11 hown hE.1 hP 0 rfl rfl 16 (by decide) (hts _ k_1336) (fun _ h9 => h9) rfl dX11_misfitOf_322 ?_
                refine lv_iload_n hx hb dX11_misfitOf_325 rfl (lv_at hl 0 rfl) ?_
                refine ldI hx hb hE hP 8 rfl (vp_in_iff.mpr ⟨by omega, by omega⟩) rfl rfl dX11_misfitOf_326 ?_
                refine lv_topi (fun t65 et65 => ?_)
                refine cbSi (n := 3) (rest := [.int t61, .ref (r 16)]) hx hb hml hown hts hE hP hD hS hA (sY_X11_done_1 NF l dC dI cy y0 r t63 t64 t65 v30 f30 w30 g30 hIv30 hCf30 hRf30 ) k_1764 k_1765 k_114 k_1766 (by decide +kernel) ⟨Nat.le_of_ble_eq_true rfl, Nat.le_of_ble_eq_true rfl⟩ (rfl) hl.1 rfl (Nat.le_of_ble_eq_true rfl) dX11_misfitOf_327 (fun r66 u H locs hw hP hD hS => ?_)
                have hG67 := hw
                refine stI hx hb hE hP hD hS 8 rfl (vp_in_iff.mpr ⟨by omega, by omega⟩) rfl dX11_misfitOf_330 (fun H locs hP hD hS => ?_)
                obtain ⟨f68, ef68, hP, hD⟩ : ∃ fz9, fz9 = upd2 f30 7 (upd (f30 7) t61.toNatClampNeg r66) ∧ va_P (dC, dI) vwCl (YW cy y0 r v30 fz9 w30 g30) H ∧ va_D A (YW cy y0 r v30 fz9 w30 g30) := ⟨_, rfl, hP, hD⟩
                have hCf68 : YC f68 := by rw [ef68]; exact hCf30
                have hs4_f68 : f68 4 = f 4 := by rw [ef68]; exact hs4_f30
                have hs5_f68 : f68 5 = f 5 := by rw [ef68]; exact hs5_f30
                have hRf68 : progOK (f68 4) (f68 5) (v30 9).toInt.toNat := by rw [ef68]; exact hRf30
                have hA_f68 : KF [7, 8] f68 f := by rw [ef68]; exact KF.up hA_f30 rfl
                obtain ⟨t69, et69⟩ : ∃ y : Int32, y = l4_30 + 1 := ⟨_, rfl⟩
                have zt69 : t69.toInt = l4_30.toInt + 1 := by rw [et69]; exact add_i rfl (by decide) (by omega) (by omega)
                refine lv_iinc (v := t69) (lv' := [(4, .int t69), (3, .int t59), (0, .ref y0), (1, .int p1), (2, .int p2)]) hx hb dX11_misfitOf_331 hl (k := 1) rfl (by rw [et69]; rfl) (by decide) rfl (fun ls hl => ?_)
                refine lv_goto (tgt := 181) hx hb dX11_misfitOf_334 (by decide) ?_
                have rg70 := fb_rng t69
                exact ih30 t59 t69 v30 f68 w30 g30 hIv30 hCf68 hRf68 hq0_v30 hq1_v30 hq2_v30 hq3_v30 hq4_v30 hq5_v30 hq8_v30 hq9_v30 hq10_v30 hq13_v30 hq14_v30 hq15_v30 hq17_v30 hq18_v30 hq24_v30 hq25_v30 hq35_v30 hq36_v30 hq38_v30 hq39_v30 ((gsY_X11_misfitOf_1_q3 c31 et39 c40 c57 c58 et59 et61 et63 et64 et65 hG67.symm ef68 et69).symm.trans hT30) ⟨show (0 : Int) ≤ t59.toInt by omega, show t59.toInt ≤ (64 : Int) by omega⟩ ⟨show (0 : Int) ≤ t69.toInt by omega, show t69.toInt ≤ (2147483647 : Int) by omega⟩ (by rw [show (t69.toInt).toNat = (l4_30.toInt).toNat + 1 by omega]; omega) hs4_f68 hs5_f68 hM_v30 hA_f68 (by show (2147483647 - t69.toInt).toNat < n30; omega) _ _ _ hP hD hS (lv_sub hl [0, 1, 2, 3, 4] rfl)
              · skip
                have zc58 : t39.toInt = 2 := by rw [fa_eq, show (2 : Int32).toInt = 2 from by decide] at c58; exact c58
                refine lv_aload_n hx hb dX11_misfitOf_266 rfl (lv_at hl 2 rfl) ?_
                refine va_get (D := (dC, dI)) (ci := 11) (v := .ref (r 16)) (C := RX11) (T := TX11) (N := 79) hx hb hts inB_11 hown hE.1 hP 0 rfl rfl 16 (by decide) (hts _ k_1336) (fun _ h9 => h9) rfl dX11_misfitOf_267 ?_
                refine lv_iload_n hx hb dX11_misfitOf_270 rfl (lv_at hl 1 rfl) ?_
                refine lv_iconst (v := 1) hx hb dX11_misfitOf_271 (by decide) ?_
                refine lv_isub hx hb dX11_misfitOf_272 ?_
                refine lv_topi (fun t71 et71 => ?_)
                have rg72 := fb_rng l3_30
                have zt71 : t71.toInt = l3_30.toInt - 1 := by rw [et71]; exact sub_i rfl (by decide) (by omega) (by omega)
                refine lv_aload_n hx hb dX11_misfitOf_273 rfl (lv_at hl 2 rfl) ?_
                refine va_get (D := (dC, dI)) (ci := 11) (v := .ref (r 16)) (C := RX11) (T := TX11) (N := 79) hx hb hts inB_11 hown hE.1 hP 0 rfl rfl 16 (by decide) (hts _ k_1336) (fun _ h9 => h9) rfl dX11_misfitOf_274 ?_
                refine lv_iload_n hx hb dX11_misfitOf_277 rfl (lv_at hl 1 rfl) ?_
                refine lv_iconst (v := 1) hx hb dX11_misfitOf_278 (by decide) ?_
                refine lv_isub hx hb dX11_misfitOf_279 ?_
                refine tI (y := t71) et71.symm ?_
                refine ldI hx hb hE hP 8 rfl (vp_in_iff.mpr ⟨by omega, by omega⟩) rfl rfl dX11_misfitOf_280 ?_
                refine lv_topi (fun t73 et73 => ?_)
                refine lv_if_ne (tgt := 288) hx hb dX11_misfitOf_281 (by decide) (fun c74 => ?_) (fun c74 => ?_)
                · skip
                  have zc74 : ¬ (t73.toInt = 0) := by rw [fa_eq, show (0 : Int32).toInt = 0 from by decide] at c74; exact c74
                  refine lv_iconst (v := 0) hx hb dX11_misfitOf_288 (by decide) ?_
                  have lt75 : (0 : Int32).toInt = 0 := by decide
                  refine cbSi (n := 1) (rest := [.int t71, .ref (r 16)]) hx hb hml hown hts hE hP hD hS hA (sY_X11_truth_1 NF l dC dI cy y0 r 0 v30 f30 w30 g30 hIv30 hCf30 hRf30 ) k_1761 k_1762 k_114 k_1763 (by decide +kernel) ⟨Nat.le_of_ble_eq_true rfl, Nat.le_of_ble_eq_true rfl⟩ (rfl) hl.1 rfl (Nat.le_of_ble_eq_true rfl) dX11_misfitOf_289 (fun r76 u H locs hw hP hD hS => ?_)
                  obtain ⟨hG77, hw⟩ := hw
                  refine stI hx hb hE hP hD hS 8 rfl (vp_in_iff.mpr ⟨by omega, by omega⟩) rfl dX11_misfitOf_292 (fun H locs hP hD hS => ?_)
                  obtain ⟨f78, ef78, hP, hD⟩ : ∃ fz9, fz9 = upd2 f30 7 (upd (f30 7) t71.toNatClampNeg r76) ∧ va_P (dC, dI) vwCl (YW cy y0 r v30 fz9 w30 g30) H ∧ va_D A (YW cy y0 r v30 fz9 w30 g30) := ⟨_, rfl, hP, hD⟩
                  have hCf78 : YC f78 := by rw [ef78]; exact hCf30
                  have hs4_f78 : f78 4 = f 4 := by rw [ef78]; exact hs4_f30
                  have hs5_f78 : f78 5 = f 5 := by rw [ef78]; exact hs5_f30
                  have hRf78 : progOK (f78 4) (f78 5) (v30 9).toInt.toNat := by rw [ef78]; exact hRf30
                  have hA_f78 : KF [7, 8] f78 f := by rw [ef78]; exact KF.up hA_f30 rfl
                  refine lv_goto (tgt := 331) hx hb dX11_misfitOf_293 (by decide) ?_
                  obtain ⟨t79, et79⟩ : ∃ y : Int32, y = l4_30 + 1 := ⟨_, rfl⟩
                  have zt79 : t79.toInt = l4_30.toInt + 1 := by rw [et79]; exact add_i rfl (by decide) (by omega) (by omega)
                  refine lv_iinc (v := t79) (lv' := [(4, .int t79), (3, .int l3_30), (0, .ref y0), (1, .int p1), (2, .int p2)]) hx hb dX11_misfitOf_331 hl (k := 0) rfl (by rw [et79]; rfl) (by decide) rfl (fun ls hl => ?_)
                  refine lv_goto (tgt := 181) hx hb dX11_misfitOf_334 (by decide) ?_
                  have rg80 := fb_rng t79
                  exact ih30 l3_30 t79 v30 f78 w30 g30 hIv30 hCf78 hRf78 hq0_v30 hq1_v30 hq2_v30 hq3_v30 hq4_v30 hq5_v30 hq8_v30 hq9_v30 hq10_v30 hq13_v30 hq14_v30 hq15_v30 hq17_v30 hq18_v30 hq24_v30 hq25_v30 hq35_v30 hq36_v30 hq38_v30 hq39_v30 ((gsY_X11_misfitOf_1_q4 c31 et39 c40 c57 c58 et71 et73 c74 hG77.symm ef78 et79).symm.trans hT30) ⟨show (0 : Int) ≤ l3_30.toInt by omega, show l3_30.toInt ≤ (64 : Int) by omega⟩ ⟨show (0 : Int) ≤ t79.toInt by omega, show t79.toInt ≤ (2147483647 : Int) by omega⟩ (by rw [show (t79.toInt).toNat = (l4_30.toInt).toNat + 1 by omega]; omega) hs4_f78 hs5_f78 hM_v30 hA_f78 (by show (2147483647 - t79.toInt).toNat < n30; omega) _ _ _ hP hD hS (lv_sub hl [0, 1, 2, 3, 4] rfl)
                · skip
                  have zc74 : t73.toInt = 0 := by rw [fa_eq, show (0 : Int32).toInt = 0 from by decide] at c74; exact c74
                  refine lv_iconst (v := 1) hx hb dX11_misfitOf_284 (by decide) ?_
                  refine lv_goto (tgt := 289) hx hb dX11_misfitOf_285 (by decide) ?_
                  have lt81 : (1 : Int32).toInt = 1 := by decide
                  refine cbSi (n := 1) (rest := [.int t71, .ref (r 16)]) hx hb hml hown hts hE hP hD hS hA (sY_X11_truth_1 NF l dC dI cy y0 r 1 v30 f30 w30 g30 hIv30 hCf30 hRf30 ) k_1761 k_1762 k_114 k_1763 (by decide +kernel) ⟨Nat.le_of_ble_eq_true rfl, Nat.le_of_ble_eq_true rfl⟩ (rfl) hl.1 rfl (Nat.le_of_ble_eq_true rfl) dX11_misfitOf_289 (fun r82 u H locs hw hP hD hS => ?_)
                  obtain ⟨hG83, hw⟩ := hw
                  refine stI hx hb hE hP hD hS 8 rfl (vp_in_iff.mpr ⟨by omega, by omega⟩) rfl dX11_misfitOf_292 (fun H locs hP hD hS => ?_)
                  obtain ⟨f84, ef84, hP, hD⟩ : ∃ fz9, fz9 = upd2 f30 7 (upd (f30 7) t71.toNatClampNeg r82) ∧ va_P (dC, dI) vwCl (YW cy y0 r v30 fz9 w30 g30) H ∧ va_D A (YW cy y0 r v30 fz9 w30 g30) := ⟨_, rfl, hP, hD⟩
                  have hCf84 : YC f84 := by rw [ef84]; exact hCf30
                  have hs4_f84 : f84 4 = f 4 := by rw [ef84]; exact hs4_f30
                  have hs5_f84 : f84 5 = f 5 := by rw [ef84]; exact hs5_f30
                  have hRf84 : progOK (f84 4) (f84 5) (v30 9).toInt.toNat := by rw [ef84]; exact hRf30
                  have hA_f84 : KF [7, 8] f84 f := by rw [ef84]; exact KF.up hA_f30 rfl
                  refine lv_goto (tgt := 331) hx hb dX11_misfitOf_293 (by decide) ?_
                  obtain ⟨t85, et85⟩ : ∃ y : Int32, y = l4_30 + 1 := ⟨_, rfl⟩
                  have zt85 : t85.toInt = l4_30.toInt + 1 := by rw [et85]; exact add_i rfl (by decide) (by omega) (by omega)
                  refine lv_iinc (v := t85) (lv' := [(4, .int t85), (3, .int l3_30), (0, .ref y0), (1, .int p1), (2, .int p2)]) hx hb dX11_misfitOf_331 hl (k := 0) rfl (by rw [et85]; rfl) (by decide) rfl (fun ls hl => ?_)
                  refine lv_goto (tgt := 181) hx hb dX11_misfitOf_334 (by decide) ?_
                  have rg86 := fb_rng t85
                  exact ih30 l3_30 t85 v30 f84 w30 g30 hIv30 hCf84 hRf84 hq0_v30 hq1_v30 hq2_v30 hq3_v30 hq4_v30 hq5_v30 hq8_v30 hq9_v30 hq10_v30 hq13_v30 hq14_v30 hq15_v30 hq17_v30 hq18_v30 hq24_v30 hq25_v30 hq35_v30 hq36_v30 hq38_v30 hq39_v30 ((gsY_X11_misfitOf_1_q5 c31 et39 c40 c57 c58 et71 et73 c74 hG83.symm ef84 et85).symm.trans hT30) ⟨show (0 : Int) ≤ l3_30.toInt by omega, show l3_30.toInt ≤ (64 : Int) by omega⟩ ⟨show (0 : Int) ≤ t85.toInt by omega, show t85.toInt ≤ (2147483647 : Int) by omega⟩ (by rw [show (t85.toInt).toNat = (l4_30.toInt).toNat + 1 by omega]; omega) hs4_f84 hs5_f84 hM_v30 hA_f84 (by show (2147483647 - t85.toInt).toNat < n30; omega) _ _ _ hP hD hS (lv_sub hl [0, 1, 2, 3, 4] rfl)
            · skip
              have zc57 : t39.toInt = 1 := by rw [fa_eq, show (1 : Int32).toInt = 1 from by decide] at c57; exact c57
              refine lv_aload_n hx hb dX11_misfitOf_211 rfl (lv_at hl 2 rfl) ?_
              refine va_get (D := (dC, dI)) (ci := 11) (v := .ref (r 16)) (C := RX11) (T := TX11) (N := 79) hx hb hts inB_11 hown hE.1 hP 0 rfl rfl 16 (by decide) (hts _ k_1336) (fun _ h9 => h9) rfl dX11_misfitOf_212 ?_
              refine lv_iload_n hx hb dX11_misfitOf_215 rfl (lv_at hl 1 rfl) ?_
              refine lv_aload_n hx hb dX11_misfitOf_216 rfl (lv_at hl 2 rfl) ?_
              refine va_get (D := (dC, dI)) (ci := 11) (v := .ref (r 13)) (C := RX11) (T := TX11) (N := 79) hx hb hts inB_11 hown hE.1 hP 0 rfl rfl 13 (by decide) (hts _ k_1333) (fun _ h9 => h9) rfl dX11_misfitOf_217 ?_
              refine lv_iload hx hb dX11_misfitOf_220 (lv_at hl 0 rfl) ?_
              refine ldI hx hb hE hP 5 rfl (vp_in_iff.mpr ⟨by omega, by omega⟩) rfl rfl dX11_misfitOf_222 ?_
              refine tI (y := t39) et39.symm ?_
              refine lv_if_ne (tgt := 236) hx hb dX11_misfitOf_223 (by decide) (fun c87 => ?_) (fun c87 => ?_)
              · skip
                have zc87 : ¬ (t39.toInt = 0) := by rw [fa_eq, show (0 : Int32).toInt = 0 from by decide] at c87; exact c87
                refine lv_aload_n hx hb dX11_misfitOf_236 rfl (lv_at hl 2 rfl) ?_
                refine va_get (D := (dC, dI)) (ci := 11) (v := .ref (r 26)) (C := RX11) (T := TX11) (N := 79) hx hb hts inB_11 hown hE.1 hP 0 rfl rfl 26 (by decide) (hts _ k_1346) (fun _ h9 => h9) rfl dX11_misfitOf_237 ?_
                refine lv_aload_n hx hb dX11_misfitOf_240 rfl (lv_at hl 2 rfl) ?_
                refine va_get (D := (dC, dI)) (ci := 11) (v := .ref (r 14)) (C := RX11) (T := TX11) (N := 79) hx hb hts inB_11 hown hE.1 hP 0 rfl rfl 14 (by decide) (hts _ k_1334) (fun _ h9 => h9) rfl dX11_misfitOf_241 ?_
                refine lv_iload hx hb dX11_misfitOf_244 (lv_at hl 0 rfl) ?_
                refine ldI hx hb hE hP 6 rfl (vp_in_iff.mpr ⟨by omega, by omega⟩) rfl rfl dX11_misfitOf_246 ?_
                refine lv_topi (fun t88 et88 => ?_)
                have hat88 : t88.toInt = (f 5 l4_30.toInt.toNat).toInt := by rw [et88, hs5_f30]; rfl
                refine ldI hx hb hE hP 9 rfl (vp_in_iff.mpr ⟨by omega, by omega⟩) rfl rfl dX11_misfitOf_247 ?_
                refine lv_topi (fun t89 et89 => ?_)
                refine stI hx hb hE hP hD hS 8 rfl (vp_in_iff.mpr ⟨by omega, by omega⟩) rfl dX11_misfitOf_248 (fun H locs hP hD hS => ?_)
                obtain ⟨f90, ef90, hP, hD⟩ : ∃ fz9, fz9 = upd2 f30 7 (upd (f30 7) l3_30.toNatClampNeg t89) ∧ va_P (dC, dI) vwCl (YW cy y0 r v30 fz9 w30 g30) H ∧ va_D A (YW cy y0 r v30 fz9 w30 g30) := ⟨_, rfl, hP, hD⟩
                have hCf90 : YC f90 := by rw [ef90]; exact hCf30
                have hs4_f90 : f90 4 = f 4 := by rw [ef90]; exact hs4_f30
                have hs5_f90 : f90 5 = f 5 := by rw [ef90]; exact hs5_f30
                have hRf90 : progOK (f90 4) (f90 5) (v30 9).toInt.toNat := by rw [ef90]; exact hRf30
                have hA_f90 : KF [7, 8] f90 f := by rw [ef90]; exact KF.up hA_f30 rfl
                obtain ⟨t91, et91⟩ : ∃ y : Int32, y = l3_30 + 1 := ⟨_, rfl⟩
                have rg92 := fb_rng l3_30
                have zt91 : t91.toInt = l3_30.toInt + 1 := by rw [et91]; exact add_i rfl (by decide) (by omega) (by omega)
                refine lv_iinc (v := t91) (lv' := [(3, .int t91), (4, .int l4_30), (0, .ref y0), (1, .int p1), (2, .int p2)]) hx hb dX11_misfitOf_249 hl (k := 1) rfl (by rw [et91]; rfl) (by decide) rfl (fun ls hl => ?_)
                refine lv_goto (tgt := 331) hx hb dX11_misfitOf_252 (by decide) ?_
                obtain ⟨t93, et93⟩ : ∃ y : Int32, y = l4_30 + 1 := ⟨_, rfl⟩
                have zt93 : t93.toInt = l4_30.toInt + 1 := by rw [et93]; exact add_i rfl (by decide) (by omega) (by omega)
                refine lv_iinc (v := t93) (lv' := [(4, .int t93), (3, .int t91), (0, .ref y0), (1, .int p1), (2, .int p2)]) hx hb dX11_misfitOf_331 hl (k := 1) rfl (by rw [et93]; rfl) (by decide) rfl (fun ls hl => ?_)
                refine lv_goto (tgt := 181) hx hb dX11_misfitOf_334 (by decide) ?_
                have rg94 := fb_rng t91
                have rg95 := fb_rng t93
                exact ih30 t91 t93 v30 f90 w30 g30 hIv30 hCf90 hRf90 hq0_v30 hq1_v30 hq2_v30 hq3_v30 hq4_v30 hq5_v30 hq8_v30 hq9_v30 hq10_v30 hq13_v30 hq14_v30 hq15_v30 hq17_v30 hq18_v30 hq24_v30 hq25_v30 hq35_v30 hq36_v30 hq38_v30 hq39_v30 ((gsY_X11_misfitOf_1_q6 c31 et39 c40 c57 c87 et88 et89 ef90 et91 et93).symm.trans hT30) ⟨show (0 : Int) ≤ t91.toInt by omega, show t91.toInt ≤ (64 : Int) by omega⟩ ⟨show (0 : Int) ≤ t93.toInt by omega, show t93.toInt ≤ (2147483647 : Int) by omega⟩ (by rw [show (t93.toInt).toNat = (l4_30.toInt).toNat + 1 by omega]; omega) hs4_f90 hs5_f90 hM_v30 hA_f90 (by show (2147483647 - t93.toInt).toNat < n30; omega) _ _ _ hP hD hS (lv_sub hl [0, 1, 2, 3, 4] rfl)
              · skip
                have zc87 : t39.toInt = 0 := by rw [fa_eq, show (0 : Int32).toInt = 0 from by decide] at c87; exact c87
                refine lv_aload_n hx hb dX11_misfitOf_226 rfl (lv_at hl 2 rfl) ?_
                refine va_get (D := (dC, dI)) (ci := 11) (v := .ref (r 14)) (C := RX11) (T := TX11) (N := 79) hx hb hts inB_11 hown hE.1 hP 0 rfl rfl 14 (by decide) (hts _ k_1334) (fun _ h9 => h9) rfl dX11_misfitOf_227 ?_
                refine lv_iload hx hb dX11_misfitOf_230 (lv_at hl 0 rfl) ?_
                refine ldI hx hb hE hP 6 rfl (vp_in_iff.mpr ⟨by omega, by omega⟩) rfl rfl dX11_misfitOf_232 ?_
                refine lv_topi (fun t96 et96 => ?_)
                have hat96 : t96.toInt = (f 5 l4_30.toInt.toNat).toInt := by rw [et96, hs5_f30]; rfl
                refine lv_goto (tgt := 248) hx hb dX11_misfitOf_233 (by decide) ?_
                refine stI hx hb hE hP hD hS 8 rfl (vp_in_iff.mpr ⟨by omega, by omega⟩) rfl dX11_misfitOf_248 (fun H locs hP hD hS => ?_)
                obtain ⟨f97, ef97, hP, hD⟩ : ∃ fz9, fz9 = upd2 f30 7 (upd (f30 7) l3_30.toNatClampNeg t96) ∧ va_P (dC, dI) vwCl (YW cy y0 r v30 fz9 w30 g30) H ∧ va_D A (YW cy y0 r v30 fz9 w30 g30) := ⟨_, rfl, hP, hD⟩
                have hCf97 : YC f97 := by rw [ef97]; exact hCf30
                have hs4_f97 : f97 4 = f 4 := by rw [ef97]; exact hs4_f30
                have hs5_f97 : f97 5 = f 5 := by rw [ef97]; exact hs5_f30
                have hRf97 : progOK (f97 4) (f97 5) (v30 9).toInt.toNat := by rw [ef97]; exact hRf30
                have hA_f97 : KF [7, 8] f97 f := by rw [ef97]; exact KF.up hA_f30 rfl
                obtain ⟨t98, et98⟩ : ∃ y : Int32, y = l3_30 + 1 := ⟨_, rfl⟩
                have rg99 := fb_rng l3_30
                have zt98 : t98.toInt = l3_30.toInt + 1 := by rw [et98]; exact add_i rfl (by decide) (by omega) (by omega)
                refine lv_iinc (v := t98) (lv' := [(3, .int t98), (4, .int l4_30), (0, .ref y0), (1, .int p1), (2, .int p2)]) hx hb dX11_misfitOf_249 hl (k := 1) rfl (by rw [et98]; rfl) (by decide) rfl (fun ls hl => ?_)
                refine lv_goto (tgt := 331) hx hb dX11_misfitOf_252 (by decide) ?_
                obtain ⟨t100, et100⟩ : ∃ y : Int32, y = l4_30 + 1 := ⟨_, rfl⟩
                have zt100 : t100.toInt = l4_30.toInt + 1 := by rw [et100]; exact add_i rfl (by decide) (by omega) (by omega)
                refine lv_iinc (v := t100) (lv' := [(4, .int t100), (3, .int t98), (0, .ref y0), (1, .int p1), (2, .int p2)]) hx hb dX11_misfitOf_331 hl (k := 1) rfl (by rw [et100]; rfl) (by decide) rfl (fun ls hl => ?_)
                refine lv_goto (tgt := 181) hx hb dX11_misfitOf_334 (by decide) ?_
                have rg101 := fb_rng t98
                have rg102 := fb_rng t100
                exact ih30 t98 t100 v30 f97 w30 g30 hIv30 hCf97 hRf97 hq0_v30 hq1_v30 hq2_v30 hq3_v30 hq4_v30 hq5_v30 hq8_v30 hq9_v30 hq10_v30 hq13_v30 hq14_v30 hq15_v30 hq17_v30 hq18_v30 hq24_v30 hq25_v30 hq35_v30 hq36_v30 hq38_v30 hq39_v30 ((gsY_X11_misfitOf_1_q7 c31 et39 c40 c57 c87 et96 ef97 et98 et100).symm.trans hT30) ⟨show (0 : Int) ≤ t98.toInt by omega, show t98.toInt ≤ (64 : Int) by omega⟩ ⟨show (0 : Int) ≤ t100.toInt by omega, show t100.toInt ≤ (2147483647 : Int) by omega⟩ (by rw [show (t100.toInt).toNat = (l4_30.toInt).toNat + 1 by omega]; omega) hs4_f97 hs5_f97 hM_v30 hA_f97 (by show (2147483647 - t100.toInt).toNat < n30; omega) _ _ _ hP hD hS (lv_sub hl [0, 1, 2, 3, 4] rfl)
    exact lp30 (4294967296 + NF) 0 0 v f28 w g hIv hCf28 hRf28 rfl rfl rfl rfl rfl rfl rfl rfl rfl rfl rfl rfl rfl rfl rfl rfl rfl rfl rfl rfl (gsY_X11_misfitOf_1_q8 et1 et2 et4 hG6.symm ef7 et8 et9 hG11.symm ef12 et13 et14 et15 hG17.symm ef18 et19 et20 hG22.symm ef23 et24 et25 ef26 et27 ef28 c29).symm ⟨by decide, by decide⟩ ⟨by decide, by decide⟩ rfl hs4_f28 hs5_f28 hM_v hA_f28 (by have q4 : (0 : Int32).toInt = 0 := (by decide); have q3 : (0 : Int32).toInt = 0 := (by decide); show (2147483647 - (0 : Int32).toInt).toNat < 4294967296 + NF; omega) _ _ _ hP hD hS (lv_sub hl [0, 1, 2, 3, 4] rfl)
  · skip
    have zc29 : (v 16).toInt = 0 := by rw [fa_eq, show (0 : Int32).toInt = 0 from by decide] at c29; exact c29
    refine lv_iconst (v := 3) hx hb dX11_misfitOf_131 (by decide) ?_
    refine lv_aload_n hx hb dX11_misfitOf_132 rfl (lv_at hl 0 rfl) ?_
    refine va_get (D := (dC, dI)) (ci := 11) (v := .ref (r 26)) (C := RX11) (T := TX11) (N := 79) hx hb hts inB_11 hown hE.1 hP 0 rfl rfl 26 (by decide) (hts _ k_1346) (fun _ h9 => h9) rfl dX11_misfitOf_133 ?_
    refine lv_iconst (v := 0) hx hb dX11_misfitOf_136 (by decide) ?_
    refine ldI hx hb hE hP 9 rfl (vp_in_nI (n := 0) (by decide) (by decide)) rfl rfl dX11_misfitOf_137 ?_
    refine lv_topi (fun t103 et103 => ?_)
    refine lv_imul hx hb dX11_misfitOf_138 ?_
    refine lv_topi (fun t104 et104 => ?_)
    refine lv_aload_n hx hb dX11_misfitOf_139 rfl (lv_at hl 0 rfl) ?_
    refine va_get (D := (dC, dI)) (ci := 11) (v := .ref (r 26)) (C := RX11) (T := TX11) (N := 79) hx hb hts inB_11 hown hE.1 hP 0 rfl rfl 26 (by decide) (hts _ k_1346) (fun _ h9 => h9) rfl dX11_misfitOf_140 ?_
    refine lv_iconst (v := 1) hx hb dX11_misfitOf_143 (by decide) ?_
    refine ldI hx hb hE hP 9 rfl (vp_in_nI (n := 1) (by decide) (by decide)) rfl rfl dX11_misfitOf_144 ?_
    refine lv_topi (fun t105 et105 => ?_)
    refine lv_iadd hx hb dX11_misfitOf_145 ?_
    refine lv_topi (fun t106 et106 => ?_)
    refine lv_iconst (v := 2) hx hb dX11_misfitOf_146 (by decide) ?_
    refine lv_aload_n hx hb dX11_misfitOf_147 rfl (lv_at hl 0 rfl) ?_
    refine va_get (D := (dC, dI)) (ci := 11) (v := .ref (r 26)) (C := RX11) (T := TX11) (N := 79) hx hb hts inB_11 hown hE.1 hP 0 rfl rfl 26 (by decide) (hts _ k_1346) (fun _ h9 => h9) rfl dX11_misfitOf_148 ?_
    refine lv_iconst (v := 2) hx hb dX11_misfitOf_151 (by decide) ?_
    refine ldI hx hb hE hP 9 rfl (vp_in_nI (n := 2) (by decide) (by decide)) rfl rfl dX11_misfitOf_152 ?_
    refine lv_topi (fun t107 et107 => ?_)
    refine lv_imul hx hb dX11_misfitOf_153 ?_
    refine lv_topi (fun t108 et108 => ?_)
    refine lv_iadd hx hb dX11_misfitOf_154 ?_
    refine lv_topi (fun t109 et109 => ?_)
    refine lv_aload_n hx hb dX11_misfitOf_155 rfl (lv_at hl 0 rfl) ?_
    refine va_get (D := (dC, dI)) (ci := 11) (v := .ref (r 26)) (C := RX11) (T := TX11) (N := 79) hx hb hts inB_11 hown hE.1 hP 0 rfl rfl 26 (by decide) (hts _ k_1346) (fun _ h9 => h9) rfl dX11_misfitOf_156 ?_
    refine lv_iconst (v := 3) hx hb dX11_misfitOf_159 (by decide) ?_
    refine ldI hx hb hE hP 9 rfl (vp_in_nI (n := 3) (by decide) (by decide)) rfl rfl dX11_misfitOf_160 ?_
    refine lv_topi (fun t110 et110 => ?_)
    refine lv_iadd hx hb dX11_misfitOf_161 ?_
    refine lv_topi (fun t111 et111 => ?_)
    refine lv_aload_n hx hb dX11_misfitOf_162 rfl (lv_at hl 0 rfl) ?_
    refine va_get (D := (dC, dI)) (ci := 11) (v := .ref (r 26)) (C := RX11) (T := TX11) (N := 79) hx hb hts inB_11 hown hE.1 hP 0 rfl rfl 26 (by decide) (hts _ k_1346) (fun _ h9 => h9) rfl dX11_misfitOf_163 ?_
    refine lv_iconst (v := 4) hx hb dX11_misfitOf_166 (by decide) ?_
    refine ldI hx hb hE hP 9 rfl (vp_in_nI (n := 4) (by decide) (by decide)) rfl rfl dX11_misfitOf_167 ?_
    refine lv_topi (fun t112 et112 => ?_)
    refine lv_iadd hx hb dX11_misfitOf_168 ?_
    refine lv_topi (fun t113 et113 => ?_)
    refine lv_sipush (v := 999) hx hb dX11_misfitOf_169 (by decide) ?_
    refine cbSi (n := 2) (rest := []) hx hb hml hown hts hE hP hD hS hA (sY_X11_within_1 NF l dC dI cy y0 r t113 999 v f28 w g hIv hCf28 hRf28 ) k_1758 k_1759 k_114 k_1760 (by decide +kernel) ⟨Nat.le_of_ble_eq_true rfl, Nat.le_of_ble_eq_true rfl⟩ (rfl) hl.1 rfl (Nat.le_of_ble_eq_true rfl) dX11_misfitOf_172 (fun r114 u H locs hw hP hD hS => ?_)
    have hG115 := hw
    exact ret r114 (v, f28, w, g) _ _ _ _ _ _ rfl ⟨(gsY_X11_misfitOf_1_q9 et1 et2 et4 hG6.symm ef7 et8 et9 hG11.symm ef12 et13 et14 et15 hG17.symm ef18 et19 et20 hG22.symm ef23 et24 et25 ef26 et27 ef28 c29 et103 et104 et105 et106 et107 et108 et109 et110 et111 et112 et113 hG115.symm), hM_v, hA_f28, hIv, hCf28, hRf28, rfl, rfl, rfl, rfl, rfl, rfl, rfl, rfl, rfl, rfl, rfl, rfl, rfl, rfl, rfl, rfl, rfl, rfl, rfl, rfl⟩ hP hD hS dX11_misfitOf_175 (Nat.le_refl _) (Nat.le_refl _)
