set_option maxHeartbeats 4000000 in
set_option maxRecDepth 100000 in
theorem sY_X11_done_1 (l : Launch) (dC : Nat → ClassId) (dI : Nat → Nat → Nat) (cy : Nat → ClassId) (y0 : Nat) (r : Nat → Nat) (p0 : Int32) (p1 : Int32) (p2 : Int32) (v : Nat → Int32) (f : Nat → Nat → Int32) (w : Int64) (g : Nat → Int64) (hIv : YI v) (hCf : YC f) (hRf : progOK (f 4) (f 5) (v 9).toInt.toNat)  : ctI l (dC, dI) cy yX11_done cX11_done 3 .int 2 80 0 0 Unit [.int p0, .int p1, .int p2] (YW cy y0 r v f w g) (fun r u => True) (fun u => YW cy y0 r v f w g) := by
  refine ctI_of (by decide) (Nat.le_of_ble_eq_true rfl) (fun p e s m below meth c A ls Q hx hb hml hts hown hE hP hD hA hl ret => ?_)
  have hUv : (v 35).toInt + (v 36).toInt ≤ 40 := hIv.2
  have hown : s.vm.findClass RX11 = some m.cls := hown
  have hS : va_S A s.heap s.heap [] := va_S.rf
  have hl : lv_has ls 3 [(0, .int p0), (1, .int p1), (2, .int p2)] := hl
  refine lv_iload_n hx hb dX11_done_0 rfl (lv_at hl 0 rfl) ?_
  by_cases c1 : p0 = 37
  · skip
    refine lv_tableIn (off := 143) (tgt := 144) hx hb dX11_done_1 (by rw [c1]; decide) (by rw [c1]; decide) (by rw [c1]; decide) (by decide) ?_
    have zc1 : p0.toInt = 37 := by rw [fa_eq, show (37 : Int32).toInt = 37 from by decide] at c1; exact c1
    refine lv_iload_n hx hb dX11_done_144 rfl (lv_at hl 2 rfl) ?_
    refine lv_if_ne (tgt := 152) hx hb dX11_done_145 (by decide) (fun c2 => ?_) (fun c2 => ?_)
    · skip
      have zc2 : ¬ (p2.toInt = 0) := by rw [fa_eq, show (0 : Int32).toInt = 0 from by decide] at c2; exact c2
      refine lv_iload_n hx hb dX11_done_152 rfl (lv_at hl 1 rfl) ?_
      refine lv_iload_n hx hb dX11_done_153 rfl (lv_at hl 2 rfl) ?_
      refine lv_irem hx hb dX11_done_154 (ne0 (by omega)) ?_
      refine lv_topi (fun t3 et3 => ?_)
      exact ret t3 () _ _ _ _ _ _ rfl trivial hP hD hS dX11_done_155 (Nat.le_refl _) (Nat.le_refl _)
    · skip
      have zc2 : p2.toInt = 0 := by rw [fa_eq, show (0 : Int32).toInt = 0 from by decide] at c2; exact c2
      refine lv_iconst (v := 0) hx hb dX11_done_148 (by decide) ?_
      refine lv_goto (tgt := 155) hx hb dX11_done_149 (by decide) ?_
      exact ret 0 () _ _ _ _ _ _ rfl trivial hP hD hS dX11_done_155 (Nat.le_refl _) (Nat.le_refl _)
  · skip
    have zc1 : ¬ (p0.toInt = 37) := by rw [fa_eq, show (37 : Int32).toInt = 37 from by decide] at c1; exact c1
    by_cases c4 : p0 = 38
    · skip
      refine lv_tableIn (off := 197) (tgt := 198) hx hb dX11_done_1 (by rw [c4]; decide) (by rw [c4]; decide) (by rw [c4]; decide) (by decide) ?_
      have zc4 : p0.toInt = 38 := by rw [fa_eq, show (38 : Int32).toInt = 38 from by decide] at c4; exact c4
      refine lv_iload_n hx hb dX11_done_198 rfl (lv_at hl 1 rfl) ?_
      refine lv_if_eq (tgt := 210) hx hb dX11_done_199 (by decide) (fun c5 => ?_) (fun c5 => ?_)
      · skip
        have zc5 : p1.toInt = 0 := by rw [fa_eq, show (0 : Int32).toInt = 0 from by decide] at c5; exact c5
        refine lv_iconst (v := 0) hx hb dX11_done_210 (by decide) ?_
        have lt6 : (0 : Int32).toInt = 0 := by decide
        refine cbSi (n := 1) (rest := []) hx hb hml hown hts hE hP hD hS hA (sY_X11_truth_1 l dC dI cy y0 r 0 v f w g hIv hCf hRf ) k_1761 k_1762 k_114 k_1763 (by decide +kernel) ⟨Nat.le_of_ble_eq_true rfl, Nat.le_of_ble_eq_true rfl⟩ (rfl) hl.1 rfl (Nat.le_of_ble_eq_true rfl) dX11_done_211 (fun r7 u H locs hw hP hD hS => ?_)
        exact ret r7 () _ _ _ _ _ _ rfl trivial hP hD hS dX11_done_214 (Nat.le_refl _) (Nat.le_refl _)
      · skip
        have zc5 : ¬ (p1.toInt = 0) := by rw [fa_eq, show (0 : Int32).toInt = 0 from by decide] at c5; exact c5
        refine lv_iload_n hx hb dX11_done_202 rfl (lv_at hl 2 rfl) ?_
        refine lv_if_eq (tgt := 210) hx hb dX11_done_203 (by decide) (fun c8 => ?_) (fun c8 => ?_)
        · skip
          have zc8 : p2.toInt = 0 := by rw [fa_eq, show (0 : Int32).toInt = 0 from by decide] at c8; exact c8
          refine lv_iconst (v := 0) hx hb dX11_done_210 (by decide) ?_
          have lt9 : (0 : Int32).toInt = 0 := by decide
          refine cbSi (n := 1) (rest := []) hx hb hml hown hts hE hP hD hS hA (sY_X11_truth_1 l dC dI cy y0 r 0 v f w g hIv hCf hRf ) k_1761 k_1762 k_114 k_1763 (by decide +kernel) ⟨Nat.le_of_ble_eq_true rfl, Nat.le_of_ble_eq_true rfl⟩ (rfl) hl.1 rfl (Nat.le_of_ble_eq_true rfl) dX11_done_211 (fun r10 u H locs hw hP hD hS => ?_)
          exact ret r10 () _ _ _ _ _ _ rfl trivial hP hD hS dX11_done_214 (Nat.le_refl _) (Nat.le_refl _)
        · skip
          have zc8 : ¬ (p2.toInt = 0) := by rw [fa_eq, show (0 : Int32).toInt = 0 from by decide] at c8; exact c8
          refine lv_iconst (v := 1) hx hb dX11_done_206 (by decide) ?_
          refine lv_goto (tgt := 211) hx hb dX11_done_207 (by decide) ?_
          have lt11 : (1 : Int32).toInt = 1 := by decide
          refine cbSi (n := 1) (rest := []) hx hb hml hown hts hE hP hD hS hA (sY_X11_truth_1 l dC dI cy y0 r 1 v f w g hIv hCf hRf ) k_1761 k_1762 k_114 k_1763 (by decide +kernel) ⟨Nat.le_of_ble_eq_true rfl, Nat.le_of_ble_eq_true rfl⟩ (rfl) hl.1 rfl (Nat.le_of_ble_eq_true rfl) dX11_done_211 (fun r12 u H locs hw hP hD hS => ?_)
          exact ret r12 () _ _ _ _ _ _ rfl trivial hP hD hS dX11_done_214 (Nat.le_refl _) (Nat.le_refl _)
    · skip
      have zc4 : ¬ (p0.toInt = 38) := by rw [fa_eq, show (38 : Int32).toInt = 38 from by decide] at c4; exact c4
      by_cases c13 : p0 = 39
      · skip
        refine lv_tableIn (off := 214) (tgt := 215) hx hb dX11_done_1 (by rw [c13]; decide) (by rw [c13]; decide) (by rw [c13]; decide) (by decide) ?_
        have zc13 : p0.toInt = 39 := by rw [fa_eq, show (39 : Int32).toInt = 39 from by decide] at c13; exact c13
        refine lv_iload_n hx hb dX11_done_215 rfl (lv_at hl 1 rfl) ?_
        refine lv_if_ne (tgt := 223) hx hb dX11_done_216 (by decide) (fun c14 => ?_) (fun c14 => ?_)
        · skip
          have zc14 : ¬ (p1.toInt = 0) := by rw [fa_eq, show (0 : Int32).toInt = 0 from by decide] at c14; exact c14
          refine lv_iconst (v := 1) hx hb dX11_done_223 (by decide) ?_
          refine lv_goto (tgt := 228) hx hb dX11_done_224 (by decide) ?_
          have lt15 : (1 : Int32).toInt = 1 := by decide
          refine cbSi (n := 1) (rest := []) hx hb hml hown hts hE hP hD hS hA (sY_X11_truth_1 l dC dI cy y0 r 1 v f w g hIv hCf hRf ) k_1761 k_1762 k_114 k_1763 (by decide +kernel) ⟨Nat.le_of_ble_eq_true rfl, Nat.le_of_ble_eq_true rfl⟩ (rfl) hl.1 rfl (Nat.le_of_ble_eq_true rfl) dX11_done_228 (fun r16 u H locs hw hP hD hS => ?_)
          exact ret r16 () _ _ _ _ _ _ rfl trivial hP hD hS dX11_done_231 (Nat.le_refl _) (Nat.le_refl _)
        · skip
          have zc14 : p1.toInt = 0 := by rw [fa_eq, show (0 : Int32).toInt = 0 from by decide] at c14; exact c14
          refine lv_iload_n hx hb dX11_done_219 rfl (lv_at hl 2 rfl) ?_
          refine lv_if_eq (tgt := 227) hx hb dX11_done_220 (by decide) (fun c17 => ?_) (fun c17 => ?_)
          · skip
            have zc17 : p2.toInt = 0 := by rw [fa_eq, show (0 : Int32).toInt = 0 from by decide] at c17; exact c17
            refine lv_iconst (v := 0) hx hb dX11_done_227 (by decide) ?_
            have lt18 : (0 : Int32).toInt = 0 := by decide
            refine cbSi (n := 1) (rest := []) hx hb hml hown hts hE hP hD hS hA (sY_X11_truth_1 l dC dI cy y0 r 0 v f w g hIv hCf hRf ) k_1761 k_1762 k_114 k_1763 (by decide +kernel) ⟨Nat.le_of_ble_eq_true rfl, Nat.le_of_ble_eq_true rfl⟩ (rfl) hl.1 rfl (Nat.le_of_ble_eq_true rfl) dX11_done_228 (fun r19 u H locs hw hP hD hS => ?_)
            exact ret r19 () _ _ _ _ _ _ rfl trivial hP hD hS dX11_done_231 (Nat.le_refl _) (Nat.le_refl _)
          · skip
            have zc17 : ¬ (p2.toInt = 0) := by rw [fa_eq, show (0 : Int32).toInt = 0 from by decide] at c17; exact c17
            refine lv_iconst (v := 1) hx hb dX11_done_223 (by decide) ?_
            refine lv_goto (tgt := 228) hx hb dX11_done_224 (by decide) ?_
            have lt20 : (1 : Int32).toInt = 1 := by decide
            refine cbSi (n := 1) (rest := []) hx hb hml hown hts hE hP hD hS hA (sY_X11_truth_1 l dC dI cy y0 r 1 v f w g hIv hCf hRf ) k_1761 k_1762 k_114 k_1763 (by decide +kernel) ⟨Nat.le_of_ble_eq_true rfl, Nat.le_of_ble_eq_true rfl⟩ (rfl) hl.1 rfl (Nat.le_of_ble_eq_true rfl) dX11_done_228 (fun r21 u H locs hw hP hD hS => ?_)
            exact ret r21 () _ _ _ _ _ _ rfl trivial hP hD hS dX11_done_231 (Nat.le_refl _) (Nat.le_refl _)
      · skip
        have zc13 : ¬ (p0.toInt = 39) := by rw [fa_eq, show (39 : Int32).toInt = 39 from by decide] at c13; exact c13
        by_cases c22 : p0 = 40
        · skip
          refine lv_tableIn (off := 214) (tgt := 215) hx hb dX11_done_1 (by rw [c22]; decide) (by rw [c22]; decide) (by rw [c22]; decide) (by decide) ?_
          have zc22 : p0.toInt = 40 := by rw [fa_eq, show (40 : Int32).toInt = 40 from by decide] at c22; exact c22
          refine lv_iload_n hx hb dX11_done_215 rfl (lv_at hl 1 rfl) ?_
          refine lv_if_ne (tgt := 223) hx hb dX11_done_216 (by decide) (fun c23 => ?_) (fun c23 => ?_)
          · skip
            have zc23 : ¬ (p1.toInt = 0) := by rw [fa_eq, show (0 : Int32).toInt = 0 from by decide] at c23; exact c23
            refine lv_iconst (v := 1) hx hb dX11_done_223 (by decide) ?_
            refine lv_goto (tgt := 228) hx hb dX11_done_224 (by decide) ?_
            have lt24 : (1 : Int32).toInt = 1 := by decide
            refine cbSi (n := 1) (rest := []) hx hb hml hown hts hE hP hD hS hA (sY_X11_truth_1 l dC dI cy y0 r 1 v f w g hIv hCf hRf ) k_1761 k_1762 k_114 k_1763 (by decide +kernel) ⟨Nat.le_of_ble_eq_true rfl, Nat.le_of_ble_eq_true rfl⟩ (rfl) hl.1 rfl (Nat.le_of_ble_eq_true rfl) dX11_done_228 (fun r25 u H locs hw hP hD hS => ?_)
            exact ret r25 () _ _ _ _ _ _ rfl trivial hP hD hS dX11_done_231 (Nat.le_refl _) (Nat.le_refl _)
          · skip
            have zc23 : p1.toInt = 0 := by rw [fa_eq, show (0 : Int32).toInt = 0 from by decide] at c23; exact c23
            refine lv_iload_n hx hb dX11_done_219 rfl (lv_at hl 2 rfl) ?_
            refine lv_if_eq (tgt := 227) hx hb dX11_done_220 (by decide) (fun c26 => ?_) (fun c26 => ?_)
            · skip
              have zc26 : p2.toInt = 0 := by rw [fa_eq, show (0 : Int32).toInt = 0 from by decide] at c26; exact c26
              refine lv_iconst (v := 0) hx hb dX11_done_227 (by decide) ?_
              have lt27 : (0 : Int32).toInt = 0 := by decide
              refine cbSi (n := 1) (rest := []) hx hb hml hown hts hE hP hD hS hA (sY_X11_truth_1 l dC dI cy y0 r 0 v f w g hIv hCf hRf ) k_1761 k_1762 k_114 k_1763 (by decide +kernel) ⟨Nat.le_of_ble_eq_true rfl, Nat.le_of_ble_eq_true rfl⟩ (rfl) hl.1 rfl (Nat.le_of_ble_eq_true rfl) dX11_done_228 (fun r28 u H locs hw hP hD hS => ?_)
              exact ret r28 () _ _ _ _ _ _ rfl trivial hP hD hS dX11_done_231 (Nat.le_refl _) (Nat.le_refl _)
            · skip
              have zc26 : ¬ (p2.toInt = 0) := by rw [fa_eq, show (0 : Int32).toInt = 0 from by decide] at c26; exact c26
              refine lv_iconst (v := 1) hx hb dX11_done_223 (by decide) ?_
              refine lv_goto (tgt := 228) hx hb dX11_done_224 (by decide) ?_
              have lt29 : (1 : Int32).toInt = 1 := by decide
              refine cbSi (n := 1) (rest := []) hx hb hml hown hts hE hP hD hS hA (sY_X11_truth_1 l dC dI cy y0 r 1 v f w g hIv hCf hRf ) k_1761 k_1762 k_114 k_1763 (by decide +kernel) ⟨Nat.le_of_ble_eq_true rfl, Nat.le_of_ble_eq_true rfl⟩ (rfl) hl.1 rfl (Nat.le_of_ble_eq_true rfl) dX11_done_228 (fun r30 u H locs hw hP hD hS => ?_)
              exact ret r30 () _ _ _ _ _ _ rfl trivial hP hD hS dX11_done_231 (Nat.le_refl _) (Nat.le_refl _)
        · skip
          have zc22 : ¬ (p0.toInt = 40) := by rw [fa_eq, show (40 : Int32).toInt = 40 from by decide] at c22; exact c22
          by_cases c31 : p0 = 41
          · skip
            refine lv_tableIn (off := 214) (tgt := 215) hx hb dX11_done_1 (by rw [c31]; decide) (by rw [c31]; decide) (by rw [c31]; decide) (by decide) ?_
            have zc31 : p0.toInt = 41 := by rw [fa_eq, show (41 : Int32).toInt = 41 from by decide] at c31; exact c31
            refine lv_iload_n hx hb dX11_done_215 rfl (lv_at hl 1 rfl) ?_
            refine lv_if_ne (tgt := 223) hx hb dX11_done_216 (by decide) (fun c32 => ?_) (fun c32 => ?_)
            · skip
              have zc32 : ¬ (p1.toInt = 0) := by rw [fa_eq, show (0 : Int32).toInt = 0 from by decide] at c32; exact c32
              refine lv_iconst (v := 1) hx hb dX11_done_223 (by decide) ?_
              refine lv_goto (tgt := 228) hx hb dX11_done_224 (by decide) ?_
              have lt33 : (1 : Int32).toInt = 1 := by decide
              refine cbSi (n := 1) (rest := []) hx hb hml hown hts hE hP hD hS hA (sY_X11_truth_1 l dC dI cy y0 r 1 v f w g hIv hCf hRf ) k_1761 k_1762 k_114 k_1763 (by decide +kernel) ⟨Nat.le_of_ble_eq_true rfl, Nat.le_of_ble_eq_true rfl⟩ (rfl) hl.1 rfl (Nat.le_of_ble_eq_true rfl) dX11_done_228 (fun r34 u H locs hw hP hD hS => ?_)
              exact ret r34 () _ _ _ _ _ _ rfl trivial hP hD hS dX11_done_231 (Nat.le_refl _) (Nat.le_refl _)
            · skip
              have zc32 : p1.toInt = 0 := by rw [fa_eq, show (0 : Int32).toInt = 0 from by decide] at c32; exact c32
              refine lv_iload_n hx hb dX11_done_219 rfl (lv_at hl 2 rfl) ?_
              refine lv_if_eq (tgt := 227) hx hb dX11_done_220 (by decide) (fun c35 => ?_) (fun c35 => ?_)
              · skip
                have zc35 : p2.toInt = 0 := by rw [fa_eq, show (0 : Int32).toInt = 0 from by decide] at c35; exact c35
                refine lv_iconst (v := 0) hx hb dX11_done_227 (by decide) ?_
                have lt36 : (0 : Int32).toInt = 0 := by decide
                refine cbSi (n := 1) (rest := []) hx hb hml hown hts hE hP hD hS hA (sY_X11_truth_1 l dC dI cy y0 r 0 v f w g hIv hCf hRf ) k_1761 k_1762 k_114 k_1763 (by decide +kernel) ⟨Nat.le_of_ble_eq_true rfl, Nat.le_of_ble_eq_true rfl⟩ (rfl) hl.1 rfl (Nat.le_of_ble_eq_true rfl) dX11_done_228 (fun r37 u H locs hw hP hD hS => ?_)
                exact ret r37 () _ _ _ _ _ _ rfl trivial hP hD hS dX11_done_231 (Nat.le_refl _) (Nat.le_refl _)
              · skip
                have zc35 : ¬ (p2.toInt = 0) := by rw [fa_eq, show (0 : Int32).toInt = 0 from by decide] at c35; exact c35
                refine lv_iconst (v := 1) hx hb dX11_done_223 (by decide) ?_
                refine lv_goto (tgt := 228) hx hb dX11_done_224 (by decide) ?_
                have lt38 : (1 : Int32).toInt = 1 := by decide
                refine cbSi (n := 1) (rest := []) hx hb hml hown hts hE hP hD hS hA (sY_X11_truth_1 l dC dI cy y0 r 1 v f w g hIv hCf hRf ) k_1761 k_1762 k_114 k_1763 (by decide +kernel) ⟨Nat.le_of_ble_eq_true rfl, Nat.le_of_ble_eq_true rfl⟩ (rfl) hl.1 rfl (Nat.le_of_ble_eq_true rfl) dX11_done_228 (fun r39 u H locs hw hP hD hS => ?_)
                exact ret r39 () _ _ _ _ _ _ rfl trivial hP hD hS dX11_done_231 (Nat.le_refl _) (Nat.le_refl _)
          · skip
            have zc31 : ¬ (p0.toInt = 41) := by rw [fa_eq, show (41 : Int32).toInt = 41 from by decide] at c31; exact c31
            by_cases c40 : p0 = 42
            · skip
              refine lv_tableIn (off := 127) (tgt := 128) hx hb dX11_done_1 (by rw [c40]; decide) (by rw [c40]; decide) (by rw [c40]; decide) (by decide) ?_
              have zc40 : p0.toInt = 42 := by rw [fa_eq, show (42 : Int32).toInt = 42 from by decide] at c40; exact c40
              refine lv_iload_n hx hb dX11_done_128 rfl (lv_at hl 1 rfl) ?_
              refine lv_iload_n hx hb dX11_done_129 rfl (lv_at hl 2 rfl) ?_
              refine lv_imul hx hb dX11_done_130 ?_
              refine lv_topi (fun t41 et41 => ?_)
              exact ret t41 () _ _ _ _ _ _ rfl trivial hP hD hS dX11_done_131 (Nat.le_refl _) (Nat.le_refl _)
            · skip
              have zc40 : ¬ (p0.toInt = 42) := by rw [fa_eq, show (42 : Int32).toInt = 42 from by decide] at c40; exact c40
              by_cases c42 : p0 = 43
              · skip
                refine lv_tableIn (off := 119) (tgt := 120) hx hb dX11_done_1 (by rw [c42]; decide) (by rw [c42]; decide) (by rw [c42]; decide) (by decide) ?_
                have zc42 : p0.toInt = 43 := by rw [fa_eq, show (43 : Int32).toInt = 43 from by decide] at c42; exact c42
                refine lv_iload_n hx hb dX11_done_120 rfl (lv_at hl 1 rfl) ?_
                refine lv_iload_n hx hb dX11_done_121 rfl (lv_at hl 2 rfl) ?_
                refine lv_iadd hx hb dX11_done_122 ?_
                refine lv_topi (fun t43 et43 => ?_)
                exact ret t43 () _ _ _ _ _ _ rfl trivial hP hD hS dX11_done_123 (Nat.le_refl _) (Nat.le_refl _)
              · skip
                have zc42 : ¬ (p0.toInt = 43) := by rw [fa_eq, show (43 : Int32).toInt = 43 from by decide] at c42; exact c42
                by_cases c44 : p0 = 44
                · skip
                  refine lv_tableIn (off := 214) (tgt := 215) hx hb dX11_done_1 (by rw [c44]; decide) (by rw [c44]; decide) (by rw [c44]; decide) (by decide) ?_
                  have zc44 : p0.toInt = 44 := by rw [fa_eq, show (44 : Int32).toInt = 44 from by decide] at c44; exact c44
                  refine lv_iload_n hx hb dX11_done_215 rfl (lv_at hl 1 rfl) ?_
                  refine lv_if_ne (tgt := 223) hx hb dX11_done_216 (by decide) (fun c45 => ?_) (fun c45 => ?_)
                  · skip
                    have zc45 : ¬ (p1.toInt = 0) := by rw [fa_eq, show (0 : Int32).toInt = 0 from by decide] at c45; exact c45
                    refine lv_iconst (v := 1) hx hb dX11_done_223 (by decide) ?_
                    refine lv_goto (tgt := 228) hx hb dX11_done_224 (by decide) ?_
                    have lt46 : (1 : Int32).toInt = 1 := by decide
                    refine cbSi (n := 1) (rest := []) hx hb hml hown hts hE hP hD hS hA (sY_X11_truth_1 l dC dI cy y0 r 1 v f w g hIv hCf hRf ) k_1761 k_1762 k_114 k_1763 (by decide +kernel) ⟨Nat.le_of_ble_eq_true rfl, Nat.le_of_ble_eq_true rfl⟩ (rfl) hl.1 rfl (Nat.le_of_ble_eq_true rfl) dX11_done_228 (fun r47 u H locs hw hP hD hS => ?_)
                    exact ret r47 () _ _ _ _ _ _ rfl trivial hP hD hS dX11_done_231 (Nat.le_refl _) (Nat.le_refl _)
                  · skip
                    have zc45 : p1.toInt = 0 := by rw [fa_eq, show (0 : Int32).toInt = 0 from by decide] at c45; exact c45
                    refine lv_iload_n hx hb dX11_done_219 rfl (lv_at hl 2 rfl) ?_
                    refine lv_if_eq (tgt := 227) hx hb dX11_done_220 (by decide) (fun c48 => ?_) (fun c48 => ?_)
                    · skip
                      have zc48 : p2.toInt = 0 := by rw [fa_eq, show (0 : Int32).toInt = 0 from by decide] at c48; exact c48
                      refine lv_iconst (v := 0) hx hb dX11_done_227 (by decide) ?_
                      have lt49 : (0 : Int32).toInt = 0 := by decide
                      refine cbSi (n := 1) (rest := []) hx hb hml hown hts hE hP hD hS hA (sY_X11_truth_1 l dC dI cy y0 r 0 v f w g hIv hCf hRf ) k_1761 k_1762 k_114 k_1763 (by decide +kernel) ⟨Nat.le_of_ble_eq_true rfl, Nat.le_of_ble_eq_true rfl⟩ (rfl) hl.1 rfl (Nat.le_of_ble_eq_true rfl) dX11_done_228 (fun r50 u H locs hw hP hD hS => ?_)
                      exact ret r50 () _ _ _ _ _ _ rfl trivial hP hD hS dX11_done_231 (Nat.le_refl _) (Nat.le_refl _)
                    · skip
                      have zc48 : ¬ (p2.toInt = 0) := by rw [fa_eq, show (0 : Int32).toInt = 0 from by decide] at c48; exact c48
                      refine lv_iconst (v := 1) hx hb dX11_done_223 (by decide) ?_
                      refine lv_goto (tgt := 228) hx hb dX11_done_224 (by decide) ?_
                      have lt51 : (1 : Int32).toInt = 1 := by decide
                      refine cbSi (n := 1) (rest := []) hx hb hml hown hts hE hP hD hS hA (sY_X11_truth_1 l dC dI cy y0 r 1 v f w g hIv hCf hRf ) k_1761 k_1762 k_114 k_1763 (by decide +kernel) ⟨Nat.le_of_ble_eq_true rfl, Nat.le_of_ble_eq_true rfl⟩ (rfl) hl.1 rfl (Nat.le_of_ble_eq_true rfl) dX11_done_228 (fun r52 u H locs hw hP hD hS => ?_)
                      exact ret r52 () _ _ _ _ _ _ rfl trivial hP hD hS dX11_done_231 (Nat.le_refl _) (Nat.le_refl _)
                · skip
                  have zc44 : ¬ (p0.toInt = 44) := by rw [fa_eq, show (44 : Int32).toInt = 44 from by decide] at c44; exact c44
                  by_cases c53 : p0 = 45
                  · skip
                    refine lv_tableIn (off := 123) (tgt := 124) hx hb dX11_done_1 (by rw [c53]; decide) (by rw [c53]; decide) (by rw [c53]; decide) (by decide) ?_
                    have zc53 : p0.toInt = 45 := by rw [fa_eq, show (45 : Int32).toInt = 45 from by decide] at c53; exact c53
                    refine lv_iload_n hx hb dX11_done_124 rfl (lv_at hl 1 rfl) ?_
                    refine lv_iload_n hx hb dX11_done_125 rfl (lv_at hl 2 rfl) ?_
                    refine lv_isub hx hb dX11_done_126 ?_
                    refine lv_topi (fun t54 et54 => ?_)
                    exact ret t54 () _ _ _ _ _ _ rfl trivial hP hD hS dX11_done_127 (Nat.le_refl _) (Nat.le_refl _)
                  · skip
                    have zc53 : ¬ (p0.toInt = 45) := by rw [fa_eq, show (45 : Int32).toInt = 45 from by decide] at c53; exact c53
                    by_cases c55 : p0 = 46
                    · skip
                      refine lv_tableIn (off := 214) (tgt := 215) hx hb dX11_done_1 (by rw [c55]; decide) (by rw [c55]; decide) (by rw [c55]; decide) (by decide) ?_
                      have zc55 : p0.toInt = 46 := by rw [fa_eq, show (46 : Int32).toInt = 46 from by decide] at c55; exact c55
                      refine lv_iload_n hx hb dX11_done_215 rfl (lv_at hl 1 rfl) ?_
                      refine lv_if_ne (tgt := 223) hx hb dX11_done_216 (by decide) (fun c56 => ?_) (fun c56 => ?_)
                      · skip
                        have zc56 : ¬ (p1.toInt = 0) := by rw [fa_eq, show (0 : Int32).toInt = 0 from by decide] at c56; exact c56
                        refine lv_iconst (v := 1) hx hb dX11_done_223 (by decide) ?_
                        refine lv_goto (tgt := 228) hx hb dX11_done_224 (by decide) ?_
                        have lt57 : (1 : Int32).toInt = 1 := by decide
                        refine cbSi (n := 1) (rest := []) hx hb hml hown hts hE hP hD hS hA (sY_X11_truth_1 l dC dI cy y0 r 1 v f w g hIv hCf hRf ) k_1761 k_1762 k_114 k_1763 (by decide +kernel) ⟨Nat.le_of_ble_eq_true rfl, Nat.le_of_ble_eq_true rfl⟩ (rfl) hl.1 rfl (Nat.le_of_ble_eq_true rfl) dX11_done_228 (fun r58 u H locs hw hP hD hS => ?_)
                        exact ret r58 () _ _ _ _ _ _ rfl trivial hP hD hS dX11_done_231 (Nat.le_refl _) (Nat.le_refl _)
                      · skip
                        have zc56 : p1.toInt = 0 := by rw [fa_eq, show (0 : Int32).toInt = 0 from by decide] at c56; exact c56
                        refine lv_iload_n hx hb dX11_done_219 rfl (lv_at hl 2 rfl) ?_
                        refine lv_if_eq (tgt := 227) hx hb dX11_done_220 (by decide) (fun c59 => ?_) (fun c59 => ?_)
                        · skip
                          have zc59 : p2.toInt = 0 := by rw [fa_eq, show (0 : Int32).toInt = 0 from by decide] at c59; exact c59
                          refine lv_iconst (v := 0) hx hb dX11_done_227 (by decide) ?_
                          have lt60 : (0 : Int32).toInt = 0 := by decide
                          refine cbSi (n := 1) (rest := []) hx hb hml hown hts hE hP hD hS hA (sY_X11_truth_1 l dC dI cy y0 r 0 v f w g hIv hCf hRf ) k_1761 k_1762 k_114 k_1763 (by decide +kernel) ⟨Nat.le_of_ble_eq_true rfl, Nat.le_of_ble_eq_true rfl⟩ (rfl) hl.1 rfl (Nat.le_of_ble_eq_true rfl) dX11_done_228 (fun r61 u H locs hw hP hD hS => ?_)
                          exact ret r61 () _ _ _ _ _ _ rfl trivial hP hD hS dX11_done_231 (Nat.le_refl _) (Nat.le_refl _)
                        · skip
                          have zc59 : ¬ (p2.toInt = 0) := by rw [fa_eq, show (0 : Int32).toInt = 0 from by decide] at c59; exact c59
                          refine lv_iconst (v := 1) hx hb dX11_done_223 (by decide) ?_
                          refine lv_goto (tgt := 228) hx hb dX11_done_224 (by decide) ?_
                          have lt62 : (1 : Int32).toInt = 1 := by decide
                          refine cbSi (n := 1) (rest := []) hx hb hml hown hts hE hP hD hS hA (sY_X11_truth_1 l dC dI cy y0 r 1 v f w g hIv hCf hRf ) k_1761 k_1762 k_114 k_1763 (by decide +kernel) ⟨Nat.le_of_ble_eq_true rfl, Nat.le_of_ble_eq_true rfl⟩ (rfl) hl.1 rfl (Nat.le_of_ble_eq_true rfl) dX11_done_228 (fun r63 u H locs hw hP hD hS => ?_)
                          exact ret r63 () _ _ _ _ _ _ rfl trivial hP hD hS dX11_done_231 (Nat.le_refl _) (Nat.le_refl _)
                    · skip
                      have zc55 : ¬ (p0.toInt = 46) := by rw [fa_eq, show (46 : Int32).toInt = 46 from by decide] at c55; exact c55
                      by_cases c64 : p0 = 47
                      · skip
                        refine lv_tableIn (off := 131) (tgt := 132) hx hb dX11_done_1 (by rw [c64]; decide) (by rw [c64]; decide) (by rw [c64]; decide) (by decide) ?_
                        have zc64 : p0.toInt = 47 := by rw [fa_eq, show (47 : Int32).toInt = 47 from by decide] at c64; exact c64
                        refine lv_iload_n hx hb dX11_done_132 rfl (lv_at hl 2 rfl) ?_
                        refine lv_if_ne (tgt := 140) hx hb dX11_done_133 (by decide) (fun c65 => ?_) (fun c65 => ?_)
                        · skip
                          have zc65 : ¬ (p2.toInt = 0) := by rw [fa_eq, show (0 : Int32).toInt = 0 from by decide] at c65; exact c65
                          refine lv_iload_n hx hb dX11_done_140 rfl (lv_at hl 1 rfl) ?_
                          refine lv_iload_n hx hb dX11_done_141 rfl (lv_at hl 2 rfl) ?_
                          refine lv_idiv hx hb dX11_done_142 (ne0 (by omega)) ?_
                          refine lv_topi (fun t66 et66 => ?_)
                          exact ret t66 () _ _ _ _ _ _ rfl trivial hP hD hS dX11_done_143 (Nat.le_refl _) (Nat.le_refl _)
                        · skip
                          have zc65 : p2.toInt = 0 := by rw [fa_eq, show (0 : Int32).toInt = 0 from by decide] at c65; exact c65
                          refine lv_iconst (v := 0) hx hb dX11_done_136 (by decide) ?_
                          refine lv_goto (tgt := 143) hx hb dX11_done_137 (by decide) ?_
                          exact ret 0 () _ _ _ _ _ _ rfl trivial hP hD hS dX11_done_143 (Nat.le_refl _) (Nat.le_refl _)
                      · skip
                        have zc64 : ¬ (p0.toInt = 47) := by rw [fa_eq, show (47 : Int32).toInt = 47 from by decide] at c64; exact c64
                        by_cases c67 : p0 = 48
                        · skip
                          refine lv_tableIn (off := 214) (tgt := 215) hx hb dX11_done_1 (by rw [c67]; decide) (by rw [c67]; decide) (by rw [c67]; decide) (by decide) ?_
                          have zc67 : p0.toInt = 48 := by rw [fa_eq, show (48 : Int32).toInt = 48 from by decide] at c67; exact c67
                          refine lv_iload_n hx hb dX11_done_215 rfl (lv_at hl 1 rfl) ?_
                          refine lv_if_ne (tgt := 223) hx hb dX11_done_216 (by decide) (fun c68 => ?_) (fun c68 => ?_)
                          · skip
                            have zc68 : ¬ (p1.toInt = 0) := by rw [fa_eq, show (0 : Int32).toInt = 0 from by decide] at c68; exact c68
                            refine lv_iconst (v := 1) hx hb dX11_done_223 (by decide) ?_
                            refine lv_goto (tgt := 228) hx hb dX11_done_224 (by decide) ?_
                            have lt69 : (1 : Int32).toInt = 1 := by decide
                            refine cbSi (n := 1) (rest := []) hx hb hml hown hts hE hP hD hS hA (sY_X11_truth_1 l dC dI cy y0 r 1 v f w g hIv hCf hRf ) k_1761 k_1762 k_114 k_1763 (by decide +kernel) ⟨Nat.le_of_ble_eq_true rfl, Nat.le_of_ble_eq_true rfl⟩ (rfl) hl.1 rfl (Nat.le_of_ble_eq_true rfl) dX11_done_228 (fun r70 u H locs hw hP hD hS => ?_)
                            exact ret r70 () _ _ _ _ _ _ rfl trivial hP hD hS dX11_done_231 (Nat.le_refl _) (Nat.le_refl _)
                          · skip
                            have zc68 : p1.toInt = 0 := by rw [fa_eq, show (0 : Int32).toInt = 0 from by decide] at c68; exact c68
                            refine lv_iload_n hx hb dX11_done_219 rfl (lv_at hl 2 rfl) ?_
                            refine lv_if_eq (tgt := 227) hx hb dX11_done_220 (by decide) (fun c71 => ?_) (fun c71 => ?_)
                            · skip
                              have zc71 : p2.toInt = 0 := by rw [fa_eq, show (0 : Int32).toInt = 0 from by decide] at c71; exact c71
                              refine lv_iconst (v := 0) hx hb dX11_done_227 (by decide) ?_
                              have lt72 : (0 : Int32).toInt = 0 := by decide
                              refine cbSi (n := 1) (rest := []) hx hb hml hown hts hE hP hD hS hA (sY_X11_truth_1 l dC dI cy y0 r 0 v f w g hIv hCf hRf ) k_1761 k_1762 k_114 k_1763 (by decide +kernel) ⟨Nat.le_of_ble_eq_true rfl, Nat.le_of_ble_eq_true rfl⟩ (rfl) hl.1 rfl (Nat.le_of_ble_eq_true rfl) dX11_done_228 (fun r73 u H locs hw hP hD hS => ?_)
                              exact ret r73 () _ _ _ _ _ _ rfl trivial hP hD hS dX11_done_231 (Nat.le_refl _) (Nat.le_refl _)
                            · skip
                              have zc71 : ¬ (p2.toInt = 0) := by rw [fa_eq, show (0 : Int32).toInt = 0 from by decide] at c71; exact c71
                              refine lv_iconst (v := 1) hx hb dX11_done_223 (by decide) ?_
                              refine lv_goto (tgt := 228) hx hb dX11_done_224 (by decide) ?_
                              have lt74 : (1 : Int32).toInt = 1 := by decide
                              refine cbSi (n := 1) (rest := []) hx hb hml hown hts hE hP hD hS hA (sY_X11_truth_1 l dC dI cy y0 r 1 v f w g hIv hCf hRf ) k_1761 k_1762 k_114 k_1763 (by decide +kernel) ⟨Nat.le_of_ble_eq_true rfl, Nat.le_of_ble_eq_true rfl⟩ (rfl) hl.1 rfl (Nat.le_of_ble_eq_true rfl) dX11_done_228 (fun r75 u H locs hw hP hD hS => ?_)
                              exact ret r75 () _ _ _ _ _ _ rfl trivial hP hD hS dX11_done_231 (Nat.le_refl _) (Nat.le_refl _)
                        · skip
                          have zc67 : ¬ (p0.toInt = 48) := by rw [fa_eq, show (48 : Int32).toInt = 48 from by decide] at c67; exact c67
                          by_cases c76 : p0 = 49
                          · skip
                            refine lv_tableIn (off := 214) (tgt := 215) hx hb dX11_done_1 (by rw [c76]; decide) (by rw [c76]; decide) (by rw [c76]; decide) (by decide) ?_
                            have zc76 : p0.toInt = 49 := by rw [fa_eq, show (49 : Int32).toInt = 49 from by decide] at c76; exact c76
                            refine lv_iload_n hx hb dX11_done_215 rfl (lv_at hl 1 rfl) ?_
                            refine lv_if_ne (tgt := 223) hx hb dX11_done_216 (by decide) (fun c77 => ?_) (fun c77 => ?_)
                            · skip
                              have zc77 : ¬ (p1.toInt = 0) := by rw [fa_eq, show (0 : Int32).toInt = 0 from by decide] at c77; exact c77
                              refine lv_iconst (v := 1) hx hb dX11_done_223 (by decide) ?_
                              refine lv_goto (tgt := 228) hx hb dX11_done_224 (by decide) ?_
                              have lt78 : (1 : Int32).toInt = 1 := by decide
                              refine cbSi (n := 1) (rest := []) hx hb hml hown hts hE hP hD hS hA (sY_X11_truth_1 l dC dI cy y0 r 1 v f w g hIv hCf hRf ) k_1761 k_1762 k_114 k_1763 (by decide +kernel) ⟨Nat.le_of_ble_eq_true rfl, Nat.le_of_ble_eq_true rfl⟩ (rfl) hl.1 rfl (Nat.le_of_ble_eq_true rfl) dX11_done_228 (fun r79 u H locs hw hP hD hS => ?_)
                              exact ret r79 () _ _ _ _ _ _ rfl trivial hP hD hS dX11_done_231 (Nat.le_refl _) (Nat.le_refl _)
                            · skip
                              have zc77 : p1.toInt = 0 := by rw [fa_eq, show (0 : Int32).toInt = 0 from by decide] at c77; exact c77
                              refine lv_iload_n hx hb dX11_done_219 rfl (lv_at hl 2 rfl) ?_
                              refine lv_if_eq (tgt := 227) hx hb dX11_done_220 (by decide) (fun c80 => ?_) (fun c80 => ?_)
                              · skip
                                have zc80 : p2.toInt = 0 := by rw [fa_eq, show (0 : Int32).toInt = 0 from by decide] at c80; exact c80
                                refine lv_iconst (v := 0) hx hb dX11_done_227 (by decide) ?_
                                have lt81 : (0 : Int32).toInt = 0 := by decide
                                refine cbSi (n := 1) (rest := []) hx hb hml hown hts hE hP hD hS hA (sY_X11_truth_1 l dC dI cy y0 r 0 v f w g hIv hCf hRf ) k_1761 k_1762 k_114 k_1763 (by decide +kernel) ⟨Nat.le_of_ble_eq_true rfl, Nat.le_of_ble_eq_true rfl⟩ (rfl) hl.1 rfl (Nat.le_of_ble_eq_true rfl) dX11_done_228 (fun r82 u H locs hw hP hD hS => ?_)
                                exact ret r82 () _ _ _ _ _ _ rfl trivial hP hD hS dX11_done_231 (Nat.le_refl _) (Nat.le_refl _)
                              · skip
                                have zc80 : ¬ (p2.toInt = 0) := by rw [fa_eq, show (0 : Int32).toInt = 0 from by decide] at c80; exact c80
                                refine lv_iconst (v := 1) hx hb dX11_done_223 (by decide) ?_
                                refine lv_goto (tgt := 228) hx hb dX11_done_224 (by decide) ?_
                                have lt83 : (1 : Int32).toInt = 1 := by decide
                                refine cbSi (n := 1) (rest := []) hx hb hml hown hts hE hP hD hS hA (sY_X11_truth_1 l dC dI cy y0 r 1 v f w g hIv hCf hRf ) k_1761 k_1762 k_114 k_1763 (by decide +kernel) ⟨Nat.le_of_ble_eq_true rfl, Nat.le_of_ble_eq_true rfl⟩ (rfl) hl.1 rfl (Nat.le_of_ble_eq_true rfl) dX11_done_228 (fun r84 u H locs hw hP hD hS => ?_)
                                exact ret r84 () _ _ _ _ _ _ rfl trivial hP hD hS dX11_done_231 (Nat.le_refl _) (Nat.le_refl _)
                          · skip
                            have zc76 : ¬ (p0.toInt = 49) := by rw [fa_eq, show (49 : Int32).toInt = 49 from by decide] at c76; exact c76
                            by_cases c85 : p0 = 50
                            · skip
                              refine lv_tableIn (off := 214) (tgt := 215) hx hb dX11_done_1 (by rw [c85]; decide) (by rw [c85]; decide) (by rw [c85]; decide) (by decide) ?_
                              have zc85 : p0.toInt = 50 := by rw [fa_eq, show (50 : Int32).toInt = 50 from by decide] at c85; exact c85
                              refine lv_iload_n hx hb dX11_done_215 rfl (lv_at hl 1 rfl) ?_
                              refine lv_if_ne (tgt := 223) hx hb dX11_done_216 (by decide) (fun c86 => ?_) (fun c86 => ?_)
                              · skip
                                have zc86 : ¬ (p1.toInt = 0) := by rw [fa_eq, show (0 : Int32).toInt = 0 from by decide] at c86; exact c86
                                refine lv_iconst (v := 1) hx hb dX11_done_223 (by decide) ?_
                                refine lv_goto (tgt := 228) hx hb dX11_done_224 (by decide) ?_
                                have lt87 : (1 : Int32).toInt = 1 := by decide
                                refine cbSi (n := 1) (rest := []) hx hb hml hown hts hE hP hD hS hA (sY_X11_truth_1 l dC dI cy y0 r 1 v f w g hIv hCf hRf ) k_1761 k_1762 k_114 k_1763 (by decide +kernel) ⟨Nat.le_of_ble_eq_true rfl, Nat.le_of_ble_eq_true rfl⟩ (rfl) hl.1 rfl (Nat.le_of_ble_eq_true rfl) dX11_done_228 (fun r88 u H locs hw hP hD hS => ?_)
                                exact ret r88 () _ _ _ _ _ _ rfl trivial hP hD hS dX11_done_231 (Nat.le_refl _) (Nat.le_refl _)
                              · skip
                                have zc86 : p1.toInt = 0 := by rw [fa_eq, show (0 : Int32).toInt = 0 from by decide] at c86; exact c86
                                refine lv_iload_n hx hb dX11_done_219 rfl (lv_at hl 2 rfl) ?_
                                refine lv_if_eq (tgt := 227) hx hb dX11_done_220 (by decide) (fun c89 => ?_) (fun c89 => ?_)
                                · skip
                                  have zc89 : p2.toInt = 0 := by rw [fa_eq, show (0 : Int32).toInt = 0 from by decide] at c89; exact c89
                                  refine lv_iconst (v := 0) hx hb dX11_done_227 (by decide) ?_
                                  have lt90 : (0 : Int32).toInt = 0 := by decide
                                  refine cbSi (n := 1) (rest := []) hx hb hml hown hts hE hP hD hS hA (sY_X11_truth_1 l dC dI cy y0 r 0 v f w g hIv hCf hRf ) k_1761 k_1762 k_114 k_1763 (by decide +kernel) ⟨Nat.le_of_ble_eq_true rfl, Nat.le_of_ble_eq_true rfl⟩ (rfl) hl.1 rfl (Nat.le_of_ble_eq_true rfl) dX11_done_228 (fun r91 u H locs hw hP hD hS => ?_)
                                  exact ret r91 () _ _ _ _ _ _ rfl trivial hP hD hS dX11_done_231 (Nat.le_refl _) (Nat.le_refl _)
                                · skip
                                  have zc89 : ¬ (p2.toInt = 0) := by rw [fa_eq, show (0 : Int32).toInt = 0 from by decide] at c89; exact c89
                                  refine lv_iconst (v := 1) hx hb dX11_done_223 (by decide) ?_
                                  refine lv_goto (tgt := 228) hx hb dX11_done_224 (by decide) ?_
                                  have lt92 : (1 : Int32).toInt = 1 := by decide
                                  refine cbSi (n := 1) (rest := []) hx hb hml hown hts hE hP hD hS hA (sY_X11_truth_1 l dC dI cy y0 r 1 v f w g hIv hCf hRf ) k_1761 k_1762 k_114 k_1763 (by decide +kernel) ⟨Nat.le_of_ble_eq_true rfl, Nat.le_of_ble_eq_true rfl⟩ (rfl) hl.1 rfl (Nat.le_of_ble_eq_true rfl) dX11_done_228 (fun r93 u H locs hw hP hD hS => ?_)
                                  exact ret r93 () _ _ _ _ _ _ rfl trivial hP hD hS dX11_done_231 (Nat.le_refl _) (Nat.le_refl _)
                            · skip
                              have zc85 : ¬ (p0.toInt = 50) := by rw [fa_eq, show (50 : Int32).toInt = 50 from by decide] at c85; exact c85
                              by_cases c94 : p0 = 51
                              · skip
                                refine lv_tableIn (off := 214) (tgt := 215) hx hb dX11_done_1 (by rw [c94]; decide) (by rw [c94]; decide) (by rw [c94]; decide) (by decide) ?_
                                have zc94 : p0.toInt = 51 := by rw [fa_eq, show (51 : Int32).toInt = 51 from by decide] at c94; exact c94
                                refine lv_iload_n hx hb dX11_done_215 rfl (lv_at hl 1 rfl) ?_
                                refine lv_if_ne (tgt := 223) hx hb dX11_done_216 (by decide) (fun c95 => ?_) (fun c95 => ?_)
                                · skip
                                  have zc95 : ¬ (p1.toInt = 0) := by rw [fa_eq, show (0 : Int32).toInt = 0 from by decide] at c95; exact c95
                                  refine lv_iconst (v := 1) hx hb dX11_done_223 (by decide) ?_
                                  refine lv_goto (tgt := 228) hx hb dX11_done_224 (by decide) ?_
                                  have lt96 : (1 : Int32).toInt = 1 := by decide
                                  refine cbSi (n := 1) (rest := []) hx hb hml hown hts hE hP hD hS hA (sY_X11_truth_1 l dC dI cy y0 r 1 v f w g hIv hCf hRf ) k_1761 k_1762 k_114 k_1763 (by decide +kernel) ⟨Nat.le_of_ble_eq_true rfl, Nat.le_of_ble_eq_true rfl⟩ (rfl) hl.1 rfl (Nat.le_of_ble_eq_true rfl) dX11_done_228 (fun r97 u H locs hw hP hD hS => ?_)
                                  exact ret r97 () _ _ _ _ _ _ rfl trivial hP hD hS dX11_done_231 (Nat.le_refl _) (Nat.le_refl _)
                                · skip
                                  have zc95 : p1.toInt = 0 := by rw [fa_eq, show (0 : Int32).toInt = 0 from by decide] at c95; exact c95
                                  refine lv_iload_n hx hb dX11_done_219 rfl (lv_at hl 2 rfl) ?_
                                  refine lv_if_eq (tgt := 227) hx hb dX11_done_220 (by decide) (fun c98 => ?_) (fun c98 => ?_)
                                  · skip
                                    have zc98 : p2.toInt = 0 := by rw [fa_eq, show (0 : Int32).toInt = 0 from by decide] at c98; exact c98
                                    refine lv_iconst (v := 0) hx hb dX11_done_227 (by decide) ?_
                                    have lt99 : (0 : Int32).toInt = 0 := by decide
                                    refine cbSi (n := 1) (rest := []) hx hb hml hown hts hE hP hD hS hA (sY_X11_truth_1 l dC dI cy y0 r 0 v f w g hIv hCf hRf ) k_1761 k_1762 k_114 k_1763 (by decide +kernel) ⟨Nat.le_of_ble_eq_true rfl, Nat.le_of_ble_eq_true rfl⟩ (rfl) hl.1 rfl (Nat.le_of_ble_eq_true rfl) dX11_done_228 (fun r100 u H locs hw hP hD hS => ?_)
                                    exact ret r100 () _ _ _ _ _ _ rfl trivial hP hD hS dX11_done_231 (Nat.le_refl _) (Nat.le_refl _)
                                  · skip
                                    have zc98 : ¬ (p2.toInt = 0) := by rw [fa_eq, show (0 : Int32).toInt = 0 from by decide] at c98; exact c98
                                    refine lv_iconst (v := 1) hx hb dX11_done_223 (by decide) ?_
                                    refine lv_goto (tgt := 228) hx hb dX11_done_224 (by decide) ?_
                                    have lt101 : (1 : Int32).toInt = 1 := by decide
                                    refine cbSi (n := 1) (rest := []) hx hb hml hown hts hE hP hD hS hA (sY_X11_truth_1 l dC dI cy y0 r 1 v f w g hIv hCf hRf ) k_1761 k_1762 k_114 k_1763 (by decide +kernel) ⟨Nat.le_of_ble_eq_true rfl, Nat.le_of_ble_eq_true rfl⟩ (rfl) hl.1 rfl (Nat.le_of_ble_eq_true rfl) dX11_done_228 (fun r102 u H locs hw hP hD hS => ?_)
                                    exact ret r102 () _ _ _ _ _ _ rfl trivial hP hD hS dX11_done_231 (Nat.le_refl _) (Nat.le_refl _)
                              · skip
                                have zc94 : ¬ (p0.toInt = 51) := by rw [fa_eq, show (51 : Int32).toInt = 51 from by decide] at c94; exact c94
                                by_cases c103 : p0 = 52
                                · skip
                                  refine lv_tableIn (off := 214) (tgt := 215) hx hb dX11_done_1 (by rw [c103]; decide) (by rw [c103]; decide) (by rw [c103]; decide) (by decide) ?_
                                  have zc103 : p0.toInt = 52 := by rw [fa_eq, show (52 : Int32).toInt = 52 from by decide] at c103; exact c103
                                  refine lv_iload_n hx hb dX11_done_215 rfl (lv_at hl 1 rfl) ?_
                                  refine lv_if_ne (tgt := 223) hx hb dX11_done_216 (by decide) (fun c104 => ?_) (fun c104 => ?_)
                                  · skip
                                    have zc104 : ¬ (p1.toInt = 0) := by rw [fa_eq, show (0 : Int32).toInt = 0 from by decide] at c104; exact c104
                                    refine lv_iconst (v := 1) hx hb dX11_done_223 (by decide) ?_
                                    refine lv_goto (tgt := 228) hx hb dX11_done_224 (by decide) ?_
                                    have lt105 : (1 : Int32).toInt = 1 := by decide
                                    refine cbSi (n := 1) (rest := []) hx hb hml hown hts hE hP hD hS hA (sY_X11_truth_1 l dC dI cy y0 r 1 v f w g hIv hCf hRf ) k_1761 k_1762 k_114 k_1763 (by decide +kernel) ⟨Nat.le_of_ble_eq_true rfl, Nat.le_of_ble_eq_true rfl⟩ (rfl) hl.1 rfl (Nat.le_of_ble_eq_true rfl) dX11_done_228 (fun r106 u H locs hw hP hD hS => ?_)
                                    exact ret r106 () _ _ _ _ _ _ rfl trivial hP hD hS dX11_done_231 (Nat.le_refl _) (Nat.le_refl _)
                                  · skip
                                    have zc104 : p1.toInt = 0 := by rw [fa_eq, show (0 : Int32).toInt = 0 from by decide] at c104; exact c104
                                    refine lv_iload_n hx hb dX11_done_219 rfl (lv_at hl 2 rfl) ?_
                                    refine lv_if_eq (tgt := 227) hx hb dX11_done_220 (by decide) (fun c107 => ?_) (fun c107 => ?_)
                                    · skip
                                      have zc107 : p2.toInt = 0 := by rw [fa_eq, show (0 : Int32).toInt = 0 from by decide] at c107; exact c107
                                      refine lv_iconst (v := 0) hx hb dX11_done_227 (by decide) ?_
                                      have lt108 : (0 : Int32).toInt = 0 := by decide
                                      refine cbSi (n := 1) (rest := []) hx hb hml hown hts hE hP hD hS hA (sY_X11_truth_1 l dC dI cy y0 r 0 v f w g hIv hCf hRf ) k_1761 k_1762 k_114 k_1763 (by decide +kernel) ⟨Nat.le_of_ble_eq_true rfl, Nat.le_of_ble_eq_true rfl⟩ (rfl) hl.1 rfl (Nat.le_of_ble_eq_true rfl) dX11_done_228 (fun r109 u H locs hw hP hD hS => ?_)
                                      exact ret r109 () _ _ _ _ _ _ rfl trivial hP hD hS dX11_done_231 (Nat.le_refl _) (Nat.le_refl _)
                                    · skip
                                      have zc107 : ¬ (p2.toInt = 0) := by rw [fa_eq, show (0 : Int32).toInt = 0 from by decide] at c107; exact c107
                                      refine lv_iconst (v := 1) hx hb dX11_done_223 (by decide) ?_
                                      refine lv_goto (tgt := 228) hx hb dX11_done_224 (by decide) ?_
                                      have lt110 : (1 : Int32).toInt = 1 := by decide
                                      refine cbSi (n := 1) (rest := []) hx hb hml hown hts hE hP hD hS hA (sY_X11_truth_1 l dC dI cy y0 r 1 v f w g hIv hCf hRf ) k_1761 k_1762 k_114 k_1763 (by decide +kernel) ⟨Nat.le_of_ble_eq_true rfl, Nat.le_of_ble_eq_true rfl⟩ (rfl) hl.1 rfl (Nat.le_of_ble_eq_true rfl) dX11_done_228 (fun r111 u H locs hw hP hD hS => ?_)
                                      exact ret r111 () _ _ _ _ _ _ rfl trivial hP hD hS dX11_done_231 (Nat.le_refl _) (Nat.le_refl _)
                                · skip
                                  have zc103 : ¬ (p0.toInt = 52) := by rw [fa_eq, show (52 : Int32).toInt = 52 from by decide] at c103; exact c103
                                  by_cases c112 : p0 = 53
                                  · skip
                                    refine lv_tableIn (off := 214) (tgt := 215) hx hb dX11_done_1 (by rw [c112]; decide) (by rw [c112]; decide) (by rw [c112]; decide) (by decide) ?_
                                    have zc112 : p0.toInt = 53 := by rw [fa_eq, show (53 : Int32).toInt = 53 from by decide] at c112; exact c112
                                    refine lv_iload_n hx hb dX11_done_215 rfl (lv_at hl 1 rfl) ?_
                                    refine lv_if_ne (tgt := 223) hx hb dX11_done_216 (by decide) (fun c113 => ?_) (fun c113 => ?_)
                                    · skip
                                      have zc113 : ¬ (p1.toInt = 0) := by rw [fa_eq, show (0 : Int32).toInt = 0 from by decide] at c113; exact c113
                                      refine lv_iconst (v := 1) hx hb dX11_done_223 (by decide) ?_
                                      refine lv_goto (tgt := 228) hx hb dX11_done_224 (by decide) ?_
                                      have lt114 : (1 : Int32).toInt = 1 := by decide
                                      refine cbSi (n := 1) (rest := []) hx hb hml hown hts hE hP hD hS hA (sY_X11_truth_1 l dC dI cy y0 r 1 v f w g hIv hCf hRf ) k_1761 k_1762 k_114 k_1763 (by decide +kernel) ⟨Nat.le_of_ble_eq_true rfl, Nat.le_of_ble_eq_true rfl⟩ (rfl) hl.1 rfl (Nat.le_of_ble_eq_true rfl) dX11_done_228 (fun r115 u H locs hw hP hD hS => ?_)
                                      exact ret r115 () _ _ _ _ _ _ rfl trivial hP hD hS dX11_done_231 (Nat.le_refl _) (Nat.le_refl _)
                                    · skip
                                      have zc113 : p1.toInt = 0 := by rw [fa_eq, show (0 : Int32).toInt = 0 from by decide] at c113; exact c113
                                      refine lv_iload_n hx hb dX11_done_219 rfl (lv_at hl 2 rfl) ?_
                                      refine lv_if_eq (tgt := 227) hx hb dX11_done_220 (by decide) (fun c116 => ?_) (fun c116 => ?_)
                                      · skip
                                        have zc116 : p2.toInt = 0 := by rw [fa_eq, show (0 : Int32).toInt = 0 from by decide] at c116; exact c116
                                        refine lv_iconst (v := 0) hx hb dX11_done_227 (by decide) ?_
                                        have lt117 : (0 : Int32).toInt = 0 := by decide
                                        refine cbSi (n := 1) (rest := []) hx hb hml hown hts hE hP hD hS hA (sY_X11_truth_1 l dC dI cy y0 r 0 v f w g hIv hCf hRf ) k_1761 k_1762 k_114 k_1763 (by decide +kernel) ⟨Nat.le_of_ble_eq_true rfl, Nat.le_of_ble_eq_true rfl⟩ (rfl) hl.1 rfl (Nat.le_of_ble_eq_true rfl) dX11_done_228 (fun r118 u H locs hw hP hD hS => ?_)
                                        exact ret r118 () _ _ _ _ _ _ rfl trivial hP hD hS dX11_done_231 (Nat.le_refl _) (Nat.le_refl _)
                                      · skip
                                        have zc116 : ¬ (p2.toInt = 0) := by rw [fa_eq, show (0 : Int32).toInt = 0 from by decide] at c116; exact c116
                                        refine lv_iconst (v := 1) hx hb dX11_done_223 (by decide) ?_
                                        refine lv_goto (tgt := 228) hx hb dX11_done_224 (by decide) ?_
                                        have lt119 : (1 : Int32).toInt = 1 := by decide
                                        refine cbSi (n := 1) (rest := []) hx hb hml hown hts hE hP hD hS hA (sY_X11_truth_1 l dC dI cy y0 r 1 v f w g hIv hCf hRf ) k_1761 k_1762 k_114 k_1763 (by decide +kernel) ⟨Nat.le_of_ble_eq_true rfl, Nat.le_of_ble_eq_true rfl⟩ (rfl) hl.1 rfl (Nat.le_of_ble_eq_true rfl) dX11_done_228 (fun r120 u H locs hw hP hD hS => ?_)
                                        exact ret r120 () _ _ _ _ _ _ rfl trivial hP hD hS dX11_done_231 (Nat.le_refl _) (Nat.le_refl _)
                                  · skip
                                    have zc112 : ¬ (p0.toInt = 53) := by rw [fa_eq, show (53 : Int32).toInt = 53 from by decide] at c112; exact c112
                                    by_cases c121 : p0 = 54
                                    · skip
                                      refine lv_tableIn (off := 214) (tgt := 215) hx hb dX11_done_1 (by rw [c121]; decide) (by rw [c121]; decide) (by rw [c121]; decide) (by decide) ?_
                                      have zc121 : p0.toInt = 54 := by rw [fa_eq, show (54 : Int32).toInt = 54 from by decide] at c121; exact c121
                                      refine lv_iload_n hx hb dX11_done_215 rfl (lv_at hl 1 rfl) ?_
                                      refine lv_if_ne (tgt := 223) hx hb dX11_done_216 (by decide) (fun c122 => ?_) (fun c122 => ?_)
                                      · skip
                                        have zc122 : ¬ (p1.toInt = 0) := by rw [fa_eq, show (0 : Int32).toInt = 0 from by decide] at c122; exact c122
                                        refine lv_iconst (v := 1) hx hb dX11_done_223 (by decide) ?_
                                        refine lv_goto (tgt := 228) hx hb dX11_done_224 (by decide) ?_
                                        have lt123 : (1 : Int32).toInt = 1 := by decide
                                        refine cbSi (n := 1) (rest := []) hx hb hml hown hts hE hP hD hS hA (sY_X11_truth_1 l dC dI cy y0 r 1 v f w g hIv hCf hRf ) k_1761 k_1762 k_114 k_1763 (by decide +kernel) ⟨Nat.le_of_ble_eq_true rfl, Nat.le_of_ble_eq_true rfl⟩ (rfl) hl.1 rfl (Nat.le_of_ble_eq_true rfl) dX11_done_228 (fun r124 u H locs hw hP hD hS => ?_)
                                        exact ret r124 () _ _ _ _ _ _ rfl trivial hP hD hS dX11_done_231 (Nat.le_refl _) (Nat.le_refl _)
                                      · skip
                                        have zc122 : p1.toInt = 0 := by rw [fa_eq, show (0 : Int32).toInt = 0 from by decide] at c122; exact c122
                                        refine lv_iload_n hx hb dX11_done_219 rfl (lv_at hl 2 rfl) ?_
                                        refine lv_if_eq (tgt := 227) hx hb dX11_done_220 (by decide) (fun c125 => ?_) (fun c125 => ?_)
                                        · skip
                                          have zc125 : p2.toInt = 0 := by rw [fa_eq, show (0 : Int32).toInt = 0 from by decide] at c125; exact c125
                                          refine lv_iconst (v := 0) hx hb dX11_done_227 (by decide) ?_
                                          have lt126 : (0 : Int32).toInt = 0 := by decide
                                          refine cbSi (n := 1) (rest := []) hx hb hml hown hts hE hP hD hS hA (sY_X11_truth_1 l dC dI cy y0 r 0 v f w g hIv hCf hRf ) k_1761 k_1762 k_114 k_1763 (by decide +kernel) ⟨Nat.le_of_ble_eq_true rfl, Nat.le_of_ble_eq_true rfl⟩ (rfl) hl.1 rfl (Nat.le_of_ble_eq_true rfl) dX11_done_228 (fun r127 u H locs hw hP hD hS => ?_)
                                          exact ret r127 () _ _ _ _ _ _ rfl trivial hP hD hS dX11_done_231 (Nat.le_refl _) (Nat.le_refl _)
                                        · skip
                                          have zc125 : ¬ (p2.toInt = 0) := by rw [fa_eq, show (0 : Int32).toInt = 0 from by decide] at c125; exact c125
                                          refine lv_iconst (v := 1) hx hb dX11_done_223 (by decide) ?_
                                          refine lv_goto (tgt := 228) hx hb dX11_done_224 (by decide) ?_
                                          have lt128 : (1 : Int32).toInt = 1 := by decide
                                          refine cbSi (n := 1) (rest := []) hx hb hml hown hts hE hP hD hS hA (sY_X11_truth_1 l dC dI cy y0 r 1 v f w g hIv hCf hRf ) k_1761 k_1762 k_114 k_1763 (by decide +kernel) ⟨Nat.le_of_ble_eq_true rfl, Nat.le_of_ble_eq_true rfl⟩ (rfl) hl.1 rfl (Nat.le_of_ble_eq_true rfl) dX11_done_228 (fun r129 u H locs hw hP hD hS => ?_)
                                          exact ret r129 () _ _ _ _ _ _ rfl trivial hP hD hS dX11_done_231 (Nat.le_refl _) (Nat.le_refl _)
                                    · skip
                                      have zc121 : ¬ (p0.toInt = 54) := by rw [fa_eq, show (54 : Int32).toInt = 54 from by decide] at c121; exact c121
                                      by_cases c130 : p0 = 55
                                      · skip
                                        refine lv_tableIn (off := 214) (tgt := 215) hx hb dX11_done_1 (by rw [c130]; decide) (by rw [c130]; decide) (by rw [c130]; decide) (by decide) ?_
                                        have zc130 : p0.toInt = 55 := by rw [fa_eq, show (55 : Int32).toInt = 55 from by decide] at c130; exact c130
                                        refine lv_iload_n hx hb dX11_done_215 rfl (lv_at hl 1 rfl) ?_
                                        refine lv_if_ne (tgt := 223) hx hb dX11_done_216 (by decide) (fun c131 => ?_) (fun c131 => ?_)
                                        · skip
                                          have zc131 : ¬ (p1.toInt = 0) := by rw [fa_eq, show (0 : Int32).toInt = 0 from by decide] at c131; exact c131
                                          refine lv_iconst (v := 1) hx hb dX11_done_223 (by decide) ?_
                                          refine lv_goto (tgt := 228) hx hb dX11_done_224 (by decide) ?_
                                          have lt132 : (1 : Int32).toInt = 1 := by decide
                                          refine cbSi (n := 1) (rest := []) hx hb hml hown hts hE hP hD hS hA (sY_X11_truth_1 l dC dI cy y0 r 1 v f w g hIv hCf hRf ) k_1761 k_1762 k_114 k_1763 (by decide +kernel) ⟨Nat.le_of_ble_eq_true rfl, Nat.le_of_ble_eq_true rfl⟩ (rfl) hl.1 rfl (Nat.le_of_ble_eq_true rfl) dX11_done_228 (fun r133 u H locs hw hP hD hS => ?_)
                                          exact ret r133 () _ _ _ _ _ _ rfl trivial hP hD hS dX11_done_231 (Nat.le_refl _) (Nat.le_refl _)
                                        · skip
                                          have zc131 : p1.toInt = 0 := by rw [fa_eq, show (0 : Int32).toInt = 0 from by decide] at c131; exact c131
                                          refine lv_iload_n hx hb dX11_done_219 rfl (lv_at hl 2 rfl) ?_
                                          refine lv_if_eq (tgt := 227) hx hb dX11_done_220 (by decide) (fun c134 => ?_) (fun c134 => ?_)
                                          · skip
                                            have zc134 : p2.toInt = 0 := by rw [fa_eq, show (0 : Int32).toInt = 0 from by decide] at c134; exact c134
                                            refine lv_iconst (v := 0) hx hb dX11_done_227 (by decide) ?_
                                            have lt135 : (0 : Int32).toInt = 0 := by decide
                                            refine cbSi (n := 1) (rest := []) hx hb hml hown hts hE hP hD hS hA (sY_X11_truth_1 l dC dI cy y0 r 0 v f w g hIv hCf hRf ) k_1761 k_1762 k_114 k_1763 (by decide +kernel) ⟨Nat.le_of_ble_eq_true rfl, Nat.le_of_ble_eq_true rfl⟩ (rfl) hl.1 rfl (Nat.le_of_ble_eq_true rfl) dX11_done_228 (fun r136 u H locs hw hP hD hS => ?_)
                                            exact ret r136 () _ _ _ _ _ _ rfl trivial hP hD hS dX11_done_231 (Nat.le_refl _) (Nat.le_refl _)
                                          · skip
                                            have zc134 : ¬ (p2.toInt = 0) := by rw [fa_eq, show (0 : Int32).toInt = 0 from by decide] at c134; exact c134
                                            refine lv_iconst (v := 1) hx hb dX11_done_223 (by decide) ?_
                                            refine lv_goto (tgt := 228) hx hb dX11_done_224 (by decide) ?_
                                            have lt137 : (1 : Int32).toInt = 1 := by decide
                                            refine cbSi (n := 1) (rest := []) hx hb hml hown hts hE hP hD hS hA (sY_X11_truth_1 l dC dI cy y0 r 1 v f w g hIv hCf hRf ) k_1761 k_1762 k_114 k_1763 (by decide +kernel) ⟨Nat.le_of_ble_eq_true rfl, Nat.le_of_ble_eq_true rfl⟩ (rfl) hl.1 rfl (Nat.le_of_ble_eq_true rfl) dX11_done_228 (fun r138 u H locs hw hP hD hS => ?_)
                                            exact ret r138 () _ _ _ _ _ _ rfl trivial hP hD hS dX11_done_231 (Nat.le_refl _) (Nat.le_refl _)
                                      · skip
                                        have zc130 : ¬ (p0.toInt = 55) := by rw [fa_eq, show (55 : Int32).toInt = 55 from by decide] at c130; exact c130
                                        by_cases c139 : p0 = 56
                                        · skip
                                          refine lv_tableIn (off := 214) (tgt := 215) hx hb dX11_done_1 (by rw [c139]; decide) (by rw [c139]; decide) (by rw [c139]; decide) (by decide) ?_
                                          have zc139 : p0.toInt = 56 := by rw [fa_eq, show (56 : Int32).toInt = 56 from by decide] at c139; exact c139
                                          refine lv_iload_n hx hb dX11_done_215 rfl (lv_at hl 1 rfl) ?_
                                          refine lv_if_ne (tgt := 223) hx hb dX11_done_216 (by decide) (fun c140 => ?_) (fun c140 => ?_)
                                          · skip
                                            have zc140 : ¬ (p1.toInt = 0) := by rw [fa_eq, show (0 : Int32).toInt = 0 from by decide] at c140; exact c140
                                            refine lv_iconst (v := 1) hx hb dX11_done_223 (by decide) ?_
                                            refine lv_goto (tgt := 228) hx hb dX11_done_224 (by decide) ?_
                                            have lt141 : (1 : Int32).toInt = 1 := by decide
                                            refine cbSi (n := 1) (rest := []) hx hb hml hown hts hE hP hD hS hA (sY_X11_truth_1 l dC dI cy y0 r 1 v f w g hIv hCf hRf ) k_1761 k_1762 k_114 k_1763 (by decide +kernel) ⟨Nat.le_of_ble_eq_true rfl, Nat.le_of_ble_eq_true rfl⟩ (rfl) hl.1 rfl (Nat.le_of_ble_eq_true rfl) dX11_done_228 (fun r142 u H locs hw hP hD hS => ?_)
                                            exact ret r142 () _ _ _ _ _ _ rfl trivial hP hD hS dX11_done_231 (Nat.le_refl _) (Nat.le_refl _)
                                          · skip
                                            have zc140 : p1.toInt = 0 := by rw [fa_eq, show (0 : Int32).toInt = 0 from by decide] at c140; exact c140
                                            refine lv_iload_n hx hb dX11_done_219 rfl (lv_at hl 2 rfl) ?_
                                            refine lv_if_eq (tgt := 227) hx hb dX11_done_220 (by decide) (fun c143 => ?_) (fun c143 => ?_)
                                            · skip
                                              have zc143 : p2.toInt = 0 := by rw [fa_eq, show (0 : Int32).toInt = 0 from by decide] at c143; exact c143
                                              refine lv_iconst (v := 0) hx hb dX11_done_227 (by decide) ?_
                                              have lt144 : (0 : Int32).toInt = 0 := by decide
                                              refine cbSi (n := 1) (rest := []) hx hb hml hown hts hE hP hD hS hA (sY_X11_truth_1 l dC dI cy y0 r 0 v f w g hIv hCf hRf ) k_1761 k_1762 k_114 k_1763 (by decide +kernel) ⟨Nat.le_of_ble_eq_true rfl, Nat.le_of_ble_eq_true rfl⟩ (rfl) hl.1 rfl (Nat.le_of_ble_eq_true rfl) dX11_done_228 (fun r145 u H locs hw hP hD hS => ?_)
                                              exact ret r145 () _ _ _ _ _ _ rfl trivial hP hD hS dX11_done_231 (Nat.le_refl _) (Nat.le_refl _)
                                            · skip
                                              have zc143 : ¬ (p2.toInt = 0) := by rw [fa_eq, show (0 : Int32).toInt = 0 from by decide] at c143; exact c143
                                              refine lv_iconst (v := 1) hx hb dX11_done_223 (by decide) ?_
                                              refine lv_goto (tgt := 228) hx hb dX11_done_224 (by decide) ?_
                                              have lt146 : (1 : Int32).toInt = 1 := by decide
                                              refine cbSi (n := 1) (rest := []) hx hb hml hown hts hE hP hD hS hA (sY_X11_truth_1 l dC dI cy y0 r 1 v f w g hIv hCf hRf ) k_1761 k_1762 k_114 k_1763 (by decide +kernel) ⟨Nat.le_of_ble_eq_true rfl, Nat.le_of_ble_eq_true rfl⟩ (rfl) hl.1 rfl (Nat.le_of_ble_eq_true rfl) dX11_done_228 (fun r147 u H locs hw hP hD hS => ?_)
                                              exact ret r147 () _ _ _ _ _ _ rfl trivial hP hD hS dX11_done_231 (Nat.le_refl _) (Nat.le_refl _)
                                        · skip
                                          have zc139 : ¬ (p0.toInt = 56) := by rw [fa_eq, show (56 : Int32).toInt = 56 from by decide] at c139; exact c139
                                          by_cases c148 : p0 = 57
                                          · skip
                                            refine lv_tableIn (off := 214) (tgt := 215) hx hb dX11_done_1 (by rw [c148]; decide) (by rw [c148]; decide) (by rw [c148]; decide) (by decide) ?_
                                            have zc148 : p0.toInt = 57 := by rw [fa_eq, show (57 : Int32).toInt = 57 from by decide] at c148; exact c148
                                            refine lv_iload_n hx hb dX11_done_215 rfl (lv_at hl 1 rfl) ?_
                                            refine lv_if_ne (tgt := 223) hx hb dX11_done_216 (by decide) (fun c149 => ?_) (fun c149 => ?_)
                                            · skip
                                              have zc149 : ¬ (p1.toInt = 0) := by rw [fa_eq, show (0 : Int32).toInt = 0 from by decide] at c149; exact c149
                                              refine lv_iconst (v := 1) hx hb dX11_done_223 (by decide) ?_
                                              refine lv_goto (tgt := 228) hx hb dX11_done_224 (by decide) ?_
                                              have lt150 : (1 : Int32).toInt = 1 := by decide
                                              refine cbSi (n := 1) (rest := []) hx hb hml hown hts hE hP hD hS hA (sY_X11_truth_1 l dC dI cy y0 r 1 v f w g hIv hCf hRf ) k_1761 k_1762 k_114 k_1763 (by decide +kernel) ⟨Nat.le_of_ble_eq_true rfl, Nat.le_of_ble_eq_true rfl⟩ (rfl) hl.1 rfl (Nat.le_of_ble_eq_true rfl) dX11_done_228 (fun r151 u H locs hw hP hD hS => ?_)
                                              exact ret r151 () _ _ _ _ _ _ rfl trivial hP hD hS dX11_done_231 (Nat.le_refl _) (Nat.le_refl _)
                                            · skip
                                              have zc149 : p1.toInt = 0 := by rw [fa_eq, show (0 : Int32).toInt = 0 from by decide] at c149; exact c149
                                              refine lv_iload_n hx hb dX11_done_219 rfl (lv_at hl 2 rfl) ?_
                                              refine lv_if_eq (tgt := 227) hx hb dX11_done_220 (by decide) (fun c152 => ?_) (fun c152 => ?_)
                                              · skip
                                                have zc152 : p2.toInt = 0 := by rw [fa_eq, show (0 : Int32).toInt = 0 from by decide] at c152; exact c152
                                                refine lv_iconst (v := 0) hx hb dX11_done_227 (by decide) ?_
                                                have lt153 : (0 : Int32).toInt = 0 := by decide
                                                refine cbSi (n := 1) (rest := []) hx hb hml hown hts hE hP hD hS hA (sY_X11_truth_1 l dC dI cy y0 r 0 v f w g hIv hCf hRf ) k_1761 k_1762 k_114 k_1763 (by decide +kernel) ⟨Nat.le_of_ble_eq_true rfl, Nat.le_of_ble_eq_true rfl⟩ (rfl) hl.1 rfl (Nat.le_of_ble_eq_true rfl) dX11_done_228 (fun r154 u H locs hw hP hD hS => ?_)
                                                exact ret r154 () _ _ _ _ _ _ rfl trivial hP hD hS dX11_done_231 (Nat.le_refl _) (Nat.le_refl _)
                                              · skip
                                                have zc152 : ¬ (p2.toInt = 0) := by rw [fa_eq, show (0 : Int32).toInt = 0 from by decide] at c152; exact c152
                                                refine lv_iconst (v := 1) hx hb dX11_done_223 (by decide) ?_
                                                refine lv_goto (tgt := 228) hx hb dX11_done_224 (by decide) ?_
                                                have lt155 : (1 : Int32).toInt = 1 := by decide
                                                refine cbSi (n := 1) (rest := []) hx hb hml hown hts hE hP hD hS hA (sY_X11_truth_1 l dC dI cy y0 r 1 v f w g hIv hCf hRf ) k_1761 k_1762 k_114 k_1763 (by decide +kernel) ⟨Nat.le_of_ble_eq_true rfl, Nat.le_of_ble_eq_true rfl⟩ (rfl) hl.1 rfl (Nat.le_of_ble_eq_true rfl) dX11_done_228 (fun r156 u H locs hw hP hD hS => ?_)
                                                exact ret r156 () _ _ _ _ _ _ rfl trivial hP hD hS dX11_done_231 (Nat.le_refl _) (Nat.le_refl _)
                                          · skip
                                            have zc148 : ¬ (p0.toInt = 57) := by rw [fa_eq, show (57 : Int32).toInt = 57 from by decide] at c148; exact c148
                                            by_cases c157 : p0 = 58
                                            · skip
                                              refine lv_tableIn (off := 214) (tgt := 215) hx hb dX11_done_1 (by rw [c157]; decide) (by rw [c157]; decide) (by rw [c157]; decide) (by decide) ?_
                                              have zc157 : p0.toInt = 58 := by rw [fa_eq, show (58 : Int32).toInt = 58 from by decide] at c157; exact c157
                                              refine lv_iload_n hx hb dX11_done_215 rfl (lv_at hl 1 rfl) ?_
                                              refine lv_if_ne (tgt := 223) hx hb dX11_done_216 (by decide) (fun c158 => ?_) (fun c158 => ?_)
                                              · skip
                                                have zc158 : ¬ (p1.toInt = 0) := by rw [fa_eq, show (0 : Int32).toInt = 0 from by decide] at c158; exact c158
                                                refine lv_iconst (v := 1) hx hb dX11_done_223 (by decide) ?_
                                                refine lv_goto (tgt := 228) hx hb dX11_done_224 (by decide) ?_
                                                have lt159 : (1 : Int32).toInt = 1 := by decide
                                                refine cbSi (n := 1) (rest := []) hx hb hml hown hts hE hP hD hS hA (sY_X11_truth_1 l dC dI cy y0 r 1 v f w g hIv hCf hRf ) k_1761 k_1762 k_114 k_1763 (by decide +kernel) ⟨Nat.le_of_ble_eq_true rfl, Nat.le_of_ble_eq_true rfl⟩ (rfl) hl.1 rfl (Nat.le_of_ble_eq_true rfl) dX11_done_228 (fun r160 u H locs hw hP hD hS => ?_)
                                                exact ret r160 () _ _ _ _ _ _ rfl trivial hP hD hS dX11_done_231 (Nat.le_refl _) (Nat.le_refl _)
                                              · skip
                                                have zc158 : p1.toInt = 0 := by rw [fa_eq, show (0 : Int32).toInt = 0 from by decide] at c158; exact c158
                                                refine lv_iload_n hx hb dX11_done_219 rfl (lv_at hl 2 rfl) ?_
                                                refine lv_if_eq (tgt := 227) hx hb dX11_done_220 (by decide) (fun c161 => ?_) (fun c161 => ?_)
                                                · skip
                                                  have zc161 : p2.toInt = 0 := by rw [fa_eq, show (0 : Int32).toInt = 0 from by decide] at c161; exact c161
                                                  refine lv_iconst (v := 0) hx hb dX11_done_227 (by decide) ?_
                                                  have lt162 : (0 : Int32).toInt = 0 := by decide
                                                  refine cbSi (n := 1) (rest := []) hx hb hml hown hts hE hP hD hS hA (sY_X11_truth_1 l dC dI cy y0 r 0 v f w g hIv hCf hRf ) k_1761 k_1762 k_114 k_1763 (by decide +kernel) ⟨Nat.le_of_ble_eq_true rfl, Nat.le_of_ble_eq_true rfl⟩ (rfl) hl.1 rfl (Nat.le_of_ble_eq_true rfl) dX11_done_228 (fun r163 u H locs hw hP hD hS => ?_)
                                                  exact ret r163 () _ _ _ _ _ _ rfl trivial hP hD hS dX11_done_231 (Nat.le_refl _) (Nat.le_refl _)
                                                · skip
                                                  have zc161 : ¬ (p2.toInt = 0) := by rw [fa_eq, show (0 : Int32).toInt = 0 from by decide] at c161; exact c161
                                                  refine lv_iconst (v := 1) hx hb dX11_done_223 (by decide) ?_
                                                  refine lv_goto (tgt := 228) hx hb dX11_done_224 (by decide) ?_
                                                  have lt164 : (1 : Int32).toInt = 1 := by decide
                                                  refine cbSi (n := 1) (rest := []) hx hb hml hown hts hE hP hD hS hA (sY_X11_truth_1 l dC dI cy y0 r 1 v f w g hIv hCf hRf ) k_1761 k_1762 k_114 k_1763 (by decide +kernel) ⟨Nat.le_of_ble_eq_true rfl, Nat.le_of_ble_eq_true rfl⟩ (rfl) hl.1 rfl (Nat.le_of_ble_eq_true rfl) dX11_done_228 (fun r165 u H locs hw hP hD hS => ?_)
                                                  exact ret r165 () _ _ _ _ _ _ rfl trivial hP hD hS dX11_done_231 (Nat.le_refl _) (Nat.le_refl _)
                                            · skip
                                              have zc157 : ¬ (p0.toInt = 58) := by rw [fa_eq, show (58 : Int32).toInt = 58 from by decide] at c157; exact c157
                                              by_cases c166 : p0 = 59
                                              · skip
                                                refine lv_tableIn (off := 214) (tgt := 215) hx hb dX11_done_1 (by rw [c166]; decide) (by rw [c166]; decide) (by rw [c166]; decide) (by decide) ?_
                                                have zc166 : p0.toInt = 59 := by rw [fa_eq, show (59 : Int32).toInt = 59 from by decide] at c166; exact c166
                                                refine lv_iload_n hx hb dX11_done_215 rfl (lv_at hl 1 rfl) ?_
                                                refine lv_if_ne (tgt := 223) hx hb dX11_done_216 (by decide) (fun c167 => ?_) (fun c167 => ?_)
                                                · skip
                                                  have zc167 : ¬ (p1.toInt = 0) := by rw [fa_eq, show (0 : Int32).toInt = 0 from by decide] at c167; exact c167
                                                  refine lv_iconst (v := 1) hx hb dX11_done_223 (by decide) ?_
                                                  refine lv_goto (tgt := 228) hx hb dX11_done_224 (by decide) ?_
                                                  have lt168 : (1 : Int32).toInt = 1 := by decide
                                                  refine cbSi (n := 1) (rest := []) hx hb hml hown hts hE hP hD hS hA (sY_X11_truth_1 l dC dI cy y0 r 1 v f w g hIv hCf hRf ) k_1761 k_1762 k_114 k_1763 (by decide +kernel) ⟨Nat.le_of_ble_eq_true rfl, Nat.le_of_ble_eq_true rfl⟩ (rfl) hl.1 rfl (Nat.le_of_ble_eq_true rfl) dX11_done_228 (fun r169 u H locs hw hP hD hS => ?_)
                                                  exact ret r169 () _ _ _ _ _ _ rfl trivial hP hD hS dX11_done_231 (Nat.le_refl _) (Nat.le_refl _)
                                                · skip
                                                  have zc167 : p1.toInt = 0 := by rw [fa_eq, show (0 : Int32).toInt = 0 from by decide] at c167; exact c167
                                                  refine lv_iload_n hx hb dX11_done_219 rfl (lv_at hl 2 rfl) ?_
                                                  refine lv_if_eq (tgt := 227) hx hb dX11_done_220 (by decide) (fun c170 => ?_) (fun c170 => ?_)
                                                  · skip
                                                    have zc170 : p2.toInt = 0 := by rw [fa_eq, show (0 : Int32).toInt = 0 from by decide] at c170; exact c170
                                                    refine lv_iconst (v := 0) hx hb dX11_done_227 (by decide) ?_
                                                    have lt171 : (0 : Int32).toInt = 0 := by decide
                                                    refine cbSi (n := 1) (rest := []) hx hb hml hown hts hE hP hD hS hA (sY_X11_truth_1 l dC dI cy y0 r 0 v f w g hIv hCf hRf ) k_1761 k_1762 k_114 k_1763 (by decide +kernel) ⟨Nat.le_of_ble_eq_true rfl, Nat.le_of_ble_eq_true rfl⟩ (rfl) hl.1 rfl (Nat.le_of_ble_eq_true rfl) dX11_done_228 (fun r172 u H locs hw hP hD hS => ?_)
                                                    exact ret r172 () _ _ _ _ _ _ rfl trivial hP hD hS dX11_done_231 (Nat.le_refl _) (Nat.le_refl _)
                                                  · skip
                                                    have zc170 : ¬ (p2.toInt = 0) := by rw [fa_eq, show (0 : Int32).toInt = 0 from by decide] at c170; exact c170
                                                    refine lv_iconst (v := 1) hx hb dX11_done_223 (by decide) ?_
                                                    refine lv_goto (tgt := 228) hx hb dX11_done_224 (by decide) ?_
                                                    have lt173 : (1 : Int32).toInt = 1 := by decide
                                                    refine cbSi (n := 1) (rest := []) hx hb hml hown hts hE hP hD hS hA (sY_X11_truth_1 l dC dI cy y0 r 1 v f w g hIv hCf hRf ) k_1761 k_1762 k_114 k_1763 (by decide +kernel) ⟨Nat.le_of_ble_eq_true rfl, Nat.le_of_ble_eq_true rfl⟩ (rfl) hl.1 rfl (Nat.le_of_ble_eq_true rfl) dX11_done_228 (fun r174 u H locs hw hP hD hS => ?_)
                                                    exact ret r174 () _ _ _ _ _ _ rfl trivial hP hD hS dX11_done_231 (Nat.le_refl _) (Nat.le_refl _)
                                              · skip
                                                have zc166 : ¬ (p0.toInt = 59) := by rw [fa_eq, show (59 : Int32).toInt = 59 from by decide] at c166; exact c166
                                                by_cases c175 : p0 = 60
                                                · skip
                                                  refine lv_tableIn (off := 155) (tgt := 156) hx hb dX11_done_1 (by rw [c175]; decide) (by rw [c175]; decide) (by rw [c175]; decide) (by decide) ?_
                                                  have zc175 : p0.toInt = 60 := by rw [fa_eq, show (60 : Int32).toInt = 60 from by decide] at c175; exact c175
                                                  refine lv_iload_n hx hb dX11_done_156 rfl (lv_at hl 1 rfl) ?_
                                                  refine lv_iload_n hx hb dX11_done_157 rfl (lv_at hl 2 rfl) ?_
                                                  refine lv_icmp_ge (tgt := 165) hx hb dX11_done_158 (by decide) (fun c176 => ?_) (fun c176 => ?_)
                                                  · skip
                                                    have zc176 : p2.toInt ≤ p1.toInt := by rw [fa_le] at c176; exact c176
                                                    have rg177 := fb_rng p1
                                                    have rg178 := fb_rng p2
                                                    refine lv_iconst (v := 0) hx hb dX11_done_165 (by decide) ?_
                                                    have lt179 : (0 : Int32).toInt = 0 := by decide
                                                    refine cbSi (n := 1) (rest := []) hx hb hml hown hts hE hP hD hS hA (sY_X11_truth_1 l dC dI cy y0 r 0 v f w g hIv hCf hRf ) k_1761 k_1762 k_114 k_1763 (by decide +kernel) ⟨Nat.le_of_ble_eq_true rfl, Nat.le_of_ble_eq_true rfl⟩ (rfl) hl.1 rfl (Nat.le_of_ble_eq_true rfl) dX11_done_166 (fun r180 u H locs hw hP hD hS => ?_)
                                                    exact ret r180 () _ _ _ _ _ _ rfl trivial hP hD hS dX11_done_169 (Nat.le_refl _) (Nat.le_refl _)
                                                  · skip
                                                    have zc176 : ¬ (p2.toInt ≤ p1.toInt) := by rw [fa_le] at c176; exact c176
                                                    have rg181 := fb_rng p1
                                                    have rg182 := fb_rng p2
                                                    refine lv_iconst (v := 1) hx hb dX11_done_161 (by decide) ?_
                                                    refine lv_goto (tgt := 166) hx hb dX11_done_162 (by decide) ?_
                                                    have lt183 : (1 : Int32).toInt = 1 := by decide
                                                    refine cbSi (n := 1) (rest := []) hx hb hml hown hts hE hP hD hS hA (sY_X11_truth_1 l dC dI cy y0 r 1 v f w g hIv hCf hRf ) k_1761 k_1762 k_114 k_1763 (by decide +kernel) ⟨Nat.le_of_ble_eq_true rfl, Nat.le_of_ble_eq_true rfl⟩ (rfl) hl.1 rfl (Nat.le_of_ble_eq_true rfl) dX11_done_166 (fun r184 u H locs hw hP hD hS => ?_)
                                                    exact ret r184 () _ _ _ _ _ _ rfl trivial hP hD hS dX11_done_169 (Nat.le_refl _) (Nat.le_refl _)
                                                · skip
                                                  have zc175 : ¬ (p0.toInt = 60) := by rw [fa_eq, show (60 : Int32).toInt = 60 from by decide] at c175; exact c175
                                                  by_cases c185 : p0 = 61
                                                  · skip
                                                    refine lv_tableIn (off := 183) (tgt := 184) hx hb dX11_done_1 (by rw [c185]; decide) (by rw [c185]; decide) (by rw [c185]; decide) (by decide) ?_
                                                    have zc185 : p0.toInt = 61 := by rw [fa_eq, show (61 : Int32).toInt = 61 from by decide] at c185; exact c185
                                                    refine lv_iload_n hx hb dX11_done_184 rfl (lv_at hl 1 rfl) ?_
                                                    refine lv_iload_n hx hb dX11_done_185 rfl (lv_at hl 2 rfl) ?_
                                                    refine lv_icmp_ne (tgt := 193) hx hb dX11_done_186 (by decide) (fun c186 => ?_) (fun c186 => ?_)
                                                    · skip
                                                      have zc186 : ¬ (p1.toInt = p2.toInt) := by rw [fa_eq] at c186; exact c186
                                                      have rg187 := fb_rng p1
                                                      have rg188 := fb_rng p2
                                                      refine lv_iconst (v := 0) hx hb dX11_done_193 (by decide) ?_
                                                      have lt189 : (0 : Int32).toInt = 0 := by decide
                                                      refine cbSi (n := 1) (rest := []) hx hb hml hown hts hE hP hD hS hA (sY_X11_truth_1 l dC dI cy y0 r 0 v f w g hIv hCf hRf ) k_1761 k_1762 k_114 k_1763 (by decide +kernel) ⟨Nat.le_of_ble_eq_true rfl, Nat.le_of_ble_eq_true rfl⟩ (rfl) hl.1 rfl (Nat.le_of_ble_eq_true rfl) dX11_done_194 (fun r190 u H locs hw hP hD hS => ?_)
                                                      exact ret r190 () _ _ _ _ _ _ rfl trivial hP hD hS dX11_done_197 (Nat.le_refl _) (Nat.le_refl _)
                                                    · skip
                                                      have zc186 : p1.toInt = p2.toInt := by rw [fa_eq] at c186; exact c186
                                                      have rg191 := fb_rng p1
                                                      have rg192 := fb_rng p2
                                                      refine lv_iconst (v := 1) hx hb dX11_done_189 (by decide) ?_
                                                      refine lv_goto (tgt := 194) hx hb dX11_done_190 (by decide) ?_
                                                      have lt193 : (1 : Int32).toInt = 1 := by decide
                                                      refine cbSi (n := 1) (rest := []) hx hb hml hown hts hE hP hD hS hA (sY_X11_truth_1 l dC dI cy y0 r 1 v f w g hIv hCf hRf ) k_1761 k_1762 k_114 k_1763 (by decide +kernel) ⟨Nat.le_of_ble_eq_true rfl, Nat.le_of_ble_eq_true rfl⟩ (rfl) hl.1 rfl (Nat.le_of_ble_eq_true rfl) dX11_done_194 (fun r194 u H locs hw hP hD hS => ?_)
                                                      exact ret r194 () _ _ _ _ _ _ rfl trivial hP hD hS dX11_done_197 (Nat.le_refl _) (Nat.le_refl _)
                                                  · skip
                                                    have zc185 : ¬ (p0.toInt = 61) := by rw [fa_eq, show (61 : Int32).toInt = 61 from by decide] at c185; exact c185
                                                    by_cases c195 : p0 = 62
                                                    · skip
                                                      refine lv_tableIn (off := 169) (tgt := 170) hx hb dX11_done_1 (by rw [c195]; decide) (by rw [c195]; decide) (by rw [c195]; decide) (by decide) ?_
                                                      have zc195 : p0.toInt = 62 := by rw [fa_eq, show (62 : Int32).toInt = 62 from by decide] at c195; exact c195
                                                      refine lv_iload_n hx hb dX11_done_170 rfl (lv_at hl 1 rfl) ?_
                                                      refine lv_iload_n hx hb dX11_done_171 rfl (lv_at hl 2 rfl) ?_
                                                      refine lv_icmp_le (tgt := 179) hx hb dX11_done_172 (by decide) (fun c196 => ?_) (fun c196 => ?_)
                                                      · skip
                                                        have zc196 : p1.toInt ≤ p2.toInt := by rw [fa_le] at c196; exact c196
                                                        have rg197 := fb_rng p1
                                                        have rg198 := fb_rng p2
                                                        refine lv_iconst (v := 0) hx hb dX11_done_179 (by decide) ?_
                                                        have lt199 : (0 : Int32).toInt = 0 := by decide
                                                        refine cbSi (n := 1) (rest := []) hx hb hml hown hts hE hP hD hS hA (sY_X11_truth_1 l dC dI cy y0 r 0 v f w g hIv hCf hRf ) k_1761 k_1762 k_114 k_1763 (by decide +kernel) ⟨Nat.le_of_ble_eq_true rfl, Nat.le_of_ble_eq_true rfl⟩ (rfl) hl.1 rfl (Nat.le_of_ble_eq_true rfl) dX11_done_180 (fun r200 u H locs hw hP hD hS => ?_)
                                                        exact ret r200 () _ _ _ _ _ _ rfl trivial hP hD hS dX11_done_183 (Nat.le_refl _) (Nat.le_refl _)
                                                      · skip
                                                        have zc196 : ¬ (p1.toInt ≤ p2.toInt) := by rw [fa_le] at c196; exact c196
                                                        have rg201 := fb_rng p1
                                                        have rg202 := fb_rng p2
                                                        refine lv_iconst (v := 1) hx hb dX11_done_175 (by decide) ?_
                                                        refine lv_goto (tgt := 180) hx hb dX11_done_176 (by decide) ?_
                                                        have lt203 : (1 : Int32).toInt = 1 := by decide
                                                        refine cbSi (n := 1) (rest := []) hx hb hml hown hts hE hP hD hS hA (sY_X11_truth_1 l dC dI cy y0 r 1 v f w g hIv hCf hRf ) k_1761 k_1762 k_114 k_1763 (by decide +kernel) ⟨Nat.le_of_ble_eq_true rfl, Nat.le_of_ble_eq_true rfl⟩ (rfl) hl.1 rfl (Nat.le_of_ble_eq_true rfl) dX11_done_180 (fun r204 u H locs hw hP hD hS => ?_)
                                                        exact ret r204 () _ _ _ _ _ _ rfl trivial hP hD hS dX11_done_183 (Nat.le_refl _) (Nat.le_refl _)
                                                    · skip
                                                      have zc195 : ¬ (p0.toInt = 62) := by rw [fa_eq, show (62 : Int32).toInt = 62 from by decide] at c195; exact c195
                                                      refine lv_tableOut (tgt := 215) hx hb dX11_done_1 (by omega) (by decide) ?_
                                                      refine lv_iload_n hx hb dX11_done_215 rfl (lv_at hl 1 rfl) ?_
                                                      refine lv_if_ne (tgt := 223) hx hb dX11_done_216 (by decide) (fun c205 => ?_) (fun c205 => ?_)
                                                      · skip
                                                        have zc205 : ¬ (p1.toInt = 0) := by rw [fa_eq, show (0 : Int32).toInt = 0 from by decide] at c205; exact c205
                                                        refine lv_iconst (v := 1) hx hb dX11_done_223 (by decide) ?_
                                                        refine lv_goto (tgt := 228) hx hb dX11_done_224 (by decide) ?_
                                                        have lt206 : (1 : Int32).toInt = 1 := by decide
                                                        refine cbSi (n := 1) (rest := []) hx hb hml hown hts hE hP hD hS hA (sY_X11_truth_1 l dC dI cy y0 r 1 v f w g hIv hCf hRf ) k_1761 k_1762 k_114 k_1763 (by decide +kernel) ⟨Nat.le_of_ble_eq_true rfl, Nat.le_of_ble_eq_true rfl⟩ (rfl) hl.1 rfl (Nat.le_of_ble_eq_true rfl) dX11_done_228 (fun r207 u H locs hw hP hD hS => ?_)
                                                        exact ret r207 () _ _ _ _ _ _ rfl trivial hP hD hS dX11_done_231 (Nat.le_refl _) (Nat.le_refl _)
                                                      · skip
                                                        have zc205 : p1.toInt = 0 := by rw [fa_eq, show (0 : Int32).toInt = 0 from by decide] at c205; exact c205
                                                        refine lv_iload_n hx hb dX11_done_219 rfl (lv_at hl 2 rfl) ?_
                                                        refine lv_if_eq (tgt := 227) hx hb dX11_done_220 (by decide) (fun c208 => ?_) (fun c208 => ?_)
                                                        · skip
                                                          have zc208 : p2.toInt = 0 := by rw [fa_eq, show (0 : Int32).toInt = 0 from by decide] at c208; exact c208
                                                          refine lv_iconst (v := 0) hx hb dX11_done_227 (by decide) ?_
                                                          have lt209 : (0 : Int32).toInt = 0 := by decide
                                                          refine cbSi (n := 1) (rest := []) hx hb hml hown hts hE hP hD hS hA (sY_X11_truth_1 l dC dI cy y0 r 0 v f w g hIv hCf hRf ) k_1761 k_1762 k_114 k_1763 (by decide +kernel) ⟨Nat.le_of_ble_eq_true rfl, Nat.le_of_ble_eq_true rfl⟩ (rfl) hl.1 rfl (Nat.le_of_ble_eq_true rfl) dX11_done_228 (fun r210 u H locs hw hP hD hS => ?_)
                                                          exact ret r210 () _ _ _ _ _ _ rfl trivial hP hD hS dX11_done_231 (Nat.le_refl _) (Nat.le_refl _)
                                                        · skip
                                                          have zc208 : ¬ (p2.toInt = 0) := by rw [fa_eq, show (0 : Int32).toInt = 0 from by decide] at c208; exact c208
                                                          refine lv_iconst (v := 1) hx hb dX11_done_223 (by decide) ?_
                                                          refine lv_goto (tgt := 228) hx hb dX11_done_224 (by decide) ?_
                                                          have lt211 : (1 : Int32).toInt = 1 := by decide
                                                          refine cbSi (n := 1) (rest := []) hx hb hml hown hts hE hP hD hS hA (sY_X11_truth_1 l dC dI cy y0 r 1 v f w g hIv hCf hRf ) k_1761 k_1762 k_114 k_1763 (by decide +kernel) ⟨Nat.le_of_ble_eq_true rfl, Nat.le_of_ble_eq_true rfl⟩ (rfl) hl.1 rfl (Nat.le_of_ble_eq_true rfl) dX11_done_228 (fun r212 u H locs hw hP hD hS => ?_)
                                                          exact ret r212 () _ _ _ _ _ _ rfl trivial hP hD hS dX11_done_231 (Nat.le_refl _) (Nat.le_refl _)
set_option maxHeartbeats 4000000 in
set_option maxRecDepth 100000 in
theorem sY_X11_misfitOf_1 (l : Launch) (dC : Nat → ClassId) (dI : Nat → Nat → Nat) (cy : Nat → ClassId) (y0 : Nat) (r : Nat → Nat) (p1 : Int32) (p2 : Int32) (v : Nat → Int32) (f : Nat → Nat → Int32) (w : Int64) (g : Nat → Int64) (hIv : YI v) (hCf : YC f) (hRf : progOK (f 4) (f 5) (v 9).toInt.toNat) (hp1 : (0 : Int) ≤ p1.toInt ∧ p1.toInt ≤ 5) (hp2 : (0 : Int) ≤ p2.toInt ∧ p2.toInt ≤ 5) : ctI l (dC, dI) cy yX11_misfitOf cX11_misfitOf 5 .int 3 102 0 0 ((Nat → Int32) × (Nat → Nat → Int32) × (Int64) × (Nat → Int64)) [.ref y0, .int p1, .int p2] (YW cy y0 r v f w g) (fun r u => KV [] u.1 v ∧ KF [7, 8] u.2.1 f ∧ YI u.1 ∧ YC u.2.1 ∧ progOK (u.2.1 4) (u.2.1 5) (u.1 9).toInt.toNat ∧ u.1 0 = v 0 ∧ u.1 1 = v 1 ∧ u.1 2 = v 2 ∧ u.1 3 = v 3 ∧ u.1 4 = v 4 ∧ u.1 5 = v 5 ∧ u.1 8 = v 8 ∧ u.1 9 = v 9 ∧ u.1 10 = v 10 ∧ u.1 13 = v 13 ∧ u.1 14 = v 14 ∧ u.1 15 = v 15 ∧ u.1 17 = v 17 ∧ u.1 18 = v 18 ∧ u.1 24 = v 24 ∧ u.1 25 = v 25 ∧ u.1 35 = v 35 ∧ u.1 36 = v 36 ∧ u.1 38 = v 38 ∧ u.1 39 = v 39) (fun u => YW cy y0 r u.1 u.2.1 u.2.2.1 u.2.2.2) := by
  refine ctI_of (by decide) (Nat.le_of_ble_eq_true rfl) (fun p e s m below meth c A ls Q hx hb hml hts hown hE hP hD hA hl ret => ?_)
  have hUv : (v 35).toInt + (v 36).toInt ≤ 40 := hIv.2
  have hs4_f : f 4 = f 4 := rfl
  have hs5_f : f 5 = f 5 := rfl
  have hM_v : KV [] v v := fun _ _ => rfl
  have hA_f : KF [7, 8] f f := fun _ _ => rfl
  have hown : s.vm.findClass RX11 = some m.cls := hown
  have hS : va_S A s.heap s.heap [] := va_S.rf
  have hl : lv_has ls 5 [(0, .ref y0), (1, .int p1), (2, .int p2)] := hl
  refine lv_aload_n hx hb dX11_misfitOf_0 rfl (lv_at hl 0 rfl) ?_
  refine va_get (D := (dC, dI)) (ci := 11) (v := .ref (r 26)) (C := RX11) (T := TX11) (N := 79) hx hb hts inB_11 hown hE.1 hP 0 rfl rfl 26 (by decide) (hts _ k_1346) (fun _ h9 => h9) rfl dX11_misfitOf_1 ?_
  refine lv_iconst (v := 0) hx hb dX11_misfitOf_4 (by decide) ?_
  refine lv_aload_n hx hb dX11_misfitOf_5 rfl (lv_at hl 0 rfl) ?_
  refine va_get (D := (dC, dI)) (ci := 11) (v := .ref (r 60)) (C := RX11) (T := TX11) (N := 79) hx hb hts inB_11 hown hE.1 hP 0 rfl rfl 60 (by decide) (hts _ k_1380) (fun _ h9 => h9) rfl dX11_misfitOf_6 ?_
  refine lv_iload_n hx hb dX11_misfitOf_9 rfl (lv_at hl 1 rfl) ?_
  refine ldI hx hb hE hP 25 rfl (vp_in_iff.mpr ⟨by omega, by omega⟩) rfl rfl dX11_misfitOf_10 ?_
  refine lv_topi (fun t1 et1 => ?_)
  have zt1 : p1.toInt.toNat % 39 < 6 ∨ 12 ≤ p1.toInt.toNat % 39 ∨ (-1 ≤ t1.toInt ∧ t1.toInt ≤ 5) := by rw [et1]; exact wear_ld hCf.2.1 (show p1.toInt.toNat < 39 by omega)
  refine lv_aload_n hx hb dX11_misfitOf_11 rfl (lv_at hl 0 rfl) ?_
  refine va_get (D := (dC, dI)) (ci := 11) (v := .ref (r 60)) (C := RX11) (T := TX11) (N := 79) hx hb hts inB_11 hown hE.1 hP 0 rfl rfl 60 (by decide) (hts _ k_1380) (fun _ h9 => h9) rfl dX11_misfitOf_12 ?_
  refine lv_bipush (v := 18) hx hb dX11_misfitOf_15 (by decide) ?_
  refine lv_iload_n hx hb dX11_misfitOf_17 rfl (lv_at hl 2 rfl) ?_
  refine lv_iadd hx hb dX11_misfitOf_18 ?_
  refine lv_topi (fun t2 et2 => ?_)
  have rg3 := fb_rng p2
  have zt2 : t2.toInt = 18 + p2.toInt := by rw [et2]; exact add_i (by decide) rfl (by omega) (by omega)
  refine ldI hx hb hE hP 25 rfl (vp_in_iff.mpr ⟨by omega, by omega⟩) rfl rfl dX11_misfitOf_19 ?_
  refine lv_topi (fun t4 et4 => ?_)
  have zt4 : t2.toInt.toNat % 39 < 6 ∨ 12 ≤ t2.toInt.toNat % 39 ∨ (-1 ≤ t4.toInt ∧ t4.toInt ≤ 5) := by rw [et4]; exact wear_ld hCf.2.1 (show t2.toInt.toNat < 39 by omega)
  refine cbSi (n := 2) (rest := [.int 0, .ref (r 26)]) hx hb hml hown hts hE hP hD hS hA (sY_X11_over_1 l dC dI cy y0 r t1 t4 v f w g hIv hCf hRf ) k_1755 k_1756 k_114 k_1757 (by decide +kernel) ⟨Nat.le_of_ble_eq_true rfl, Nat.le_of_ble_eq_true rfl⟩ (rfl) hl.1 rfl (Nat.le_of_ble_eq_true rfl) dX11_misfitOf_20 (fun r5 u H locs hw hP hD hS => ?_)
  refine stI hx hb hE hP hD hS 9 rfl (vp_in_nI (n := 0) (by decide) (by decide)) rfl dX11_misfitOf_23 (fun H locs hP hD hS => ?_)
  obtain ⟨f6, ef6, hP, hD⟩ : ∃ fz9, fz9 = upd2 f 8 (upd (f 8) (0 : Int32).toNatClampNeg r5) ∧ va_P (dC, dI) vwCl (YW cy y0 r v fz9 w g) H ∧ va_D A (YW cy y0 r v fz9 w g) := ⟨_, rfl, hP, hD⟩
  have hCf6 : YC f6 := by rw [ef6]; exact hCf
  have hs4_f6 : f6 4 = f 4 := by rw [ef6]; exact hs4_f
  have hs5_f6 : f6 5 = f 5 := by rw [ef6]; exact hs5_f
  have hRf6 : progOK (f6 4) (f6 5) (v 9).toInt.toNat := by rw [ef6]; exact hRf
  have hA_f6 : KF [7, 8] f6 f := by rw [ef6]; exact KF.up hA_f rfl
  refine lv_aload_n hx hb dX11_misfitOf_24 rfl (lv_at hl 0 rfl) ?_
  refine va_get (D := (dC, dI)) (ci := 11) (v := .ref (r 26)) (C := RX11) (T := TX11) (N := 79) hx hb hts inB_11 hown hE.1 hP 0 rfl rfl 26 (by decide) (hts _ k_1346) (fun _ h9 => h9) rfl dX11_misfitOf_25 ?_
  refine lv_iconst (v := 1) hx hb dX11_misfitOf_28 (by decide) ?_
  refine lv_aload_n hx hb dX11_misfitOf_29 rfl (lv_at hl 0 rfl) ?_
  refine va_get (D := (dC, dI)) (ci := 11) (v := .ref (r 60)) (C := RX11) (T := TX11) (N := 79) hx hb hts inB_11 hown hE.1 hP 0 rfl rfl 60 (by decide) (hts _ k_1380) (fun _ h9 => h9) rfl dX11_misfitOf_30 ?_
  refine lv_bipush (v := 18) hx hb dX11_misfitOf_33 (by decide) ?_
  refine lv_iload_n hx hb dX11_misfitOf_35 rfl (lv_at hl 2 rfl) ?_
  refine lv_iadd hx hb dX11_misfitOf_36 ?_
  refine tI (y := t2) et2.symm ?_
  refine ldI hx hb hE hP 25 rfl (vp_in_iff.mpr ⟨by omega, by omega⟩) rfl rfl dX11_misfitOf_37 ?_
  refine lv_topi (fun t7 et7 => ?_)
  have zt7 : t2.toInt.toNat % 39 < 6 ∨ 12 ≤ t2.toInt.toNat % 39 ∨ (-1 ≤ t7.toInt ∧ t7.toInt ≤ 5) := by rw [et7]; exact wear_ld hCf6.2.1 (show t2.toInt.toNat < 39 by omega)
  refine lv_aload_n hx hb dX11_misfitOf_38 rfl (lv_at hl 0 rfl) ?_
  refine va_get (D := (dC, dI)) (ci := 11) (v := .ref (r 60)) (C := RX11) (T := TX11) (N := 79) hx hb hts inB_11 hown hE.1 hP 0 rfl rfl 60 (by decide) (hts _ k_1380) (fun _ h9 => h9) rfl dX11_misfitOf_39 ?_
  refine lv_iload_n hx hb dX11_misfitOf_42 rfl (lv_at hl 1 rfl) ?_
  refine ldI hx hb hE hP 25 rfl (vp_in_iff.mpr ⟨by omega, by omega⟩) rfl rfl dX11_misfitOf_43 ?_
  refine lv_topi (fun t8 et8 => ?_)
  have zt8 : p1.toInt.toNat % 39 < 6 ∨ 12 ≤ p1.toInt.toNat % 39 ∨ (-1 ≤ t8.toInt ∧ t8.toInt ≤ 5) := by rw [et8]; exact wear_ld hCf6.2.1 (show p1.toInt.toNat < 39 by omega)
  refine cbSi (n := 2) (rest := [.int 1, .ref (r 26)]) hx hb hml hown hts hE hP hD hS hA (sY_X11_over_1 l dC dI cy y0 r t7 t8 v f6 w g hIv hCf6 hRf6 ) k_1755 k_1756 k_114 k_1757 (by decide +kernel) ⟨Nat.le_of_ble_eq_true rfl, Nat.le_of_ble_eq_true rfl⟩ (rfl) hl.1 rfl (Nat.le_of_ble_eq_true rfl) dX11_misfitOf_44 (fun r9 u H locs hw hP hD hS => ?_)
  refine stI hx hb hE hP hD hS 9 rfl (vp_in_nI (n := 1) (by decide) (by decide)) rfl dX11_misfitOf_47 (fun H locs hP hD hS => ?_)
  obtain ⟨f10, ef10, hP, hD⟩ : ∃ fz9, fz9 = upd2 f6 8 (upd (f6 8) (1 : Int32).toNatClampNeg r9) ∧ va_P (dC, dI) vwCl (YW cy y0 r v fz9 w g) H ∧ va_D A (YW cy y0 r v fz9 w g) := ⟨_, rfl, hP, hD⟩
  have hCf10 : YC f10 := by rw [ef10]; exact hCf6
  have hs4_f10 : f10 4 = f 4 := by rw [ef10]; exact hs4_f6
  have hs5_f10 : f10 5 = f 5 := by rw [ef10]; exact hs5_f6
  have hRf10 : progOK (f10 4) (f10 5) (v 9).toInt.toNat := by rw [ef10]; exact hRf6
  have hA_f10 : KF [7, 8] f10 f := by rw [ef10]; exact KF.up hA_f6 rfl
  refine lv_aload_n hx hb dX11_misfitOf_48 rfl (lv_at hl 0 rfl) ?_
  refine va_get (D := (dC, dI)) (ci := 11) (v := .ref (r 26)) (C := RX11) (T := TX11) (N := 79) hx hb hts inB_11 hown hE.1 hP 0 rfl rfl 26 (by decide) (hts _ k_1346) (fun _ h9 => h9) rfl dX11_misfitOf_49 ?_
  refine lv_iconst (v := 2) hx hb dX11_misfitOf_52 (by decide) ?_
  refine lv_aload_n hx hb dX11_misfitOf_53 rfl (lv_at hl 0 rfl) ?_
  refine va_get (D := (dC, dI)) (ci := 11) (v := .ref (r 34)) (C := RX11) (T := TX11) (N := 79) hx hb hts inB_11 hown hE.1 hP 0 rfl rfl 34 (by decide) (hts _ k_1354) (fun _ h9 => h9) rfl dX11_misfitOf_54 ?_
  refine lv_iload_n hx hb dX11_misfitOf_57 rfl (lv_at hl 1 rfl) ?_
  refine ldI hx hb hE hP 17 rfl (vp_in_iff.mpr ⟨by omega, by omega⟩) rfl rfl dX11_misfitOf_58 ?_
  refine lv_topi (fun t11 et11 => ?_)
  refine lv_aload_n hx hb dX11_misfitOf_59 rfl (lv_at hl 0 rfl) ?_
  refine va_get (D := (dC, dI)) (ci := 11) (v := .ref (r 60)) (C := RX11) (T := TX11) (N := 79) hx hb hts inB_11 hown hE.1 hP 0 rfl rfl 60 (by decide) (hts _ k_1380) (fun _ h9 => h9) rfl dX11_misfitOf_60 ?_
  refine lv_bipush (v := 12) hx hb dX11_misfitOf_63 (by decide) ?_
  refine lv_iload_n hx hb dX11_misfitOf_65 rfl (lv_at hl 2 rfl) ?_
  refine lv_iadd hx hb dX11_misfitOf_66 ?_
  refine lv_topi (fun t12 et12 => ?_)
  have zt12 : t12.toInt = 12 + p2.toInt := by rw [et12]; exact add_i (by decide) rfl (by omega) (by omega)
  refine ldI hx hb hE hP 25 rfl (vp_in_iff.mpr ⟨by omega, by omega⟩) rfl rfl dX11_misfitOf_67 ?_
  refine lv_topi (fun t13 et13 => ?_)
  have zt13 : t12.toInt.toNat % 39 < 6 ∨ 12 ≤ t12.toInt.toNat % 39 ∨ (-1 ≤ t13.toInt ∧ t13.toInt ≤ 5) := by rw [et13]; exact wear_ld hCf10.2.1 (show t12.toInt.toNat < 39 by omega)
  refine cbSi (n := 2) (rest := [.int 2, .ref (r 26)]) hx hb hml hown hts hE hP hD hS hA (sY_X11_over_1 l dC dI cy y0 r t11 t13 v f10 w g hIv hCf10 hRf10 ) k_1755 k_1756 k_114 k_1757 (by decide +kernel) ⟨Nat.le_of_ble_eq_true rfl, Nat.le_of_ble_eq_true rfl⟩ (rfl) hl.1 rfl (Nat.le_of_ble_eq_true rfl) dX11_misfitOf_68 (fun r14 u H locs hw hP hD hS => ?_)
  refine stI hx hb hE hP hD hS 9 rfl (vp_in_nI (n := 2) (by decide) (by decide)) rfl dX11_misfitOf_71 (fun H locs hP hD hS => ?_)
  obtain ⟨f15, ef15, hP, hD⟩ : ∃ fz9, fz9 = upd2 f10 8 (upd (f10 8) (2 : Int32).toNatClampNeg r14) ∧ va_P (dC, dI) vwCl (YW cy y0 r v fz9 w g) H ∧ va_D A (YW cy y0 r v fz9 w g) := ⟨_, rfl, hP, hD⟩
  have hCf15 : YC f15 := by rw [ef15]; exact hCf10
  have hs4_f15 : f15 4 = f 4 := by rw [ef15]; exact hs4_f10
  have hs5_f15 : f15 5 = f 5 := by rw [ef15]; exact hs5_f10
  have hRf15 : progOK (f15 4) (f15 5) (v 9).toInt.toNat := by rw [ef15]; exact hRf10
  have hA_f15 : KF [7, 8] f15 f := by rw [ef15]; exact KF.up hA_f10 rfl
  refine lv_aload_n hx hb dX11_misfitOf_72 rfl (lv_at hl 0 rfl) ?_
  refine va_get (D := (dC, dI)) (ci := 11) (v := .ref (r 26)) (C := RX11) (T := TX11) (N := 79) hx hb hts inB_11 hown hE.1 hP 0 rfl rfl 26 (by decide) (hts _ k_1346) (fun _ h9 => h9) rfl dX11_misfitOf_73 ?_
  refine lv_iconst (v := 3) hx hb dX11_misfitOf_76 (by decide) ?_
  refine lv_aload_n hx hb dX11_misfitOf_77 rfl (lv_at hl 0 rfl) ?_
  refine va_get (D := (dC, dI)) (ci := 11) (v := .ref (r 60)) (C := RX11) (T := TX11) (N := 79) hx hb hts inB_11 hown hE.1 hP 0 rfl rfl 60 (by decide) (hts _ k_1380) (fun _ h9 => h9) rfl dX11_misfitOf_78 ?_
  refine lv_bipush (v := 12) hx hb dX11_misfitOf_81 (by decide) ?_
  refine lv_iload_n hx hb dX11_misfitOf_83 rfl (lv_at hl 2 rfl) ?_
  refine lv_iadd hx hb dX11_misfitOf_84 ?_
  refine tI (y := t12) et12.symm ?_
  refine ldI hx hb hE hP 25 rfl (vp_in_iff.mpr ⟨by omega, by omega⟩) rfl rfl dX11_misfitOf_85 ?_
  refine lv_topi (fun t16 et16 => ?_)
  have zt16 : t12.toInt.toNat % 39 < 6 ∨ 12 ≤ t12.toInt.toNat % 39 ∨ (-1 ≤ t16.toInt ∧ t16.toInt ≤ 5) := by rw [et16]; exact wear_ld hCf15.2.1 (show t12.toInt.toNat < 39 by omega)
  refine lv_aload_n hx hb dX11_misfitOf_86 rfl (lv_at hl 0 rfl) ?_
  refine va_get (D := (dC, dI)) (ci := 11) (v := .ref (r 34)) (C := RX11) (T := TX11) (N := 79) hx hb hts inB_11 hown hE.1 hP 0 rfl rfl 34 (by decide) (hts _ k_1354) (fun _ h9 => h9) rfl dX11_misfitOf_87 ?_
  refine lv_iload_n hx hb dX11_misfitOf_90 rfl (lv_at hl 1 rfl) ?_
  refine ldI hx hb hE hP 17 rfl (vp_in_iff.mpr ⟨by omega, by omega⟩) rfl rfl dX11_misfitOf_91 ?_
  refine lv_topi (fun t17 et17 => ?_)
  refine cbSi (n := 2) (rest := [.int 3, .ref (r 26)]) hx hb hml hown hts hE hP hD hS hA (sY_X11_over_1 l dC dI cy y0 r t16 t17 v f15 w g hIv hCf15 hRf15 ) k_1755 k_1756 k_114 k_1757 (by decide +kernel) ⟨Nat.le_of_ble_eq_true rfl, Nat.le_of_ble_eq_true rfl⟩ (rfl) hl.1 rfl (Nat.le_of_ble_eq_true rfl) dX11_misfitOf_92 (fun r18 u H locs hw hP hD hS => ?_)
  refine stI hx hb hE hP hD hS 9 rfl (vp_in_nI (n := 3) (by decide) (by decide)) rfl dX11_misfitOf_95 (fun H locs hP hD hS => ?_)
  obtain ⟨f19, ef19, hP, hD⟩ : ∃ fz9, fz9 = upd2 f15 8 (upd (f15 8) (3 : Int32).toNatClampNeg r18) ∧ va_P (dC, dI) vwCl (YW cy y0 r v fz9 w g) H ∧ va_D A (YW cy y0 r v fz9 w g) := ⟨_, rfl, hP, hD⟩
  have hCf19 : YC f19 := by rw [ef19]; exact hCf15
  have hs4_f19 : f19 4 = f 4 := by rw [ef19]; exact hs4_f15
  have hs5_f19 : f19 5 = f 5 := by rw [ef19]; exact hs5_f15
  have hRf19 : progOK (f19 4) (f19 5) (v 9).toInt.toNat := by rw [ef19]; exact hRf15
  have hA_f19 : KF [7, 8] f19 f := by rw [ef19]; exact KF.up hA_f15 rfl
  refine lv_aload_n hx hb dX11_misfitOf_96 rfl (lv_at hl 0 rfl) ?_
  refine va_get (D := (dC, dI)) (ci := 11) (v := .ref (r 26)) (C := RX11) (T := TX11) (N := 79) hx hb hts inB_11 hown hE.1 hP 0 rfl rfl 26 (by decide) (hts _ k_1346) (fun _ h9 => h9) rfl dX11_misfitOf_97 ?_
  refine lv_iconst (v := 4) hx hb dX11_misfitOf_100 (by decide) ?_
  refine lv_aload_n hx hb dX11_misfitOf_101 rfl (lv_at hl 0 rfl) ?_
  refine va_get (D := (dC, dI)) (ci := 11) (v := .ref (r 60)) (C := RX11) (T := TX11) (N := 79) hx hb hts inB_11 hown hE.1 hP 0 rfl rfl 60 (by decide) (hts _ k_1380) (fun _ h9 => h9) rfl dX11_misfitOf_102 ?_
  refine lv_bipush (v := 30) hx hb dX11_misfitOf_105 (by decide) ?_
  refine lv_iload_n hx hb dX11_misfitOf_107 rfl (lv_at hl 2 rfl) ?_
  refine lv_iadd hx hb dX11_misfitOf_108 ?_
  refine lv_topi (fun t20 et20 => ?_)
  have zt20 : t20.toInt = 30 + p2.toInt := by rw [et20]; exact add_i (by decide) rfl (by omega) (by omega)
  refine ldI hx hb hE hP 25 rfl (vp_in_iff.mpr ⟨by omega, by omega⟩) rfl rfl dX11_misfitOf_109 ?_
  refine lv_topi (fun t21 et21 => ?_)
  have zt21 : t20.toInt.toNat % 39 < 6 ∨ 12 ≤ t20.toInt.toNat % 39 ∨ (-1 ≤ t21.toInt ∧ t21.toInt ≤ 5) := by rw [et21]; exact wear_ld hCf19.2.1 (show t20.toInt.toNat < 39 by omega)
  refine stI hx hb hE hP hD hS 9 rfl (vp_in_nI (n := 4) (by decide) (by decide)) rfl dX11_misfitOf_110 (fun H locs hP hD hS => ?_)
  obtain ⟨f22, ef22, hP, hD⟩ : ∃ fz9, fz9 = upd2 f19 8 (upd (f19 8) (4 : Int32).toNatClampNeg t21) ∧ va_P (dC, dI) vwCl (YW cy y0 r v fz9 w g) H ∧ va_D A (YW cy y0 r v fz9 w g) := ⟨_, rfl, hP, hD⟩
  have hCf22 : YC f22 := by rw [ef22]; exact hCf19
  have hs4_f22 : f22 4 = f 4 := by rw [ef22]; exact hs4_f19
  have hs5_f22 : f22 5 = f 5 := by rw [ef22]; exact hs5_f19
  have hRf22 : progOK (f22 4) (f22 5) (v 9).toInt.toNat := by rw [ef22]; exact hRf19
  have hA_f22 : KF [7, 8] f22 f := by rw [ef22]; exact KF.up hA_f19 rfl
  refine lv_aload_n hx hb dX11_misfitOf_111 rfl (lv_at hl 0 rfl) ?_
  refine va_get (D := (dC, dI)) (ci := 11) (v := .ref (r 26)) (C := RX11) (T := TX11) (N := 79) hx hb hts inB_11 hown hE.1 hP 0 rfl rfl 26 (by decide) (hts _ k_1346) (fun _ h9 => h9) rfl dX11_misfitOf_112 ?_
  refine lv_iconst (v := 5) hx hb dX11_misfitOf_115 (by decide) ?_
  refine lv_aload_n hx hb dX11_misfitOf_116 rfl (lv_at hl 0 rfl) ?_
  refine va_get (D := (dC, dI)) (ci := 11) (v := .ref (r 60)) (C := RX11) (T := TX11) (N := 79) hx hb hts inB_11 hown hE.1 hP 0 rfl rfl 60 (by decide) (hts _ k_1380) (fun _ h9 => h9) rfl dX11_misfitOf_117 ?_
  refine lv_bipush (v := 37) hx hb dX11_misfitOf_120 (by decide) ?_
  refine ldI hx hb hE hP 25 rfl (vp_in_nI (n := 37) (by decide) (by decide)) rfl rfl dX11_misfitOf_122 ?_
  refine lv_topi (fun t23 et23 => ?_)
  have zt23 : 37 % 39 < 6 ∨ 12 ≤ 37 % 39 ∨ (-1 ≤ t23.toInt ∧ t23.toInt ≤ 5) := by rw [et23]; exact wear_ld hCf22.2.1 (show 37 < 39 by omega)
  refine stI hx hb hE hP hD hS 9 rfl (vp_in_nI (n := 5) (by decide) (by decide)) rfl dX11_misfitOf_123 (fun H locs hP hD hS => ?_)
  obtain ⟨f24, ef24, hP, hD⟩ : ∃ fz9, fz9 = upd2 f22 8 (upd (f22 8) (5 : Int32).toNatClampNeg t23) ∧ va_P (dC, dI) vwCl (YW cy y0 r v fz9 w g) H ∧ va_D A (YW cy y0 r v fz9 w g) := ⟨_, rfl, hP, hD⟩
  have hCf24 : YC f24 := by rw [ef24]; exact hCf22
  have hs4_f24 : f24 4 = f 4 := by rw [ef24]; exact hs4_f22
  have hs5_f24 : f24 5 = f 5 := by rw [ef24]; exact hs5_f22
  have hRf24 : progOK (f24 4) (f24 5) (v 9).toInt.toNat := by rw [ef24]; exact hRf22
  have hA_f24 : KF [7, 8] f24 f := by rw [ef24]; exact KF.up hA_f22 rfl
  refine lv_aload_n hx hb dX11_misfitOf_124 rfl (lv_at hl 0 rfl) ?_
  refine va_get (D := (dC, dI)) (ci := 11) (v := .int (v 16)) (C := RX11) (T := TX11) (N := 79) hx hb hts inB_11 hown hE.1 hP 0 rfl rfl 25 (by decide) (hts _ k_1345) (fun _ h9 => h9) rfl dX11_misfitOf_125 ?_
  refine lv_if_ne (tgt := 176) hx hb dX11_misfitOf_128 (by decide) (fun c25 => ?_) (fun c25 => ?_)
  · skip
    have zc25 : ¬ ((v 16).toInt = 0) := by rw [fa_eq, show (0 : Int32).toInt = 0 from by decide] at c25; exact c25
    refine lv_iconst (v := 0) hx hb dX11_misfitOf_176 (by decide) ?_
    refine lv_istore_n (lv' := [(3, .int 0), (0, .ref y0), (1, .int p1), (2, .int p2)]) hx hb dX11_misfitOf_177 rfl hl (by decide) rfl (fun ls hl => ?_)
    refine lv_iconst (v := 0) hx hb dX11_misfitOf_178 (by decide) ?_
    refine lv_istore (lv' := [(4, .int 0), (3, .int 0), (0, .ref y0), (1, .int p1), (2, .int p2)]) hx hb dX11_misfitOf_179 hl (by decide) rfl (fun ls hl => ?_)
    have lp26 : ∀ (n26 : Nat) (l3_26 : Int32) (l4_26 : Int32) (v26 : Nat → Int32) (f26 : Nat → Nat → Int32) (w26 : Int64) (g26 : Nat → Int64), YI v26 → YC f26 → progOK (f26 4) (f26 5) (v26 9).toInt.toNat → v26 0 = (v 0) → v26 1 = (v 1) → v26 2 = (v 2) → v26 3 = (v 3) → v26 4 = (v 4) → v26 5 = (v 5) → v26 8 = (v 8) → v26 9 = (v 9) → v26 10 = (v 10) → v26 13 = (v 13) → v26 14 = (v 14) → v26 15 = (v 15) → v26 17 = (v 17) → v26 18 = (v 18) → v26 24 = (v 24) → v26 25 = (v 25) → v26 35 = (v 35) → v26 36 = (v 36) → v26 38 = (v 38) → v26 39 = (v 39) → ((0 : Int) ≤ l3_26.toInt ∧ l3_26.toInt ≤ 64) → ((0 : Int) ≤ l4_26.toInt ∧ l4_26.toInt ≤ 2147483647) → (l3_26.toInt = dpF (f 4) (l4_26.toInt).toNat) → f26 4 = f 4 → f26 5 = f 5 → KV [] v26 v → KF [7, 8] f26 f → (2147483647 - l4_26.toInt).toNat < n26 → ∀ (H : Heap) (locs : List Loc) (ls : Array Slot), va_P (dC, dI) vwCl (YW cy y0 r v26 f26 w26 g26) H → va_D A (YW cy y0 r v26 f26 w26 g26) → va_S A s.heap H locs → lv_has ls 5 [(4, .int l4_26), (3, .int l3_26), (0, .ref y0), (1, .int p1), (2, .int p2)] → W p l e { frames := 3, cells := 0, slots := 0, locals := 102 } s m ([.ref y0, .int p1, .int p2] : List Value).toArray below meth c H locs 0 0 Q (F0 m 181 ls []) := by
      intro n26
      induction n26 with
      | zero => intro l3_26 l4_26 v26 f26 w26 g26 hIv26 hCf26 hRf26 hq0_v26 hq1_v26 hq2_v26 hq3_v26 hq4_v26 hq5_v26 hq8_v26 hq9_v26 hq10_v26 hq13_v26 hq14_v26 hq15_v26 hq17_v26 hq18_v26 hq24_v26 hq25_v26 hq35_v26 hq36_v26 hq38_v26 hq39_v26 hr3_26 hr4_26 hx0_26 hs4_f26 hs5_f26 hM_v26 hA_f26 hm; exact absurd hm (Nat.not_lt_zero _)
      | succ n26 ih26 =>
        intro l3_26 l4_26 v26 f26 w26 g26 hIv26 hCf26 hRf26 hq0_v26 hq1_v26 hq2_v26 hq3_v26 hq4_v26 hq5_v26 hq8_v26 hq9_v26 hq10_v26 hq13_v26 hq14_v26 hq15_v26 hq17_v26 hq18_v26 hq24_v26 hq25_v26 hq35_v26 hq36_v26 hq38_v26 hq39_v26 hr3_26 hr4_26 hx0_26 hs4_f26 hs5_f26 hM_v26 hA_f26 hm26 H locs ls hP hD hS hl
        have hUv26 : (v26 35).toInt + (v26 36).toInt ≤ 40 := hIv26.2
        have zq9_v26 := congrArg Int32.toInt hq9_v26
        refine lv_iload hx hb dX11_misfitOf_181 (lv_at hl 0 rfl) ?_
        refine lv_aload_n hx hb dX11_misfitOf_183 rfl (lv_at hl 2 rfl) ?_
        refine va_get (D := (dC, dI)) (ci := 11) (v := .int (v26 9)) (C := RX11) (T := TX11) (N := 79) hx hb hts inB_11 hown hE.1 hP 0 rfl rfl 18 (by decide) (hts _ k_1338) (fun _ h9 => h9) rfl dX11_misfitOf_184 ?_
        refine tI (y := (v 9)) hq9_v26 ?_
        have b9_v : 0 ≤ (v 9).toInt ∧ (v 9).toInt ≤ 320 := YIb.b hIv.1 9 (by decide)
        refine lv_icmp_ge (tgt := 337) hx hb dX11_misfitOf_187 (by decide) (fun c27 => ?_) (fun c27 => ?_)
        · skip
          have zc27 : (v 9).toInt ≤ l4_26.toInt := by rw [fa_le] at c27; exact c27
          have rg28 := fb_rng l4_26
          have rg29 := fb_rng (v 9)
          refine lv_aload_n hx hb dX11_misfitOf_337 rfl (lv_at hl 2 rfl) ?_
          refine va_get (D := (dC, dI)) (ci := 11) (v := .ref (r 16)) (C := RX11) (T := TX11) (N := 79) hx hb hts inB_11 hown hE.1 hP 0 rfl rfl 16 (by decide) (hts _ k_1336) (fun _ h9 => h9) rfl dX11_misfitOf_338 ?_
          refine lv_iconst (v := 0) hx hb dX11_misfitOf_341 (by decide) ?_
          refine ldI hx hb hE hP 8 rfl (vp_in_nI (n := 0) (by decide) (by decide)) rfl rfl dX11_misfitOf_342 ?_
          refine lv_topi (fun t30 et30 => ?_)
          refine lv_sipush (v := 999) hx hb dX11_misfitOf_343 (by decide) ?_
          refine cbSi (n := 2) (rest := []) hx hb hml hown hts hE hP hD hS hA (sY_X11_within_1 l dC dI cy y0 r t30 999 v26 f26 w26 g26 hIv26 hCf26 hRf26 ) k_1758 k_1759 k_114 k_1760 (by decide +kernel) ⟨Nat.le_of_ble_eq_true rfl, Nat.le_of_ble_eq_true rfl⟩ (rfl) hl.1 rfl (Nat.le_of_ble_eq_true rfl) dX11_misfitOf_346 (fun r31 u H locs hw hP hD hS => ?_)
          exact ret r31 (v26, f26, w26, g26) _ _ _ _ _ _ rfl ⟨hM_v26, hA_f26, hIv26, hCf26, hRf26, (show v26 0 = v 0 from hq0_v26), (show v26 1 = v 1 from hq1_v26), (show v26 2 = v 2 from hq2_v26), (show v26 3 = v 3 from hq3_v26), (show v26 4 = v 4 from hq4_v26), (show v26 5 = v 5 from hq5_v26), (show v26 8 = v 8 from hq8_v26), (show v26 9 = v 9 from hq9_v26), (show v26 10 = v 10 from hq10_v26), (show v26 13 = v 13 from hq13_v26), (show v26 14 = v 14 from hq14_v26), (show v26 15 = v 15 from hq15_v26), (show v26 17 = v 17 from hq17_v26), (show v26 18 = v 18 from hq18_v26), (show v26 24 = v 24 from hq24_v26), (show v26 25 = v 25 from hq25_v26), (show v26 35 = v 35 from hq35_v26), (show v26 36 = v 36 from hq36_v26), (show v26 38 = v 38 from hq38_v26), (show v26 39 = v 39 from hq39_v26)⟩ hP hD hS dX11_misfitOf_349 (Nat.le_refl _) (Nat.le_refl _)
        · skip
          have zc27 : ¬ ((v 9).toInt ≤ l4_26.toInt) := by rw [fa_le] at c27; exact c27
          have rg32 := fb_rng l4_26
          have rg33 := fb_rng (v 9)
          refine lv_aload_n hx hb dX11_misfitOf_190 rfl (lv_at hl 2 rfl) ?_
          refine va_get (D := (dC, dI)) (ci := 11) (v := .ref (r 13)) (C := RX11) (T := TX11) (N := 79) hx hb hts inB_11 hown hE.1 hP 0 rfl rfl 13 (by decide) (hts _ k_1333) (fun _ h9 => h9) rfl dX11_misfitOf_191 ?_
          refine lv_iload hx hb dX11_misfitOf_194 (lv_at hl 0 rfl) ?_
          refine ldI hx hb hE hP 5 rfl (vp_in_iff.mpr ⟨by omega, by omega⟩) rfl rfl dX11_misfitOf_196 ?_
          refine lv_topi (fun t34 et34 => ?_)
          have hpt34 := prog_facts hRf26 (s := l4_26.toInt.toNat) (by omega) (t := t34) et34
          rw [hs4_f26, hs5_f26] at hpt34
          refine lv_if_eq (tgt := 211) hx hb dX11_misfitOf_197 (by decide) (fun c35 => ?_) (fun c35 => ?_)
          · skip
            have zc35 : t34.toInt = 0 := by rw [fa_eq, show (0 : Int32).toInt = 0 from by decide] at c35; exact c35
            refine lv_aload_n hx hb dX11_misfitOf_211 rfl (lv_at hl 2 rfl) ?_
            refine va_get (D := (dC, dI)) (ci := 11) (v := .ref (r 16)) (C := RX11) (T := TX11) (N := 79) hx hb hts inB_11 hown hE.1 hP 0 rfl rfl 16 (by decide) (hts _ k_1336) (fun _ h9 => h9) rfl dX11_misfitOf_212 ?_
            refine lv_iload_n hx hb dX11_misfitOf_215 rfl (lv_at hl 1 rfl) ?_
            refine lv_aload_n hx hb dX11_misfitOf_216 rfl (lv_at hl 2 rfl) ?_
            refine va_get (D := (dC, dI)) (ci := 11) (v := .ref (r 13)) (C := RX11) (T := TX11) (N := 79) hx hb hts inB_11 hown hE.1 hP 0 rfl rfl 13 (by decide) (hts _ k_1333) (fun _ h9 => h9) rfl dX11_misfitOf_217 ?_
            refine lv_iload hx hb dX11_misfitOf_220 (lv_at hl 0 rfl) ?_
            refine ldI hx hb hE hP 5 rfl (vp_in_iff.mpr ⟨by omega, by omega⟩) rfl rfl dX11_misfitOf_222 ?_
            refine tI (y := t34) et34.symm ?_
            refine lv_if_ne (tgt := 236) hx hb dX11_misfitOf_223 (by decide) (fun c36 => ?_) (fun c36 => ?_)
            · skip
              have zc36 : ¬ (t34.toInt = 0) := by rw [fa_eq, show (0 : Int32).toInt = 0 from by decide] at c36; exact c36
              refine lv_aload_n hx hb dX11_misfitOf_236 rfl (lv_at hl 2 rfl) ?_
              refine va_get (D := (dC, dI)) (ci := 11) (v := .ref (r 26)) (C := RX11) (T := TX11) (N := 79) hx hb hts inB_11 hown hE.1 hP 0 rfl rfl 26 (by decide) (hts _ k_1346) (fun _ h9 => h9) rfl dX11_misfitOf_237 ?_
              refine lv_aload_n hx hb dX11_misfitOf_240 rfl (lv_at hl 2 rfl) ?_
              refine va_get (D := (dC, dI)) (ci := 11) (v := .ref (r 14)) (C := RX11) (T := TX11) (N := 79) hx hb hts inB_11 hown hE.1 hP 0 rfl rfl 14 (by decide) (hts _ k_1334) (fun _ h9 => h9) rfl dX11_misfitOf_241 ?_
              refine lv_iload hx hb dX11_misfitOf_244 (lv_at hl 0 rfl) ?_
              refine ldI hx hb hE hP 6 rfl (vp_in_iff.mpr ⟨by omega, by omega⟩) rfl rfl dX11_misfitOf_246 ?_
              refine lv_topi (fun t37 et37 => ?_)
              have hat37 : t37.toInt = (f 5 l4_26.toInt.toNat).toInt := by rw [et37, hs5_f26]; rfl
              refine ldI hx hb hE hP 9 rfl (vp_in_iff.mpr ⟨by omega, by omega⟩) rfl rfl dX11_misfitOf_247 ?_
              refine lv_topi (fun t38 et38 => ?_)
              refine stI hx hb hE hP hD hS 8 rfl (vp_in_iff.mpr ⟨by omega, by omega⟩) rfl dX11_misfitOf_248 (fun H locs hP hD hS => ?_)
              obtain ⟨f39, ef39, hP, hD⟩ : ∃ fz9, fz9 = upd2 f26 7 (upd (f26 7) l3_26.toNatClampNeg t38) ∧ va_P (dC, dI) vwCl (YW cy y0 r v26 fz9 w26 g26) H ∧ va_D A (YW cy y0 r v26 fz9 w26 g26) := ⟨_, rfl, hP, hD⟩
              have hCf39 : YC f39 := by rw [ef39]; exact hCf26
              have hs4_f39 : f39 4 = f 4 := by rw [ef39]; exact hs4_f26
              have hs5_f39 : f39 5 = f 5 := by rw [ef39]; exact hs5_f26
              have hRf39 : progOK (f39 4) (f39 5) (v26 9).toInt.toNat := by rw [ef39]; exact hRf26
              have hA_f39 : KF [7, 8] f39 f := by rw [ef39]; exact KF.up hA_f26 rfl
              obtain ⟨t40, et40⟩ : ∃ y : Int32, y = l3_26 + 1 := ⟨_, rfl⟩
              have rg41 := fb_rng l3_26
              have zt40 : t40.toInt = l3_26.toInt + 1 := by rw [et40]; exact add_i rfl (by decide) (by omega) (by omega)
              refine lv_iinc (v := t40) (lv' := [(3, .int t40), (4, .int l4_26), (0, .ref y0), (1, .int p1), (2, .int p2)]) hx hb dX11_misfitOf_249 hl (k := 1) rfl (by rw [et40]; rfl) (by decide) rfl (fun ls hl => ?_)
              refine lv_goto (tgt := 331) hx hb dX11_misfitOf_252 (by decide) ?_
              obtain ⟨t42, et42⟩ : ∃ y : Int32, y = l4_26 + 1 := ⟨_, rfl⟩
              have zt42 : t42.toInt = l4_26.toInt + 1 := by rw [et42]; exact add_i rfl (by decide) (by omega) (by omega)
              refine lv_iinc (v := t42) (lv' := [(4, .int t42), (3, .int t40), (0, .ref y0), (1, .int p1), (2, .int p2)]) hx hb dX11_misfitOf_331 hl (k := 1) rfl (by rw [et42]; rfl) (by decide) rfl (fun ls hl => ?_)
              refine lv_goto (tgt := 181) hx hb dX11_misfitOf_334 (by decide) ?_
              have rg43 := fb_rng t40
              have rg44 := fb_rng t42
              exact ih26 t40 t42 v26 f39 w26 g26 hIv26 hCf39 hRf39 hq0_v26 hq1_v26 hq2_v26 hq3_v26 hq4_v26 hq5_v26 hq8_v26 hq9_v26 hq10_v26 hq13_v26 hq14_v26 hq15_v26 hq17_v26 hq18_v26 hq24_v26 hq25_v26 hq35_v26 hq36_v26 hq38_v26 hq39_v26 ⟨show (0 : Int) ≤ t40.toInt by omega, show t40.toInt ≤ (64 : Int) by omega⟩ ⟨show (0 : Int) ≤ t42.toInt by omega, show t42.toInt ≤ (2147483647 : Int) by omega⟩ (by rw [show (t42.toInt).toNat = (l4_26.toInt).toNat + 1 by omega]; omega) hs4_f39 hs5_f39 hM_v26 hA_f39 (by show (2147483647 - t42.toInt).toNat < n26; omega) _ _ _ hP hD hS (lv_sub hl [0, 1, 2, 3, 4] rfl)
            · skip
              have zc36 : t34.toInt = 0 := by rw [fa_eq, show (0 : Int32).toInt = 0 from by decide] at c36; exact c36
              refine lv_aload_n hx hb dX11_misfitOf_226 rfl (lv_at hl 2 rfl) ?_
              refine va_get (D := (dC, dI)) (ci := 11) (v := .ref (r 14)) (C := RX11) (T := TX11) (N := 79) hx hb hts inB_11 hown hE.1 hP 0 rfl rfl 14 (by decide) (hts _ k_1334) (fun _ h9 => h9) rfl dX11_misfitOf_227 ?_
              refine lv_iload hx hb dX11_misfitOf_230 (lv_at hl 0 rfl) ?_
              refine ldI hx hb hE hP 6 rfl (vp_in_iff.mpr ⟨by omega, by omega⟩) rfl rfl dX11_misfitOf_232 ?_
              refine lv_topi (fun t45 et45 => ?_)
              have hat45 : t45.toInt = (f 5 l4_26.toInt.toNat).toInt := by rw [et45, hs5_f26]; rfl
              refine lv_goto (tgt := 248) hx hb dX11_misfitOf_233 (by decide) ?_
              refine stI hx hb hE hP hD hS 8 rfl (vp_in_iff.mpr ⟨by omega, by omega⟩) rfl dX11_misfitOf_248 (fun H locs hP hD hS => ?_)
              obtain ⟨f46, ef46, hP, hD⟩ : ∃ fz9, fz9 = upd2 f26 7 (upd (f26 7) l3_26.toNatClampNeg t45) ∧ va_P (dC, dI) vwCl (YW cy y0 r v26 fz9 w26 g26) H ∧ va_D A (YW cy y0 r v26 fz9 w26 g26) := ⟨_, rfl, hP, hD⟩
              have hCf46 : YC f46 := by rw [ef46]; exact hCf26
              have hs4_f46 : f46 4 = f 4 := by rw [ef46]; exact hs4_f26
              have hs5_f46 : f46 5 = f 5 := by rw [ef46]; exact hs5_f26
              have hRf46 : progOK (f46 4) (f46 5) (v26 9).toInt.toNat := by rw [ef46]; exact hRf26
              have hA_f46 : KF [7, 8] f46 f := by rw [ef46]; exact KF.up hA_f26 rfl
              obtain ⟨t47, et47⟩ : ∃ y : Int32, y = l3_26 + 1 := ⟨_, rfl⟩
              have rg48 := fb_rng l3_26
              have zt47 : t47.toInt = l3_26.toInt + 1 := by rw [et47]; exact add_i rfl (by decide) (by omega) (by omega)
              refine lv_iinc (v := t47) (lv' := [(3, .int t47), (4, .int l4_26), (0, .ref y0), (1, .int p1), (2, .int p2)]) hx hb dX11_misfitOf_249 hl (k := 1) rfl (by rw [et47]; rfl) (by decide) rfl (fun ls hl => ?_)
              refine lv_goto (tgt := 331) hx hb dX11_misfitOf_252 (by decide) ?_
              obtain ⟨t49, et49⟩ : ∃ y : Int32, y = l4_26 + 1 := ⟨_, rfl⟩
              have zt49 : t49.toInt = l4_26.toInt + 1 := by rw [et49]; exact add_i rfl (by decide) (by omega) (by omega)
              refine lv_iinc (v := t49) (lv' := [(4, .int t49), (3, .int t47), (0, .ref y0), (1, .int p1), (2, .int p2)]) hx hb dX11_misfitOf_331 hl (k := 1) rfl (by rw [et49]; rfl) (by decide) rfl (fun ls hl => ?_)
              refine lv_goto (tgt := 181) hx hb dX11_misfitOf_334 (by decide) ?_
              have rg50 := fb_rng t47
              have rg51 := fb_rng t49
              exact ih26 t47 t49 v26 f46 w26 g26 hIv26 hCf46 hRf46 hq0_v26 hq1_v26 hq2_v26 hq3_v26 hq4_v26 hq5_v26 hq8_v26 hq9_v26 hq10_v26 hq13_v26 hq14_v26 hq15_v26 hq17_v26 hq18_v26 hq24_v26 hq25_v26 hq35_v26 hq36_v26 hq38_v26 hq39_v26 ⟨show (0 : Int) ≤ t47.toInt by omega, show t47.toInt ≤ (64 : Int) by omega⟩ ⟨show (0 : Int) ≤ t49.toInt by omega, show t49.toInt ≤ (2147483647 : Int) by omega⟩ (by rw [show (t49.toInt).toNat = (l4_26.toInt).toNat + 1 by omega]; omega) hs4_f46 hs5_f46 hM_v26 hA_f46 (by show (2147483647 - t49.toInt).toNat < n26; omega) _ _ _ hP hD hS (lv_sub hl [0, 1, 2, 3, 4] rfl)
          · skip
            have zc35 : ¬ (t34.toInt = 0) := by rw [fa_eq, show (0 : Int32).toInt = 0 from by decide] at c35; exact c35
            refine lv_aload_n hx hb dX11_misfitOf_200 rfl (lv_at hl 2 rfl) ?_
            refine va_get (D := (dC, dI)) (ci := 11) (v := .ref (r 13)) (C := RX11) (T := TX11) (N := 79) hx hb hts inB_11 hown hE.1 hP 0 rfl rfl 13 (by decide) (hts _ k_1333) (fun _ h9 => h9) rfl dX11_misfitOf_201 ?_
            refine lv_iload hx hb dX11_misfitOf_204 (lv_at hl 0 rfl) ?_
            refine ldI hx hb hE hP 5 rfl (vp_in_iff.mpr ⟨by omega, by omega⟩) rfl rfl dX11_misfitOf_206 ?_
            refine tI (y := t34) et34.symm ?_
            refine lv_iconst (v := 1) hx hb dX11_misfitOf_207 (by decide) ?_
            refine lv_icmp_ne (tgt := 255) hx hb dX11_misfitOf_208 (by decide) (fun c52 => ?_) (fun c52 => ?_)
            · skip
              have zc52 : ¬ (t34.toInt = 1) := by rw [fa_eq, show (1 : Int32).toInt = 1 from by decide] at c52; exact c52
              refine lv_aload_n hx hb dX11_misfitOf_255 rfl (lv_at hl 2 rfl) ?_
              refine va_get (D := (dC, dI)) (ci := 11) (v := .ref (r 13)) (C := RX11) (T := TX11) (N := 79) hx hb hts inB_11 hown hE.1 hP 0 rfl rfl 13 (by decide) (hts _ k_1333) (fun _ h9 => h9) rfl dX11_misfitOf_256 ?_
              refine lv_iload hx hb dX11_misfitOf_259 (lv_at hl 0 rfl) ?_
              refine ldI hx hb hE hP 5 rfl (vp_in_iff.mpr ⟨by omega, by omega⟩) rfl rfl dX11_misfitOf_261 ?_
              refine tI (y := t34) et34.symm ?_
              refine lv_iconst (v := 2) hx hb dX11_misfitOf_262 (by decide) ?_
              refine lv_icmp_ne (tgt := 296) hx hb dX11_misfitOf_263 (by decide) (fun c53 => ?_) (fun c53 => ?_)
              · skip
                have zc53 : ¬ (t34.toInt = 2) := by rw [fa_eq, show (2 : Int32).toInt = 2 from by decide] at c53; exact c53
                obtain ⟨t54, et54⟩ : ∃ y : Int32, y = l3_26 + (-1) := ⟨_, rfl⟩
                have rg55 := fb_rng l3_26
                have zt54 : t54.toInt = l3_26.toInt + (-1) := by rw [et54]; exact add_i rfl (by decide) (by omega) (by omega)
                refine lv_iinc (v := t54) (lv' := [(3, .int t54), (4, .int l4_26), (0, .ref y0), (1, .int p1), (2, .int p2)]) hx hb dX11_misfitOf_296 hl (k := 1) rfl (by rw [et54]; rfl) (by decide) rfl (fun ls hl => ?_)
                refine lv_aload_n hx hb dX11_misfitOf_299 rfl (lv_at hl 2 rfl) ?_
                refine va_get (D := (dC, dI)) (ci := 11) (v := .ref (r 16)) (C := RX11) (T := TX11) (N := 79) hx hb hts inB_11 hown hE.1 hP 0 rfl rfl 16 (by decide) (hts _ k_1336) (fun _ h9 => h9) rfl dX11_misfitOf_300 ?_
                refine lv_iload_n hx hb dX11_misfitOf_303 rfl (lv_at hl 0 rfl) ?_
                refine lv_iconst (v := 1) hx hb dX11_misfitOf_304 (by decide) ?_
                refine lv_isub hx hb dX11_misfitOf_305 ?_
                refine lv_topi (fun t56 et56 => ?_)
                have rg57 := fb_rng t54
                have zt56 : t56.toInt = t54.toInt - 1 := by rw [et56]; exact sub_i rfl (by decide) (by omega) (by omega)
                refine lv_aload_n hx hb dX11_misfitOf_306 rfl (lv_at hl 2 rfl) ?_
                refine va_get (D := (dC, dI)) (ci := 11) (v := .ref (r 14)) (C := RX11) (T := TX11) (N := 79) hx hb hts inB_11 hown hE.1 hP 0 rfl rfl 14 (by decide) (hts _ k_1334) (fun _ h9 => h9) rfl dX11_misfitOf_307 ?_
                refine lv_iload hx hb dX11_misfitOf_310 (lv_at hl 1 rfl) ?_
                refine ldI hx hb hE hP 6 rfl (vp_in_iff.mpr ⟨by omega, by omega⟩) rfl rfl dX11_misfitOf_312 ?_
                refine lv_topi (fun t58 et58 => ?_)
                have hat58 : t58.toInt = (f 5 l4_26.toInt.toNat).toInt := by rw [et58, hs5_f26]; rfl
                refine lv_aload_n hx hb dX11_misfitOf_313 rfl (lv_at hl 2 rfl) ?_
                refine va_get (D := (dC, dI)) (ci := 11) (v := .ref (r 16)) (C := RX11) (T := TX11) (N := 79) hx hb hts inB_11 hown hE.1 hP 0 rfl rfl 16 (by decide) (hts _ k_1336) (fun _ h9 => h9) rfl dX11_misfitOf_314 ?_
                refine lv_iload_n hx hb dX11_misfitOf_317 rfl (lv_at hl 0 rfl) ?_
                refine lv_iconst (v := 1) hx hb dX11_misfitOf_318 (by decide) ?_
                refine lv_isub hx hb dX11_misfitOf_319 ?_
                refine tI (y := t56) et56.symm ?_
                refine ldI hx hb hE hP 8 rfl (vp_in_iff.mpr ⟨by omega, by omega⟩) rfl rfl dX11_misfitOf_320 ?_
                refine lv_topi (fun t59 et59 => ?_)
                refine lv_aload_n hx hb dX11_misfitOf_321 rfl (lv_at hl 2 rfl) ?_
                refine va_get (D := (dC, dI)) (ci := 11) (v := .ref (r 16)) (C := RX11) (T := TX11) (N := 79) hx hb hts inB_11 hown hE.1 hP 0 rfl rfl 16 (by decide) (hts _ k_1336) (fun _ h9 => h9) rfl dX11_misfitOf_322 ?_
                refine lv_iload_n hx hb dX11_misfitOf_325 rfl (lv_at hl 0 rfl) ?_
                refine ldI hx hb hE hP 8 rfl (vp_in_iff.mpr ⟨by omega, by omega⟩) rfl rfl dX11_misfitOf_326 ?_
                refine lv_topi (fun t60 et60 => ?_)
                refine cbSi (n := 3) (rest := [.int t56, .ref (r 16)]) hx hb hml hown hts hE hP hD hS hA (sY_X11_done_1 l dC dI cy y0 r t58 t59 t60 v26 f26 w26 g26 hIv26 hCf26 hRf26 ) k_1764 k_1765 k_114 k_1766 (by decide +kernel) ⟨Nat.le_of_ble_eq_true rfl, Nat.le_of_ble_eq_true rfl⟩ (rfl) hl.1 rfl (Nat.le_of_ble_eq_true rfl) dX11_misfitOf_327 (fun r61 u H locs hw hP hD hS => ?_)
                refine stI hx hb hE hP hD hS 8 rfl (vp_in_iff.mpr ⟨by omega, by omega⟩) rfl dX11_misfitOf_330 (fun H locs hP hD hS => ?_)
                obtain ⟨f62, ef62, hP, hD⟩ : ∃ fz9, fz9 = upd2 f26 7 (upd (f26 7) t56.toNatClampNeg r61) ∧ va_P (dC, dI) vwCl (YW cy y0 r v26 fz9 w26 g26) H ∧ va_D A (YW cy y0 r v26 fz9 w26 g26) := ⟨_, rfl, hP, hD⟩
                have hCf62 : YC f62 := by rw [ef62]; exact hCf26
                have hs4_f62 : f62 4 = f 4 := by rw [ef62]; exact hs4_f26
                have hs5_f62 : f62 5 = f 5 := by rw [ef62]; exact hs5_f26
                have hRf62 : progOK (f62 4) (f62 5) (v26 9).toInt.toNat := by rw [ef62]; exact hRf26
                have hA_f62 : KF [7, 8] f62 f := by rw [ef62]; exact KF.up hA_f26 rfl
                obtain ⟨t63, et63⟩ : ∃ y : Int32, y = l4_26 + 1 := ⟨_, rfl⟩
                have zt63 : t63.toInt = l4_26.toInt + 1 := by rw [et63]; exact add_i rfl (by decide) (by omega) (by omega)
                refine lv_iinc (v := t63) (lv' := [(4, .int t63), (3, .int t54), (0, .ref y0), (1, .int p1), (2, .int p2)]) hx hb dX11_misfitOf_331 hl (k := 1) rfl (by rw [et63]; rfl) (by decide) rfl (fun ls hl => ?_)
                refine lv_goto (tgt := 181) hx hb dX11_misfitOf_334 (by decide) ?_
                have rg64 := fb_rng t63
                exact ih26 t54 t63 v26 f62 w26 g26 hIv26 hCf62 hRf62 hq0_v26 hq1_v26 hq2_v26 hq3_v26 hq4_v26 hq5_v26 hq8_v26 hq9_v26 hq10_v26 hq13_v26 hq14_v26 hq15_v26 hq17_v26 hq18_v26 hq24_v26 hq25_v26 hq35_v26 hq36_v26 hq38_v26 hq39_v26 ⟨show (0 : Int) ≤ t54.toInt by omega, show t54.toInt ≤ (64 : Int) by omega⟩ ⟨show (0 : Int) ≤ t63.toInt by omega, show t63.toInt ≤ (2147483647 : Int) by omega⟩ (by rw [show (t63.toInt).toNat = (l4_26.toInt).toNat + 1 by omega]; omega) hs4_f62 hs5_f62 hM_v26 hA_f62 (by show (2147483647 - t63.toInt).toNat < n26; omega) _ _ _ hP hD hS (lv_sub hl [0, 1, 2, 3, 4] rfl)
              · skip
                have zc53 : t34.toInt = 2 := by rw [fa_eq, show (2 : Int32).toInt = 2 from by decide] at c53; exact c53
                refine lv_aload_n hx hb dX11_misfitOf_266 rfl (lv_at hl 2 rfl) ?_
                refine va_get (D := (dC, dI)) (ci := 11) (v := .ref (r 16)) (C := RX11) (T := TX11) (N := 79) hx hb hts inB_11 hown hE.1 hP 0 rfl rfl 16 (by decide) (hts _ k_1336) (fun _ h9 => h9) rfl dX11_misfitOf_267 ?_
                refine lv_iload_n hx hb dX11_misfitOf_270 rfl (lv_at hl 1 rfl) ?_
                refine lv_iconst (v := 1) hx hb dX11_misfitOf_271 (by decide) ?_
                refine lv_isub hx hb dX11_misfitOf_272 ?_
                refine lv_topi (fun t65 et65 => ?_)
                have rg66 := fb_rng l3_26
                have zt65 : t65.toInt = l3_26.toInt - 1 := by rw [et65]; exact sub_i rfl (by decide) (by omega) (by omega)
                refine lv_aload_n hx hb dX11_misfitOf_273 rfl (lv_at hl 2 rfl) ?_
                refine va_get (D := (dC, dI)) (ci := 11) (v := .ref (r 16)) (C := RX11) (T := TX11) (N := 79) hx hb hts inB_11 hown hE.1 hP 0 rfl rfl 16 (by decide) (hts _ k_1336) (fun _ h9 => h9) rfl dX11_misfitOf_274 ?_
                refine lv_iload_n hx hb dX11_misfitOf_277 rfl (lv_at hl 1 rfl) ?_
                refine lv_iconst (v := 1) hx hb dX11_misfitOf_278 (by decide) ?_
                refine lv_isub hx hb dX11_misfitOf_279 ?_
                refine tI (y := t65) et65.symm ?_
                refine ldI hx hb hE hP 8 rfl (vp_in_iff.mpr ⟨by omega, by omega⟩) rfl rfl dX11_misfitOf_280 ?_
                refine lv_topi (fun t67 et67 => ?_)
                refine lv_if_ne (tgt := 288) hx hb dX11_misfitOf_281 (by decide) (fun c68 => ?_) (fun c68 => ?_)
                · skip
                  have zc68 : ¬ (t67.toInt = 0) := by rw [fa_eq, show (0 : Int32).toInt = 0 from by decide] at c68; exact c68
                  refine lv_iconst (v := 0) hx hb dX11_misfitOf_288 (by decide) ?_
                  have lt69 : (0 : Int32).toInt = 0 := by decide
                  refine cbSi (n := 1) (rest := [.int t65, .ref (r 16)]) hx hb hml hown hts hE hP hD hS hA (sY_X11_truth_1 l dC dI cy y0 r 0 v26 f26 w26 g26 hIv26 hCf26 hRf26 ) k_1761 k_1762 k_114 k_1763 (by decide +kernel) ⟨Nat.le_of_ble_eq_true rfl, Nat.le_of_ble_eq_true rfl⟩ (rfl) hl.1 rfl (Nat.le_of_ble_eq_true rfl) dX11_misfitOf_289 (fun r70 u H locs hw hP hD hS => ?_)
                  refine stI hx hb hE hP hD hS 8 rfl (vp_in_iff.mpr ⟨by omega, by omega⟩) rfl dX11_misfitOf_292 (fun H locs hP hD hS => ?_)
                  obtain ⟨f71, ef71, hP, hD⟩ : ∃ fz9, fz9 = upd2 f26 7 (upd (f26 7) t65.toNatClampNeg r70) ∧ va_P (dC, dI) vwCl (YW cy y0 r v26 fz9 w26 g26) H ∧ va_D A (YW cy y0 r v26 fz9 w26 g26) := ⟨_, rfl, hP, hD⟩
                  have hCf71 : YC f71 := by rw [ef71]; exact hCf26
                  have hs4_f71 : f71 4 = f 4 := by rw [ef71]; exact hs4_f26
                  have hs5_f71 : f71 5 = f 5 := by rw [ef71]; exact hs5_f26
                  have hRf71 : progOK (f71 4) (f71 5) (v26 9).toInt.toNat := by rw [ef71]; exact hRf26
                  have hA_f71 : KF [7, 8] f71 f := by rw [ef71]; exact KF.up hA_f26 rfl
                  refine lv_goto (tgt := 331) hx hb dX11_misfitOf_293 (by decide) ?_
                  obtain ⟨t72, et72⟩ : ∃ y : Int32, y = l4_26 + 1 := ⟨_, rfl⟩
                  have zt72 : t72.toInt = l4_26.toInt + 1 := by rw [et72]; exact add_i rfl (by decide) (by omega) (by omega)
                  refine lv_iinc (v := t72) (lv' := [(4, .int t72), (3, .int l3_26), (0, .ref y0), (1, .int p1), (2, .int p2)]) hx hb dX11_misfitOf_331 hl (k := 0) rfl (by rw [et72]; rfl) (by decide) rfl (fun ls hl => ?_)
                  refine lv_goto (tgt := 181) hx hb dX11_misfitOf_334 (by decide) ?_
                  have rg73 := fb_rng t72
                  exact ih26 l3_26 t72 v26 f71 w26 g26 hIv26 hCf71 hRf71 hq0_v26 hq1_v26 hq2_v26 hq3_v26 hq4_v26 hq5_v26 hq8_v26 hq9_v26 hq10_v26 hq13_v26 hq14_v26 hq15_v26 hq17_v26 hq18_v26 hq24_v26 hq25_v26 hq35_v26 hq36_v26 hq38_v26 hq39_v26 ⟨show (0 : Int) ≤ l3_26.toInt by omega, show l3_26.toInt ≤ (64 : Int) by omega⟩ ⟨show (0 : Int) ≤ t72.toInt by omega, show t72.toInt ≤ (2147483647 : Int) by omega⟩ (by rw [show (t72.toInt).toNat = (l4_26.toInt).toNat + 1 by omega]; omega) hs4_f71 hs5_f71 hM_v26 hA_f71 (by show (2147483647 - t72.toInt).toNat < n26; omega) _ _ _ hP hD hS (lv_sub hl [0, 1, 2, 3, 4] rfl)
                · skip
                  have zc68 : t67.toInt = 0 := by rw [fa_eq, show (0 : Int32).toInt = 0 from by decide] at c68; exact c68
                  refine lv_iconst (v := 1) hx hb dX11_misfitOf_284 (by decide) ?_
                  refine lv_goto (tgt := 289) hx hb dX11_misfitOf_285 (by decide) ?_
                  have lt74 : (1 : Int32).toInt = 1 := by decide
                  refine cbSi (n := 1) (rest := [.int t65, .ref (r 16)]) hx hb hml hown hts hE hP hD hS hA (sY_X11_truth_1 l dC dI cy y0 r 1 v26 f26 w26 g26 hIv26 hCf26 hRf26 ) k_1761 k_1762 k_114 k_1763 (by decide +kernel) ⟨Nat.le_of_ble_eq_true rfl, Nat.le_of_ble_eq_true rfl⟩ (rfl) hl.1 rfl (Nat.le_of_ble_eq_true rfl) dX11_misfitOf_289 (fun r75 u H locs hw hP hD hS => ?_)
                  refine stI hx hb hE hP hD hS 8 rfl (vp_in_iff.mpr ⟨by omega, by omega⟩) rfl dX11_misfitOf_292 (fun H locs hP hD hS => ?_)
                  obtain ⟨f76, ef76, hP, hD⟩ : ∃ fz9, fz9 = upd2 f26 7 (upd (f26 7) t65.toNatClampNeg r75) ∧ va_P (dC, dI) vwCl (YW cy y0 r v26 fz9 w26 g26) H ∧ va_D A (YW cy y0 r v26 fz9 w26 g26) := ⟨_, rfl, hP, hD⟩
                  have hCf76 : YC f76 := by rw [ef76]; exact hCf26
                  have hs4_f76 : f76 4 = f 4 := by rw [ef76]; exact hs4_f26
                  have hs5_f76 : f76 5 = f 5 := by rw [ef76]; exact hs5_f26
                  have hRf76 : progOK (f76 4) (f76 5) (v26 9).toInt.toNat := by rw [ef76]; exact hRf26
                  have hA_f76 : KF [7, 8] f76 f := by rw [ef76]; exact KF.up hA_f26 rfl
                  refine lv_goto (tgt := 331) hx hb dX11_misfitOf_293 (by decide) ?_
                  obtain ⟨t77, et77⟩ : ∃ y : Int32, y = l4_26 + 1 := ⟨_, rfl⟩
                  have zt77 : t77.toInt = l4_26.toInt + 1 := by rw [et77]; exact add_i rfl (by decide) (by omega) (by omega)
                  refine lv_iinc (v := t77) (lv' := [(4, .int t77), (3, .int l3_26), (0, .ref y0), (1, .int p1), (2, .int p2)]) hx hb dX11_misfitOf_331 hl (k := 0) rfl (by rw [et77]; rfl) (by decide) rfl (fun ls hl => ?_)
                  refine lv_goto (tgt := 181) hx hb dX11_misfitOf_334 (by decide) ?_
                  have rg78 := fb_rng t77
                  exact ih26 l3_26 t77 v26 f76 w26 g26 hIv26 hCf76 hRf76 hq0_v26 hq1_v26 hq2_v26 hq3_v26 hq4_v26 hq5_v26 hq8_v26 hq9_v26 hq10_v26 hq13_v26 hq14_v26 hq15_v26 hq17_v26 hq18_v26 hq24_v26 hq25_v26 hq35_v26 hq36_v26 hq38_v26 hq39_v26 ⟨show (0 : Int) ≤ l3_26.toInt by omega, show l3_26.toInt ≤ (64 : Int) by omega⟩ ⟨show (0 : Int) ≤ t77.toInt by omega, show t77.toInt ≤ (2147483647 : Int) by omega⟩ (by rw [show (t77.toInt).toNat = (l4_26.toInt).toNat + 1 by omega]; omega) hs4_f76 hs5_f76 hM_v26 hA_f76 (by show (2147483647 - t77.toInt).toNat < n26; omega) _ _ _ hP hD hS (lv_sub hl [0, 1, 2, 3, 4] rfl)
            · skip
              have zc52 : t34.toInt = 1 := by rw [fa_eq, show (1 : Int32).toInt = 1 from by decide] at c52; exact c52
              refine lv_aload_n hx hb dX11_misfitOf_211 rfl (lv_at hl 2 rfl) ?_
              refine va_get (D := (dC, dI)) (ci := 11) (v := .ref (r 16)) (C := RX11) (T := TX11) (N := 79) hx hb hts inB_11 hown hE.1 hP 0 rfl rfl 16 (by decide) (hts _ k_1336) (fun _ h9 => h9) rfl dX11_misfitOf_212 ?_
              refine lv_iload_n hx hb dX11_misfitOf_215 rfl (lv_at hl 1 rfl) ?_
              refine lv_aload_n hx hb dX11_misfitOf_216 rfl (lv_at hl 2 rfl) ?_
              refine va_get (D := (dC, dI)) (ci := 11) (v := .ref (r 13)) (C := RX11) (T := TX11) (N := 79) hx hb hts inB_11 hown hE.1 hP 0 rfl rfl 13 (by decide) (hts _ k_1333) (fun _ h9 => h9) rfl dX11_misfitOf_217 ?_
              refine lv_iload hx hb dX11_misfitOf_220 (lv_at hl 0 rfl) ?_
              refine ldI hx hb hE hP 5 rfl (vp_in_iff.mpr ⟨by omega, by omega⟩) rfl rfl dX11_misfitOf_222 ?_
              refine tI (y := t34) et34.symm ?_
              refine lv_if_ne (tgt := 236) hx hb dX11_misfitOf_223 (by decide) (fun c79 => ?_) (fun c79 => ?_)
              · skip
                have zc79 : ¬ (t34.toInt = 0) := by rw [fa_eq, show (0 : Int32).toInt = 0 from by decide] at c79; exact c79
                refine lv_aload_n hx hb dX11_misfitOf_236 rfl (lv_at hl 2 rfl) ?_
                refine va_get (D := (dC, dI)) (ci := 11) (v := .ref (r 26)) (C := RX11) (T := TX11) (N := 79) hx hb hts inB_11 hown hE.1 hP 0 rfl rfl 26 (by decide) (hts _ k_1346) (fun _ h9 => h9) rfl dX11_misfitOf_237 ?_
                refine lv_aload_n hx hb dX11_misfitOf_240 rfl (lv_at hl 2 rfl) ?_
                refine va_get (D := (dC, dI)) (ci := 11) (v := .ref (r 14)) (C := RX11) (T := TX11) (N := 79) hx hb hts inB_11 hown hE.1 hP 0 rfl rfl 14 (by decide) (hts _ k_1334) (fun _ h9 => h9) rfl dX11_misfitOf_241 ?_
                refine lv_iload hx hb dX11_misfitOf_244 (lv_at hl 0 rfl) ?_
                refine ldI hx hb hE hP 6 rfl (vp_in_iff.mpr ⟨by omega, by omega⟩) rfl rfl dX11_misfitOf_246 ?_
                refine lv_topi (fun t80 et80 => ?_)
                have hat80 : t80.toInt = (f 5 l4_26.toInt.toNat).toInt := by rw [et80, hs5_f26]; rfl
                refine ldI hx hb hE hP 9 rfl (vp_in_iff.mpr ⟨by omega, by omega⟩) rfl rfl dX11_misfitOf_247 ?_
                refine lv_topi (fun t81 et81 => ?_)
                refine stI hx hb hE hP hD hS 8 rfl (vp_in_iff.mpr ⟨by omega, by omega⟩) rfl dX11_misfitOf_248 (fun H locs hP hD hS => ?_)
                obtain ⟨f82, ef82, hP, hD⟩ : ∃ fz9, fz9 = upd2 f26 7 (upd (f26 7) l3_26.toNatClampNeg t81) ∧ va_P (dC, dI) vwCl (YW cy y0 r v26 fz9 w26 g26) H ∧ va_D A (YW cy y0 r v26 fz9 w26 g26) := ⟨_, rfl, hP, hD⟩
                have hCf82 : YC f82 := by rw [ef82]; exact hCf26
                have hs4_f82 : f82 4 = f 4 := by rw [ef82]; exact hs4_f26
                have hs5_f82 : f82 5 = f 5 := by rw [ef82]; exact hs5_f26
                have hRf82 : progOK (f82 4) (f82 5) (v26 9).toInt.toNat := by rw [ef82]; exact hRf26
                have hA_f82 : KF [7, 8] f82 f := by rw [ef82]; exact KF.up hA_f26 rfl
                obtain ⟨t83, et83⟩ : ∃ y : Int32, y = l3_26 + 1 := ⟨_, rfl⟩
                have rg84 := fb_rng l3_26
                have zt83 : t83.toInt = l3_26.toInt + 1 := by rw [et83]; exact add_i rfl (by decide) (by omega) (by omega)
                refine lv_iinc (v := t83) (lv' := [(3, .int t83), (4, .int l4_26), (0, .ref y0), (1, .int p1), (2, .int p2)]) hx hb dX11_misfitOf_249 hl (k := 1) rfl (by rw [et83]; rfl) (by decide) rfl (fun ls hl => ?_)
                refine lv_goto (tgt := 331) hx hb dX11_misfitOf_252 (by decide) ?_
                obtain ⟨t85, et85⟩ : ∃ y : Int32, y = l4_26 + 1 := ⟨_, rfl⟩
                have zt85 : t85.toInt = l4_26.toInt + 1 := by rw [et85]; exact add_i rfl (by decide) (by omega) (by omega)
                refine lv_iinc (v := t85) (lv' := [(4, .int t85), (3, .int t83), (0, .ref y0), (1, .int p1), (2, .int p2)]) hx hb dX11_misfitOf_331 hl (k := 1) rfl (by rw [et85]; rfl) (by decide) rfl (fun ls hl => ?_)
                refine lv_goto (tgt := 181) hx hb dX11_misfitOf_334 (by decide) ?_
                have rg86 := fb_rng t83
                have rg87 := fb_rng t85
                exact ih26 t83 t85 v26 f82 w26 g26 hIv26 hCf82 hRf82 hq0_v26 hq1_v26 hq2_v26 hq3_v26 hq4_v26 hq5_v26 hq8_v26 hq9_v26 hq10_v26 hq13_v26 hq14_v26 hq15_v26 hq17_v26 hq18_v26 hq24_v26 hq25_v26 hq35_v26 hq36_v26 hq38_v26 hq39_v26 ⟨show (0 : Int) ≤ t83.toInt by omega, show t83.toInt ≤ (64 : Int) by omega⟩ ⟨show (0 : Int) ≤ t85.toInt by omega, show t85.toInt ≤ (2147483647 : Int) by omega⟩ (by rw [show (t85.toInt).toNat = (l4_26.toInt).toNat + 1 by omega]; omega) hs4_f82 hs5_f82 hM_v26 hA_f82 (by show (2147483647 - t85.toInt).toNat < n26; omega) _ _ _ hP hD hS (lv_sub hl [0, 1, 2, 3, 4] rfl)
              · skip
                have zc79 : t34.toInt = 0 := by rw [fa_eq, show (0 : Int32).toInt = 0 from by decide] at c79; exact c79
                refine lv_aload_n hx hb dX11_misfitOf_226 rfl (lv_at hl 2 rfl) ?_
                refine va_get (D := (dC, dI)) (ci := 11) (v := .ref (r 14)) (C := RX11) (T := TX11) (N := 79) hx hb hts inB_11 hown hE.1 hP 0 rfl rfl 14 (by decide) (hts _ k_1334) (fun _ h9 => h9) rfl dX11_misfitOf_227 ?_
                refine lv_iload hx hb dX11_misfitOf_230 (lv_at hl 0 rfl) ?_
                refine ldI hx hb hE hP 6 rfl (vp_in_iff.mpr ⟨by omega, by omega⟩) rfl rfl dX11_misfitOf_232 ?_
                refine lv_topi (fun t88 et88 => ?_)
                have hat88 : t88.toInt = (f 5 l4_26.toInt.toNat).toInt := by rw [et88, hs5_f26]; rfl
                refine lv_goto (tgt := 248) hx hb dX11_misfitOf_233 (by decide) ?_
                refine stI hx hb hE hP hD hS 8 rfl (vp_in_iff.mpr ⟨by omega, by omega⟩) rfl dX11_misfitOf_248 (fun H locs hP hD hS => ?_)
                obtain ⟨f89, ef89, hP, hD⟩ : ∃ fz9, fz9 = upd2 f26 7 (upd (f26 7) l3_26.toNatClampNeg t88) ∧ va_P (dC, dI) vwCl (YW cy y0 r v26 fz9 w26 g26) H ∧ va_D A (YW cy y0 r v26 fz9 w26 g26) := ⟨_, rfl, hP, hD⟩
                have hCf89 : YC f89 := by rw [ef89]; exact hCf26
                have hs4_f89 : f89 4 = f 4 := by rw [ef89]; exact hs4_f26
                have hs5_f89 : f89 5 = f 5 := by rw [ef89]; exact hs5_f26
                have hRf89 : progOK (f89 4) (f89 5) (v26 9).toInt.toNat := by rw [ef89]; exact hRf26
                have hA_f89 : KF [7, 8] f89 f := by rw [ef89]; exact KF.up hA_f26 rfl
                obtain ⟨t90, et90⟩ : ∃ y : Int32, y = l3_26 + 1 := ⟨_, rfl⟩
                have rg91 := fb_rng l3_26
                have zt90 : t90.toInt = l3_26.toInt + 1 := by rw [et90]; exact add_i rfl (by decide) (by omega) (by omega)
                refine lv_iinc (v := t90) (lv' := [(3, .int t90), (4, .int l4_26), (0, .ref y0), (1, .int p1), (2, .int p2)]) hx hb dX11_misfitOf_249 hl (k := 1) rfl (by rw [et90]; rfl) (by decide) rfl (fun ls hl => ?_)
                refine lv_goto (tgt := 331) hx hb dX11_misfitOf_252 (by decide) ?_
                obtain ⟨t92, et92⟩ : ∃ y : Int32, y = l4_26 + 1 := ⟨_, rfl⟩
                have zt92 : t92.toInt = l4_26.toInt + 1 := by rw [et92]; exact add_i rfl (by decide) (by omega) (by omega)
                refine lv_iinc (v := t92) (lv' := [(4, .int t92), (3, .int t90), (0, .ref y0), (1, .int p1), (2, .int p2)]) hx hb dX11_misfitOf_331 hl (k := 1) rfl (by rw [et92]; rfl) (by decide) rfl (fun ls hl => ?_)
                refine lv_goto (tgt := 181) hx hb dX11_misfitOf_334 (by decide) ?_
                have rg93 := fb_rng t90
                have rg94 := fb_rng t92
                exact ih26 t90 t92 v26 f89 w26 g26 hIv26 hCf89 hRf89 hq0_v26 hq1_v26 hq2_v26 hq3_v26 hq4_v26 hq5_v26 hq8_v26 hq9_v26 hq10_v26 hq13_v26 hq14_v26 hq15_v26 hq17_v26 hq18_v26 hq24_v26 hq25_v26 hq35_v26 hq36_v26 hq38_v26 hq39_v26 ⟨show (0 : Int) ≤ t90.toInt by omega, show t90.toInt ≤ (64 : Int) by omega⟩ ⟨show (0 : Int) ≤ t92.toInt by omega, show t92.toInt ≤ (2147483647 : Int) by omega⟩ (by rw [show (t92.toInt).toNat = (l4_26.toInt).toNat + 1 by omega]; omega) hs4_f89 hs5_f89 hM_v26 hA_f89 (by show (2147483647 - t92.toInt).toNat < n26; omega) _ _ _ hP hD hS (lv_sub hl [0, 1, 2, 3, 4] rfl)
    exact lp26 _ 0 0 v f24 w g hIv hCf24 hRf24 rfl rfl rfl rfl rfl rfl rfl rfl rfl rfl rfl rfl rfl rfl rfl rfl rfl rfl rfl rfl ⟨by decide, by decide⟩ ⟨by decide, by decide⟩ rfl hs4_f24 hs5_f24 hM_v hA_f24 (Nat.lt_succ_self _) _ _ _ hP hD hS (lv_sub hl [0, 1, 2, 3, 4] rfl)
  · skip
    have zc25 : (v 16).toInt = 0 := by rw [fa_eq, show (0 : Int32).toInt = 0 from by decide] at c25; exact c25
    refine lv_iconst (v := 3) hx hb dX11_misfitOf_131 (by decide) ?_
    refine lv_aload_n hx hb dX11_misfitOf_132 rfl (lv_at hl 0 rfl) ?_
    refine va_get (D := (dC, dI)) (ci := 11) (v := .ref (r 26)) (C := RX11) (T := TX11) (N := 79) hx hb hts inB_11 hown hE.1 hP 0 rfl rfl 26 (by decide) (hts _ k_1346) (fun _ h9 => h9) rfl dX11_misfitOf_133 ?_
    refine lv_iconst (v := 0) hx hb dX11_misfitOf_136 (by decide) ?_
    refine ldI hx hb hE hP 9 rfl (vp_in_nI (n := 0) (by decide) (by decide)) rfl rfl dX11_misfitOf_137 ?_
    refine lv_topi (fun t95 et95 => ?_)
    refine lv_imul hx hb dX11_misfitOf_138 ?_
    refine lv_topi (fun t96 et96 => ?_)
    refine lv_aload_n hx hb dX11_misfitOf_139 rfl (lv_at hl 0 rfl) ?_
    refine va_get (D := (dC, dI)) (ci := 11) (v := .ref (r 26)) (C := RX11) (T := TX11) (N := 79) hx hb hts inB_11 hown hE.1 hP 0 rfl rfl 26 (by decide) (hts _ k_1346) (fun _ h9 => h9) rfl dX11_misfitOf_140 ?_
    refine lv_iconst (v := 1) hx hb dX11_misfitOf_143 (by decide) ?_
    refine ldI hx hb hE hP 9 rfl (vp_in_nI (n := 1) (by decide) (by decide)) rfl rfl dX11_misfitOf_144 ?_
    refine lv_topi (fun t97 et97 => ?_)
    refine lv_iadd hx hb dX11_misfitOf_145 ?_
    refine lv_topi (fun t98 et98 => ?_)
    refine lv_iconst (v := 2) hx hb dX11_misfitOf_146 (by decide) ?_
    refine lv_aload_n hx hb dX11_misfitOf_147 rfl (lv_at hl 0 rfl) ?_
    refine va_get (D := (dC, dI)) (ci := 11) (v := .ref (r 26)) (C := RX11) (T := TX11) (N := 79) hx hb hts inB_11 hown hE.1 hP 0 rfl rfl 26 (by decide) (hts _ k_1346) (fun _ h9 => h9) rfl dX11_misfitOf_148 ?_
    refine lv_iconst (v := 2) hx hb dX11_misfitOf_151 (by decide) ?_
    refine ldI hx hb hE hP 9 rfl (vp_in_nI (n := 2) (by decide) (by decide)) rfl rfl dX11_misfitOf_152 ?_
    refine lv_topi (fun t99 et99 => ?_)
    refine lv_imul hx hb dX11_misfitOf_153 ?_
    refine lv_topi (fun t100 et100 => ?_)
    refine lv_iadd hx hb dX11_misfitOf_154 ?_
    refine lv_topi (fun t101 et101 => ?_)
    refine lv_aload_n hx hb dX11_misfitOf_155 rfl (lv_at hl 0 rfl) ?_
    refine va_get (D := (dC, dI)) (ci := 11) (v := .ref (r 26)) (C := RX11) (T := TX11) (N := 79) hx hb hts inB_11 hown hE.1 hP 0 rfl rfl 26 (by decide) (hts _ k_1346) (fun _ h9 => h9) rfl dX11_misfitOf_156 ?_
    refine lv_iconst (v := 3) hx hb dX11_misfitOf_159 (by decide) ?_
    refine ldI hx hb hE hP 9 rfl (vp_in_nI (n := 3) (by decide) (by decide)) rfl rfl dX11_misfitOf_160 ?_
    refine lv_topi (fun t102 et102 => ?_)
    refine lv_iadd hx hb dX11_misfitOf_161 ?_
    refine lv_topi (fun t103 et103 => ?_)
    refine lv_aload_n hx hb dX11_misfitOf_162 rfl (lv_at hl 0 rfl) ?_
    refine va_get (D := (dC, dI)) (ci := 11) (v := .ref (r 26)) (C := RX11) (T := TX11) (N := 79) hx hb hts inB_11 hown hE.1 hP 0 rfl rfl 26 (by decide) (hts _ k_1346) (fun _ h9 => h9) rfl dX11_misfitOf_163 ?_
    refine lv_iconst (v := 4) hx hb dX11_misfitOf_166 (by decide) ?_
    refine ldI hx hb hE hP 9 rfl (vp_in_nI (n := 4) (by decide) (by decide)) rfl rfl dX11_misfitOf_167 ?_
    refine lv_topi (fun t104 et104 => ?_)
    refine lv_iadd hx hb dX11_misfitOf_168 ?_
    refine lv_topi (fun t105 et105 => ?_)
    refine lv_sipush (v := 999) hx hb dX11_misfitOf_169 (by decide) ?_
    refine cbSi (n := 2) (rest := []) hx hb hml hown hts hE hP hD hS hA (sY_X11_within_1 l dC dI cy y0 r t105 999 v f24 w g hIv hCf24 hRf24 ) k_1758 k_1759 k_114 k_1760 (by decide +kernel) ⟨Nat.le_of_ble_eq_true rfl, Nat.le_of_ble_eq_true rfl⟩ (rfl) hl.1 rfl (Nat.le_of_ble_eq_true rfl) dX11_misfitOf_172 (fun r106 u H locs hw hP hD hS => ?_)
    exact ret r106 (v, f24, w, g) _ _ _ _ _ _ rfl ⟨hM_v, hA_f24, hIv, hCf24, hRf24, rfl, rfl, rfl, rfl, rfl, rfl, rfl, rfl, rfl, rfl, rfl, rfl, rfl, rfl, rfl, rfl, rfl, rfl, rfl, rfl⟩ hP hD hS dX11_misfitOf_175 (Nat.le_refl _) (Nat.le_refl _)
