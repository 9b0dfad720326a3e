set_option maxHeartbeats 4000000 in
set_option maxRecDepth 100000 in
theorem law_loop {p : Program} {l : Launch} {e : Env} {s : State} {m : MethodId} {below : List Frame} {meth : Method} {c : Code} {dC : Nat → ClassId} {dI : Nat → Nat → Nat} {cy : Nat → ClassId} {b L : Nat} {xs : Nat → Int32} {Q : State → Prop} {x0 y0 : Nat} {x r : Nat → Nat} (hx : p.tables.exec = Jvm.exec) (hb : c.code = code) (hml : c.maxLocals = 4) (hown : s.vm.findClass RL = some m.cls) (hts : ∀ w ∈ BIG, w.before #[Value.ref b] s = true) (hE : ENV (dC, dI) cy s) (hF : SRF (dC, dI) s) (hT : STR (dC, dI) (fun q : Nat => s.heap.size ≤ q) s s.heap) (hX : va_X b L xs s s.heap) (hbl : b < s.heap.size) (hL : L ≤ 3072) (out : ∀ (H : Heap) (locs : List Loc) (ls : Array Slot), va_S (fun q : Nat => s.heap.size ≤ q) s.heap H locs → W p l e room_1 s m #[Value.ref b] below meth c H locs 81 11738 Q (F0 m 1419 ls [])) : ∀ (n : Nat) (i : Int32) (v : Nat → Int32) (f : Nat → Nat → Int32) (v1 : Nat → Int32) (f1 : Nat → Nat → Int32) (w1 : Int64) (g1 : Nat → Int64), (0 ≤ i.toInt ∧ i.toInt ≤ 3078) → XI v → YI v1 → YC f1 → progOK (f1 4) (f1 5) (v1 9).toInt.toNat → FREL v f v1 f1 → ((3100 : Int) - i.toInt).toNat < n → ∀ (H : Heap) (locs : List Loc) (ls : Array Slot), va_P (dC, dI) vwCl (XW cy x0 x v f ++ YW cy y0 r v1 f1 w1 g1) H → va_D (fun q : Nat => s.heap.size ≤ q) (XW cy x0 x v f ++ YW cy y0 r v1 f1 w1 g1) → va_S (fun q : Nat => s.heap.size ≤ q) s.heap H locs → lv_has ls 4 [(3, .int i), (2, .ref y0), (1, .ref x0), (0, .ref b)] → W p l e room_1 s m #[Value.ref b] below meth c H locs 81 11738 Q (F0 m 18 ls []) := by
  intro n
  induction n with
  | zero => intro i v f v1 f1 w1 g1 _ _ _ _ _ _ hm; exact absurd hm (Nat.not_lt_zero _)
  | succ n ih =>
    intro i v f v1 f1 w1 g1 hi hIv hIv1 hCf1 hRf1 heq0 hm H locs ls hP hD hS hl
    have hbA : ¬ (fun q : Nat => s.heap.size ≤ q) b := Nat.not_le.mpr hbl
    obtain ⟨hi0, hi9⟩ := hi
    refine lv_iload_n hx hb dL_law_18 rfl (lv_at hl 0 rfl) ?_
    refine lv_aload_n hx hb dL_law_19 rfl (lv_at hl 3 rfl) ?_
    refine va_slen hx hb hX hbl hbA hS dL_law_20 ?_
    refine lv_topi (fun t1 et1 => ?_)
    have zt1 : t1.toInt = (L : Int) := by rw [et1]; exact nI_toInt (by omega)
    refine lv_bipush (v := 6) hx hb dL_law_21 (by decide) ?_
    refine lv_isub hx hb dL_law_23 ?_
    refine lv_topi (fun t2 et2 => ?_)
    have rg3 := fb_rng t1
    have zt2 : t2.toInt = t1.toInt - 6 := by rw [et2]; exact sub_i rfl (by decide) (by omega) (by omega)
    refine lv_icmp_gt (tgt := 1419) hx hb dL_law_24 (by decide) (fun _ => out _ _ _ hS) (fun c0 => ?_)
    have zc0 : ¬ (t2.toInt < i.toInt) := by rw [fa_lt] at c0; exact c0
    have rg4 := fb_rng i
    have rg5 := fb_rng t2
    have fin : ∀ (v : Nat → Int32) (f : Nat → Nat → Int32) (v1 : Nat → Int32) (f1 : Nat → Nat → Int32) (w1 : Int64) (g1 : Nat → Int64) (H : Heap) (locs : List Loc) (ls : Array Slot), XI v → YI v1 → YC f1 → progOK (f1 4) (f1 5) (v1 9).toInt.toNat → FREL v f v1 f1 → va_P (dC, dI) vwCl (XW cy x0 x v f ++ YW cy y0 r v1 f1 w1 g1) H → va_D (fun q : Nat => s.heap.size ≤ q) (XW cy x0 x v f ++ YW cy y0 r v1 f1 w1 g1) → va_S (fun q : Nat => s.heap.size ≤ q) s.heap H locs → lv_has ls 4 [(3, .int i), (2, .ref y0), (1, .ref x0), (0, .ref b)] → W p l e room_1 s m #[Value.ref b] below meth c H locs 81 11738 Q (F0 m 1413 ls []) := by
      clear hIv hIv1 hCf1 hRf1 heq0 hP hD hS hl
      intro v f v1 f1 w1 g1 H locs ls hIv hIv1 hCf1 hRf1 heq0 hP hD hS hl
      obtain ⟨t6, et6⟩ : ∃ y : Int32, y = i + 6 := ⟨_, rfl⟩
      have rg7 := fb_rng i
      have zt6 : t6.toInt = i.toInt + 6 := by rw [et6]; exact add_i rfl (by decide) (by omega) (by omega)
      refine lv_iinc (v := t6) (lv' := [(3, .int t6), (2, .ref y0), (1, .ref x0), (0, .ref b)]) hx hb dL_law_1413 hl (k := 0) rfl (by rw [et6]; rfl) (by decide) rfl (fun ls hl => ?_)
      refine lv_goto (tgt := 18) hx hb dL_law_1416 (by decide) ?_
      exact ih t6 v f v1 f1 w1 g1 ⟨by omega, by omega⟩ hIv hIv1 hCf1 hRf1 heq0 (by omega) _ _ _ hP hD hS hl
    refine lv_aload_n hx hb dL_law_27 rfl (lv_at hl 3 rfl) ?_
    refine lv_iload_n hx hb dL_law_28 rfl (lv_at hl 0 rfl) ?_
    refine va_sld hx hb hX hbl hbA hS (vp_in_iff.mpr ⟨by omega, by omega⟩) dL_law_29 ?_
    refine lv_topi (fun a8 ea8 => ?_)
    refine lv_bipush (v := 63) hx hb dL_law_30 (by decide) ?_
    refine lv_iand hx hb dL_law_32 ?_
    refine lv_topi (fun t9 et9 => ?_)
    have zt9 : 0 ≤ t9.toInt ∧ t9.toInt < 64 := by rw [et9]; exact and_rng _ (k := 6) (by decide) (by decide)
    by_cases c10 : t9 = 0
    · skip
      refine lv_tableIn (off := 203) (tgt := 236) hx hb dL_law_33 (by rw [c10]; decide) (by rw [c10]; decide) (by rw [c10]; decide) (by decide) ?_
      have zc10 : t9.toInt = 0 := by rw [fa_eq, show (0 : Int32).toInt = 0 from by decide] at c10; exact c10
      exact law_0 hx hb hml hown hts hE hF hT hX hbl hL (by omega) (by omega) hIv hIv1 hCf1 hRf1 heq0 hP hD hS hl fin
    · skip
      have zc10 : ¬ (t9.toInt = 0) := by rw [fa_eq, show (0 : Int32).toInt = 0 from by decide] at c10; exact c10
      by_cases c11 : t9 = 1
      · skip
        refine lv_tableIn (off := 266) (tgt := 299) hx hb dL_law_33 (by rw [c11]; decide) (by rw [c11]; decide) (by rw [c11]; decide) (by decide) ?_
        have zc11 : t9.toInt = 1 := by rw [fa_eq, show (1 : Int32).toInt = 1 from by decide] at c11; exact c11
        exact law_1 hx hb hml hown hts hE hF hT hX hbl hL (by omega) (by omega) hIv hIv1 hCf1 hRf1 heq0 hP hD hS hl fin
      · skip
        have zc11 : ¬ (t9.toInt = 1) := by rw [fa_eq, show (1 : Int32).toInt = 1 from by decide] at c11; exact c11
        by_cases c12 : t9 = 2
        · skip
          refine lv_tableIn (off := 289) (tgt := 322) hx hb dL_law_33 (by rw [c12]; decide) (by rw [c12]; decide) (by rw [c12]; decide) (by decide) ?_
          have zc12 : t9.toInt = 2 := by rw [fa_eq, show (2 : Int32).toInt = 2 from by decide] at c12; exact c12
          exact law_2 hx hb hml hown hts hE hF hT hX hbl hL (by omega) (by omega) hIv hIv1 hCf1 hRf1 heq0 hP hD hS hl fin
        · skip
          have zc12 : ¬ (t9.toInt = 2) := by rw [fa_eq, show (2 : Int32).toInt = 2 from by decide] at c12; exact c12
          by_cases c13 : t9 = 3
          · skip
            refine lv_tableIn (off := 302) (tgt := 335) hx hb dL_law_33 (by rw [c13]; decide) (by rw [c13]; decide) (by rw [c13]; decide) (by decide) ?_
            have zc13 : t9.toInt = 3 := by rw [fa_eq, show (3 : Int32).toInt = 3 from by decide] at c13; exact c13
            exact law_3 hx hb hml hown hts hE hF hT hX hbl hL (by omega) (by omega) hIv hIv1 hCf1 hRf1 heq0 hP hD hS hl fin
          · skip
            have zc13 : ¬ (t9.toInt = 3) := by rw [fa_eq, show (3 : Int32).toInt = 3 from by decide] at c13; exact c13
            by_cases c14 : t9 = 4
            · skip
              refine lv_tableIn (off := 325) (tgt := 358) hx hb dL_law_33 (by rw [c14]; decide) (by rw [c14]; decide) (by rw [c14]; decide) (by decide) ?_
              have zc14 : t9.toInt = 4 := by rw [fa_eq, show (4 : Int32).toInt = 4 from by decide] at c14; exact c14
              exact law_4 hx hb hml hown hts hE hF hT hX hbl hL (by omega) (by omega) hIv hIv1 hCf1 hRf1 heq0 hP hD hS hl fin
            · skip
              have zc14 : ¬ (t9.toInt = 4) := by rw [fa_eq, show (4 : Int32).toInt = 4 from by decide] at c14; exact c14
              by_cases c15 : t9 = 5
              · skip
                refine lv_tableIn (off := 358) (tgt := 391) hx hb dL_law_33 (by rw [c15]; decide) (by rw [c15]; decide) (by rw [c15]; decide) (by decide) ?_
                have zc15 : t9.toInt = 5 := by rw [fa_eq, show (5 : Int32).toInt = 5 from by decide] at c15; exact c15
                exact law_5 hx hb hml hown hts hE hF hT hX hbl hL (by omega) (by omega) hIv hIv1 hCf1 hRf1 heq0 hP hD hS hl fin
              · skip
                have zc15 : ¬ (t9.toInt = 5) := by rw [fa_eq, show (5 : Int32).toInt = 5 from by decide] at c15; exact c15
                by_cases c16 : t9 = 6
                · skip
                  refine lv_tableIn (off := 391) (tgt := 424) hx hb dL_law_33 (by rw [c16]; decide) (by rw [c16]; decide) (by rw [c16]; decide) (by decide) ?_
                  have zc16 : t9.toInt = 6 := by rw [fa_eq, show (6 : Int32).toInt = 6 from by decide] at c16; exact c16
                  exact law_6 hx hb hml hown hts hE hF hT hX hbl hL (by omega) (by omega) hIv hIv1 hCf1 hRf1 heq0 hP hD hS hl fin
                · skip
                  have zc16 : ¬ (t9.toInt = 6) := by rw [fa_eq, show (6 : Int32).toInt = 6 from by decide] at c16; exact c16
                  by_cases c17 : t9 = 7
                  · skip
                    refine lv_tableIn (off := 424) (tgt := 457) hx hb dL_law_33 (by rw [c17]; decide) (by rw [c17]; decide) (by rw [c17]; decide) (by decide) ?_
                    have zc17 : t9.toInt = 7 := by rw [fa_eq, show (7 : Int32).toInt = 7 from by decide] at c17; exact c17
                    exact law_7 hx hb hml hown hts hE hF hT hX hbl hL (by omega) (by omega) hIv hIv1 hCf1 hRf1 heq0 hP hD hS hl fin
                  · skip
                    have zc17 : ¬ (t9.toInt = 7) := by rw [fa_eq, show (7 : Int32).toInt = 7 from by decide] at c17; exact c17
                    by_cases c18 : t9 = 8
                    · skip
                      refine lv_tableIn (off := 437) (tgt := 470) hx hb dL_law_33 (by rw [c18]; decide) (by rw [c18]; decide) (by rw [c18]; decide) (by decide) ?_
                      have zc18 : t9.toInt = 8 := by rw [fa_eq, show (8 : Int32).toInt = 8 from by decide] at c18; exact c18
                      exact law_8 hx hb hml hown hts hE hF hT hX hbl hL (by omega) (by omega) hIv hIv1 hCf1 hRf1 heq0 hP hD hS hl fin
                    · skip
                      have zc18 : ¬ (t9.toInt = 8) := by rw [fa_eq, show (8 : Int32).toInt = 8 from by decide] at c18; exact c18
                      by_cases c19 : t9 = 9
                      · skip
                        refine lv_tableIn (off := 470) (tgt := 503) hx hb dL_law_33 (by rw [c19]; decide) (by rw [c19]; decide) (by rw [c19]; decide) (by decide) ?_
                        have zc19 : t9.toInt = 9 := by rw [fa_eq, show (9 : Int32).toInt = 9 from by decide] at c19; exact c19
                        exact law_9 hx hb hml hown hts hE hF hT hX hbl hL (by omega) (by omega) hIv hIv1 hCf1 hRf1 heq0 hP hD hS hl fin
                      · skip
                        have zc19 : ¬ (t9.toInt = 9) := by rw [fa_eq, show (9 : Int32).toInt = 9 from by decide] at c19; exact c19
                        by_cases c20 : t9 = 10
                        · skip
                          refine lv_tableIn (off := 493) (tgt := 526) hx hb dL_law_33 (by rw [c20]; decide) (by rw [c20]; decide) (by rw [c20]; decide) (by decide) ?_
                          have zc20 : t9.toInt = 10 := by rw [fa_eq, show (10 : Int32).toInt = 10 from by decide] at c20; exact c20
                          exact law_10 hx hb hml hown hts hE hF hT hX hbl hL (by omega) (by omega) hIv hIv1 hCf1 hRf1 heq0 hP hD hS hl fin
                        · skip
                          have zc20 : ¬ (t9.toInt = 10) := by rw [fa_eq, show (10 : Int32).toInt = 10 from by decide] at c20; exact c20
                          by_cases c21 : t9 = 11
                          · skip
                            refine lv_tableIn (off := 526) (tgt := 559) hx hb dL_law_33 (by rw [c21]; decide) (by rw [c21]; decide) (by rw [c21]; decide) (by decide) ?_
                            have zc21 : t9.toInt = 11 := by rw [fa_eq, show (11 : Int32).toInt = 11 from by decide] at c21; exact c21
                            exact law_11 hx hb hml hown hts hE hF hT hX hbl hL (by omega) (by omega) hIv hIv1 hCf1 hRf1 heq0 hP hD hS hl fin
                          · skip
                            have zc21 : ¬ (t9.toInt = 11) := by rw [fa_eq, show (11 : Int32).toInt = 11 from by decide] at c21; exact c21
                            by_cases c22 : t9 = 12
                            · skip
                              refine lv_tableIn (off := 559) (tgt := 592) hx hb dL_law_33 (by rw [c22]; decide) (by rw [c22]; decide) (by rw [c22]; decide) (by decide) ?_
                              have zc22 : t9.toInt = 12 := by rw [fa_eq, show (12 : Int32).toInt = 12 from by decide] at c22; exact c22
                              exact law_12 hx hb hml hown hts hE hF hT hX hbl hL (by omega) (by omega) hIv hIv1 hCf1 hRf1 heq0 hP hD hS hl fin
                            · skip
                              have zc22 : ¬ (t9.toInt = 12) := by rw [fa_eq, show (12 : Int32).toInt = 12 from by decide] at c22; exact c22
                              by_cases c23 : t9 = 13
                              · skip
                                refine lv_tableIn (off := 592) (tgt := 625) hx hb dL_law_33 (by rw [c23]; decide) (by rw [c23]; decide) (by rw [c23]; decide) (by decide) ?_
                                have zc23 : t9.toInt = 13 := by rw [fa_eq, show (13 : Int32).toInt = 13 from by decide] at c23; exact c23
                                exact law_13 hx hb hml hown hts hE hF hT hX hbl hL (by omega) (by omega) hIv hIv1 hCf1 hRf1 heq0 hP hD hS hl fin
                              · skip
                                have zc23 : ¬ (t9.toInt = 13) := by rw [fa_eq, show (13 : Int32).toInt = 13 from by decide] at c23; exact c23
                                by_cases c24 : t9 = 14
                                · skip
                                  refine lv_tableIn (off := 615) (tgt := 648) hx hb dL_law_33 (by rw [c24]; decide) (by rw [c24]; decide) (by rw [c24]; decide) (by decide) ?_
                                  have zc24 : t9.toInt = 14 := by rw [fa_eq, show (14 : Int32).toInt = 14 from by decide] at c24; exact c24
                                  exact law_14 hx hb hml hown hts hE hF hT hX hbl hL (by omega) (by omega) hIv hIv1 hCf1 hRf1 heq0 hP hD hS hl fin
                                · skip
                                  have zc24 : ¬ (t9.toInt = 14) := by rw [fa_eq, show (14 : Int32).toInt = 14 from by decide] at c24; exact c24
                                  by_cases c25 : t9 = 15
                                  · skip
                                    refine lv_tableIn (off := 628) (tgt := 661) hx hb dL_law_33 (by rw [c25]; decide) (by rw [c25]; decide) (by rw [c25]; decide) (by decide) ?_
                                    have zc25 : t9.toInt = 15 := by rw [fa_eq, show (15 : Int32).toInt = 15 from by decide] at c25; exact c25
                                    exact law_15 hx hb hml hown hts hE hF hT hX hbl hL (by omega) (by omega) hIv hIv1 hCf1 hRf1 heq0 hP hD hS hl fin
                                  · skip
                                    have zc25 : ¬ (t9.toInt = 15) := by rw [fa_eq, show (15 : Int32).toInt = 15 from by decide] at c25; exact c25
                                    by_cases c26 : t9 = 16
                                    · skip
                                      refine lv_tableIn (off := 641) (tgt := 674) hx hb dL_law_33 (by rw [c26]; decide) (by rw [c26]; decide) (by rw [c26]; decide) (by decide) ?_
                                      have zc26 : t9.toInt = 16 := by rw [fa_eq, show (16 : Int32).toInt = 16 from by decide] at c26; exact c26
                                      exact law_16 hx hb hml hown hts hE hF hT hX hbl hL (by omega) (by omega) hIv hIv1 hCf1 hRf1 heq0 hP hD hS hl fin
                                    · skip
                                      have zc26 : ¬ (t9.toInt = 16) := by rw [fa_eq, show (16 : Int32).toInt = 16 from by decide] at c26; exact c26
                                      by_cases c27 : t9 = 17
                                      · skip
                                        refine lv_tableIn (off := 684) (tgt := 717) hx hb dL_law_33 (by rw [c27]; decide) (by rw [c27]; decide) (by rw [c27]; decide) (by decide) ?_
                                        have zc27 : t9.toInt = 17 := by rw [fa_eq, show (17 : Int32).toInt = 17 from by decide] at c27; exact c27
                                        exact law_17 hx hb hml hown hts hE hF hT hX hbl hL (by omega) (by omega) hIv hIv1 hCf1 hRf1 heq0 hP hD hS hl fin
                                      · skip
                                        have zc27 : ¬ (t9.toInt = 17) := by rw [fa_eq, show (17 : Int32).toInt = 17 from by decide] at c27; exact c27
                                        by_cases c28 : t9 = 18
                                        · skip
                                          refine lv_tableIn (off := 707) (tgt := 740) hx hb dL_law_33 (by rw [c28]; decide) (by rw [c28]; decide) (by rw [c28]; decide) (by decide) ?_
                                          have zc28 : t9.toInt = 18 := by rw [fa_eq, show (18 : Int32).toInt = 18 from by decide] at c28; exact c28
                                          exact law_18 hx hb hml hown hts hE hF hT hX hbl hL (by omega) (by omega) hIv hIv1 hCf1 hRf1 heq0 hP hD hS hl fin
                                        · skip
                                          have zc28 : ¬ (t9.toInt = 18) := by rw [fa_eq, show (18 : Int32).toInt = 18 from by decide] at c28; exact c28
                                          by_cases c29 : t9 = 19
                                          · skip
                                            refine lv_tableIn (off := 720) (tgt := 753) hx hb dL_law_33 (by rw [c29]; decide) (by rw [c29]; decide) (by rw [c29]; decide) (by decide) ?_
                                            have zc29 : t9.toInt = 19 := by rw [fa_eq, show (19 : Int32).toInt = 19 from by decide] at c29; exact c29
                                            exact law_19 hx hb hml hown hts hE hF hT hX hbl hL (by omega) (by omega) hIv hIv1 hCf1 hRf1 heq0 hP hD hS hl fin
                                          · skip
                                            have zc29 : ¬ (t9.toInt = 19) := by rw [fa_eq, show (19 : Int32).toInt = 19 from by decide] at c29; exact c29
                                            by_cases c30 : t9 = 20
                                            · skip
                                              refine lv_tableIn (off := 743) (tgt := 776) hx hb dL_law_33 (by rw [c30]; decide) (by rw [c30]; decide) (by rw [c30]; decide) (by decide) ?_
                                              have zc30 : t9.toInt = 20 := by rw [fa_eq, show (20 : Int32).toInt = 20 from by decide] at c30; exact c30
                                              exact law_20 hx hb hml hown hts hE hF hT hX hbl hL (by omega) (by omega) hIv hIv1 hCf1 hRf1 heq0 hP hD hS hl fin
                                            · skip
                                              have zc30 : ¬ (t9.toInt = 20) := by rw [fa_eq, show (20 : Int32).toInt = 20 from by decide] at c30; exact c30
                                              by_cases c31 : t9 = 21
                                              · skip
                                                refine lv_tableIn (off := 786) (tgt := 819) hx hb dL_law_33 (by rw [c31]; decide) (by rw [c31]; decide) (by rw [c31]; decide) (by decide) ?_
                                                have zc31 : t9.toInt = 21 := by rw [fa_eq, show (21 : Int32).toInt = 21 from by decide] at c31; exact c31
                                                exact law_21 hx hb hml hown hts hE hF hT hX hbl hL (by omega) (by omega) hIv hIv1 hCf1 hRf1 heq0 hP hD hS hl fin
                                              · skip
                                                have zc31 : ¬ (t9.toInt = 21) := by rw [fa_eq, show (21 : Int32).toInt = 21 from by decide] at c31; exact c31
                                                by_cases c32 : t9 = 22
                                                · skip
                                                  refine lv_tableIn (off := 809) (tgt := 842) hx hb dL_law_33 (by rw [c32]; decide) (by rw [c32]; decide) (by rw [c32]; decide) (by decide) ?_
                                                  have zc32 : t9.toInt = 22 := by rw [fa_eq, show (22 : Int32).toInt = 22 from by decide] at c32; exact c32
                                                  exact law_22 hx hb hml hown hts hE hF hT hX hbl hL (by omega) (by omega) hIv hIv1 hCf1 hRf1 heq0 hP hD hS hl fin
                                                · skip
                                                  have zc32 : ¬ (t9.toInt = 22) := by rw [fa_eq, show (22 : Int32).toInt = 22 from by decide] at c32; exact c32
                                                  by_cases c33 : t9 = 23
                                                  · skip
                                                    refine lv_tableIn (off := 832) (tgt := 865) hx hb dL_law_33 (by rw [c33]; decide) (by rw [c33]; decide) (by rw [c33]; decide) (by decide) ?_
                                                    have zc33 : t9.toInt = 23 := by rw [fa_eq, show (23 : Int32).toInt = 23 from by decide] at c33; exact c33
                                                    exact law_23 hx hb hml hown hts hE hF hT hX hbl hL (by omega) (by omega) hIv hIv1 hCf1 hRf1 heq0 hP hD hS hl fin
                                                  · skip
                                                    have zc33 : ¬ (t9.toInt = 23) := by rw [fa_eq, show (23 : Int32).toInt = 23 from by decide] at c33; exact c33
                                                    by_cases c34 : t9 = 24
                                                    · skip
                                                      refine lv_tableIn (off := 865) (tgt := 898) hx hb dL_law_33 (by rw [c34]; decide) (by rw [c34]; decide) (by rw [c34]; decide) (by decide) ?_
                                                      have zc34 : t9.toInt = 24 := by rw [fa_eq, show (24 : Int32).toInt = 24 from by decide] at c34; exact c34
                                                      exact law_24 hx hb hml hown hts hE hF hT hX hbl hL (by omega) (by omega) hIv hIv1 hCf1 hRf1 heq0 hP hD hS hl fin
                                                    · skip
                                                      have zc34 : ¬ (t9.toInt = 24) := by rw [fa_eq, show (24 : Int32).toInt = 24 from by decide] at c34; exact c34
                                                      by_cases c35 : t9 = 25
                                                      · skip
                                                        refine lv_tableIn (off := 888) (tgt := 921) hx hb dL_law_33 (by rw [c35]; decide) (by rw [c35]; decide) (by rw [c35]; decide) (by decide) ?_
                                                        have zc35 : t9.toInt = 25 := by rw [fa_eq, show (25 : Int32).toInt = 25 from by decide] at c35; exact c35
                                                        exact law_25 hx hb hml hown hts hE hF hT hX hbl hL (by omega) (by omega) hIv hIv1 hCf1 hRf1 heq0 hP hD hS hl fin
                                                      · skip
                                                        have zc35 : ¬ (t9.toInt = 25) := by rw [fa_eq, show (25 : Int32).toInt = 25 from by decide] at c35; exact c35
                                                        by_cases c36 : t9 = 26
                                                        · skip
                                                          refine lv_tableIn (off := 901) (tgt := 934) hx hb dL_law_33 (by rw [c36]; decide) (by rw [c36]; decide) (by rw [c36]; decide) (by decide) ?_
                                                          have zc36 : t9.toInt = 26 := by rw [fa_eq, show (26 : Int32).toInt = 26 from by decide] at c36; exact c36
                                                          exact law_26 hx hb hml hown hts hE hF hT hX hbl hL (by omega) (by omega) hIv hIv1 hCf1 hRf1 heq0 hP hD hS hl fin
                                                        · skip
                                                          have zc36 : ¬ (t9.toInt = 26) := by rw [fa_eq, show (26 : Int32).toInt = 26 from by decide] at c36; exact c36
                                                          by_cases c37 : t9 = 27
                                                          · skip
                                                            refine lv_tableIn (off := 914) (tgt := 947) hx hb dL_law_33 (by rw [c37]; decide) (by rw [c37]; decide) (by rw [c37]; decide) (by decide) ?_
                                                            have zc37 : t9.toInt = 27 := by rw [fa_eq, show (27 : Int32).toInt = 27 from by decide] at c37; exact c37
                                                            exact law_27 hx hb hml hown hts hE hF hT hX hbl hL (by omega) (by omega) hIv hIv1 hCf1 hRf1 heq0 hP hD hS hl fin
                                                          · skip
                                                            have zc37 : ¬ (t9.toInt = 27) := by rw [fa_eq, show (27 : Int32).toInt = 27 from by decide] at c37; exact c37
                                                            by_cases c38 : t9 = 28
                                                            · skip
                                                              refine lv_tableIn (off := 947) (tgt := 980) hx hb dL_law_33 (by rw [c38]; decide) (by rw [c38]; decide) (by rw [c38]; decide) (by decide) ?_
                                                              have zc38 : t9.toInt = 28 := by rw [fa_eq, show (28 : Int32).toInt = 28 from by decide] at c38; exact c38
                                                              exact law_28 hx hb hml hown hts hE hF hT hX hbl hL (by omega) (by omega) hIv hIv1 hCf1 hRf1 heq0 hP hD hS hl fin
                                                            · skip
                                                              have zc38 : ¬ (t9.toInt = 28) := by rw [fa_eq, show (28 : Int32).toInt = 28 from by decide] at c38; exact c38
                                                              by_cases c39 : t9 = 29
                                                              · skip
                                                                refine lv_tableIn (off := 960) (tgt := 993) hx hb dL_law_33 (by rw [c39]; decide) (by rw [c39]; decide) (by rw [c39]; decide) (by decide) ?_
                                                                have zc39 : t9.toInt = 29 := by rw [fa_eq, show (29 : Int32).toInt = 29 from by decide] at c39; exact c39
                                                                exact law_29 hx hb hml hown hts hE hF hT hX hbl hL (by omega) (by omega) hIv hIv1 hCf1 hRf1 heq0 hP hD hS hl fin
                                                              · skip
                                                                have zc39 : ¬ (t9.toInt = 29) := by rw [fa_eq, show (29 : Int32).toInt = 29 from by decide] at c39; exact c39
                                                                by_cases c40 : t9 = 30
                                                                · skip
                                                                  refine lv_tableIn (off := 973) (tgt := 1006) hx hb dL_law_33 (by rw [c40]; decide) (by rw [c40]; decide) (by rw [c40]; decide) (by decide) ?_
                                                                  have zc40 : t9.toInt = 30 := by rw [fa_eq, show (30 : Int32).toInt = 30 from by decide] at c40; exact c40
                                                                  exact law_30 hx hb hml hown hts hE hF hT hX hbl hL (by omega) (by omega) hIv hIv1 hCf1 hRf1 heq0 hP hD hS hl fin
                                                                · skip
                                                                  have zc40 : ¬ (t9.toInt = 30) := by rw [fa_eq, show (30 : Int32).toInt = 30 from by decide] at c40; exact c40
                                                                  by_cases c41 : t9 = 31
                                                                  · skip
                                                                    refine lv_tableIn (off := 986) (tgt := 1019) hx hb dL_law_33 (by rw [c41]; decide) (by rw [c41]; decide) (by rw [c41]; decide) (by decide) ?_
                                                                    have zc41 : t9.toInt = 31 := by rw [fa_eq, show (31 : Int32).toInt = 31 from by decide] at c41; exact c41
                                                                    exact law_31 hx hb hml hown hts hE hF hT hX hbl hL (by omega) (by omega) hIv hIv1 hCf1 hRf1 heq0 hP hD hS hl fin
                                                                  · skip
                                                                    have zc41 : ¬ (t9.toInt = 31) := by rw [fa_eq, show (31 : Int32).toInt = 31 from by decide] at c41; exact c41
                                                                    by_cases c42 : t9 = 32
                                                                    · skip
                                                                      refine lv_tableIn (off := 1009) (tgt := 1042) hx hb dL_law_33 (by rw [c42]; decide) (by rw [c42]; decide) (by rw [c42]; decide) (by decide) ?_
                                                                      have zc42 : t9.toInt = 32 := by rw [fa_eq, show (32 : Int32).toInt = 32 from by decide] at c42; exact c42
                                                                      exact law_32 hx hb hml hown hts hE hF hT hX hbl hL (by omega) (by omega) hIv hIv1 hCf1 hRf1 heq0 hP hD hS hl fin
                                                                    · skip
                                                                      have zc42 : ¬ (t9.toInt = 32) := by rw [fa_eq, show (32 : Int32).toInt = 32 from by decide] at c42; exact c42
                                                                      by_cases c43 : t9 = 33
                                                                      · skip
                                                                        refine lv_tableIn (off := 1032) (tgt := 1065) hx hb dL_law_33 (by rw [c43]; decide) (by rw [c43]; decide) (by rw [c43]; decide) (by decide) ?_
                                                                        have zc43 : t9.toInt = 33 := by rw [fa_eq, show (33 : Int32).toInt = 33 from by decide] at c43; exact c43
                                                                        exact law_33 hx hb hml hown hts hE hF hT hX hbl hL (by omega) (by omega) hIv hIv1 hCf1 hRf1 heq0 hP hD hS hl fin
                                                                      · skip
                                                                        have zc43 : ¬ (t9.toInt = 33) := by rw [fa_eq, show (33 : Int32).toInt = 33 from by decide] at c43; exact c43
                                                                        by_cases c44 : t9 = 34
                                                                        · skip
                                                                          refine lv_tableIn (off := 1045) (tgt := 1078) hx hb dL_law_33 (by rw [c44]; decide) (by rw [c44]; decide) (by rw [c44]; decide) (by decide) ?_
                                                                          have zc44 : t9.toInt = 34 := by rw [fa_eq, show (34 : Int32).toInt = 34 from by decide] at c44; exact c44
                                                                          exact law_34 hx hb hml hown hts hE hF hT hX hbl hL (by omega) (by omega) hIv hIv1 hCf1 hRf1 heq0 hP hD hS hl fin
                                                                        · skip
                                                                          have zc44 : ¬ (t9.toInt = 34) := by rw [fa_eq, show (34 : Int32).toInt = 34 from by decide] at c44; exact c44
                                                                          by_cases c45 : t9 = 35
                                                                          · skip
                                                                            refine lv_tableIn (off := 1058) (tgt := 1091) hx hb dL_law_33 (by rw [c45]; decide) (by rw [c45]; decide) (by rw [c45]; decide) (by decide) ?_
                                                                            have zc45 : t9.toInt = 35 := by rw [fa_eq, show (35 : Int32).toInt = 35 from by decide] at c45; exact c45
                                                                            exact law_35 hx hb hml hown hts hE hF hT hX hbl hL (by omega) (by omega) hIv hIv1 hCf1 hRf1 heq0 hP hD hS hl fin
                                                                          · skip
                                                                            have zc45 : ¬ (t9.toInt = 35) := by rw [fa_eq, show (35 : Int32).toInt = 35 from by decide] at c45; exact c45
                                                                            by_cases c46 : t9 = 36
                                                                            · skip
                                                                              refine lv_tableIn (off := 1071) (tgt := 1104) hx hb dL_law_33 (by rw [c46]; decide) (by rw [c46]; decide) (by rw [c46]; decide) (by decide) ?_
                                                                              have zc46 : t9.toInt = 36 := by rw [fa_eq, show (36 : Int32).toInt = 36 from by decide] at c46; exact c46
                                                                              exact law_36 hx hb hml hown hts hE hF hT hX hbl hL (by omega) (by omega) hIv hIv1 hCf1 hRf1 heq0 hP hD hS hl fin
                                                                            · skip
                                                                              have zc46 : ¬ (t9.toInt = 36) := by rw [fa_eq, show (36 : Int32).toInt = 36 from by decide] at c46; exact c46
                                                                              by_cases c47 : t9 = 37
                                                                              · skip
                                                                                refine lv_tableIn (off := 1104) (tgt := 1137) hx hb dL_law_33 (by rw [c47]; decide) (by rw [c47]; decide) (by rw [c47]; decide) (by decide) ?_
                                                                                have zc47 : t9.toInt = 37 := by rw [fa_eq, show (37 : Int32).toInt = 37 from by decide] at c47; exact c47
                                                                                exact law_37 hx hb hml hown hts hE hF hT hX hbl hL (by omega) (by omega) hIv hIv1 hCf1 hRf1 heq0 hP hD hS hl fin
                                                                              · skip
                                                                                have zc47 : ¬ (t9.toInt = 37) := by rw [fa_eq, show (37 : Int32).toInt = 37 from by decide] at c47; exact c47
                                                                                by_cases c48 : t9 = 38
                                                                                · skip
                                                                                  refine lv_tableIn (off := 1127) (tgt := 1160) hx hb dL_law_33 (by rw [c48]; decide) (by rw [c48]; decide) (by rw [c48]; decide) (by decide) ?_
                                                                                  have zc48 : t9.toInt = 38 := by rw [fa_eq, show (38 : Int32).toInt = 38 from by decide] at c48; exact c48
                                                                                  exact law_38 hx hb hml hown hts hE hF hT hX hbl hL (by omega) (by omega) hIv hIv1 hCf1 hRf1 heq0 hP hD hS hl fin
                                                                                · skip
                                                                                  have zc48 : ¬ (t9.toInt = 38) := by rw [fa_eq, show (38 : Int32).toInt = 38 from by decide] at c48; exact c48
                                                                                  by_cases c49 : t9 = 39
                                                                                  · skip
                                                                                    refine lv_tableIn (off := 1176) (tgt := 1209) hx hb dL_law_33 (by rw [c49]; decide) (by rw [c49]; decide) (by rw [c49]; decide) (by decide) ?_
                                                                                    have zc49 : t9.toInt = 39 := by rw [fa_eq, show (39 : Int32).toInt = 39 from by decide] at c49; exact c49
                                                                                    exact law_39 hx hb hml hown hts hE hF hT hX hbl hL (by omega) (by omega) hIv hIv1 hCf1 hRf1 heq0 hP hD hS hl fin
                                                                                  · skip
                                                                                    have zc49 : ¬ (t9.toInt = 39) := by rw [fa_eq, show (39 : Int32).toInt = 39 from by decide] at c49; exact c49
                                                                                    by_cases c50 : t9 = 40
                                                                                    · skip
                                                                                      refine lv_tableIn (off := 1199) (tgt := 1232) hx hb dL_law_33 (by rw [c50]; decide) (by rw [c50]; decide) (by rw [c50]; decide) (by decide) ?_
                                                                                      have zc50 : t9.toInt = 40 := by rw [fa_eq, show (40 : Int32).toInt = 40 from by decide] at c50; exact c50
                                                                                      exact law_40 hx hb hml hown hts hE hF hT hX hbl hL (by omega) (by omega) hIv hIv1 hCf1 hRf1 heq0 hP hD hS hl fin
                                                                                    · skip
                                                                                      have zc50 : ¬ (t9.toInt = 40) := by rw [fa_eq, show (40 : Int32).toInt = 40 from by decide] at c50; exact c50
                                                                                      by_cases c51 : t9 = 41
                                                                                      · skip
                                                                                        refine lv_tableIn (off := 1222) (tgt := 1255) hx hb dL_law_33 (by rw [c51]; decide) (by rw [c51]; decide) (by rw [c51]; decide) (by decide) ?_
                                                                                        have zc51 : t9.toInt = 41 := by rw [fa_eq, show (41 : Int32).toInt = 41 from by decide] at c51; exact c51
                                                                                        exact law_41 hx hb hml hown hts hE hF hT hX hbl hL (by omega) (by omega) hIv hIv1 hCf1 hRf1 heq0 hP hD hS hl fin
                                                                                      · skip
                                                                                        have zc51 : ¬ (t9.toInt = 41) := by rw [fa_eq, show (41 : Int32).toInt = 41 from by decide] at c51; exact c51
                                                                                        by_cases c52 : t9 = 42
                                                                                        · skip
                                                                                          refine lv_tableIn (off := 1245) (tgt := 1278) hx hb dL_law_33 (by rw [c52]; decide) (by rw [c52]; decide) (by rw [c52]; decide) (by decide) ?_
                                                                                          have zc52 : t9.toInt = 42 := by rw [fa_eq, show (42 : Int32).toInt = 42 from by decide] at c52; exact c52
                                                                                          exact law_42 hx hb hml hown hts hE hF hT hX hbl hL (by omega) (by omega) hIv hIv1 hCf1 hRf1 heq0 hP hD hS hl fin
                                                                                        · skip
                                                                                          have zc52 : ¬ (t9.toInt = 42) := by rw [fa_eq, show (42 : Int32).toInt = 42 from by decide] at c52; exact c52
                                                                                          by_cases c53 : t9 = 43
                                                                                          · skip
                                                                                            refine lv_tableIn (off := 1278) (tgt := 1311) hx hb dL_law_33 (by rw [c53]; decide) (by rw [c53]; decide) (by rw [c53]; decide) (by decide) ?_
                                                                                            have zc53 : t9.toInt = 43 := by rw [fa_eq, show (43 : Int32).toInt = 43 from by decide] at c53; exact c53
                                                                                            exact law_43 hx hb hml hown hts hE hF hT hX hbl hL (by omega) (by omega) hIv hIv1 hCf1 hRf1 heq0 hP hD hS hl fin
                                                                                          · skip
                                                                                            have zc53 : ¬ (t9.toInt = 43) := by rw [fa_eq, show (43 : Int32).toInt = 43 from by decide] at c53; exact c53
                                                                                            by_cases c54 : t9 = 44
                                                                                            · skip
                                                                                              refine lv_tableIn (off := 1311) (tgt := 1344) hx hb dL_law_33 (by rw [c54]; decide) (by rw [c54]; decide) (by rw [c54]; decide) (by decide) ?_
                                                                                              have zc54 : t9.toInt = 44 := by rw [fa_eq, show (44 : Int32).toInt = 44 from by decide] at c54; exact c54
                                                                                              exact law_44 hx hb hml hown hts hE hF hT hX hbl hL (by omega) (by omega) hIv hIv1 hCf1 hRf1 heq0 hP hD hS hl fin
                                                                                            · skip
                                                                                              have zc54 : ¬ (t9.toInt = 44) := by rw [fa_eq, show (44 : Int32).toInt = 44 from by decide] at c54; exact c54
                                                                                              by_cases c55 : t9 = 45
                                                                                              · skip
                                                                                                refine lv_tableIn (off := 1334) (tgt := 1367) hx hb dL_law_33 (by rw [c55]; decide) (by rw [c55]; decide) (by rw [c55]; decide) (by decide) ?_
                                                                                                have zc55 : t9.toInt = 45 := by rw [fa_eq, show (45 : Int32).toInt = 45 from by decide] at c55; exact c55
                                                                                                exact law_45 hx hb hml hown hts hE hF hT hX hbl hL (by omega) (by omega) hIv hIv1 hCf1 hRf1 heq0 hP hD hS hl fin
                                                                                              · skip
                                                                                                have zc55 : ¬ (t9.toInt = 45) := by rw [fa_eq, show (45 : Int32).toInt = 45 from by decide] at c55; exact c55
                                                                                                by_cases c56 : t9 = 46
                                                                                                · skip
                                                                                                  refine lv_tableIn (off := 1357) (tgt := 1390) hx hb dL_law_33 (by rw [c56]; decide) (by rw [c56]; decide) (by rw [c56]; decide) (by decide) ?_
                                                                                                  have zc56 : t9.toInt = 46 := by rw [fa_eq, show (46 : Int32).toInt = 46 from by decide] at c56; exact c56
                                                                                                  exact law_46 hx hb hml hown hts hE hF hT hX hbl hL (by omega) (by omega) hIv hIv1 hCf1 hRf1 heq0 hP hD hS hl fin
                                                                                                · skip
                                                                                                  have zc56 : ¬ (t9.toInt = 46) := by rw [fa_eq, show (46 : Int32).toInt = 46 from by decide] at c56; exact c56
                                                                                                  refine lv_tableOut (tgt := 1413) hx hb dL_law_33 (by omega) (by decide) ?_
                                                                                                  exact fin v f v1 f1 w1 g1 _ _ _ hIv hIv1 hCf1 hRf1 heq0 hP hD hS hl
