set_option maxHeartbeats 4000000 in
set_option maxRecDepth 100000 in
theorem sX_X9_advance_1 (l : Launch) (dC : Nat → ClassId) (dI : Nat → Nat → Nat) (cy : Nat → ClassId) (x0 : Nat) (x : Nat → Nat)  (v : Nat → Int32) (f : Nat → Nat → Int32) (hIv : XI v)  : ctVS l (dC, dI) cy yX9_advance cX9_advance 1 6 171 0 0 ((Nat → Int32) × (Nat → Nat → Int32)) [.ref (x 0)] (XW cy x0 x v f) (fun u => XI u.1 ∧ u.1 0 = v 0 ∧ u.1 1 = v 1 ∧ u.1 9 = v 9 ∧ u.1 10 = v 10 ∧ u.1 31 = v 31 ∧ u.1 32 = v 32) (fun u => XW cy x0 x u.1 u.2) := by
  refine ctVS_of (by decide) (Nat.le_of_ble_eq_true rfl) (fun p e s m below meth c A ls Q hx hb hml hts hown hnm hE hF hT hP hD hA hl ret => ?_)
  have hown : s.vm.findClass RX9 = some m.cls := hown
  have hS : va_S A s.heap s.heap [] := va_S.rf
  have hl : lv_has ls 1 [(0, .ref (x 0))] := hl
  refine lv_aload_n hx hb dX9_advance_0 rfl (lv_at hl 0 rfl) ?_
  refine lv_aload_n hx hb dX9_advance_1 rfl (lv_at hl 0 rfl) ?_
  refine va_get (D := (dC, dI)) (ci := 9) (v := .int (v 4)) (C := RX9) (T := TX9) (N := 6) hx hb hts inB_9 hown hE.1 hP 1 rfl rfl 4 (by decide) (hts _ k_143) (fun _ h9 => h9) rfl dX9_advance_2 ?_
  have b4_v : 0 ≤ (v 4).toInt ∧ (v 4).toInt ≤ 1600 := XI.b hIv 4 (by decide)
  refine va_put (D := (dC, dI)) (ci := 9) (v := .int (v 4)) (ty := tyX9 3) (C := RX9) (T := TX9) (N := 6) hx hb hts inB_9 tyX9 tyX9_ok nmX9 hown hE.1 hP hD hS 1 rfl rfl 3 (by decide) (hts _ k_141) (fun _ h9 => h9) rfl (tyX9_ok 3 (by decide)) rfl rfl (Nat.le_of_ble_eq_true rfl) dX9_advance_5 (fun H locs hP hD hS => ?_)
  have hP : va_P (dC, dI) vwCl (XW cy x0 x (upd v 3 (v 4)) f) H := hP
  have hD : va_D A (XW cy x0 x (upd v 3 (v 4)) f) := hD
  have lp1 : ∀ (n1 : Nat)  (v1 : Nat → Int32) (f1 : Nat → Nat → Int32), XI v1 → v1 0 = (v 0) → v1 1 = (v 1) → v1 9 = (v 9) → v1 10 = (v 10) → v1 31 = (v 31) → v1 32 = (v 32) → (1600 - (v1 3).toInt).toNat < n1 → ∀ (H : Heap) (locs : List Loc) (ls : Array Slot), va_P (dC, dI) vwCl (XW cy x0 x v1 f1) H → va_D A (XW cy x0 x v1 f1) → va_S A s.heap H locs → lv_has ls 1 [(0, .ref (x 0))] → W p l e { frames := 6, cells := 0, slots := 0, locals := 171 } s m ([.ref (x 0)] : List Value).toArray below meth c H locs 0 0 Q (F0 m 8 ls []) := by
    intro n1
    induction n1 with
    | zero => intro  v1 f1 hIv1 hq0_v1 hq1_v1 hq9_v1 hq10_v1 hq31_v1 hq32_v1 hm; exact absurd hm (Nat.not_lt_zero _)
    | succ n1 ih1 =>
      intro  v1 f1 hIv1 hq0_v1 hq1_v1 hq9_v1 hq10_v1 hq31_v1 hq32_v1 hm1 H locs ls hP hD hS hl
      refine lv_aload_n hx hb dX9_advance_8 rfl (lv_at hl 0 rfl) ?_
      refine va_get (D := (dC, dI)) (ci := 9) (v := .int (v1 3)) (C := RX9) (T := TX9) (N := 6) hx hb hts inB_9 hown hE.1 hP 1 rfl rfl 3 (by decide) (hts _ k_141) (fun _ h9 => h9) rfl dX9_advance_9 ?_
      have b3_v1 : 0 ≤ (v1 3).toInt ∧ (v1 3).toInt ≤ 1600 := XI.b hIv1 3 (by decide)
      refine lv_aload_n hx hb dX9_advance_12 rfl (lv_at hl 0 rfl) ?_
      refine va_get (D := (dC, dI)) (ci := 9) (v := .int (v1 1)) (C := RX9) (T := TX9) (N := 6) hx hb hts inB_9 hown hE.1 hP 1 rfl rfl 1 (by decide) (hts _ k_137) (fun _ h9 => h9) rfl dX9_advance_13 ?_
      refine tI (y := (v 1)) hq1_v1 ?_
      have b1_v : 0 ≤ (v 1).toInt ∧ (v 1).toInt ≤ 1600 := XI.b hIv 1 (by decide)
      refine lv_icmp_ge (tgt := 60) hx hb dX9_advance_16 (by decide) (fun c2 => ?_) (fun c2 => ?_)
      · skip
        have zc2 : (v 1).toInt ≤ (v1 3).toInt := by rw [fa_le] at c2; exact c2
        have rg3 := fb_rng (v1 3)
        have rg4 := fb_rng (v 1)
        refine lv_aload_n hx hb dX9_advance_60 rfl (lv_at hl 0 rfl) ?_
        refine lv_aload_n hx hb dX9_advance_61 rfl (lv_at hl 0 rfl) ?_
        refine va_get (D := (dC, dI)) (ci := 9) (v := .int (v1 3)) (C := RX9) (T := TX9) (N := 6) hx hb hts inB_9 hown hE.1 hP 1 rfl rfl 3 (by decide) (hts _ k_141) (fun _ h9 => h9) rfl dX9_advance_62 ?_
        refine va_put (D := (dC, dI)) (ci := 9) (v := .int (v1 3)) (ty := tyX9 4) (C := RX9) (T := TX9) (N := 6) hx hb hts inB_9 tyX9 tyX9_ok nmX9 hown hE.1 hP hD hS 1 rfl rfl 4 (by decide) (hts _ k_143) (fun _ h9 => h9) rfl (tyX9_ok 4 (by decide)) rfl rfl (Nat.le_of_ble_eq_true rfl) dX9_advance_65 (fun H locs hP hD hS => ?_)
        have hP : va_P (dC, dI) vwCl (XW cy x0 x (upd v1 4 (v1 3)) f1) H := hP
        have hD : va_D A (XW cy x0 x (upd v1 4 (v1 3)) f1) := hD
        refine lv_aload_n hx hb dX9_advance_68 rfl (lv_at hl 0 rfl) ?_
        refine va_get (D := (dC, dI)) (ci := 9) (v := .int (v1 3)) (C := RX9) (T := TX9) (N := 6) hx hb hts inB_9 hown hE.1 hP 1 rfl rfl 3 (by decide) (hts _ k_141) (fun _ h9 => h9) rfl dX9_advance_69 ?_
        refine lv_aload_n hx hb dX9_advance_72 rfl (lv_at hl 0 rfl) ?_
        refine va_get (D := (dC, dI)) (ci := 9) (v := .int (v1 1)) (C := RX9) (T := TX9) (N := 6) hx hb hts inB_9 hown hE.1 hP 1 rfl rfl 1 (by decide) (hts _ k_137) (fun _ h9 => h9) rfl dX9_advance_73 ?_
        refine tI (y := (v 1)) hq1_v1 ?_
        refine lv_icmp_lt (tgt := 87) hx hb dX9_advance_76 (by decide) (fun c5 => ?_) (fun c5 => ?_)
        · skip
          have zc5 : (v1 3).toInt < (v 1).toInt := by rw [fa_lt] at c5; exact c5
          refine lv_aload_n hx hb dX9_advance_87 rfl (lv_at hl 0 rfl) ?_
          refine lv_aload_n hx hb dX9_advance_88 rfl (lv_at hl 0 rfl) ?_
          refine va_get (D := (dC, dI)) (ci := 9) (v := .int (v1 3)) (C := RX9) (T := TX9) (N := 6) hx hb hts inB_9 hown hE.1 hP 1 rfl rfl 3 (by decide) (hts _ k_141) (fun _ h9 => h9) rfl dX9_advance_89 ?_
          refine cbVi (n := 1) (rest := []) hx hb hml hown hts hE hP hD hS hA (sX_X9_isLetter_1 l dC dI cy x0 x (v1 3) (upd v1 4 (v1 3)) f1 (XI.upd (j := 4) (x := (v1 3)) hIv1 (show (0 : Int) ≤ (v1 3).toInt by omega) (show (v1 3).toInt ≤ (1600 : Int) by omega)) ) k_562 k_564 k_1 k_102 k_565 (by decide +kernel) ⟨Nat.le_of_ble_eq_true rfl, Nat.le_of_ble_eq_true rfl⟩ 1 9 rfl rfl (rfl) hl.1 rfl (Nat.le_of_ble_eq_true rfl) dX9_advance_92 (fun r6 u H locs hw hP hD hS => ?_)
          rcases hw with ⟨g7, g7_0, g7_1, g7_2⟩ | ⟨g7⟩
          · skip
            subst g7
            refine lv_if_eq (tgt := 162) hx hb dX9_advance_95 (by decide) (fun c0 => absurd c0 (by decide)) (fun _ => ?_)
            have lp8 : ∀ (n8 : Nat)  (v8 : Nat → Int32) (f8 : Nat → Nat → Int32), XI v8 → v8 0 = (v 0) → v8 1 = (v 1) → v8 9 = (v 9) → v8 10 = (v 10) → v8 31 = (v 31) → v8 32 = (v 32) → (1600 - (v8 4).toInt).toNat < n8 → ∀ (H : Heap) (locs : List Loc) (ls : Array Slot), va_P (dC, dI) vwCl (XW cy x0 x v8 f8) H → va_D A (XW cy x0 x v8 f8) → va_S A s.heap H locs → lv_has ls 1 [(0, .ref (x 0))] → W p l e { frames := 6, cells := 0, slots := 0, locals := 171 } s m ([.ref (x 0)] : List Value).toArray below meth c H locs 0 0 Q (F0 m 98 ls []) := by
              intro n8
              induction n8 with
              | zero => intro  v8 f8 hIv8 hq0_v8 hq1_v8 hq9_v8 hq10_v8 hq31_v8 hq32_v8 hm; exact absurd hm (Nat.not_lt_zero _)
              | succ n8 ih8 =>
                intro  v8 f8 hIv8 hq0_v8 hq1_v8 hq9_v8 hq10_v8 hq31_v8 hq32_v8 hm8 H locs ls hP hD hS hl
                refine lv_aload_n hx hb dX9_advance_98 rfl (lv_at hl 0 rfl) ?_
                refine va_get (D := (dC, dI)) (ci := 9) (v := .int (v8 4)) (C := RX9) (T := TX9) (N := 6) hx hb hts inB_9 hown hE.1 hP 1 rfl rfl 4 (by decide) (hts _ k_143) (fun _ h9 => h9) rfl dX9_advance_99 ?_
                have b4_v8 : 0 ≤ (v8 4).toInt ∧ (v8 4).toInt ≤ 1600 := XI.b hIv8 4 (by decide)
                refine lv_aload_n hx hb dX9_advance_102 rfl (lv_at hl 0 rfl) ?_
                refine va_get (D := (dC, dI)) (ci := 9) (v := .int (v8 1)) (C := RX9) (T := TX9) (N := 6) hx hb hts inB_9 hown hE.1 hP 1 rfl rfl 1 (by decide) (hts _ k_137) (fun _ h9 => h9) rfl dX9_advance_103 ?_
                refine tI (y := (v 1)) hq1_v8 ?_
                have b1_v : 0 ≤ (v 1).toInt ∧ (v 1).toInt ≤ 1600 := XI.b hIv 1 (by decide)
                refine lv_icmp_ge (tgt := 133) hx hb dX9_advance_106 (by decide) (fun c9 => ?_) (fun c9 => ?_)
                · skip
                  have zc9 : (v 1).toInt ≤ (v8 4).toInt := by rw [fa_le] at c9; exact c9
                  have rg10 := fb_rng (v8 4)
                  refine lv_aload_n hx hb dX9_advance_133 rfl (lv_at hl 0 rfl) ?_
                  refine lv_aload_n hx hb dX9_advance_134 rfl (lv_at hl 0 rfl) ?_
                  refine va_get (D := (dC, dI)) (ci := 9) (v := .int (v8 4)) (C := RX9) (T := TX9) (N := 6) hx hb hts inB_9 hown hE.1 hP 1 rfl rfl 4 (by decide) (hts _ k_143) (fun _ h9 => h9) rfl dX9_advance_135 ?_
                  refine lv_aload_n hx hb dX9_advance_138 rfl (lv_at hl 0 rfl) ?_
                  refine va_get (D := (dC, dI)) (ci := 9) (v := .int (v8 3)) (C := RX9) (T := TX9) (N := 6) hx hb hts inB_9 hown hE.1 hP 1 rfl rfl 3 (by decide) (hts _ k_141) (fun _ h9 => h9) rfl dX9_advance_139 ?_
                  have b3_v8 : 0 ≤ (v8 3).toInt ∧ (v8 3).toInt ≤ 1600 := XI.b hIv8 3 (by decide)
                  refine lv_isub hx hb dX9_advance_142 ?_
                  refine lv_topi (fun t11 et11 => ?_)
                  have rg12 := fb_rng (v8 3)
                  have zt11 : t11.toInt = (v8 4).toInt - (v8 3).toInt := by rw [et11]; exact sub_i rfl rfl (by omega) (by omega)
                  refine lv_bipush (v := 8) hx hb dX9_advance_143 (by decide) ?_
                  refine lv_icmp_le (tgt := 152) hx hb dX9_advance_145 (by decide) (fun c13 => ?_) (fun c13 => ?_)
                  · skip
                    have zc13 : t11.toInt ≤ 8 := by rw [fa_le, show (8 : Int32).toInt = 8 from by decide] at c13; exact c13
                    refine lv_aload_n hx hb dX9_advance_152 rfl (lv_at hl 0 rfl) ?_
                    refine csVi (n := 0) (rest := [.ref (x 0)]) hx hb hml hown hts hE hP hD hS hA hF hT (sX_X9_wordKind_1 l dC dI cy x0 x  v8 f8 hIv8 ) k_566 k_568 k_2 k_102 k_569 (by decide +kernel) ⟨Nat.le_of_ble_eq_true rfl, Nat.le_of_ble_eq_true rfl⟩ 1 9 rfl rfl (rfl) hl.1 rfl (Nat.le_of_ble_eq_true rfl) dX9_advance_153 (fun r14 u H locs hw hP hD hS => ?_)
                    refine va_put (D := (dC, dI)) (ci := 9) (v := .int r14) (ty := tyX9 2) (C := RX9) (T := TX9) (N := 6) hx hb hts inB_9 tyX9 tyX9_ok nmX9 hown hE.1 hP hD hS 1 rfl rfl 2 (by decide) (hts _ k_140) (fun _ h9 => h9) rfl (tyX9_ok 2 (by decide)) rfl rfl (Nat.le_of_ble_eq_true rfl) dX9_advance_156 (fun H locs hP hD hS => ?_)
                    have hP : va_P (dC, dI) vwCl (XW cy x0 x (upd v8 2 r14) f8) H := hP
                    have hD : va_D A (XW cy x0 x (upd v8 2 r14) f8) := hD
                    refine lv_goto (tgt := 322) hx hb dX9_advance_159 (by decide) ?_
                    exact ret ((upd v8 2 r14), f8) _ _ _ _ _ _ ⟨(XI.upd (j := 2) (x := r14) hIv8 (rlo _) (rhi _)), hq0_v8, hq1_v8, hq9_v8, hq10_v8, hq31_v8, hq32_v8⟩ hP hD hS dX9_advance_322 (Nat.le_refl _) (Nat.le_refl _)
                  · skip
                    have zc13 : ¬ (t11.toInt ≤ 8) := by rw [fa_le, show (8 : Int32).toInt = 8 from by decide] at c13; exact c13
                    refine lv_iconst (v := 1) hx hb dX9_advance_148 (by decide) ?_
                    refine lv_goto (tgt := 156) hx hb dX9_advance_149 (by decide) ?_
                    refine va_put (D := (dC, dI)) (ci := 9) (v := .int 1) (ty := tyX9 2) (C := RX9) (T := TX9) (N := 6) hx hb hts inB_9 tyX9 tyX9_ok nmX9 hown hE.1 hP hD hS 1 rfl rfl 2 (by decide) (hts _ k_140) (fun _ h9 => h9) rfl (tyX9_ok 2 (by decide)) rfl rfl (Nat.le_of_ble_eq_true rfl) dX9_advance_156 (fun H locs hP hD hS => ?_)
                    have hP : va_P (dC, dI) vwCl (XW cy x0 x (upd v8 2 1) f8) H := hP
                    have hD : va_D A (XW cy x0 x (upd v8 2 1) f8) := hD
                    refine lv_goto (tgt := 322) hx hb dX9_advance_159 (by decide) ?_
                    exact ret ((upd v8 2 1), f8) _ _ _ _ _ _ ⟨(XI.upd (j := 2) (x := 1) hIv8 (rlo _) (rhi _)), hq0_v8, hq1_v8, hq9_v8, hq10_v8, hq31_v8, hq32_v8⟩ hP hD hS dX9_advance_322 (Nat.le_refl _) (Nat.le_refl _)
                · skip
                  have zc9 : ¬ ((v 1).toInt ≤ (v8 4).toInt) := by rw [fa_le] at c9; exact c9
                  have rg15 := fb_rng (v8 4)
                  refine lv_aload_n hx hb dX9_advance_109 rfl (lv_at hl 0 rfl) ?_
                  refine lv_aload_n hx hb dX9_advance_110 rfl (lv_at hl 0 rfl) ?_
                  refine va_get (D := (dC, dI)) (ci := 9) (v := .int (v8 4)) (C := RX9) (T := TX9) (N := 6) hx hb hts inB_9 hown hE.1 hP 1 rfl rfl 4 (by decide) (hts _ k_143) (fun _ h9 => h9) rfl dX9_advance_111 ?_
                  refine cbVi (n := 1) (rest := []) hx hb hml hown hts hE hP hD hS hA (sX_X9_isLetter_1 l dC dI cy x0 x (v8 4) v8 f8 hIv8 ) k_562 k_564 k_1 k_102 k_565 (by decide +kernel) ⟨Nat.le_of_ble_eq_true rfl, Nat.le_of_ble_eq_true rfl⟩ 1 9 rfl rfl (rfl) hl.1 rfl (Nat.le_of_ble_eq_true rfl) dX9_advance_114 (fun r16 u H locs hw hP hD hS => ?_)
                  rcases hw with ⟨g17, g17_0, g17_1, g17_2⟩ | ⟨g17⟩
                  · skip
                    subst g17
                    refine lv_if_eq (tgt := 133) hx hb dX9_advance_117 (by decide) (fun c0 => absurd c0 (by decide)) (fun _ => ?_)
                    refine lv_aload_n hx hb dX9_advance_120 rfl (lv_at hl 0 rfl) ?_
                    refine lv_dup hx hb dX9_advance_121 rfl ?_
                    refine va_get (D := (dC, dI)) (ci := 9) (v := .int (v8 4)) (C := RX9) (T := TX9) (N := 6) hx hb hts inB_9 hown hE.1 hP 1 rfl rfl 4 (by decide) (hts _ k_143) (fun _ h9 => h9) rfl dX9_advance_122 ?_
                    refine lv_iconst (v := 1) hx hb dX9_advance_125 (by decide) ?_
                    refine lv_iadd hx hb dX9_advance_126 ?_
                    refine lv_topi (fun t18 et18 => ?_)
                    have zt18 : t18.toInt = (v8 4).toInt + 1 := by rw [et18]; exact add_i rfl (by decide) (by omega) (by omega)
                    refine va_put (D := (dC, dI)) (ci := 9) (v := .int t18) (ty := tyX9 4) (C := RX9) (T := TX9) (N := 6) hx hb hts inB_9 tyX9 tyX9_ok nmX9 hown hE.1 hP hD hS 1 rfl rfl 4 (by decide) (hts _ k_143) (fun _ h9 => h9) rfl (tyX9_ok 4 (by decide)) rfl rfl (Nat.le_of_ble_eq_true rfl) dX9_advance_127 (fun H locs hP hD hS => ?_)
                    have hP : va_P (dC, dI) vwCl (XW cy x0 x (upd v8 4 t18) f8) H := hP
                    have hD : va_D A (XW cy x0 x (upd v8 4 t18) f8) := hD
                    refine lv_goto (tgt := 98) hx hb dX9_advance_130 (by decide) ?_
                    exact ih8  (upd v8 4 t18) f8 (XI.upd (j := 4) (x := t18) hIv8 (show (0 : Int) ≤ t18.toInt by omega) (show t18.toInt ≤ (1600 : Int) by omega)) hq0_v8 hq1_v8 hq9_v8 hq10_v8 hq31_v8 hq32_v8  (by show (1600 - t18.toInt).toNat < n8; omega) _ _ _ hP hD hS (lv_sub hl [0] rfl)
                  · skip
                    subst g17
                    refine lv_if_eq (tgt := 133) hx hb dX9_advance_117 (by decide) (fun _ => ?_) (fun c0 => absurd (by decide) c0)
                    refine lv_aload_n hx hb dX9_advance_133 rfl (lv_at hl 0 rfl) ?_
                    refine lv_aload_n hx hb dX9_advance_134 rfl (lv_at hl 0 rfl) ?_
                    refine va_get (D := (dC, dI)) (ci := 9) (v := .int (v8 4)) (C := RX9) (T := TX9) (N := 6) hx hb hts inB_9 hown hE.1 hP 1 rfl rfl 4 (by decide) (hts _ k_143) (fun _ h9 => h9) rfl dX9_advance_135 ?_
                    refine lv_aload_n hx hb dX9_advance_138 rfl (lv_at hl 0 rfl) ?_
                    refine va_get (D := (dC, dI)) (ci := 9) (v := .int (v8 3)) (C := RX9) (T := TX9) (N := 6) hx hb hts inB_9 hown hE.1 hP 1 rfl rfl 3 (by decide) (hts _ k_141) (fun _ h9 => h9) rfl dX9_advance_139 ?_
                    have b3_v8 : 0 ≤ (v8 3).toInt ∧ (v8 3).toInt ≤ 1600 := XI.b hIv8 3 (by decide)
                    refine lv_isub hx hb dX9_advance_142 ?_
                    refine lv_topi (fun t19 et19 => ?_)
                    have rg20 := fb_rng (v8 3)
                    have zt19 : t19.toInt = (v8 4).toInt - (v8 3).toInt := by rw [et19]; exact sub_i rfl rfl (by omega) (by omega)
                    refine lv_bipush (v := 8) hx hb dX9_advance_143 (by decide) ?_
                    refine lv_icmp_le (tgt := 152) hx hb dX9_advance_145 (by decide) (fun c21 => ?_) (fun c21 => ?_)
                    · skip
                      have zc21 : t19.toInt ≤ 8 := by rw [fa_le, show (8 : Int32).toInt = 8 from by decide] at c21; exact c21
                      refine lv_aload_n hx hb dX9_advance_152 rfl (lv_at hl 0 rfl) ?_
                      refine csVi (n := 0) (rest := [.ref (x 0)]) hx hb hml hown hts hE hP hD hS hA hF hT (sX_X9_wordKind_1 l dC dI cy x0 x  v8 f8 hIv8 ) k_566 k_568 k_2 k_102 k_569 (by decide +kernel) ⟨Nat.le_of_ble_eq_true rfl, Nat.le_of_ble_eq_true rfl⟩ 1 9 rfl rfl (rfl) hl.1 rfl (Nat.le_of_ble_eq_true rfl) dX9_advance_153 (fun r22 u H locs hw hP hD hS => ?_)
                      refine va_put (D := (dC, dI)) (ci := 9) (v := .int r22) (ty := tyX9 2) (C := RX9) (T := TX9) (N := 6) hx hb hts inB_9 tyX9 tyX9_ok nmX9 hown hE.1 hP hD hS 1 rfl rfl 2 (by decide) (hts _ k_140) (fun _ h9 => h9) rfl (tyX9_ok 2 (by decide)) rfl rfl (Nat.le_of_ble_eq_true rfl) dX9_advance_156 (fun H locs hP hD hS => ?_)
                      have hP : va_P (dC, dI) vwCl (XW cy x0 x (upd v8 2 r22) f8) H := hP
                      have hD : va_D A (XW cy x0 x (upd v8 2 r22) f8) := hD
                      refine lv_goto (tgt := 322) hx hb dX9_advance_159 (by decide) ?_
                      exact ret ((upd v8 2 r22), f8) _ _ _ _ _ _ ⟨(XI.upd (j := 2) (x := r22) hIv8 (rlo _) (rhi _)), hq0_v8, hq1_v8, hq9_v8, hq10_v8, hq31_v8, hq32_v8⟩ hP hD hS dX9_advance_322 (Nat.le_refl _) (Nat.le_refl _)
                    · skip
                      have zc21 : ¬ (t19.toInt ≤ 8) := by rw [fa_le, show (8 : Int32).toInt = 8 from by decide] at c21; exact c21
                      refine lv_iconst (v := 1) hx hb dX9_advance_148 (by decide) ?_
                      refine lv_goto (tgt := 156) hx hb dX9_advance_149 (by decide) ?_
                      refine va_put (D := (dC, dI)) (ci := 9) (v := .int 1) (ty := tyX9 2) (C := RX9) (T := TX9) (N := 6) hx hb hts inB_9 tyX9 tyX9_ok nmX9 hown hE.1 hP hD hS 1 rfl rfl 2 (by decide) (hts _ k_140) (fun _ h9 => h9) rfl (tyX9_ok 2 (by decide)) rfl rfl (Nat.le_of_ble_eq_true rfl) dX9_advance_156 (fun H locs hP hD hS => ?_)
                      have hP : va_P (dC, dI) vwCl (XW cy x0 x (upd v8 2 1) f8) H := hP
                      have hD : va_D A (XW cy x0 x (upd v8 2 1) f8) := hD
                      refine lv_goto (tgt := 322) hx hb dX9_advance_159 (by decide) ?_
                      exact ret ((upd v8 2 1), f8) _ _ _ _ _ _ ⟨(XI.upd (j := 2) (x := 1) hIv8 (rlo _) (rhi _)), hq0_v8, hq1_v8, hq9_v8, hq10_v8, hq31_v8, hq32_v8⟩ hP hD hS dX9_advance_322 (Nat.le_refl _) (Nat.le_refl _)
            exact lp8 _  (upd v1 4 (v1 3)) f1 (XI.upd (j := 4) (x := (v1 3)) hIv1 (show (0 : Int) ≤ (v1 3).toInt by omega) (show (v1 3).toInt ≤ (1600 : Int) by omega)) hq0_v1 hq1_v1 hq9_v1 hq10_v1 hq31_v1 hq32_v1  (Nat.lt_succ_self _) _ _ _ hP hD hS (lv_sub hl [0] rfl)
          · skip
            subst g7
            refine lv_if_eq (tgt := 162) hx hb dX9_advance_95 (by decide) (fun _ => ?_) (fun c0 => absurd (by decide) c0)
            refine lv_aload_n hx hb dX9_advance_162 rfl (lv_at hl 0 rfl) ?_
            refine lv_aload_n hx hb dX9_advance_163 rfl (lv_at hl 0 rfl) ?_
            refine va_get (D := (dC, dI)) (ci := 9) (v := .int (v1 3)) (C := RX9) (T := TX9) (N := 6) hx hb hts inB_9 hown hE.1 hP 1 rfl rfl 3 (by decide) (hts _ k_141) (fun _ h9 => h9) rfl dX9_advance_164 ?_
            refine cbVi (n := 1) (rest := []) hx hb hml hown hts hE hP hD hS hA (sX_X9_isDigit_1 l dC dI cy x0 x (v1 3) (upd v1 4 (v1 3)) f1 (XI.upd (j := 4) (x := (v1 3)) hIv1 (show (0 : Int) ≤ (v1 3).toInt by omega) (show (v1 3).toInt ≤ (1600 : Int) by omega)) ) k_619 k_621 k_3 k_102 k_622 (by decide +kernel) ⟨Nat.le_of_ble_eq_true rfl, Nat.le_of_ble_eq_true rfl⟩ 1 9 rfl rfl (rfl) hl.1 rfl (Nat.le_of_ble_eq_true rfl) dX9_advance_167 (fun r23 u H locs hw hP hD hS => ?_)
            rcases hw with ⟨g24, g24_0, g24_1, g24_2⟩ | ⟨g24⟩
            · skip
              subst g24
              refine lv_if_eq (tgt := 273) hx hb dX9_advance_170 (by decide) (fun c0 => absurd c0 (by decide)) (fun _ => ?_)
              refine lv_aload_n hx hb dX9_advance_173 rfl (lv_at hl 0 rfl) ?_
              refine lv_iconst (v := 0) hx hb dX9_advance_174 (by decide) ?_
              refine va_put (D := (dC, dI)) (ci := 9) (v := .int 0) (ty := tyX9 5) (C := RX9) (T := TX9) (N := 6) hx hb hts inB_9 tyX9 tyX9_ok nmX9 hown hE.1 hP hD hS 1 rfl rfl 5 (by decide) (hts _ k_144) (fun _ h9 => h9) rfl (tyX9_ok 5 (by decide)) rfl rfl (Nat.le_of_ble_eq_true rfl) dX9_advance_175 (fun H locs hP hD hS => ?_)
              have hP : va_P (dC, dI) vwCl (XW cy x0 x (upd (upd v1 4 (v1 3)) 5 0) f1) H := hP
              have hD : va_D A (XW cy x0 x (upd (upd v1 4 (v1 3)) 5 0) f1) := hD
              have lp25 : ∀ (n25 : Nat)  (v25 : Nat → Int32) (f25 : Nat → Nat → Int32), XI v25 → v25 0 = (v 0) → v25 1 = (v 1) → v25 9 = (v 9) → v25 10 = (v 10) → v25 31 = (v 31) → v25 32 = (v 32) → (1600 - (v25 4).toInt).toNat < n25 → ∀ (H : Heap) (locs : List Loc) (ls : Array Slot), va_P (dC, dI) vwCl (XW cy x0 x v25 f25) H → va_D A (XW cy x0 x v25 f25) → va_S A s.heap H locs → lv_has ls 1 [(0, .ref (x 0))] → W p l e { frames := 6, cells := 0, slots := 0, locals := 171 } s m ([.ref (x 0)] : List Value).toArray below meth c H locs 0 0 Q (F0 m 178 ls []) := by
                intro n25
                induction n25 with
                | zero => intro  v25 f25 hIv25 hq0_v25 hq1_v25 hq9_v25 hq10_v25 hq31_v25 hq32_v25 hm; exact absurd hm (Nat.not_lt_zero _)
                | succ n25 ih25 =>
                  intro  v25 f25 hIv25 hq0_v25 hq1_v25 hq9_v25 hq10_v25 hq31_v25 hq32_v25 hm25 H locs ls hP hD hS hl
                  refine lv_aload_n hx hb dX9_advance_178 rfl (lv_at hl 0 rfl) ?_
                  refine va_get (D := (dC, dI)) (ci := 9) (v := .int (v25 4)) (C := RX9) (T := TX9) (N := 6) hx hb hts inB_9 hown hE.1 hP 1 rfl rfl 4 (by decide) (hts _ k_143) (fun _ h9 => h9) rfl dX9_advance_179 ?_
                  have b4_v25 : 0 ≤ (v25 4).toInt ∧ (v25 4).toInt ≤ 1600 := XI.b hIv25 4 (by decide)
                  refine lv_aload_n hx hb dX9_advance_182 rfl (lv_at hl 0 rfl) ?_
                  refine va_get (D := (dC, dI)) (ci := 9) (v := .int (v25 1)) (C := RX9) (T := TX9) (N := 6) hx hb hts inB_9 hown hE.1 hP 1 rfl rfl 1 (by decide) (hts _ k_137) (fun _ h9 => h9) rfl dX9_advance_183 ?_
                  refine tI (y := (v 1)) hq1_v25 ?_
                  have b1_v : 0 ≤ (v 1).toInt ∧ (v 1).toInt ≤ 1600 := XI.b hIv 1 (by decide)
                  refine lv_icmp_ge (tgt := 237) hx hb dX9_advance_186 (by decide) (fun c26 => ?_) (fun c26 => ?_)
                  · skip
                    have zc26 : (v 1).toInt ≤ (v25 4).toInt := by rw [fa_le] at c26; exact c26
                    have rg27 := fb_rng (v25 4)
                    refine lv_aload_n hx hb dX9_advance_237 rfl (lv_at hl 0 rfl) ?_
                    refine lv_aload_n hx hb dX9_advance_238 rfl (lv_at hl 0 rfl) ?_
                    refine va_get (D := (dC, dI)) (ci := 9) (v := .int (v25 4)) (C := RX9) (T := TX9) (N := 6) hx hb hts inB_9 hown hE.1 hP 1 rfl rfl 4 (by decide) (hts _ k_143) (fun _ h9 => h9) rfl dX9_advance_239 ?_
                    refine lv_aload_n hx hb dX9_advance_242 rfl (lv_at hl 0 rfl) ?_
                    refine va_get (D := (dC, dI)) (ci := 9) (v := .int (v25 3)) (C := RX9) (T := TX9) (N := 6) hx hb hts inB_9 hown hE.1 hP 1 rfl rfl 3 (by decide) (hts _ k_141) (fun _ h9 => h9) rfl dX9_advance_243 ?_
                    have b3_v25 : 0 ≤ (v25 3).toInt ∧ (v25 3).toInt ≤ 1600 := XI.b hIv25 3 (by decide)
                    refine lv_isub hx hb dX9_advance_246 ?_
                    refine lv_topi (fun t28 et28 => ?_)
                    have rg29 := fb_rng (v25 3)
                    have zt28 : t28.toInt = (v25 4).toInt - (v25 3).toInt := by rw [et28]; exact sub_i rfl rfl (by omega) (by omega)
                    refine lv_iconst (v := 4) hx hb dX9_advance_247 (by decide) ?_
                    refine lv_icmp_gt (tgt := 262) hx hb dX9_advance_248 (by decide) (fun c30 => ?_) (fun c30 => ?_)
                    · skip
                      have zc30 : 4 < t28.toInt := by rw [fa_lt, show (4 : Int32).toInt = 4 from by decide] at c30; exact c30
                      refine lv_iconst (v := 1) hx hb dX9_advance_262 (by decide) ?_
                      refine lv_goto (tgt := 267) hx hb dX9_advance_263 (by decide) ?_
                      refine va_put (D := (dC, dI)) (ci := 9) (v := .int 1) (ty := tyX9 2) (C := RX9) (T := TX9) (N := 6) hx hb hts inB_9 tyX9 tyX9_ok nmX9 hown hE.1 hP hD hS 1 rfl rfl 2 (by decide) (hts _ k_140) (fun _ h9 => h9) rfl (tyX9_ok 2 (by decide)) rfl rfl (Nat.le_of_ble_eq_true rfl) dX9_advance_267 (fun H locs hP hD hS => ?_)
                      have hP : va_P (dC, dI) vwCl (XW cy x0 x (upd v25 2 1) f25) H := hP
                      have hD : va_D A (XW cy x0 x (upd v25 2 1) f25) := hD
                      refine lv_goto (tgt := 322) hx hb dX9_advance_270 (by decide) ?_
                      exact ret ((upd v25 2 1), f25) _ _ _ _ _ _ ⟨(XI.upd (j := 2) (x := 1) hIv25 (rlo _) (rhi _)), hq0_v25, hq1_v25, hq9_v25, hq10_v25, hq31_v25, hq32_v25⟩ hP hD hS dX9_advance_322 (Nat.le_refl _) (Nat.le_refl _)
                    · skip
                      have zc30 : ¬ (4 < t28.toInt) := by rw [fa_lt, show (4 : Int32).toInt = 4 from by decide] at c30; exact c30
                      refine lv_aload_n hx hb dX9_advance_251 rfl (lv_at hl 0 rfl) ?_
                      refine lv_aload_n hx hb dX9_advance_252 rfl (lv_at hl 0 rfl) ?_
                      refine va_get (D := (dC, dI)) (ci := 9) (v := .int (v25 4)) (C := RX9) (T := TX9) (N := 6) hx hb hts inB_9 hown hE.1 hP 1 rfl rfl 4 (by decide) (hts _ k_143) (fun _ h9 => h9) rfl dX9_advance_253 ?_
                      refine cbVi (n := 1) (rest := [.ref (x 0)]) hx hb hml hown hts hE hP hD hS hA (sX_X9_isLetter_1 l dC dI cy x0 x (v25 4) v25 f25 hIv25 ) k_562 k_564 k_1 k_102 k_565 (by decide +kernel) ⟨Nat.le_of_ble_eq_true rfl, Nat.le_of_ble_eq_true rfl⟩ 1 9 rfl rfl (rfl) hl.1 rfl (Nat.le_of_ble_eq_true rfl) dX9_advance_256 (fun r31 u H locs hw hP hD hS => ?_)
                      rcases hw with ⟨g32, g32_0, g32_1, g32_2⟩ | ⟨g32⟩
                      · skip
                        subst g32
                        refine lv_if_eq (tgt := 266) hx hb dX9_advance_259 (by decide) (fun c0 => absurd c0 (by decide)) (fun _ => ?_)
                        refine lv_iconst (v := 1) hx hb dX9_advance_262 (by decide) ?_
                        refine lv_goto (tgt := 267) hx hb dX9_advance_263 (by decide) ?_
                        refine va_put (D := (dC, dI)) (ci := 9) (v := .int 1) (ty := tyX9 2) (C := RX9) (T := TX9) (N := 6) hx hb hts inB_9 tyX9 tyX9_ok nmX9 hown hE.1 hP hD hS 1 rfl rfl 2 (by decide) (hts _ k_140) (fun _ h9 => h9) rfl (tyX9_ok 2 (by decide)) rfl rfl (Nat.le_of_ble_eq_true rfl) dX9_advance_267 (fun H locs hP hD hS => ?_)
                        have hP : va_P (dC, dI) vwCl (XW cy x0 x (upd v25 2 1) f25) H := hP
                        have hD : va_D A (XW cy x0 x (upd v25 2 1) f25) := hD
                        refine lv_goto (tgt := 322) hx hb dX9_advance_270 (by decide) ?_
                        exact ret ((upd v25 2 1), f25) _ _ _ _ _ _ ⟨(XI.upd (j := 2) (x := 1) hIv25 (rlo _) (rhi _)), hq0_v25, hq1_v25, hq9_v25, hq10_v25, hq31_v25, hq32_v25⟩ hP hD hS dX9_advance_322 (Nat.le_refl _) (Nat.le_refl _)
                      · skip
                        subst g32
                        refine lv_if_eq (tgt := 266) hx hb dX9_advance_259 (by decide) (fun _ => ?_) (fun c0 => absurd (by decide) c0)
                        refine lv_iconst (v := 2) hx hb dX9_advance_266 (by decide) ?_
                        refine va_put (D := (dC, dI)) (ci := 9) (v := .int 2) (ty := tyX9 2) (C := RX9) (T := TX9) (N := 6) hx hb hts inB_9 tyX9 tyX9_ok nmX9 hown hE.1 hP hD hS 1 rfl rfl 2 (by decide) (hts _ k_140) (fun _ h9 => h9) rfl (tyX9_ok 2 (by decide)) rfl rfl (Nat.le_of_ble_eq_true rfl) dX9_advance_267 (fun H locs hP hD hS => ?_)
                        have hP : va_P (dC, dI) vwCl (XW cy x0 x (upd v25 2 2) f25) H := hP
                        have hD : va_D A (XW cy x0 x (upd v25 2 2) f25) := hD
                        refine lv_goto (tgt := 322) hx hb dX9_advance_270 (by decide) ?_
                        exact ret ((upd v25 2 2), f25) _ _ _ _ _ _ ⟨(XI.upd (j := 2) (x := 2) hIv25 (rlo _) (rhi _)), hq0_v25, hq1_v25, hq9_v25, hq10_v25, hq31_v25, hq32_v25⟩ hP hD hS dX9_advance_322 (Nat.le_refl _) (Nat.le_refl _)
                  · skip
                    have zc26 : ¬ ((v 1).toInt ≤ (v25 4).toInt) := by rw [fa_le] at c26; exact c26
                    have rg33 := fb_rng (v25 4)
                    refine lv_aload_n hx hb dX9_advance_189 rfl (lv_at hl 0 rfl) ?_
                    refine lv_aload_n hx hb dX9_advance_190 rfl (lv_at hl 0 rfl) ?_
                    refine va_get (D := (dC, dI)) (ci := 9) (v := .int (v25 4)) (C := RX9) (T := TX9) (N := 6) hx hb hts inB_9 hown hE.1 hP 1 rfl rfl 4 (by decide) (hts _ k_143) (fun _ h9 => h9) rfl dX9_advance_191 ?_
                    refine cbVi (n := 1) (rest := []) hx hb hml hown hts hE hP hD hS hA (sX_X9_isDigit_1 l dC dI cy x0 x (v25 4) v25 f25 hIv25 ) k_619 k_621 k_3 k_102 k_622 (by decide +kernel) ⟨Nat.le_of_ble_eq_true rfl, Nat.le_of_ble_eq_true rfl⟩ 1 9 rfl rfl (rfl) hl.1 rfl (Nat.le_of_ble_eq_true rfl) dX9_advance_194 (fun r34 u H locs hw hP hD hS => ?_)
                    rcases hw with ⟨g35, g35_0, g35_1, g35_2⟩ | ⟨g35⟩
                    · skip
                      subst g35
                      refine lv_if_eq (tgt := 237) hx hb dX9_advance_197 (by decide) (fun c0 => absurd c0 (by decide)) (fun _ => ?_)
                      refine lv_aload_n hx hb dX9_advance_200 rfl (lv_at hl 0 rfl) ?_
                      refine lv_aload_n hx hb dX9_advance_201 rfl (lv_at hl 0 rfl) ?_
                      refine va_get (D := (dC, dI)) (ci := 9) (v := .int (v25 5)) (C := RX9) (T := TX9) (N := 6) hx hb hts inB_9 hown hE.1 hP 1 rfl rfl 5 (by decide) (hts _ k_144) (fun _ h9 => h9) rfl dX9_advance_202 ?_
                      refine lv_bipush (v := 10) hx hb dX9_advance_205 (by decide) ?_
                      refine lv_imul hx hb dX9_advance_207 ?_
                      refine lv_topi (fun t36 et36 => ?_)
                      refine lv_aload_n hx hb dX9_advance_208 rfl (lv_at hl 0 rfl) ?_
                      refine va_get (D := (dC, dI)) (ci := 9) (v := .ref (x 1)) (C := RX9) (T := TX9) (N := 6) hx hb hts inB_9 hown hE.1 hP 1 rfl rfl 0 (by decide) (hts _ k_136) (fun _ h9 => h9) rfl dX9_advance_209 ?_
                      refine lv_aload_n hx hb dX9_advance_212 rfl (lv_at hl 0 rfl) ?_
                      refine va_get (D := (dC, dI)) (ci := 9) (v := .int (v25 4)) (C := RX9) (T := TX9) (N := 6) hx hb hts inB_9 hown hE.1 hP 1 rfl rfl 4 (by decide) (hts _ k_143) (fun _ h9 => h9) rfl dX9_advance_213 ?_
                      refine ldB hx hb hE hP 2 rfl (vp_in_iff.mpr ⟨by omega, by omega⟩) rfl rfl dX9_advance_216 ?_
                      refine lv_topi (fun t37 et37 => ?_)
                      refine lv_iadd hx hb dX9_advance_217 ?_
                      refine lv_topi (fun t38 et38 => ?_)
                      refine lv_bipush (v := 48) hx hb dX9_advance_218 (by decide) ?_
                      refine lv_isub hx hb dX9_advance_220 ?_
                      refine lv_topi (fun t39 et39 => ?_)
                      refine va_put (D := (dC, dI)) (ci := 9) (v := .int t39) (ty := tyX9 5) (C := RX9) (T := TX9) (N := 6) hx hb hts inB_9 tyX9 tyX9_ok nmX9 hown hE.1 hP hD hS 1 rfl rfl 5 (by decide) (hts _ k_144) (fun _ h9 => h9) rfl (tyX9_ok 5 (by decide)) rfl rfl (Nat.le_of_ble_eq_true rfl) dX9_advance_221 (fun H locs hP hD hS => ?_)
                      have hP : va_P (dC, dI) vwCl (XW cy x0 x (upd v25 5 t39) f25) H := hP
                      have hD : va_D A (XW cy x0 x (upd v25 5 t39) f25) := hD
                      refine lv_aload_n hx hb dX9_advance_224 rfl (lv_at hl 0 rfl) ?_
                      refine lv_dup hx hb dX9_advance_225 rfl ?_
                      refine va_get (D := (dC, dI)) (ci := 9) (v := .int (v25 4)) (C := RX9) (T := TX9) (N := 6) hx hb hts inB_9 hown hE.1 hP 1 rfl rfl 4 (by decide) (hts _ k_143) (fun _ h9 => h9) rfl dX9_advance_226 ?_
                      refine lv_iconst (v := 1) hx hb dX9_advance_229 (by decide) ?_
                      refine lv_iadd hx hb dX9_advance_230 ?_
                      refine lv_topi (fun t40 et40 => ?_)
                      have zt40 : t40.toInt = (v25 4).toInt + 1 := by rw [et40]; exact add_i rfl (by decide) (by omega) (by omega)
                      refine va_put (D := (dC, dI)) (ci := 9) (v := .int t40) (ty := tyX9 4) (C := RX9) (T := TX9) (N := 6) hx hb hts inB_9 tyX9 tyX9_ok nmX9 hown hE.1 hP hD hS 1 rfl rfl 4 (by decide) (hts _ k_143) (fun _ h9 => h9) rfl (tyX9_ok 4 (by decide)) rfl rfl (Nat.le_of_ble_eq_true rfl) dX9_advance_231 (fun H locs hP hD hS => ?_)
                      have hP : va_P (dC, dI) vwCl (XW cy x0 x (upd (upd v25 5 t39) 4 t40) f25) H := hP
                      have hD : va_D A (XW cy x0 x (upd (upd v25 5 t39) 4 t40) f25) := hD
                      refine lv_goto (tgt := 178) hx hb dX9_advance_234 (by decide) ?_
                      exact ih25  (upd (upd v25 5 t39) 4 t40) f25 (XI.upd (j := 4) (x := t40) (XI.upd (j := 5) (x := t39) hIv25 (rlo _) (rhi _)) (show (0 : Int) ≤ t40.toInt by omega) (show t40.toInt ≤ (1600 : Int) by omega)) hq0_v25 hq1_v25 hq9_v25 hq10_v25 hq31_v25 hq32_v25  (by show (1600 - t40.toInt).toNat < n25; omega) _ _ _ hP hD hS (lv_sub hl [0] rfl)
                    · skip
                      subst g35
                      refine lv_if_eq (tgt := 237) hx hb dX9_advance_197 (by decide) (fun _ => ?_) (fun c0 => absurd (by decide) c0)
                      refine lv_aload_n hx hb dX9_advance_237 rfl (lv_at hl 0 rfl) ?_
                      refine lv_aload_n hx hb dX9_advance_238 rfl (lv_at hl 0 rfl) ?_
                      refine va_get (D := (dC, dI)) (ci := 9) (v := .int (v25 4)) (C := RX9) (T := TX9) (N := 6) hx hb hts inB_9 hown hE.1 hP 1 rfl rfl 4 (by decide) (hts _ k_143) (fun _ h9 => h9) rfl dX9_advance_239 ?_
                      refine lv_aload_n hx hb dX9_advance_242 rfl (lv_at hl 0 rfl) ?_
                      refine va_get (D := (dC, dI)) (ci := 9) (v := .int (v25 3)) (C := RX9) (T := TX9) (N := 6) hx hb hts inB_9 hown hE.1 hP 1 rfl rfl 3 (by decide) (hts _ k_141) (fun _ h9 => h9) rfl dX9_advance_243 ?_
                      have b3_v25 : 0 ≤ (v25 3).toInt ∧ (v25 3).toInt ≤ 1600 := XI.b hIv25 3 (by decide)
                      refine lv_isub hx hb dX9_advance_246 ?_
                      refine lv_topi (fun t41 et41 => ?_)
                      have rg42 := fb_rng (v25 3)
                      have zt41 : t41.toInt = (v25 4).toInt - (v25 3).toInt := by rw [et41]; exact sub_i rfl rfl (by omega) (by omega)
                      refine lv_iconst (v := 4) hx hb dX9_advance_247 (by decide) ?_
                      refine lv_icmp_gt (tgt := 262) hx hb dX9_advance_248 (by decide) (fun c43 => ?_) (fun c43 => ?_)
                      · skip
                        have zc43 : 4 < t41.toInt := by rw [fa_lt, show (4 : Int32).toInt = 4 from by decide] at c43; exact c43
                        refine lv_iconst (v := 1) hx hb dX9_advance_262 (by decide) ?_
                        refine lv_goto (tgt := 267) hx hb dX9_advance_263 (by decide) ?_
                        refine va_put (D := (dC, dI)) (ci := 9) (v := .int 1) (ty := tyX9 2) (C := RX9) (T := TX9) (N := 6) hx hb hts inB_9 tyX9 tyX9_ok nmX9 hown hE.1 hP hD hS 1 rfl rfl 2 (by decide) (hts _ k_140) (fun _ h9 => h9) rfl (tyX9_ok 2 (by decide)) rfl rfl (Nat.le_of_ble_eq_true rfl) dX9_advance_267 (fun H locs hP hD hS => ?_)
                        have hP : va_P (dC, dI) vwCl (XW cy x0 x (upd v25 2 1) f25) H := hP
                        have hD : va_D A (XW cy x0 x (upd v25 2 1) f25) := hD
                        refine lv_goto (tgt := 322) hx hb dX9_advance_270 (by decide) ?_
                        exact ret ((upd v25 2 1), f25) _ _ _ _ _ _ ⟨(XI.upd (j := 2) (x := 1) hIv25 (rlo _) (rhi _)), hq0_v25, hq1_v25, hq9_v25, hq10_v25, hq31_v25, hq32_v25⟩ hP hD hS dX9_advance_322 (Nat.le_refl _) (Nat.le_refl _)
                      · skip
                        have zc43 : ¬ (4 < t41.toInt) := by rw [fa_lt, show (4 : Int32).toInt = 4 from by decide] at c43; exact c43
                        refine lv_aload_n hx hb dX9_advance_251 rfl (lv_at hl 0 rfl) ?_
                        refine lv_aload_n hx hb dX9_advance_252 rfl (lv_at hl 0 rfl) ?_
                        refine va_get (D := (dC, dI)) (ci := 9) (v := .int (v25 4)) (C := RX9) (T := TX9) (N := 6) hx hb hts inB_9 hown hE.1 hP 1 rfl rfl 4 (by decide) (hts _ k_143) (fun _ h9 => h9) rfl dX9_advance_253 ?_
                        refine cbVi (n := 1) (rest := [.ref (x 0)]) hx hb hml hown hts hE hP hD hS hA (sX_X9_isLetter_1 l dC dI cy x0 x (v25 4) v25 f25 hIv25 ) k_562 k_564 k_1 k_102 k_565 (by decide +kernel) ⟨Nat.le_of_ble_eq_true rfl, Nat.le_of_ble_eq_true rfl⟩ 1 9 rfl rfl (rfl) hl.1 rfl (Nat.le_of_ble_eq_true rfl) dX9_advance_256 (fun r44 u H locs hw hP hD hS => ?_)
                        rcases hw with ⟨g45, g45_0, g45_1, g45_2⟩ | ⟨g45⟩
                        · skip
                          subst g45
                          refine lv_if_eq (tgt := 266) hx hb dX9_advance_259 (by decide) (fun c0 => absurd c0 (by decide)) (fun _ => ?_)
                          refine lv_iconst (v := 1) hx hb dX9_advance_262 (by decide) ?_
                          refine lv_goto (tgt := 267) hx hb dX9_advance_263 (by decide) ?_
                          refine va_put (D := (dC, dI)) (ci := 9) (v := .int 1) (ty := tyX9 2) (C := RX9) (T := TX9) (N := 6) hx hb hts inB_9 tyX9 tyX9_ok nmX9 hown hE.1 hP hD hS 1 rfl rfl 2 (by decide) (hts _ k_140) (fun _ h9 => h9) rfl (tyX9_ok 2 (by decide)) rfl rfl (Nat.le_of_ble_eq_true rfl) dX9_advance_267 (fun H locs hP hD hS => ?_)
                          have hP : va_P (dC, dI) vwCl (XW cy x0 x (upd v25 2 1) f25) H := hP
                          have hD : va_D A (XW cy x0 x (upd v25 2 1) f25) := hD
                          refine lv_goto (tgt := 322) hx hb dX9_advance_270 (by decide) ?_
                          exact ret ((upd v25 2 1), f25) _ _ _ _ _ _ ⟨(XI.upd (j := 2) (x := 1) hIv25 (rlo _) (rhi _)), hq0_v25, hq1_v25, hq9_v25, hq10_v25, hq31_v25, hq32_v25⟩ hP hD hS dX9_advance_322 (Nat.le_refl _) (Nat.le_refl _)
                        · skip
                          subst g45
                          refine lv_if_eq (tgt := 266) hx hb dX9_advance_259 (by decide) (fun _ => ?_) (fun c0 => absurd (by decide) c0)
                          refine lv_iconst (v := 2) hx hb dX9_advance_266 (by decide) ?_
                          refine va_put (D := (dC, dI)) (ci := 9) (v := .int 2) (ty := tyX9 2) (C := RX9) (T := TX9) (N := 6) hx hb hts inB_9 tyX9 tyX9_ok nmX9 hown hE.1 hP hD hS 1 rfl rfl 2 (by decide) (hts _ k_140) (fun _ h9 => h9) rfl (tyX9_ok 2 (by decide)) rfl rfl (Nat.le_of_ble_eq_true rfl) dX9_advance_267 (fun H locs hP hD hS => ?_)
                          have hP : va_P (dC, dI) vwCl (XW cy x0 x (upd v25 2 2) f25) H := hP
                          have hD : va_D A (XW cy x0 x (upd v25 2 2) f25) := hD
                          refine lv_goto (tgt := 322) hx hb dX9_advance_270 (by decide) ?_
                          exact ret ((upd v25 2 2), f25) _ _ _ _ _ _ ⟨(XI.upd (j := 2) (x := 2) hIv25 (rlo _) (rhi _)), hq0_v25, hq1_v25, hq9_v25, hq10_v25, hq31_v25, hq32_v25⟩ hP hD hS dX9_advance_322 (Nat.le_refl _) (Nat.le_refl _)
              exact lp25 _  (upd (upd v1 4 (v1 3)) 5 0) f1 (XI.upd (j := 5) (x := 0) (XI.upd (j := 4) (x := (v1 3)) hIv1 (show (0 : Int) ≤ (v1 3).toInt by omega) (show (v1 3).toInt ≤ (1600 : Int) by omega)) (rlo _) (rhi _)) hq0_v1 hq1_v1 hq9_v1 hq10_v1 hq31_v1 hq32_v1  (Nat.lt_succ_self _) _ _ _ hP hD hS (lv_sub hl [0] rfl)
            · skip
              subst g24
              refine lv_if_eq (tgt := 273) hx hb dX9_advance_170 (by decide) (fun _ => ?_) (fun c0 => absurd (by decide) c0)
              refine lv_aload_n hx hb dX9_advance_273 rfl (lv_at hl 0 rfl) ?_
              refine lv_dup hx hb dX9_advance_274 rfl ?_
              refine va_get (D := (dC, dI)) (ci := 9) (v := .int (v1 3)) (C := RX9) (T := TX9) (N := 6) hx hb hts inB_9 hown hE.1 hP 1 rfl rfl 4 (by decide) (hts _ k_143) (fun _ h9 => h9) rfl dX9_advance_275 ?_
              refine lv_iconst (v := 1) hx hb dX9_advance_278 (by decide) ?_
              refine lv_iadd hx hb dX9_advance_279 ?_
              refine lv_topi (fun t46 et46 => ?_)
              have zt46 : t46.toInt = (v1 3).toInt + 1 := by rw [et46]; exact add_i rfl (by decide) (by omega) (by omega)
              refine va_put (D := (dC, dI)) (ci := 9) (v := .int t46) (ty := tyX9 4) (C := RX9) (T := TX9) (N := 6) hx hb hts inB_9 tyX9 tyX9_ok nmX9 hown hE.1 hP hD hS 1 rfl rfl 4 (by decide) (hts _ k_143) (fun _ h9 => h9) rfl (tyX9_ok 4 (by decide)) rfl rfl (Nat.le_of_ble_eq_true rfl) dX9_advance_280 (fun H locs hP hD hS => ?_)
              have hP : va_P (dC, dI) vwCl (XW cy x0 x (upd (upd v1 4 (v1 3)) 4 t46) f1) H := hP
              have hD : va_D A (XW cy x0 x (upd (upd v1 4 (v1 3)) 4 t46) f1) := hD
              refine lv_aload_n hx hb dX9_advance_283 rfl (lv_at hl 0 rfl) ?_
              refine va_ldcS hx hb hown hF.1 dX9_advance_284 ?_
              refine lv_aload_n hx hb dX9_advance_286 rfl (lv_at hl 0 rfl) ?_
              refine va_get (D := (dC, dI)) (ci := 9) (v := .ref (x 1)) (C := RX9) (T := TX9) (N := 6) hx hb hts inB_9 hown hE.1 hP 1 rfl rfl 0 (by decide) (hts _ k_136) (fun _ h9 => h9) rfl dX9_advance_287 ?_
              refine lv_aload_n hx hb dX9_advance_290 rfl (lv_at hl 0 rfl) ?_
              refine va_get (D := (dC, dI)) (ci := 9) (v := .int (v1 3)) (C := RX9) (T := TX9) (N := 6) hx hb hts inB_9 hown hE.1 hP 1 rfl rfl 3 (by decide) (hts _ k_141) (fun _ h9 => h9) rfl dX9_advance_291 ?_
              refine ldB hx hb hE hP 2 rfl (vp_in_iff.mpr ⟨by omega, by omega⟩) rfl rfl dX9_advance_294 ?_
              refine lv_topi (fun t47 et47 => ?_)
              refine lv_sipush (v := 255) hx hb dX9_advance_295 (by decide) ?_
              refine lv_iand hx hb dX9_advance_298 ?_
              refine lv_topi (fun t48 et48 => ?_)
              have zt48 : 0 ≤ t48.toInt ∧ t48.toInt < 256 := by rw [et48]; exact and_rng _ (k := 8) (by decide) (by decide)
              refine lv_i2c hx hb dX9_advance_299 rfl ?_
              refine lv_topi (fun t49 et49 => ?_)
              refine crVi (n := 1) (rest := [.ref (x 0)]) hx hb hml hown hts hE hP hD hS hA hF hT (sX_J0_indexOf_0f7a4_1 l dC dI cy x0 x t49 (upd (upd v1 4 (v1 3)) 4 t46) f1 (XI.upd (j := 4) (x := t46) (XI.upd (j := 4) (x := (v1 3)) hIv1 (show (0 : Int) ≤ (v1 3).toInt by omega) (show (v1 3).toInt ≤ (1600 : Int) by omega)) (show (0 : Int) ≤ t46.toInt by omega) (show t46.toInt ≤ (1600 : Int) by omega)) ) k_624 k_625 k_626 k_115 k_627 (by decide +kernel) ⟨Nat.le_of_ble_eq_true rfl, Nat.le_of_ble_eq_true rfl⟩ 0 (by decide) rfl rfl (rfl) hl.1 rfl (Nat.le_of_ble_eq_true rfl) dX9_advance_300 (fun r50 u H locs hw hP hD hS => ?_)
              refine lv_if_lt (tgt := 318) hx hb dX9_advance_303 (by decide) (fun c51 => ?_) (fun c51 => ?_)
              · skip
                have zc51 : r50.toInt < 0 := by rw [fa_lt, show (0 : Int32).toInt = 0 from by decide] at c51; exact c51
                refine lv_iconst (v := 1) hx hb dX9_advance_318 (by decide) ?_
                refine va_put (D := (dC, dI)) (ci := 9) (v := .int 1) (ty := tyX9 2) (C := RX9) (T := TX9) (N := 6) hx hb hts inB_9 tyX9 tyX9_ok nmX9 hown hE.1 hP hD hS 1 rfl rfl 2 (by decide) (hts _ k_140) (fun _ h9 => h9) rfl (tyX9_ok 2 (by decide)) rfl rfl (Nat.le_of_ble_eq_true rfl) dX9_advance_319 (fun H locs hP hD hS => ?_)
                have hP : va_P (dC, dI) vwCl (XW cy x0 x (upd (upd (upd v1 4 (v1 3)) 4 t46) 2 1) f1) H := hP
                have hD : va_D A (XW cy x0 x (upd (upd (upd v1 4 (v1 3)) 4 t46) 2 1) f1) := hD
                exact ret ((upd (upd (upd v1 4 (v1 3)) 4 t46) 2 1), f1) _ _ _ _ _ _ ⟨(XI.upd (j := 2) (x := 1) (XI.upd (j := 4) (x := t46) (XI.upd (j := 4) (x := (v1 3)) hIv1 (show (0 : Int) ≤ (v1 3).toInt by omega) (show (v1 3).toInt ≤ (1600 : Int) by omega)) (show (0 : Int) ≤ t46.toInt by omega) (show t46.toInt ≤ (1600 : Int) by omega)) (rlo _) (rhi _)), (show v1 0 = v 0 from hq0_v1), (show v1 1 = v 1 from hq1_v1), (show v1 9 = v 9 from hq9_v1), (show v1 10 = v 10 from hq10_v1), (show v1 31 = v 31 from hq31_v1), (show v1 32 = v 32 from hq32_v1)⟩ hP hD hS dX9_advance_322 (Nat.le_refl _) (Nat.le_refl _)
              · skip
                have zc51 : ¬ (r50.toInt < 0) := by rw [fa_lt, show (0 : Int32).toInt = 0 from by decide] at c51; exact c51
                refine lv_aload_n hx hb dX9_advance_306 rfl (lv_at hl 0 rfl) ?_
                refine va_get (D := (dC, dI)) (ci := 9) (v := .ref (x 1)) (C := RX9) (T := TX9) (N := 6) hx hb hts inB_9 hown hE.1 hP 1 rfl rfl 0 (by decide) (hts _ k_136) (fun _ h9 => h9) rfl dX9_advance_307 ?_
                refine lv_aload_n hx hb dX9_advance_310 rfl (lv_at hl 0 rfl) ?_
                refine va_get (D := (dC, dI)) (ci := 9) (v := .int (v1 3)) (C := RX9) (T := TX9) (N := 6) hx hb hts inB_9 hown hE.1 hP 1 rfl rfl 3 (by decide) (hts _ k_141) (fun _ h9 => h9) rfl dX9_advance_311 ?_
                refine ldB hx hb hE hP 2 rfl (vp_in_iff.mpr ⟨by omega, by omega⟩) rfl rfl dX9_advance_314 ?_
                refine lv_topi (fun t52 et52 => ?_)
                refine lv_goto (tgt := 319) hx hb dX9_advance_315 (by decide) ?_
                refine va_put (D := (dC, dI)) (ci := 9) (v := .int t52) (ty := tyX9 2) (C := RX9) (T := TX9) (N := 6) hx hb hts inB_9 tyX9 tyX9_ok nmX9 hown hE.1 hP hD hS 1 rfl rfl 2 (by decide) (hts _ k_140) (fun _ h9 => h9) rfl (tyX9_ok 2 (by decide)) rfl rfl (Nat.le_of_ble_eq_true rfl) dX9_advance_319 (fun H locs hP hD hS => ?_)
                have hP : va_P (dC, dI) vwCl (XW cy x0 x (upd (upd (upd v1 4 (v1 3)) 4 t46) 2 t52) f1) H := hP
                have hD : va_D A (XW cy x0 x (upd (upd (upd v1 4 (v1 3)) 4 t46) 2 t52) f1) := hD
                exact ret ((upd (upd (upd v1 4 (v1 3)) 4 t46) 2 t52), f1) _ _ _ _ _ _ ⟨(XI.upd (j := 2) (x := t52) (XI.upd (j := 4) (x := t46) (XI.upd (j := 4) (x := (v1 3)) hIv1 (show (0 : Int) ≤ (v1 3).toInt by omega) (show (v1 3).toInt ≤ (1600 : Int) by omega)) (show (0 : Int) ≤ t46.toInt by omega) (show t46.toInt ≤ (1600 : Int) by omega)) (rlo _) (rhi _)), (show v1 0 = v 0 from hq0_v1), (show v1 1 = v 1 from hq1_v1), (show v1 9 = v 9 from hq9_v1), (show v1 10 = v 10 from hq10_v1), (show v1 31 = v 31 from hq31_v1), (show v1 32 = v 32 from hq32_v1)⟩ hP hD hS dX9_advance_322 (Nat.le_refl _) (Nat.le_refl _)
        · skip
          have zc5 : ¬ ((v1 3).toInt < (v 1).toInt) := by rw [fa_lt] at c5; exact c5
          refine lv_aload_n hx hb dX9_advance_79 rfl (lv_at hl 0 rfl) ?_
          refine lv_iconst (v := 0) hx hb dX9_advance_80 (by decide) ?_
          refine va_put (D := (dC, dI)) (ci := 9) (v := .int 0) (ty := tyX9 2) (C := RX9) (T := TX9) (N := 6) hx hb hts inB_9 tyX9 tyX9_ok nmX9 hown hE.1 hP hD hS 1 rfl rfl 2 (by decide) (hts _ k_140) (fun _ h9 => h9) rfl (tyX9_ok 2 (by decide)) rfl rfl (Nat.le_of_ble_eq_true rfl) dX9_advance_81 (fun H locs hP hD hS => ?_)
          have hP : va_P (dC, dI) vwCl (XW cy x0 x (upd (upd v1 4 (v1 3)) 2 0) f1) H := hP
          have hD : va_D A (XW cy x0 x (upd (upd v1 4 (v1 3)) 2 0) f1) := hD
          refine lv_goto (tgt := 322) hx hb dX9_advance_84 (by decide) ?_
          exact ret ((upd (upd v1 4 (v1 3)) 2 0), f1) _ _ _ _ _ _ ⟨(XI.upd (j := 2) (x := 0) (XI.upd (j := 4) (x := (v1 3)) hIv1 (show (0 : Int) ≤ (v1 3).toInt by omega) (show (v1 3).toInt ≤ (1600 : Int) by omega)) (rlo _) (rhi _)), (show v1 0 = v 0 from hq0_v1), (show v1 1 = v 1 from hq1_v1), (show v1 9 = v 9 from hq9_v1), (show v1 10 = v 10 from hq10_v1), (show v1 31 = v 31 from hq31_v1), (show v1 32 = v 32 from hq32_v1)⟩ hP hD hS dX9_advance_322 (Nat.le_refl _) (Nat.le_refl _)
      · skip
        have zc2 : ¬ ((v 1).toInt ≤ (v1 3).toInt) := by rw [fa_le] at c2; exact c2
        have rg53 := fb_rng (v1 3)
        have rg54 := fb_rng (v 1)
        refine lv_aload_n hx hb dX9_advance_19 rfl (lv_at hl 0 rfl) ?_
        refine va_get (D := (dC, dI)) (ci := 9) (v := .ref (x 1)) (C := RX9) (T := TX9) (N := 6) hx hb hts inB_9 hown hE.1 hP 1 rfl rfl 0 (by decide) (hts _ k_136) (fun _ h9 => h9) rfl dX9_advance_20 ?_
        refine lv_aload_n hx hb dX9_advance_23 rfl (lv_at hl 0 rfl) ?_
        refine va_get (D := (dC, dI)) (ci := 9) (v := .int (v1 3)) (C := RX9) (T := TX9) (N := 6) hx hb hts inB_9 hown hE.1 hP 1 rfl rfl 3 (by decide) (hts _ k_141) (fun _ h9 => h9) rfl dX9_advance_24 ?_
        refine ldB hx hb hE hP 2 rfl (vp_in_iff.mpr ⟨by omega, by omega⟩) rfl rfl dX9_advance_27 ?_
        refine lv_topi (fun t55 et55 => ?_)
        refine lv_bipush (v := 32) hx hb dX9_advance_28 (by decide) ?_
        refine lv_icmp_eq (tgt := 47) hx hb dX9_advance_30 (by decide) (fun c56 => ?_) (fun c56 => ?_)
        · skip
          have zc56 : t55.toInt = 32 := by rw [fa_eq, show (32 : Int32).toInt = 32 from by decide] at c56; exact c56
          refine lv_aload_n hx hb dX9_advance_47 rfl (lv_at hl 0 rfl) ?_
          refine lv_dup hx hb dX9_advance_48 rfl ?_
          refine va_get (D := (dC, dI)) (ci := 9) (v := .int (v1 3)) (C := RX9) (T := TX9) (N := 6) hx hb hts inB_9 hown hE.1 hP 1 rfl rfl 3 (by decide) (hts _ k_141) (fun _ h9 => h9) rfl dX9_advance_49 ?_
          refine lv_iconst (v := 1) hx hb dX9_advance_52 (by decide) ?_
          refine lv_iadd hx hb dX9_advance_53 ?_
          refine lv_topi (fun t57 et57 => ?_)
          have zt57 : t57.toInt = (v1 3).toInt + 1 := by rw [et57]; exact add_i rfl (by decide) (by omega) (by omega)
          refine va_put (D := (dC, dI)) (ci := 9) (v := .int t57) (ty := tyX9 3) (C := RX9) (T := TX9) (N := 6) hx hb hts inB_9 tyX9 tyX9_ok nmX9 hown hE.1 hP hD hS 1 rfl rfl 3 (by decide) (hts _ k_141) (fun _ h9 => h9) rfl (tyX9_ok 3 (by decide)) rfl rfl (Nat.le_of_ble_eq_true rfl) dX9_advance_54 (fun H locs hP hD hS => ?_)
          have hP : va_P (dC, dI) vwCl (XW cy x0 x (upd v1 3 t57) f1) H := hP
          have hD : va_D A (XW cy x0 x (upd v1 3 t57) f1) := hD
          refine lv_goto (tgt := 8) hx hb dX9_advance_57 (by decide) ?_
          exact ih1  (upd v1 3 t57) f1 (XI.upd (j := 3) (x := t57) hIv1 (show (0 : Int) ≤ t57.toInt by omega) (show t57.toInt ≤ (1600 : Int) by omega)) hq0_v1 hq1_v1 hq9_v1 hq10_v1 hq31_v1 hq32_v1  (by show (1600 - t57.toInt).toNat < n1; omega) _ _ _ hP hD hS (lv_sub hl [0] rfl)
        · skip
          have zc56 : ¬ (t55.toInt = 32) := by rw [fa_eq, show (32 : Int32).toInt = 32 from by decide] at c56; exact c56
          refine lv_aload_n hx hb dX9_advance_33 rfl (lv_at hl 0 rfl) ?_
          refine va_get (D := (dC, dI)) (ci := 9) (v := .ref (x 1)) (C := RX9) (T := TX9) (N := 6) hx hb hts inB_9 hown hE.1 hP 1 rfl rfl 0 (by decide) (hts _ k_136) (fun _ h9 => h9) rfl dX9_advance_34 ?_
          refine lv_aload_n hx hb dX9_advance_37 rfl (lv_at hl 0 rfl) ?_
          refine va_get (D := (dC, dI)) (ci := 9) (v := .int (v1 3)) (C := RX9) (T := TX9) (N := 6) hx hb hts inB_9 hown hE.1 hP 1 rfl rfl 3 (by decide) (hts _ k_141) (fun _ h9 => h9) rfl dX9_advance_38 ?_
          refine ldB hx hb hE hP 2 rfl (vp_in_iff.mpr ⟨by omega, by omega⟩) rfl rfl dX9_advance_41 ?_
          refine lv_topi (fun t58 et58 => ?_)
          refine lv_bipush (v := 10) hx hb dX9_advance_42 (by decide) ?_
          refine lv_icmp_ne (tgt := 60) hx hb dX9_advance_44 (by decide) (fun c59 => ?_) (fun c59 => ?_)
          · skip
            have zc59 : ¬ (t58.toInt = 10) := by rw [fa_eq, show (10 : Int32).toInt = 10 from by decide] at c59; exact c59
            refine lv_aload_n hx hb dX9_advance_60 rfl (lv_at hl 0 rfl) ?_
            refine lv_aload_n hx hb dX9_advance_61 rfl (lv_at hl 0 rfl) ?_
            refine va_get (D := (dC, dI)) (ci := 9) (v := .int (v1 3)) (C := RX9) (T := TX9) (N := 6) hx hb hts inB_9 hown hE.1 hP 1 rfl rfl 3 (by decide) (hts _ k_141) (fun _ h9 => h9) rfl dX9_advance_62 ?_
            refine va_put (D := (dC, dI)) (ci := 9) (v := .int (v1 3)) (ty := tyX9 4) (C := RX9) (T := TX9) (N := 6) hx hb hts inB_9 tyX9 tyX9_ok nmX9 hown hE.1 hP hD hS 1 rfl rfl 4 (by decide) (hts _ k_143) (fun _ h9 => h9) rfl (tyX9_ok 4 (by decide)) rfl rfl (Nat.le_of_ble_eq_true rfl) dX9_advance_65 (fun H locs hP hD hS => ?_)
            have hP : va_P (dC, dI) vwCl (XW cy x0 x (upd v1 4 (v1 3)) f1) H := hP
            have hD : va_D A (XW cy x0 x (upd v1 4 (v1 3)) f1) := hD
            refine lv_aload_n hx hb dX9_advance_68 rfl (lv_at hl 0 rfl) ?_
            refine va_get (D := (dC, dI)) (ci := 9) (v := .int (v1 3)) (C := RX9) (T := TX9) (N := 6) hx hb hts inB_9 hown hE.1 hP 1 rfl rfl 3 (by decide) (hts _ k_141) (fun _ h9 => h9) rfl dX9_advance_69 ?_
            refine lv_aload_n hx hb dX9_advance_72 rfl (lv_at hl 0 rfl) ?_
            refine va_get (D := (dC, dI)) (ci := 9) (v := .int (v1 1)) (C := RX9) (T := TX9) (N := 6) hx hb hts inB_9 hown hE.1 hP 1 rfl rfl 1 (by decide) (hts _ k_137) (fun _ h9 => h9) rfl dX9_advance_73 ?_
            refine tI (y := (v 1)) hq1_v1 ?_
            refine lv_icmp_lt (tgt := 87) hx hb dX9_advance_76 (by decide) (fun c60 => ?_) (fun c60 => ?_)
            · skip
              have zc60 : (v1 3).toInt < (v 1).toInt := by rw [fa_lt] at c60; exact c60
              refine lv_aload_n hx hb dX9_advance_87 rfl (lv_at hl 0 rfl) ?_
              refine lv_aload_n hx hb dX9_advance_88 rfl (lv_at hl 0 rfl) ?_
              refine va_get (D := (dC, dI)) (ci := 9) (v := .int (v1 3)) (C := RX9) (T := TX9) (N := 6) hx hb hts inB_9 hown hE.1 hP 1 rfl rfl 3 (by decide) (hts _ k_141) (fun _ h9 => h9) rfl dX9_advance_89 ?_
              refine cbVi (n := 1) (rest := []) hx hb hml hown hts hE hP hD hS hA (sX_X9_isLetter_1 l dC dI cy x0 x (v1 3) (upd v1 4 (v1 3)) f1 (XI.upd (j := 4) (x := (v1 3)) hIv1 (show (0 : Int) ≤ (v1 3).toInt by omega) (show (v1 3).toInt ≤ (1600 : Int) by omega)) ) k_562 k_564 k_1 k_102 k_565 (by decide +kernel) ⟨Nat.le_of_ble_eq_true rfl, Nat.le_of_ble_eq_true rfl⟩ 1 9 rfl rfl (rfl) hl.1 rfl (Nat.le_of_ble_eq_true rfl) dX9_advance_92 (fun r61 u H locs hw hP hD hS => ?_)
              rcases hw with ⟨g62, g62_0, g62_1, g62_2⟩ | ⟨g62⟩
              · skip
                subst g62
                refine lv_if_eq (tgt := 162) hx hb dX9_advance_95 (by decide) (fun c0 => absurd c0 (by decide)) (fun _ => ?_)
                have lp63 : ∀ (n63 : Nat)  (v63 : Nat → Int32) (f63 : Nat → Nat → Int32), XI v63 → v63 0 = (v 0) → v63 1 = (v 1) → v63 9 = (v 9) → v63 10 = (v 10) → v63 31 = (v 31) → v63 32 = (v 32) → (1600 - (v63 4).toInt).toNat < n63 → ∀ (H : Heap) (locs : List Loc) (ls : Array Slot), va_P (dC, dI) vwCl (XW cy x0 x v63 f63) H → va_D A (XW cy x0 x v63 f63) → va_S A s.heap H locs → lv_has ls 1 [(0, .ref (x 0))] → W p l e { frames := 6, cells := 0, slots := 0, locals := 171 } s m ([.ref (x 0)] : List Value).toArray below meth c H locs 0 0 Q (F0 m 98 ls []) := by
                  intro n63
                  induction n63 with
                  | zero => intro  v63 f63 hIv63 hq0_v63 hq1_v63 hq9_v63 hq10_v63 hq31_v63 hq32_v63 hm; exact absurd hm (Nat.not_lt_zero _)
                  | succ n63 ih63 =>
                    intro  v63 f63 hIv63 hq0_v63 hq1_v63 hq9_v63 hq10_v63 hq31_v63 hq32_v63 hm63 H locs ls hP hD hS hl
                    refine lv_aload_n hx hb dX9_advance_98 rfl (lv_at hl 0 rfl) ?_
                    refine va_get (D := (dC, dI)) (ci := 9) (v := .int (v63 4)) (C := RX9) (T := TX9) (N := 6) hx hb hts inB_9 hown hE.1 hP 1 rfl rfl 4 (by decide) (hts _ k_143) (fun _ h9 => h9) rfl dX9_advance_99 ?_
                    have b4_v63 : 0 ≤ (v63 4).toInt ∧ (v63 4).toInt ≤ 1600 := XI.b hIv63 4 (by decide)
                    refine lv_aload_n hx hb dX9_advance_102 rfl (lv_at hl 0 rfl) ?_
                    refine va_get (D := (dC, dI)) (ci := 9) (v := .int (v63 1)) (C := RX9) (T := TX9) (N := 6) hx hb hts inB_9 hown hE.1 hP 1 rfl rfl 1 (by decide) (hts _ k_137) (fun _ h9 => h9) rfl dX9_advance_103 ?_
                    refine tI (y := (v 1)) hq1_v63 ?_
                    have b1_v : 0 ≤ (v 1).toInt ∧ (v 1).toInt ≤ 1600 := XI.b hIv 1 (by decide)
                    refine lv_icmp_ge (tgt := 133) hx hb dX9_advance_106 (by decide) (fun c64 => ?_) (fun c64 => ?_)
                    · skip
                      have zc64 : (v 1).toInt ≤ (v63 4).toInt := by rw [fa_le] at c64; exact c64
                      have rg65 := fb_rng (v63 4)
                      refine lv_aload_n hx hb dX9_advance_133 rfl (lv_at hl 0 rfl) ?_
                      refine lv_aload_n hx hb dX9_advance_134 rfl (lv_at hl 0 rfl) ?_
                      refine va_get (D := (dC, dI)) (ci := 9) (v := .int (v63 4)) (C := RX9) (T := TX9) (N := 6) hx hb hts inB_9 hown hE.1 hP 1 rfl rfl 4 (by decide) (hts _ k_143) (fun _ h9 => h9) rfl dX9_advance_135 ?_
                      refine lv_aload_n hx hb dX9_advance_138 rfl (lv_at hl 0 rfl) ?_
                      refine va_get (D := (dC, dI)) (ci := 9) (v := .int (v63 3)) (C := RX9) (T := TX9) (N := 6) hx hb hts inB_9 hown hE.1 hP 1 rfl rfl 3 (by decide) (hts _ k_141) (fun _ h9 => h9) rfl dX9_advance_139 ?_
                      have b3_v63 : 0 ≤ (v63 3).toInt ∧ (v63 3).toInt ≤ 1600 := XI.b hIv63 3 (by decide)
                      refine lv_isub hx hb dX9_advance_142 ?_
                      refine lv_topi (fun t66 et66 => ?_)
                      have rg67 := fb_rng (v63 3)
                      have zt66 : t66.toInt = (v63 4).toInt - (v63 3).toInt := by rw [et66]; exact sub_i rfl rfl (by omega) (by omega)
                      refine lv_bipush (v := 8) hx hb dX9_advance_143 (by decide) ?_
                      refine lv_icmp_le (tgt := 152) hx hb dX9_advance_145 (by decide) (fun c68 => ?_) (fun c68 => ?_)
                      · skip
                        have zc68 : t66.toInt ≤ 8 := by rw [fa_le, show (8 : Int32).toInt = 8 from by decide] at c68; exact c68
                        refine lv_aload_n hx hb dX9_advance_152 rfl (lv_at hl 0 rfl) ?_
                        refine csVi (n := 0) (rest := [.ref (x 0)]) hx hb hml hown hts hE hP hD hS hA hF hT (sX_X9_wordKind_1 l dC dI cy x0 x  v63 f63 hIv63 ) k_566 k_568 k_2 k_102 k_569 (by decide +kernel) ⟨Nat.le_of_ble_eq_true rfl, Nat.le_of_ble_eq_true rfl⟩ 1 9 rfl rfl (rfl) hl.1 rfl (Nat.le_of_ble_eq_true rfl) dX9_advance_153 (fun r69 u H locs hw hP hD hS => ?_)
                        refine va_put (D := (dC, dI)) (ci := 9) (v := .int r69) (ty := tyX9 2) (C := RX9) (T := TX9) (N := 6) hx hb hts inB_9 tyX9 tyX9_ok nmX9 hown hE.1 hP hD hS 1 rfl rfl 2 (by decide) (hts _ k_140) (fun _ h9 => h9) rfl (tyX9_ok 2 (by decide)) rfl rfl (Nat.le_of_ble_eq_true rfl) dX9_advance_156 (fun H locs hP hD hS => ?_)
                        have hP : va_P (dC, dI) vwCl (XW cy x0 x (upd v63 2 r69) f63) H := hP
                        have hD : va_D A (XW cy x0 x (upd v63 2 r69) f63) := hD
                        refine lv_goto (tgt := 322) hx hb dX9_advance_159 (by decide) ?_
                        exact ret ((upd v63 2 r69), f63) _ _ _ _ _ _ ⟨(XI.upd (j := 2) (x := r69) hIv63 (rlo _) (rhi _)), hq0_v63, hq1_v63, hq9_v63, hq10_v63, hq31_v63, hq32_v63⟩ hP hD hS dX9_advance_322 (Nat.le_refl _) (Nat.le_refl _)
                      · skip
                        have zc68 : ¬ (t66.toInt ≤ 8) := by rw [fa_le, show (8 : Int32).toInt = 8 from by decide] at c68; exact c68
                        refine lv_iconst (v := 1) hx hb dX9_advance_148 (by decide) ?_
                        refine lv_goto (tgt := 156) hx hb dX9_advance_149 (by decide) ?_
                        refine va_put (D := (dC, dI)) (ci := 9) (v := .int 1) (ty := tyX9 2) (C := RX9) (T := TX9) (N := 6) hx hb hts inB_9 tyX9 tyX9_ok nmX9 hown hE.1 hP hD hS 1 rfl rfl 2 (by decide) (hts _ k_140) (fun _ h9 => h9) rfl (tyX9_ok 2 (by decide)) rfl rfl (Nat.le_of_ble_eq_true rfl) dX9_advance_156 (fun H locs hP hD hS => ?_)
                        have hP : va_P (dC, dI) vwCl (XW cy x0 x (upd v63 2 1) f63) H := hP
                        have hD : va_D A (XW cy x0 x (upd v63 2 1) f63) := hD
                        refine lv_goto (tgt := 322) hx hb dX9_advance_159 (by decide) ?_
                        exact ret ((upd v63 2 1), f63) _ _ _ _ _ _ ⟨(XI.upd (j := 2) (x := 1) hIv63 (rlo _) (rhi _)), hq0_v63, hq1_v63, hq9_v63, hq10_v63, hq31_v63, hq32_v63⟩ hP hD hS dX9_advance_322 (Nat.le_refl _) (Nat.le_refl _)
                    · skip
                      have zc64 : ¬ ((v 1).toInt ≤ (v63 4).toInt) := by rw [fa_le] at c64; exact c64
                      have rg70 := fb_rng (v63 4)
                      refine lv_aload_n hx hb dX9_advance_109 rfl (lv_at hl 0 rfl) ?_
                      refine lv_aload_n hx hb dX9_advance_110 rfl (lv_at hl 0 rfl) ?_
                      refine va_get (D := (dC, dI)) (ci := 9) (v := .int (v63 4)) (C := RX9) (T := TX9) (N := 6) hx hb hts inB_9 hown hE.1 hP 1 rfl rfl 4 (by decide) (hts _ k_143) (fun _ h9 => h9) rfl dX9_advance_111 ?_
                      refine cbVi (n := 1) (rest := []) hx hb hml hown hts hE hP hD hS hA (sX_X9_isLetter_1 l dC dI cy x0 x (v63 4) v63 f63 hIv63 ) k_562 k_564 k_1 k_102 k_565 (by decide +kernel) ⟨Nat.le_of_ble_eq_true rfl, Nat.le_of_ble_eq_true rfl⟩ 1 9 rfl rfl (rfl) hl.1 rfl (Nat.le_of_ble_eq_true rfl) dX9_advance_114 (fun r71 u H locs hw hP hD hS => ?_)
                      rcases hw with ⟨g72, g72_0, g72_1, g72_2⟩ | ⟨g72⟩
                      · skip
                        subst g72
                        refine lv_if_eq (tgt := 133) hx hb dX9_advance_117 (by decide) (fun c0 => absurd c0 (by decide)) (fun _ => ?_)
                        refine lv_aload_n hx hb dX9_advance_120 rfl (lv_at hl 0 rfl) ?_
                        refine lv_dup hx hb dX9_advance_121 rfl ?_
                        refine va_get (D := (dC, dI)) (ci := 9) (v := .int (v63 4)) (C := RX9) (T := TX9) (N := 6) hx hb hts inB_9 hown hE.1 hP 1 rfl rfl 4 (by decide) (hts _ k_143) (fun _ h9 => h9) rfl dX9_advance_122 ?_
                        refine lv_iconst (v := 1) hx hb dX9_advance_125 (by decide) ?_
                        refine lv_iadd hx hb dX9_advance_126 ?_
                        refine lv_topi (fun t73 et73 => ?_)
                        have zt73 : t73.toInt = (v63 4).toInt + 1 := by rw [et73]; exact add_i rfl (by decide) (by omega) (by omega)
                        refine va_put (D := (dC, dI)) (ci := 9) (v := .int t73) (ty := tyX9 4) (C := RX9) (T := TX9) (N := 6) hx hb hts inB_9 tyX9 tyX9_ok nmX9 hown hE.1 hP hD hS 1 rfl rfl 4 (by decide) (hts _ k_143) (fun _ h9 => h9) rfl (tyX9_ok 4 (by decide)) rfl rfl (Nat.le_of_ble_eq_true rfl) dX9_advance_127 (fun H locs hP hD hS => ?_)
                        have hP : va_P (dC, dI) vwCl (XW cy x0 x (upd v63 4 t73) f63) H := hP
                        have hD : va_D A (XW cy x0 x (upd v63 4 t73) f63) := hD
                        refine lv_goto (tgt := 98) hx hb dX9_advance_130 (by decide) ?_
                        exact ih63  (upd v63 4 t73) f63 (XI.upd (j := 4) (x := t73) hIv63 (show (0 : Int) ≤ t73.toInt by omega) (show t73.toInt ≤ (1600 : Int) by omega)) hq0_v63 hq1_v63 hq9_v63 hq10_v63 hq31_v63 hq32_v63  (by show (1600 - t73.toInt).toNat < n63; omega) _ _ _ hP hD hS (lv_sub hl [0] rfl)
                      · skip
                        subst g72
                        refine lv_if_eq (tgt := 133) hx hb dX9_advance_117 (by decide) (fun _ => ?_) (fun c0 => absurd (by decide) c0)
                        refine lv_aload_n hx hb dX9_advance_133 rfl (lv_at hl 0 rfl) ?_
                        refine lv_aload_n hx hb dX9_advance_134 rfl (lv_at hl 0 rfl) ?_
                        refine va_get (D := (dC, dI)) (ci := 9) (v := .int (v63 4)) (C := RX9) (T := TX9) (N := 6) hx hb hts inB_9 hown hE.1 hP 1 rfl rfl 4 (by decide) (hts _ k_143) (fun _ h9 => h9) rfl dX9_advance_135 ?_
                        refine lv_aload_n hx hb dX9_advance_138 rfl (lv_at hl 0 rfl) ?_
                        refine va_get (D := (dC, dI)) (ci := 9) (v := .int (v63 3)) (C := RX9) (T := TX9) (N := 6) hx hb hts inB_9 hown hE.1 hP 1 rfl rfl 3 (by decide) (hts _ k_141) (fun _ h9 => h9) rfl dX9_advance_139 ?_
                        have b3_v63 : 0 ≤ (v63 3).toInt ∧ (v63 3).toInt ≤ 1600 := XI.b hIv63 3 (by decide)
                        refine lv_isub hx hb dX9_advance_142 ?_
                        refine lv_topi (fun t74 et74 => ?_)
                        have rg75 := fb_rng (v63 3)
                        have zt74 : t74.toInt = (v63 4).toInt - (v63 3).toInt := by rw [et74]; exact sub_i rfl rfl (by omega) (by omega)
                        refine lv_bipush (v := 8) hx hb dX9_advance_143 (by decide) ?_
                        refine lv_icmp_le (tgt := 152) hx hb dX9_advance_145 (by decide) (fun c76 => ?_) (fun c76 => ?_)
                        · skip
                          have zc76 : t74.toInt ≤ 8 := by rw [fa_le, show (8 : Int32).toInt = 8 from by decide] at c76; exact c76
                          refine lv_aload_n hx hb dX9_advance_152 rfl (lv_at hl 0 rfl) ?_
                          refine csVi (n := 0) (rest := [.ref (x 0)]) hx hb hml hown hts hE hP hD hS hA hF hT (sX_X9_wordKind_1 l dC dI cy x0 x  v63 f63 hIv63 ) k_566 k_568 k_2 k_102 k_569 (by decide +kernel) ⟨Nat.le_of_ble_eq_true rfl, Nat.le_of_ble_eq_true rfl⟩ 1 9 rfl rfl (rfl) hl.1 rfl (Nat.le_of_ble_eq_true rfl) dX9_advance_153 (fun r77 u H locs hw hP hD hS => ?_)
                          refine va_put (D := (dC, dI)) (ci := 9) (v := .int r77) (ty := tyX9 2) (C := RX9) (T := TX9) (N := 6) hx hb hts inB_9 tyX9 tyX9_ok nmX9 hown hE.1 hP hD hS 1 rfl rfl 2 (by decide) (hts _ k_140) (fun _ h9 => h9) rfl (tyX9_ok 2 (by decide)) rfl rfl (Nat.le_of_ble_eq_true rfl) dX9_advance_156 (fun H locs hP hD hS => ?_)
                          have hP : va_P (dC, dI) vwCl (XW cy x0 x (upd v63 2 r77) f63) H := hP
                          have hD : va_D A (XW cy x0 x (upd v63 2 r77) f63) := hD
                          refine lv_goto (tgt := 322) hx hb dX9_advance_159 (by decide) ?_
                          exact ret ((upd v63 2 r77), f63) _ _ _ _ _ _ ⟨(XI.upd (j := 2) (x := r77) hIv63 (rlo _) (rhi _)), hq0_v63, hq1_v63, hq9_v63, hq10_v63, hq31_v63, hq32_v63⟩ hP hD hS dX9_advance_322 (Nat.le_refl _) (Nat.le_refl _)
                        · skip
                          have zc76 : ¬ (t74.toInt ≤ 8) := by rw [fa_le, show (8 : Int32).toInt = 8 from by decide] at c76; exact c76
                          refine lv_iconst (v := 1) hx hb dX9_advance_148 (by decide) ?_
                          refine lv_goto (tgt := 156) hx hb dX9_advance_149 (by decide) ?_
                          refine va_put (D := (dC, dI)) (ci := 9) (v := .int 1) (ty := tyX9 2) (C := RX9) (T := TX9) (N := 6) hx hb hts inB_9 tyX9 tyX9_ok nmX9 hown hE.1 hP hD hS 1 rfl rfl 2 (by decide) (hts _ k_140) (fun _ h9 => h9) rfl (tyX9_ok 2 (by decide)) rfl rfl (Nat.le_of_ble_eq_true rfl) dX9_advance_156 (fun H locs hP hD hS => ?_)
                          have hP : va_P (dC, dI) vwCl (XW cy x0 x (upd v63 2 1) f63) H := hP
                          have hD : va_D A (XW cy x0 x (upd v63 2 1) f63) := hD
                          refine lv_goto (tgt := 322) hx hb dX9_advance_159 (by decide) ?_
                          exact ret ((upd v63 2 1), f63) _ _ _ _ _ _ ⟨(XI.upd (j := 2) (x := 1) hIv63 (rlo _) (rhi _)), hq0_v63, hq1_v63, hq9_v63, hq10_v63, hq31_v63, hq32_v63⟩ hP hD hS dX9_advance_322 (Nat.le_refl _) (Nat.le_refl _)
                exact lp63 _  (upd v1 4 (v1 3)) f1 (XI.upd (j := 4) (x := (v1 3)) hIv1 (show (0 : Int) ≤ (v1 3).toInt by omega) (show (v1 3).toInt ≤ (1600 : Int) by omega)) hq0_v1 hq1_v1 hq9_v1 hq10_v1 hq31_v1 hq32_v1  (Nat.lt_succ_self _) _ _ _ hP hD hS (lv_sub hl [0] rfl)
              · skip
                subst g62
                refine lv_if_eq (tgt := 162) hx hb dX9_advance_95 (by decide) (fun _ => ?_) (fun c0 => absurd (by decide) c0)
                refine lv_aload_n hx hb dX9_advance_162 rfl (lv_at hl 0 rfl) ?_
                refine lv_aload_n hx hb dX9_advance_163 rfl (lv_at hl 0 rfl) ?_
                refine va_get (D := (dC, dI)) (ci := 9) (v := .int (v1 3)) (C := RX9) (T := TX9) (N := 6) hx hb hts inB_9 hown hE.1 hP 1 rfl rfl 3 (by decide) (hts _ k_141) (fun _ h9 => h9) rfl dX9_advance_164 ?_
                refine cbVi (n := 1) (rest := []) hx hb hml hown hts hE hP hD hS hA (sX_X9_isDigit_1 l dC dI cy x0 x (v1 3) (upd v1 4 (v1 3)) f1 (XI.upd (j := 4) (x := (v1 3)) hIv1 (show (0 : Int) ≤ (v1 3).toInt by omega) (show (v1 3).toInt ≤ (1600 : Int) by omega)) ) k_619 k_621 k_3 k_102 k_622 (by decide +kernel) ⟨Nat.le_of_ble_eq_true rfl, Nat.le_of_ble_eq_true rfl⟩ 1 9 rfl rfl (rfl) hl.1 rfl (Nat.le_of_ble_eq_true rfl) dX9_advance_167 (fun r78 u H locs hw hP hD hS => ?_)
                rcases hw with ⟨g79, g79_0, g79_1, g79_2⟩ | ⟨g79⟩
                · skip
                  subst g79
                  refine lv_if_eq (tgt := 273) hx hb dX9_advance_170 (by decide) (fun c0 => absurd c0 (by decide)) (fun _ => ?_)
                  refine lv_aload_n hx hb dX9_advance_173 rfl (lv_at hl 0 rfl) ?_
                  refine lv_iconst (v := 0) hx hb dX9_advance_174 (by decide) ?_
                  refine va_put (D := (dC, dI)) (ci := 9) (v := .int 0) (ty := tyX9 5) (C := RX9) (T := TX9) (N := 6) hx hb hts inB_9 tyX9 tyX9_ok nmX9 hown hE.1 hP hD hS 1 rfl rfl 5 (by decide) (hts _ k_144) (fun _ h9 => h9) rfl (tyX9_ok 5 (by decide)) rfl rfl (Nat.le_of_ble_eq_true rfl) dX9_advance_175 (fun H locs hP hD hS => ?_)
                  have hP : va_P (dC, dI) vwCl (XW cy x0 x (upd (upd v1 4 (v1 3)) 5 0) f1) H := hP
                  have hD : va_D A (XW cy x0 x (upd (upd v1 4 (v1 3)) 5 0) f1) := hD
                  have lp80 : ∀ (n80 : Nat)  (v80 : Nat → Int32) (f80 : Nat → Nat → Int32), XI v80 → v80 0 = (v 0) → v80 1 = (v 1) → v80 9 = (v 9) → v80 10 = (v 10) → v80 31 = (v 31) → v80 32 = (v 32) → (1600 - (v80 4).toInt).toNat < n80 → ∀ (H : Heap) (locs : List Loc) (ls : Array Slot), va_P (dC, dI) vwCl (XW cy x0 x v80 f80) H → va_D A (XW cy x0 x v80 f80) → va_S A s.heap H locs → lv_has ls 1 [(0, .ref (x 0))] → W p l e { frames := 6, cells := 0, slots := 0, locals := 171 } s m ([.ref (x 0)] : List Value).toArray below meth c H locs 0 0 Q (F0 m 178 ls []) := by
                    intro n80
                    induction n80 with
                    | zero => intro  v80 f80 hIv80 hq0_v80 hq1_v80 hq9_v80 hq10_v80 hq31_v80 hq32_v80 hm; exact absurd hm (Nat.not_lt_zero _)
                    | succ n80 ih80 =>
                      intro  v80 f80 hIv80 hq0_v80 hq1_v80 hq9_v80 hq10_v80 hq31_v80 hq32_v80 hm80 H locs ls hP hD hS hl
                      refine lv_aload_n hx hb dX9_advance_178 rfl (lv_at hl 0 rfl) ?_
                      refine va_get (D := (dC, dI)) (ci := 9) (v := .int (v80 4)) (C := RX9) (T := TX9) (N := 6) hx hb hts inB_9 hown hE.1 hP 1 rfl rfl 4 (by decide) (hts _ k_143) (fun _ h9 => h9) rfl dX9_advance_179 ?_
                      have b4_v80 : 0 ≤ (v80 4).toInt ∧ (v80 4).toInt ≤ 1600 := XI.b hIv80 4 (by decide)
                      refine lv_aload_n hx hb dX9_advance_182 rfl (lv_at hl 0 rfl) ?_
                      refine va_get (D := (dC, dI)) (ci := 9) (v := .int (v80 1)) (C := RX9) (T := TX9) (N := 6) hx hb hts inB_9 hown hE.1 hP 1 rfl rfl 1 (by decide) (hts _ k_137) (fun _ h9 => h9) rfl dX9_advance_183 ?_
                      refine tI (y := (v 1)) hq1_v80 ?_
                      have b1_v : 0 ≤ (v 1).toInt ∧ (v 1).toInt ≤ 1600 := XI.b hIv 1 (by decide)
                      refine lv_icmp_ge (tgt := 237) hx hb dX9_advance_186 (by decide) (fun c81 => ?_) (fun c81 => ?_)
                      · skip
                        have zc81 : (v 1).toInt ≤ (v80 4).toInt := by rw [fa_le] at c81; exact c81
                        have rg82 := fb_rng (v80 4)
                        refine lv_aload_n hx hb dX9_advance_237 rfl (lv_at hl 0 rfl) ?_
                        refine lv_aload_n hx hb dX9_advance_238 rfl (lv_at hl 0 rfl) ?_
                        refine va_get (D := (dC, dI)) (ci := 9) (v := .int (v80 4)) (C := RX9) (T := TX9) (N := 6) hx hb hts inB_9 hown hE.1 hP 1 rfl rfl 4 (by decide) (hts _ k_143) (fun _ h9 => h9) rfl dX9_advance_239 ?_
                        refine lv_aload_n hx hb dX9_advance_242 rfl (lv_at hl 0 rfl) ?_
                        refine va_get (D := (dC, dI)) (ci := 9) (v := .int (v80 3)) (C := RX9) (T := TX9) (N := 6) hx hb hts inB_9 hown hE.1 hP 1 rfl rfl 3 (by decide) (hts _ k_141) (fun _ h9 => h9) rfl dX9_advance_243 ?_
                        have b3_v80 : 0 ≤ (v80 3).toInt ∧ (v80 3).toInt ≤ 1600 := XI.b hIv80 3 (by decide)
                        refine lv_isub hx hb dX9_advance_246 ?_
                        refine lv_topi (fun t83 et83 => ?_)
                        have rg84 := fb_rng (v80 3)
                        have zt83 : t83.toInt = (v80 4).toInt - (v80 3).toInt := by rw [et83]; exact sub_i rfl rfl (by omega) (by omega)
                        refine lv_iconst (v := 4) hx hb dX9_advance_247 (by decide) ?_
                        refine lv_icmp_gt (tgt := 262) hx hb dX9_advance_248 (by decide) (fun c85 => ?_) (fun c85 => ?_)
                        · skip
                          have zc85 : 4 < t83.toInt := by rw [fa_lt, show (4 : Int32).toInt = 4 from by decide] at c85; exact c85
                          refine lv_iconst (v := 1) hx hb dX9_advance_262 (by decide) ?_
                          refine lv_goto (tgt := 267) hx hb dX9_advance_263 (by decide) ?_
                          refine va_put (D := (dC, dI)) (ci := 9) (v := .int 1) (ty := tyX9 2) (C := RX9) (T := TX9) (N := 6) hx hb hts inB_9 tyX9 tyX9_ok nmX9 hown hE.1 hP hD hS 1 rfl rfl 2 (by decide) (hts _ k_140) (fun _ h9 => h9) rfl (tyX9_ok 2 (by decide)) rfl rfl (Nat.le_of_ble_eq_true rfl) dX9_advance_267 (fun H locs hP hD hS => ?_)
                          have hP : va_P (dC, dI) vwCl (XW cy x0 x (upd v80 2 1) f80) H := hP
                          have hD : va_D A (XW cy x0 x (upd v80 2 1) f80) := hD
                          refine lv_goto (tgt := 322) hx hb dX9_advance_270 (by decide) ?_
                          exact ret ((upd v80 2 1), f80) _ _ _ _ _ _ ⟨(XI.upd (j := 2) (x := 1) hIv80 (rlo _) (rhi _)), hq0_v80, hq1_v80, hq9_v80, hq10_v80, hq31_v80, hq32_v80⟩ hP hD hS dX9_advance_322 (Nat.le_refl _) (Nat.le_refl _)
                        · skip
                          have zc85 : ¬ (4 < t83.toInt) := by rw [fa_lt, show (4 : Int32).toInt = 4 from by decide] at c85; exact c85
                          refine lv_aload_n hx hb dX9_advance_251 rfl (lv_at hl 0 rfl) ?_
                          refine lv_aload_n hx hb dX9_advance_252 rfl (lv_at hl 0 rfl) ?_
                          refine va_get (D := (dC, dI)) (ci := 9) (v := .int (v80 4)) (C := RX9) (T := TX9) (N := 6) hx hb hts inB_9 hown hE.1 hP 1 rfl rfl 4 (by decide) (hts _ k_143) (fun _ h9 => h9) rfl dX9_advance_253 ?_
                          refine cbVi (n := 1) (rest := [.ref (x 0)]) hx hb hml hown hts hE hP hD hS hA (sX_X9_isLetter_1 l dC dI cy x0 x (v80 4) v80 f80 hIv80 ) k_562 k_564 k_1 k_102 k_565 (by decide +kernel) ⟨Nat.le_of_ble_eq_true rfl, Nat.le_of_ble_eq_true rfl⟩ 1 9 rfl rfl (rfl) hl.1 rfl (Nat.le_of_ble_eq_true rfl) dX9_advance_256 (fun r86 u H locs hw hP hD hS => ?_)
                          rcases hw with ⟨g87, g87_0, g87_1, g87_2⟩ | ⟨g87⟩
                          · skip
                            subst g87
                            refine lv_if_eq (tgt := 266) hx hb dX9_advance_259 (by decide) (fun c0 => absurd c0 (by decide)) (fun _ => ?_)
                            refine lv_iconst (v := 1) hx hb dX9_advance_262 (by decide) ?_
                            refine lv_goto (tgt := 267) hx hb dX9_advance_263 (by decide) ?_
                            refine va_put (D := (dC, dI)) (ci := 9) (v := .int 1) (ty := tyX9 2) (C := RX9) (T := TX9) (N := 6) hx hb hts inB_9 tyX9 tyX9_ok nmX9 hown hE.1 hP hD hS 1 rfl rfl 2 (by decide) (hts _ k_140) (fun _ h9 => h9) rfl (tyX9_ok 2 (by decide)) rfl rfl (Nat.le_of_ble_eq_true rfl) dX9_advance_267 (fun H locs hP hD hS => ?_)
                            have hP : va_P (dC, dI) vwCl (XW cy x0 x (upd v80 2 1) f80) H := hP
                            have hD : va_D A (XW cy x0 x (upd v80 2 1) f80) := hD
                            refine lv_goto (tgt := 322) hx hb dX9_advance_270 (by decide) ?_
                            exact ret ((upd v80 2 1), f80) _ _ _ _ _ _ ⟨(XI.upd (j := 2) (x := 1) hIv80 (rlo _) (rhi _)), hq0_v80, hq1_v80, hq9_v80, hq10_v80, hq31_v80, hq32_v80⟩ hP hD hS dX9_advance_322 (Nat.le_refl _) (Nat.le_refl _)
                          · skip
                            subst g87
                            refine lv_if_eq (tgt := 266) hx hb dX9_advance_259 (by decide) (fun _ => ?_) (fun c0 => absurd (by decide) c0)
                            refine lv_iconst (v := 2) hx hb dX9_advance_266 (by decide) ?_
                            refine va_put (D := (dC, dI)) (ci := 9) (v := .int 2) (ty := tyX9 2) (C := RX9) (T := TX9) (N := 6) hx hb hts inB_9 tyX9 tyX9_ok nmX9 hown hE.1 hP hD hS 1 rfl rfl 2 (by decide) (hts _ k_140) (fun _ h9 => h9) rfl (tyX9_ok 2 (by decide)) rfl rfl (Nat.le_of_ble_eq_true rfl) dX9_advance_267 (fun H locs hP hD hS => ?_)
                            have hP : va_P (dC, dI) vwCl (XW cy x0 x (upd v80 2 2) f80) H := hP
                            have hD : va_D A (XW cy x0 x (upd v80 2 2) f80) := hD
                            refine lv_goto (tgt := 322) hx hb dX9_advance_270 (by decide) ?_
                            exact ret ((upd v80 2 2), f80) _ _ _ _ _ _ ⟨(XI.upd (j := 2) (x := 2) hIv80 (rlo _) (rhi _)), hq0_v80, hq1_v80, hq9_v80, hq10_v80, hq31_v80, hq32_v80⟩ hP hD hS dX9_advance_322 (Nat.le_refl _) (Nat.le_refl _)
                      · skip
                        have zc81 : ¬ ((v 1).toInt ≤ (v80 4).toInt) := by rw [fa_le] at c81; exact c81
                        have rg88 := fb_rng (v80 4)
                        refine lv_aload_n hx hb dX9_advance_189 rfl (lv_at hl 0 rfl) ?_
                        refine lv_aload_n hx hb dX9_advance_190 rfl (lv_at hl 0 rfl) ?_
                        refine va_get (D := (dC, dI)) (ci := 9) (v := .int (v80 4)) (C := RX9) (T := TX9) (N := 6) hx hb hts inB_9 hown hE.1 hP 1 rfl rfl 4 (by decide) (hts _ k_143) (fun _ h9 => h9) rfl dX9_advance_191 ?_
                        refine cbVi (n := 1) (rest := []) hx hb hml hown hts hE hP hD hS hA (sX_X9_isDigit_1 l dC dI cy x0 x (v80 4) v80 f80 hIv80 ) k_619 k_621 k_3 k_102 k_622 (by decide +kernel) ⟨Nat.le_of_ble_eq_true rfl, Nat.le_of_ble_eq_true rfl⟩ 1 9 rfl rfl (rfl) hl.1 rfl (Nat.le_of_ble_eq_true rfl) dX9_advance_194 (fun r89 u H locs hw hP hD hS => ?_)
                        rcases hw with ⟨g90, g90_0, g90_1, g90_2⟩ | ⟨g90⟩
                        · skip
                          subst g90
                          refine lv_if_eq (tgt := 237) hx hb dX9_advance_197 (by decide) (fun c0 => absurd c0 (by decide)) (fun _ => ?_)
                          refine lv_aload_n hx hb dX9_advance_200 rfl (lv_at hl 0 rfl) ?_
                          refine lv_aload_n hx hb dX9_advance_201 rfl (lv_at hl 0 rfl) ?_
                          refine va_get (D := (dC, dI)) (ci := 9) (v := .int (v80 5)) (C := RX9) (T := TX9) (N := 6) hx hb hts inB_9 hown hE.1 hP 1 rfl rfl 5 (by decide) (hts _ k_144) (fun _ h9 => h9) rfl dX9_advance_202 ?_
                          refine lv_bipush (v := 10) hx hb dX9_advance_205 (by decide) ?_
                          refine lv_imul hx hb dX9_advance_207 ?_
                          refine lv_topi (fun t91 et91 => ?_)
                          refine lv_aload_n hx hb dX9_advance_208 rfl (lv_at hl 0 rfl) ?_
                          refine va_get (D := (dC, dI)) (ci := 9) (v := .ref (x 1)) (C := RX9) (T := TX9) (N := 6) hx hb hts inB_9 hown hE.1 hP 1 rfl rfl 0 (by decide) (hts _ k_136) (fun _ h9 => h9) rfl dX9_advance_209 ?_
                          refine lv_aload_n hx hb dX9_advance_212 rfl (lv_at hl 0 rfl) ?_
                          refine va_get (D := (dC, dI)) (ci := 9) (v := .int (v80 4)) (C := RX9) (T := TX9) (N := 6) hx hb hts inB_9 hown hE.1 hP 1 rfl rfl 4 (by decide) (hts _ k_143) (fun _ h9 => h9) rfl dX9_advance_213 ?_
                          refine ldB hx hb hE hP 2 rfl (vp_in_iff.mpr ⟨by omega, by omega⟩) rfl rfl dX9_advance_216 ?_
                          refine lv_topi (fun t92 et92 => ?_)
                          refine lv_iadd hx hb dX9_advance_217 ?_
                          refine lv_topi (fun t93 et93 => ?_)
                          refine lv_bipush (v := 48) hx hb dX9_advance_218 (by decide) ?_
                          refine lv_isub hx hb dX9_advance_220 ?_
                          refine lv_topi (fun t94 et94 => ?_)
                          refine va_put (D := (dC, dI)) (ci := 9) (v := .int t94) (ty := tyX9 5) (C := RX9) (T := TX9) (N := 6) hx hb hts inB_9 tyX9 tyX9_ok nmX9 hown hE.1 hP hD hS 1 rfl rfl 5 (by decide) (hts _ k_144) (fun _ h9 => h9) rfl (tyX9_ok 5 (by decide)) rfl rfl (Nat.le_of_ble_eq_true rfl) dX9_advance_221 (fun H locs hP hD hS => ?_)
                          have hP : va_P (dC, dI) vwCl (XW cy x0 x (upd v80 5 t94) f80) H := hP
                          have hD : va_D A (XW cy x0 x (upd v80 5 t94) f80) := hD
                          refine lv_aload_n hx hb dX9_advance_224 rfl (lv_at hl 0 rfl) ?_
                          refine lv_dup hx hb dX9_advance_225 rfl ?_
                          refine va_get (D := (dC, dI)) (ci := 9) (v := .int (v80 4)) (C := RX9) (T := TX9) (N := 6) hx hb hts inB_9 hown hE.1 hP 1 rfl rfl 4 (by decide) (hts _ k_143) (fun _ h9 => h9) rfl dX9_advance_226 ?_
                          refine lv_iconst (v := 1) hx hb dX9_advance_229 (by decide) ?_
                          refine lv_iadd hx hb dX9_advance_230 ?_
                          refine lv_topi (fun t95 et95 => ?_)
                          have zt95 : t95.toInt = (v80 4).toInt + 1 := by rw [et95]; exact add_i rfl (by decide) (by omega) (by omega)
                          refine va_put (D := (dC, dI)) (ci := 9) (v := .int t95) (ty := tyX9 4) (C := RX9) (T := TX9) (N := 6) hx hb hts inB_9 tyX9 tyX9_ok nmX9 hown hE.1 hP hD hS 1 rfl rfl 4 (by decide) (hts _ k_143) (fun _ h9 => h9) rfl (tyX9_ok 4 (by decide)) rfl rfl (Nat.le_of_ble_eq_true rfl) dX9_advance_231 (fun H locs hP hD hS => ?_)
                          have hP : va_P (dC, dI) vwCl (XW cy x0 x (upd (upd v80 5 t94) 4 t95) f80) H := hP
                          have hD : va_D A (XW cy x0 x (upd (upd v80 5 t94) 4 t95) f80) := hD
                          refine lv_goto (tgt := 178) hx hb dX9_advance_234 (by decide) ?_
                          exact ih80  (upd (upd v80 5 t94) 4 t95) f80 (XI.upd (j := 4) (x := t95) (XI.upd (j := 5) (x := t94) hIv80 (rlo _) (rhi _)) (show (0 : Int) ≤ t95.toInt by omega) (show t95.toInt ≤ (1600 : Int) by omega)) hq0_v80 hq1_v80 hq9_v80 hq10_v80 hq31_v80 hq32_v80  (by show (1600 - t95.toInt).toNat < n80; omega) _ _ _ hP hD hS (lv_sub hl [0] rfl)
                        · skip
                          subst g90
                          refine lv_if_eq (tgt := 237) hx hb dX9_advance_197 (by decide) (fun _ => ?_) (fun c0 => absurd (by decide) c0)
                          refine lv_aload_n hx hb dX9_advance_237 rfl (lv_at hl 0 rfl) ?_
                          refine lv_aload_n hx hb dX9_advance_238 rfl (lv_at hl 0 rfl) ?_
                          refine va_get (D := (dC, dI)) (ci := 9) (v := .int (v80 4)) (C := RX9) (T := TX9) (N := 6) hx hb hts inB_9 hown hE.1 hP 1 rfl rfl 4 (by decide) (hts _ k_143) (fun _ h9 => h9) rfl dX9_advance_239 ?_
                          refine lv_aload_n hx hb dX9_advance_242 rfl (lv_at hl 0 rfl) ?_
                          refine va_get (D := (dC, dI)) (ci := 9) (v := .int (v80 3)) (C := RX9) (T := TX9) (N := 6) hx hb hts inB_9 hown hE.1 hP 1 rfl rfl 3 (by decide) (hts _ k_141) (fun _ h9 => h9) rfl dX9_advance_243 ?_
                          have b3_v80 : 0 ≤ (v80 3).toInt ∧ (v80 3).toInt ≤ 1600 := XI.b hIv80 3 (by decide)
                          refine lv_isub hx hb dX9_advance_246 ?_
                          refine lv_topi (fun t96 et96 => ?_)
                          have rg97 := fb_rng (v80 3)
                          have zt96 : t96.toInt = (v80 4).toInt - (v80 3).toInt := by rw [et96]; exact sub_i rfl rfl (by omega) (by omega)
                          refine lv_iconst (v := 4) hx hb dX9_advance_247 (by decide) ?_
                          refine lv_icmp_gt (tgt := 262) hx hb dX9_advance_248 (by decide) (fun c98 => ?_) (fun c98 => ?_)
                          · skip
                            have zc98 : 4 < t96.toInt := by rw [fa_lt, show (4 : Int32).toInt = 4 from by decide] at c98; exact c98
                            refine lv_iconst (v := 1) hx hb dX9_advance_262 (by decide) ?_
                            refine lv_goto (tgt := 267) hx hb dX9_advance_263 (by decide) ?_
                            refine va_put (D := (dC, dI)) (ci := 9) (v := .int 1) (ty := tyX9 2) (C := RX9) (T := TX9) (N := 6) hx hb hts inB_9 tyX9 tyX9_ok nmX9 hown hE.1 hP hD hS 1 rfl rfl 2 (by decide) (hts _ k_140) (fun _ h9 => h9) rfl (tyX9_ok 2 (by decide)) rfl rfl (Nat.le_of_ble_eq_true rfl) dX9_advance_267 (fun H locs hP hD hS => ?_)
                            have hP : va_P (dC, dI) vwCl (XW cy x0 x (upd v80 2 1) f80) H := hP
                            have hD : va_D A (XW cy x0 x (upd v80 2 1) f80) := hD
                            refine lv_goto (tgt := 322) hx hb dX9_advance_270 (by decide) ?_
                            exact ret ((upd v80 2 1), f80) _ _ _ _ _ _ ⟨(XI.upd (j := 2) (x := 1) hIv80 (rlo _) (rhi _)), hq0_v80, hq1_v80, hq9_v80, hq10_v80, hq31_v80, hq32_v80⟩ hP hD hS dX9_advance_322 (Nat.le_refl _) (Nat.le_refl _)
                          · skip
                            have zc98 : ¬ (4 < t96.toInt) := by rw [fa_lt, show (4 : Int32).toInt = 4 from by decide] at c98; exact c98
                            refine lv_aload_n hx hb dX9_advance_251 rfl (lv_at hl 0 rfl) ?_
                            refine lv_aload_n hx hb dX9_advance_252 rfl (lv_at hl 0 rfl) ?_
                            refine va_get (D := (dC, dI)) (ci := 9) (v := .int (v80 4)) (C := RX9) (T := TX9) (N := 6) hx hb hts inB_9 hown hE.1 hP 1 rfl rfl 4 (by decide) (hts _ k_143) (fun _ h9 => h9) rfl dX9_advance_253 ?_
                            refine cbVi (n := 1) (rest := [.ref (x 0)]) hx hb hml hown hts hE hP hD hS hA (sX_X9_isLetter_1 l dC dI cy x0 x (v80 4) v80 f80 hIv80 ) k_562 k_564 k_1 k_102 k_565 (by decide +kernel) ⟨Nat.le_of_ble_eq_true rfl, Nat.le_of_ble_eq_true rfl⟩ 1 9 rfl rfl (rfl) hl.1 rfl (Nat.le_of_ble_eq_true rfl) dX9_advance_256 (fun r99 u H locs hw hP hD hS => ?_)
                            rcases hw with ⟨g100, g100_0, g100_1, g100_2⟩ | ⟨g100⟩
                            · skip
                              subst g100
                              refine lv_if_eq (tgt := 266) hx hb dX9_advance_259 (by decide) (fun c0 => absurd c0 (by decide)) (fun _ => ?_)
                              refine lv_iconst (v := 1) hx hb dX9_advance_262 (by decide) ?_
                              refine lv_goto (tgt := 267) hx hb dX9_advance_263 (by decide) ?_
                              refine va_put (D := (dC, dI)) (ci := 9) (v := .int 1) (ty := tyX9 2) (C := RX9) (T := TX9) (N := 6) hx hb hts inB_9 tyX9 tyX9_ok nmX9 hown hE.1 hP hD hS 1 rfl rfl 2 (by decide) (hts _ k_140) (fun _ h9 => h9) rfl (tyX9_ok 2 (by decide)) rfl rfl (Nat.le_of_ble_eq_true rfl) dX9_advance_267 (fun H locs hP hD hS => ?_)
                              have hP : va_P (dC, dI) vwCl (XW cy x0 x (upd v80 2 1) f80) H := hP
                              have hD : va_D A (XW cy x0 x (upd v80 2 1) f80) := hD
                              refine lv_goto (tgt := 322) hx hb dX9_advance_270 (by decide) ?_
                              exact ret ((upd v80 2 1), f80) _ _ _ _ _ _ ⟨(XI.upd (j := 2) (x := 1) hIv80 (rlo _) (rhi _)), hq0_v80, hq1_v80, hq9_v80, hq10_v80, hq31_v80, hq32_v80⟩ hP hD hS dX9_advance_322 (Nat.le_refl _) (Nat.le_refl _)
                            · skip
                              subst g100
                              refine lv_if_eq (tgt := 266) hx hb dX9_advance_259 (by decide) (fun _ => ?_) (fun c0 => absurd (by decide) c0)
                              refine lv_iconst (v := 2) hx hb dX9_advance_266 (by decide) ?_
                              refine va_put (D := (dC, dI)) (ci := 9) (v := .int 2) (ty := tyX9 2) (C := RX9) (T := TX9) (N := 6) hx hb hts inB_9 tyX9 tyX9_ok nmX9 hown hE.1 hP hD hS 1 rfl rfl 2 (by decide) (hts _ k_140) (fun _ h9 => h9) rfl (tyX9_ok 2 (by decide)) rfl rfl (Nat.le_of_ble_eq_true rfl) dX9_advance_267 (fun H locs hP hD hS => ?_)
                              have hP : va_P (dC, dI) vwCl (XW cy x0 x (upd v80 2 2) f80) H := hP
                              have hD : va_D A (XW cy x0 x (upd v80 2 2) f80) := hD
                              refine lv_goto (tgt := 322) hx hb dX9_advance_270 (by decide) ?_
                              exact ret ((upd v80 2 2), f80) _ _ _ _ _ _ ⟨(XI.upd (j := 2) (x := 2) hIv80 (rlo _) (rhi _)), hq0_v80, hq1_v80, hq9_v80, hq10_v80, hq31_v80, hq32_v80⟩ hP hD hS dX9_advance_322 (Nat.le_refl _) (Nat.le_refl _)
                  exact lp80 _  (upd (upd v1 4 (v1 3)) 5 0) f1 (XI.upd (j := 5) (x := 0) (XI.upd (j := 4) (x := (v1 3)) hIv1 (show (0 : Int) ≤ (v1 3).toInt by omega) (show (v1 3).toInt ≤ (1600 : Int) by omega)) (rlo _) (rhi _)) hq0_v1 hq1_v1 hq9_v1 hq10_v1 hq31_v1 hq32_v1  (Nat.lt_succ_self _) _ _ _ hP hD hS (lv_sub hl [0] rfl)
                · skip
                  subst g79
                  refine lv_if_eq (tgt := 273) hx hb dX9_advance_170 (by decide) (fun _ => ?_) (fun c0 => absurd (by decide) c0)
                  refine lv_aload_n hx hb dX9_advance_273 rfl (lv_at hl 0 rfl) ?_
                  refine lv_dup hx hb dX9_advance_274 rfl ?_
                  refine va_get (D := (dC, dI)) (ci := 9) (v := .int (v1 3)) (C := RX9) (T := TX9) (N := 6) hx hb hts inB_9 hown hE.1 hP 1 rfl rfl 4 (by decide) (hts _ k_143) (fun _ h9 => h9) rfl dX9_advance_275 ?_
                  refine lv_iconst (v := 1) hx hb dX9_advance_278 (by decide) ?_
                  refine lv_iadd hx hb dX9_advance_279 ?_
                  refine lv_topi (fun t101 et101 => ?_)
                  have zt101 : t101.toInt = (v1 3).toInt + 1 := by rw [et101]; exact add_i rfl (by decide) (by omega) (by omega)
                  refine va_put (D := (dC, dI)) (ci := 9) (v := .int t101) (ty := tyX9 4) (C := RX9) (T := TX9) (N := 6) hx hb hts inB_9 tyX9 tyX9_ok nmX9 hown hE.1 hP hD hS 1 rfl rfl 4 (by decide) (hts _ k_143) (fun _ h9 => h9) rfl (tyX9_ok 4 (by decide)) rfl rfl (Nat.le_of_ble_eq_true rfl) dX9_advance_280 (fun H locs hP hD hS => ?_)
                  have hP : va_P (dC, dI) vwCl (XW cy x0 x (upd (upd v1 4 (v1 3)) 4 t101) f1) H := hP
                  have hD : va_D A (XW cy x0 x (upd (upd v1 4 (v1 3)) 4 t101) f1) := hD
                  refine lv_aload_n hx hb dX9_advance_283 rfl (lv_at hl 0 rfl) ?_
                  refine va_ldcS hx hb hown hF.1 dX9_advance_284 ?_
                  refine lv_aload_n hx hb dX9_advance_286 rfl (lv_at hl 0 rfl) ?_
                  refine va_get (D := (dC, dI)) (ci := 9) (v := .ref (x 1)) (C := RX9) (T := TX9) (N := 6) hx hb hts inB_9 hown hE.1 hP 1 rfl rfl 0 (by decide) (hts _ k_136) (fun _ h9 => h9) rfl dX9_advance_287 ?_
                  refine lv_aload_n hx hb dX9_advance_290 rfl (lv_at hl 0 rfl) ?_
                  refine va_get (D := (dC, dI)) (ci := 9) (v := .int (v1 3)) (C := RX9) (T := TX9) (N := 6) hx hb hts inB_9 hown hE.1 hP 1 rfl rfl 3 (by decide) (hts _ k_141) (fun _ h9 => h9) rfl dX9_advance_291 ?_
                  refine ldB hx hb hE hP 2 rfl (vp_in_iff.mpr ⟨by omega, by omega⟩) rfl rfl dX9_advance_294 ?_
                  refine lv_topi (fun t102 et102 => ?_)
                  refine lv_sipush (v := 255) hx hb dX9_advance_295 (by decide) ?_
                  refine lv_iand hx hb dX9_advance_298 ?_
                  refine lv_topi (fun t103 et103 => ?_)
                  have zt103 : 0 ≤ t103.toInt ∧ t103.toInt < 256 := by rw [et103]; exact and_rng _ (k := 8) (by decide) (by decide)
                  refine lv_i2c hx hb dX9_advance_299 rfl ?_
                  refine lv_topi (fun t104 et104 => ?_)
                  refine crVi (n := 1) (rest := [.ref (x 0)]) hx hb hml hown hts hE hP hD hS hA hF hT (sX_J0_indexOf_0f7a4_1 l dC dI cy x0 x t104 (upd (upd v1 4 (v1 3)) 4 t101) f1 (XI.upd (j := 4) (x := t101) (XI.upd (j := 4) (x := (v1 3)) hIv1 (show (0 : Int) ≤ (v1 3).toInt by omega) (show (v1 3).toInt ≤ (1600 : Int) by omega)) (show (0 : Int) ≤ t101.toInt by omega) (show t101.toInt ≤ (1600 : Int) by omega)) ) k_624 k_625 k_626 k_115 k_627 (by decide +kernel) ⟨Nat.le_of_ble_eq_true rfl, Nat.le_of_ble_eq_true rfl⟩ 0 (by decide) rfl rfl (rfl) hl.1 rfl (Nat.le_of_ble_eq_true rfl) dX9_advance_300 (fun r105 u H locs hw hP hD hS => ?_)
                  refine lv_if_lt (tgt := 318) hx hb dX9_advance_303 (by decide) (fun c106 => ?_) (fun c106 => ?_)
                  · skip
                    have zc106 : r105.toInt < 0 := by rw [fa_lt, show (0 : Int32).toInt = 0 from by decide] at c106; exact c106
                    refine lv_iconst (v := 1) hx hb dX9_advance_318 (by decide) ?_
                    refine va_put (D := (dC, dI)) (ci := 9) (v := .int 1) (ty := tyX9 2) (C := RX9) (T := TX9) (N := 6) hx hb hts inB_9 tyX9 tyX9_ok nmX9 hown hE.1 hP hD hS 1 rfl rfl 2 (by decide) (hts _ k_140) (fun _ h9 => h9) rfl (tyX9_ok 2 (by decide)) rfl rfl (Nat.le_of_ble_eq_true rfl) dX9_advance_319 (fun H locs hP hD hS => ?_)
                    have hP : va_P (dC, dI) vwCl (XW cy x0 x (upd (upd (upd v1 4 (v1 3)) 4 t101) 2 1) f1) H := hP
                    have hD : va_D A (XW cy x0 x (upd (upd (upd v1 4 (v1 3)) 4 t101) 2 1) f1) := hD
                    exact ret ((upd (upd (upd v1 4 (v1 3)) 4 t101) 2 1), f1) _ _ _ _ _ _ ⟨(XI.upd (j := 2) (x := 1) (XI.upd (j := 4) (x := t101) (XI.upd (j := 4) (x := (v1 3)) hIv1 (show (0 : Int) ≤ (v1 3).toInt by omega) (show (v1 3).toInt ≤ (1600 : Int) by omega)) (show (0 : Int) ≤ t101.toInt by omega) (show t101.toInt ≤ (1600 : Int) by omega)) (rlo _) (rhi _)), (show v1 0 = v 0 from hq0_v1), (show v1 1 = v 1 from hq1_v1), (show v1 9 = v 9 from hq9_v1), (show v1 10 = v 10 from hq10_v1), (show v1 31 = v 31 from hq31_v1), (show v1 32 = v 32 from hq32_v1)⟩ hP hD hS dX9_advance_322 (Nat.le_refl _) (Nat.le_refl _)
                  · skip
                    have zc106 : ¬ (r105.toInt < 0) := by rw [fa_lt, show (0 : Int32).toInt = 0 from by decide] at c106; exact c106
                    refine lv_aload_n hx hb dX9_advance_306 rfl (lv_at hl 0 rfl) ?_
                    refine va_get (D := (dC, dI)) (ci := 9) (v := .ref (x 1)) (C := RX9) (T := TX9) (N := 6) hx hb hts inB_9 hown hE.1 hP 1 rfl rfl 0 (by decide) (hts _ k_136) (fun _ h9 => h9) rfl dX9_advance_307 ?_
                    refine lv_aload_n hx hb dX9_advance_310 rfl (lv_at hl 0 rfl) ?_
                    refine va_get (D := (dC, dI)) (ci := 9) (v := .int (v1 3)) (C := RX9) (T := TX9) (N := 6) hx hb hts inB_9 hown hE.1 hP 1 rfl rfl 3 (by decide) (hts _ k_141) (fun _ h9 => h9) rfl dX9_advance_311 ?_
                    refine ldB hx hb hE hP 2 rfl (vp_in_iff.mpr ⟨by omega, by omega⟩) rfl rfl dX9_advance_314 ?_
                    refine lv_topi (fun t107 et107 => ?_)
                    refine lv_goto (tgt := 319) hx hb dX9_advance_315 (by decide) ?_
                    refine va_put (D := (dC, dI)) (ci := 9) (v := .int t107) (ty := tyX9 2) (C := RX9) (T := TX9) (N := 6) hx hb hts inB_9 tyX9 tyX9_ok nmX9 hown hE.1 hP hD hS 1 rfl rfl 2 (by decide) (hts _ k_140) (fun _ h9 => h9) rfl (tyX9_ok 2 (by decide)) rfl rfl (Nat.le_of_ble_eq_true rfl) dX9_advance_319 (fun H locs hP hD hS => ?_)
                    have hP : va_P (dC, dI) vwCl (XW cy x0 x (upd (upd (upd v1 4 (v1 3)) 4 t101) 2 t107) f1) H := hP
                    have hD : va_D A (XW cy x0 x (upd (upd (upd v1 4 (v1 3)) 4 t101) 2 t107) f1) := hD
                    exact ret ((upd (upd (upd v1 4 (v1 3)) 4 t101) 2 t107), f1) _ _ _ _ _ _ ⟨(XI.upd (j := 2) (x := t107) (XI.upd (j := 4) (x := t101) (XI.upd (j := 4) (x := (v1 3)) hIv1 (show (0 : Int) ≤ (v1 3).toInt by omega) (show (v1 3).toInt ≤ (1600 : Int) by omega)) (show (0 : Int) ≤ t101.toInt by omega) (show t101.toInt ≤ (1600 : Int) by omega)) (rlo _) (rhi _)), (show v1 0 = v 0 from hq0_v1), (show v1 1 = v 1 from hq1_v1), (show v1 9 = v 9 from hq9_v1), (show v1 10 = v 10 from hq10_v1), (show v1 31 = v 31 from hq31_v1), (show v1 32 = v 32 from hq32_v1)⟩ hP hD hS dX9_advance_322 (Nat.le_refl _) (Nat.le_refl _)
            · skip
              have zc60 : ¬ ((v1 3).toInt < (v 1).toInt) := by rw [fa_lt] at c60; exact c60
              refine lv_aload_n hx hb dX9_advance_79 rfl (lv_at hl 0 rfl) ?_
              refine lv_iconst (v := 0) hx hb dX9_advance_80 (by decide) ?_
              refine va_put (D := (dC, dI)) (ci := 9) (v := .int 0) (ty := tyX9 2) (C := RX9) (T := TX9) (N := 6) hx hb hts inB_9 tyX9 tyX9_ok nmX9 hown hE.1 hP hD hS 1 rfl rfl 2 (by decide) (hts _ k_140) (fun _ h9 => h9) rfl (tyX9_ok 2 (by decide)) rfl rfl (Nat.le_of_ble_eq_true rfl) dX9_advance_81 (fun H locs hP hD hS => ?_)
              have hP : va_P (dC, dI) vwCl (XW cy x0 x (upd (upd v1 4 (v1 3)) 2 0) f1) H := hP
              have hD : va_D A (XW cy x0 x (upd (upd v1 4 (v1 3)) 2 0) f1) := hD
              refine lv_goto (tgt := 322) hx hb dX9_advance_84 (by decide) ?_
              exact ret ((upd (upd v1 4 (v1 3)) 2 0), f1) _ _ _ _ _ _ ⟨(XI.upd (j := 2) (x := 0) (XI.upd (j := 4) (x := (v1 3)) hIv1 (show (0 : Int) ≤ (v1 3).toInt by omega) (show (v1 3).toInt ≤ (1600 : Int) by omega)) (rlo _) (rhi _)), (show v1 0 = v 0 from hq0_v1), (show v1 1 = v 1 from hq1_v1), (show v1 9 = v 9 from hq9_v1), (show v1 10 = v 10 from hq10_v1), (show v1 31 = v 31 from hq31_v1), (show v1 32 = v 32 from hq32_v1)⟩ hP hD hS dX9_advance_322 (Nat.le_refl _) (Nat.le_refl _)
          · skip
            have zc59 : t58.toInt = 10 := by rw [fa_eq, show (10 : Int32).toInt = 10 from by decide] at c59; exact c59
            refine lv_aload_n hx hb dX9_advance_47 rfl (lv_at hl 0 rfl) ?_
            refine lv_dup hx hb dX9_advance_48 rfl ?_
            refine va_get (D := (dC, dI)) (ci := 9) (v := .int (v1 3)) (C := RX9) (T := TX9) (N := 6) hx hb hts inB_9 hown hE.1 hP 1 rfl rfl 3 (by decide) (hts _ k_141) (fun _ h9 => h9) rfl dX9_advance_49 ?_
            refine lv_iconst (v := 1) hx hb dX9_advance_52 (by decide) ?_
            refine lv_iadd hx hb dX9_advance_53 ?_
            refine lv_topi (fun t108 et108 => ?_)
            have zt108 : t108.toInt = (v1 3).toInt + 1 := by rw [et108]; exact add_i rfl (by decide) (by omega) (by omega)
            refine va_put (D := (dC, dI)) (ci := 9) (v := .int t108) (ty := tyX9 3) (C := RX9) (T := TX9) (N := 6) hx hb hts inB_9 tyX9 tyX9_ok nmX9 hown hE.1 hP hD hS 1 rfl rfl 3 (by decide) (hts _ k_141) (fun _ h9 => h9) rfl (tyX9_ok 3 (by decide)) rfl rfl (Nat.le_of_ble_eq_true rfl) dX9_advance_54 (fun H locs hP hD hS => ?_)
            have hP : va_P (dC, dI) vwCl (XW cy x0 x (upd v1 3 t108) f1) H := hP
            have hD : va_D A (XW cy x0 x (upd v1 3 t108) f1) := hD
            refine lv_goto (tgt := 8) hx hb dX9_advance_57 (by decide) ?_
            exact ih1  (upd v1 3 t108) f1 (XI.upd (j := 3) (x := t108) hIv1 (show (0 : Int) ≤ t108.toInt by omega) (show t108.toInt ≤ (1600 : Int) by omega)) hq0_v1 hq1_v1 hq9_v1 hq10_v1 hq31_v1 hq32_v1  (by show (1600 - t108.toInt).toNat < n1; omega) _ _ _ hP hD hS (lv_sub hl [0] rfl)
  exact lp1 _  (upd v 3 (v 4)) f (XI.upd (j := 3) (x := (v 4)) hIv (show (0 : Int) ≤ (v 4).toInt by omega) (show (v 4).toInt ≤ (1600 : Int) by omega)) rfl rfl rfl rfl rfl rfl  (Nat.lt_succ_self _) _ _ _ hP hD hS (lv_sub hl [0] rfl)
set_option maxHeartbeats 4000000 in
set_option maxRecDepth 100000 in
theorem sX_X9_rewind_1 (l : Launch) (dC : Nat → ClassId) (dI : Nat → Nat → Nat) (cy : Nat → ClassId) (x0 : Nat) (x : Nat → Nat)  (v : Nat → Int32) (f : Nat → Nat → Int32) (hIv : XI v)  : ctVS l (dC, dI) cy yX9_rewind cX9_rewind 1 7 191 0 0 ((Nat → Int32) × (Nat → Nat → Int32)) [.ref (x 0)] (XW cy x0 x v f) (fun u => XI u.1 ∧ u.1 0 = v 0 ∧ u.1 1 = v 1 ∧ u.1 9 = v 9 ∧ u.1 10 = v 10 ∧ u.1 31 = v 31 ∧ u.1 32 = v 32) (fun u => XW cy x0 x u.1 u.2) := by
  refine ctVS_of (by decide) (Nat.le_of_ble_eq_true rfl) (fun p e s m below meth c A ls Q hx hb hml hts hown hnm hE hF hT hP hD hA hl ret => ?_)
  have hown : s.vm.findClass RX9 = some m.cls := hown
  have hS : va_S A s.heap s.heap [] := va_S.rf
  have hl : lv_has ls 1 [(0, .ref (x 0))] := hl
  refine lv_aload_n hx hb dX9_rewind_0 rfl (lv_at hl 0 rfl) ?_
  refine lv_iconst (v := 0) hx hb dX9_rewind_1 (by decide) ?_
  refine va_put (D := (dC, dI)) (ci := 9) (v := .int 0) (ty := tyX9 4) (C := RX9) (T := TX9) (N := 6) hx hb hts inB_9 tyX9 tyX9_ok nmX9 hown hE.1 hP hD hS 1 rfl rfl 4 (by decide) (hts _ k_143) (fun _ h9 => h9) rfl (tyX9_ok 4 (by decide)) rfl rfl (Nat.le_of_ble_eq_true rfl) dX9_rewind_2 (fun H locs hP hD hS => ?_)
  have hP : va_P (dC, dI) vwCl (XW cy x0 x (upd v 4 0) f) H := hP
  have hD : va_D A (XW cy x0 x (upd v 4 0) f) := hD
  refine lv_aload_n hx hb dX9_rewind_5 rfl (lv_at hl 0 rfl) ?_
  refine csVv (n := 0) (rest := []) hx hb hml hown hts hE hP hD hS hA hF hT (sX_X9_advance_1 l dC dI cy x0 x  (upd v 4 0) f (XI.upd (j := 4) (x := 0) hIv (by decide) (by decide)) ) k_558 k_559 k_560 k_102 k_561 (by decide +kernel) ⟨Nat.le_of_ble_eq_true rfl, Nat.le_of_ble_eq_true rfl⟩ 1 9 rfl rfl (rfl) hl.1 rfl (Nat.le_of_ble_eq_true rfl) dX9_rewind_6 (fun u H locs hw hP hD hS => ?_)
  obtain ⟨v1, f2⟩ := u
  obtain ⟨hIv1, hk0_v1, hk1_v1, hk9_v1, hk10_v1, hk31_v1, hk32_v1⟩ := hw
  have hP : va_P (dC, dI) vwCl (XW cy x0 x v1 f2) H := hP
  have hD : va_D A (XW cy x0 x v1 f2) := hD
  have hq0_v1 : v1 0 = (v 0) := hk0_v1
  have hq1_v1 : v1 1 = (v 1) := hk1_v1
  have hq9_v1 : v1 9 = (v 9) := hk9_v1
  have hq10_v1 : v1 10 = (v 10) := hk10_v1
  have hq31_v1 : v1 31 = (v 31) := hk31_v1
  have hq32_v1 : v1 32 = (v 32) := hk32_v1
  exact ret (v1, f2) _ _ _ _ _ _ ⟨hIv1, hk0_v1, hk1_v1, hk9_v1, hk10_v1, hk31_v1, hk32_v1⟩ hP hD hS dX9_rewind_9 (Nat.le_refl _) (Nat.le_refl _)
set_option maxHeartbeats 4000000 in
set_option maxRecDepth 100000 in
theorem sX_X9_sameWord_1 (l : Launch) (dC : Nat → ClassId) (dI : Nat → Nat → Nat) (cy : Nat → ClassId) (x0 : Nat) (x : Nat → Nat) (p1 : Int32) (p2 : Int32) (v : Nat → Int32) (f : Nat → Nat → Int32) (hIv : XI v)  : ctI l (dC, dI) cy yX9_sameWord cX9_sameWord 4 .boolean 2 81 0 0 Unit [.ref (x 0), .int p1, .int p2] (XW cy x0 x v f) (fun r u => ((r = 1) ∨ (r = 0))) (fun u => XW cy x0 x v f) := by
  refine ctI_of (by decide) (Nat.le_of_ble_eq_true rfl) (fun p e s m below meth c A ls Q hx hb hml hts hown hE hP hD hA hl ret => ?_)
  have hown : s.vm.findClass RX9 = some m.cls := hown
  have hS : va_S A s.heap s.heap [] := va_S.rf
  have hl : lv_has ls 4 [(0, .ref (x 0)), (1, .int p1), (2, .int p2)] := hl
  refine lv_iconst (v := 0) hx hb dX9_sameWord_0 (by decide) ?_
  refine lv_istore_n (lv' := [(3, .int 0), (0, .ref (x 0)), (1, .int p1), (2, .int p2)]) hx hb dX9_sameWord_1 rfl hl (by decide) rfl (fun ls hl => ?_)
  have lp1 : ∀ (n1 : Nat) (l3_1 : Int32), ((0 : Int) ≤ l3_1.toInt ∧ l3_1.toInt ≤ 2147483647) → (2147483647 - l3_1.toInt).toNat < n1 → ∀ (H : Heap) (locs : List Loc) (ls : Array Slot), va_P (dC, dI) vwCl (XW cy x0 x v f) H → va_D A (XW cy x0 x v f) → va_S A s.heap H locs → lv_has ls 4 [(3, .int l3_1), (0, .ref (x 0)), (1, .int p1), (2, .int p2)] → W p l e { frames := 2, cells := 0, slots := 0, locals := 81 } s m ([.ref (x 0), .int p1, .int p2] : List Value).toArray below meth c H locs 0 0 Q (F0 m 2 ls []) := by
    intro n1
    induction n1 with
    | zero => intro l3_1 hr3_1 hm; exact absurd hm (Nat.not_lt_zero _)
    | succ n1 ih1 =>
      intro l3_1 hr3_1 hm1 H locs ls hP hD hS hl
      refine lv_iload_n hx hb dX9_sameWord_2 rfl (lv_at hl 0 rfl) ?_
      refine lv_bipush (v := 8) hx hb dX9_sameWord_3 (by decide) ?_
      refine lv_icmp_gt (tgt := 78) hx hb dX9_sameWord_5 (by decide) (fun c2 => ?_) (fun c2 => ?_)
      · skip
        have zc2 : 8 < l3_1.toInt := by rw [fa_lt, show (8 : Int32).toInt = 8 from by decide] at c2; exact c2
        refine lv_iconst (v := 1) hx hb dX9_sameWord_78 (by decide) ?_
        exact ret 1 () _ _ _ _ _ _ rfl (Or.inl rfl) hP hD hS dX9_sameWord_79 (Nat.le_refl _) (Nat.le_refl _)
      · skip
        have zc2 : ¬ (8 < l3_1.toInt) := by rw [fa_lt, show (8 : Int32).toInt = 8 from by decide] at c2; exact c2
        refine lv_aload_n hx hb dX9_sameWord_8 rfl (lv_at hl 1 rfl) ?_
        refine lv_iload_n hx hb dX9_sameWord_9 rfl (lv_at hl 2 rfl) ?_
        refine lv_iload_n hx hb dX9_sameWord_10 rfl (lv_at hl 0 rfl) ?_
        refine lv_iadd hx hb dX9_sameWord_11 ?_
        refine lv_topi (fun t3 et3 => ?_)
        refine cbVi (n := 1) (rest := []) hx hb hml hown hts hE hP hD hS hA (sX_X9_isLetter_1 l dC dI cy x0 x t3 v f hIv ) k_562 k_564 k_1 k_102 k_565 (by decide +kernel) ⟨Nat.le_of_ble_eq_true rfl, Nat.le_of_ble_eq_true rfl⟩ 1 9 rfl rfl (rfl) hl.1 rfl (Nat.le_of_ble_eq_true rfl) dX9_sameWord_12 (fun r4 u H locs hw hP hD hS => ?_)
        rcases hw with ⟨g5, g5_0, g5_1, g5_2⟩ | ⟨g5⟩
        · skip
          subst g5
          refine lv_if_eq (tgt := 28) hx hb dX9_sameWord_15 (by decide) (fun c0 => absurd c0 (by decide)) (fun _ => ?_)
          refine lv_aload_n hx hb dX9_sameWord_18 rfl (lv_at hl 1 rfl) ?_
          refine lv_iload_n hx hb dX9_sameWord_19 rfl (lv_at hl 3 rfl) ?_
          refine lv_iload_n hx hb dX9_sameWord_20 rfl (lv_at hl 0 rfl) ?_
          refine lv_iadd hx hb dX9_sameWord_21 ?_
          refine lv_topi (fun t6 et6 => ?_)
          refine cbVi (n := 1) (rest := []) hx hb hml hown hts hE hP hD hS hA (sX_X9_isLetter_1 l dC dI cy x0 x t6 v f hIv ) k_562 k_564 k_1 k_102 k_565 (by decide +kernel) ⟨Nat.le_of_ble_eq_true rfl, Nat.le_of_ble_eq_true rfl⟩ 1 9 rfl rfl (rfl) hl.1 rfl (Nat.le_of_ble_eq_true rfl) dX9_sameWord_22 (fun r7 u H locs hw hP hD hS => ?_)
          rcases hw with ⟨g8, g8_0, g8_1, g8_2⟩ | ⟨g8⟩
          · skip
            subst g8
            refine lv_if_ne (tgt := 51) hx hb dX9_sameWord_25 (by decide) (fun _ => ?_) (fun c0 => absurd c0 (by decide))
            refine lv_aload_n hx hb dX9_sameWord_51 rfl (lv_at hl 1 rfl) ?_
            refine va_get (D := (dC, dI)) (ci := 9) (v := .ref (x 1)) (C := RX9) (T := TX9) (N := 6) hx hb hts inB_9 hown hE.1 hP 1 rfl rfl 0 (by decide) (hts _ k_136) (fun _ h9 => h9) rfl dX9_sameWord_52 ?_
            refine lv_iload_n hx hb dX9_sameWord_55 rfl (lv_at hl 2 rfl) ?_
            refine lv_iload_n hx hb dX9_sameWord_56 rfl (lv_at hl 0 rfl) ?_
            refine lv_iadd hx hb dX9_sameWord_57 ?_
            refine tI (y := t3) et3.symm ?_
            refine ldB hx hb hE hP 2 rfl (vp_in_iff.mpr ⟨by omega, by omega⟩) rfl rfl dX9_sameWord_58 ?_
            refine lv_topi (fun t9 et9 => ?_)
            refine lv_aload_n hx hb dX9_sameWord_59 rfl (lv_at hl 1 rfl) ?_
            refine va_get (D := (dC, dI)) (ci := 9) (v := .ref (x 1)) (C := RX9) (T := TX9) (N := 6) hx hb hts inB_9 hown hE.1 hP 1 rfl rfl 0 (by decide) (hts _ k_136) (fun _ h9 => h9) rfl dX9_sameWord_60 ?_
            refine lv_iload_n hx hb dX9_sameWord_63 rfl (lv_at hl 3 rfl) ?_
            refine lv_iload_n hx hb dX9_sameWord_64 rfl (lv_at hl 0 rfl) ?_
            refine lv_iadd hx hb dX9_sameWord_65 ?_
            refine tI (y := t6) et6.symm ?_
            refine ldB hx hb hE hP 2 rfl (vp_in_iff.mpr ⟨by omega, by omega⟩) rfl rfl dX9_sameWord_66 ?_
            refine lv_topi (fun t10 et10 => ?_)
            refine lv_icmp_eq (tgt := 72) hx hb dX9_sameWord_67 (by decide) (fun c11 => ?_) (fun c11 => ?_)
            · skip
              have zc11 : t9.toInt = t10.toInt := by rw [fa_eq] at c11; exact c11
              have rg12 := fb_rng t9
              have rg13 := fb_rng t10
              obtain ⟨t14, et14⟩ : ∃ y : Int32, y = l3_1 + 1 := ⟨_, rfl⟩
              have rg15 := fb_rng l3_1
              have zt14 : t14.toInt = l3_1.toInt + 1 := by rw [et14]; exact add_i rfl (by decide) (by omega) (by omega)
              refine lv_iinc (v := t14) (lv' := [(3, .int t14), (0, .ref (x 0)), (1, .int p1), (2, .int p2)]) hx hb dX9_sameWord_72 hl (k := 0) rfl (by rw [et14]; rfl) (by decide) rfl (fun ls hl => ?_)
              refine lv_goto (tgt := 2) hx hb dX9_sameWord_75 (by decide) ?_
              have rg16 := fb_rng t14
              exact ih1 t14 ⟨show (0 : Int) ≤ t14.toInt by omega, show t14.toInt ≤ (2147483647 : Int) by omega⟩ (by show (2147483647 - t14.toInt).toNat < n1; omega) _ _ _ hP hD hS (lv_sub hl [0, 1, 2, 3] rfl)
            · skip
              have zc11 : ¬ (t9.toInt = t10.toInt) := by rw [fa_eq] at c11; exact c11
              have rg17 := fb_rng t9
              have rg18 := fb_rng t10
              refine lv_iconst (v := 0) hx hb dX9_sameWord_70 (by decide) ?_
              exact ret 0 () _ _ _ _ _ _ rfl (Or.inr rfl) hP hD hS dX9_sameWord_71 (Nat.le_refl _) (Nat.le_refl _)
          · skip
            subst g8
            refine lv_if_ne (tgt := 51) hx hb dX9_sameWord_25 (by decide) (fun c0 => absurd (by decide) c0) (fun _ => ?_)
            refine lv_aload_n hx hb dX9_sameWord_28 rfl (lv_at hl 1 rfl) ?_
            refine lv_iload_n hx hb dX9_sameWord_29 rfl (lv_at hl 2 rfl) ?_
            refine lv_iload_n hx hb dX9_sameWord_30 rfl (lv_at hl 0 rfl) ?_
            refine lv_iadd hx hb dX9_sameWord_31 ?_
            refine tI (y := t3) et3.symm ?_
            refine cbVi (n := 1) (rest := []) hx hb hml hown hts hE hP hD hS hA (sX_X9_isLetter_1 l dC dI cy x0 x t3 v f hIv ) k_562 k_564 k_1 k_102 k_565 (by decide +kernel) ⟨Nat.le_of_ble_eq_true rfl, Nat.le_of_ble_eq_true rfl⟩ 1 9 rfl rfl (rfl) hl.1 rfl (Nat.le_of_ble_eq_true rfl) dX9_sameWord_32 (fun r19 u H locs hw hP hD hS => ?_)
            rcases hw with ⟨g20, g20_0, g20_1, g20_2⟩ | ⟨g20⟩
            · skip
              subst g20
              refine lv_aload_n hx hb dX9_sameWord_35 rfl (lv_at hl 1 rfl) ?_
              refine lv_iload_n hx hb dX9_sameWord_36 rfl (lv_at hl 3 rfl) ?_
              refine lv_iload_n hx hb dX9_sameWord_37 rfl (lv_at hl 0 rfl) ?_
              refine lv_iadd hx hb dX9_sameWord_38 ?_
              refine tI (y := t6) et6.symm ?_
              refine cbVi (n := 1) (rest := [.int 1]) hx hb hml hown hts hE hP hD hS hA (sX_X9_isLetter_1 l dC dI cy x0 x t6 v f hIv ) k_562 k_564 k_1 k_102 k_565 (by decide +kernel) ⟨Nat.le_of_ble_eq_true rfl, Nat.le_of_ble_eq_true rfl⟩ 1 9 rfl rfl (rfl) hl.1 rfl (Nat.le_of_ble_eq_true rfl) dX9_sameWord_39 (fun r21 u H locs hw hP hD hS => ?_)
              rcases hw with ⟨g22, g22_0, g22_1, g22_2⟩ | ⟨g22⟩
              · skip
                subst g22
                refine lv_icmp_ne (tgt := 49) hx hb dX9_sameWord_42 (by decide) (fun c0 => absurd (by decide) c0) (fun _ => ?_)
                refine lv_iconst (v := 1) hx hb dX9_sameWord_45 (by decide) ?_
                refine lv_goto (tgt := 50) hx hb dX9_sameWord_46 (by decide) ?_
                exact ret 1 () _ _ _ _ _ _ rfl (Or.inl rfl) hP hD hS dX9_sameWord_50 (Nat.le_refl _) (Nat.le_refl _)
              · skip
                subst g22
                refine lv_icmp_ne (tgt := 49) hx hb dX9_sameWord_42 (by decide) (fun _ => ?_) (fun c0 => absurd c0 (by decide))
                refine lv_iconst (v := 0) hx hb dX9_sameWord_49 (by decide) ?_
                exact ret 0 () _ _ _ _ _ _ rfl (Or.inr rfl) hP hD hS dX9_sameWord_50 (Nat.le_refl _) (Nat.le_refl _)
            · skip
              subst g20
              refine lv_aload_n hx hb dX9_sameWord_35 rfl (lv_at hl 1 rfl) ?_
              refine lv_iload_n hx hb dX9_sameWord_36 rfl (lv_at hl 3 rfl) ?_
              refine lv_iload_n hx hb dX9_sameWord_37 rfl (lv_at hl 0 rfl) ?_
              refine lv_iadd hx hb dX9_sameWord_38 ?_
              refine tI (y := t6) et6.symm ?_
              refine cbVi (n := 1) (rest := [.int 0]) hx hb hml hown hts hE hP hD hS hA (sX_X9_isLetter_1 l dC dI cy x0 x t6 v f hIv ) k_562 k_564 k_1 k_102 k_565 (by decide +kernel) ⟨Nat.le_of_ble_eq_true rfl, Nat.le_of_ble_eq_true rfl⟩ 1 9 rfl rfl (rfl) hl.1 rfl (Nat.le_of_ble_eq_true rfl) dX9_sameWord_39 (fun r23 u H locs hw hP hD hS => ?_)
              rcases hw with ⟨g24, g24_0, g24_1, g24_2⟩ | ⟨g24⟩
              · skip
                subst g24
                refine lv_icmp_ne (tgt := 49) hx hb dX9_sameWord_42 (by decide) (fun _ => ?_) (fun c0 => absurd c0 (by decide))
                refine lv_iconst (v := 0) hx hb dX9_sameWord_49 (by decide) ?_
                exact ret 0 () _ _ _ _ _ _ rfl (Or.inr rfl) hP hD hS dX9_sameWord_50 (Nat.le_refl _) (Nat.le_refl _)
              · skip
                subst g24
                refine lv_icmp_ne (tgt := 49) hx hb dX9_sameWord_42 (by decide) (fun c0 => absurd (by decide) c0) (fun _ => ?_)
                refine lv_iconst (v := 1) hx hb dX9_sameWord_45 (by decide) ?_
                refine lv_goto (tgt := 50) hx hb dX9_sameWord_46 (by decide) ?_
                exact ret 1 () _ _ _ _ _ _ rfl (Or.inl rfl) hP hD hS dX9_sameWord_50 (Nat.le_refl _) (Nat.le_refl _)
        · skip
          subst g5
          refine lv_if_eq (tgt := 28) hx hb dX9_sameWord_15 (by decide) (fun _ => ?_) (fun c0 => absurd (by decide) c0)
          refine lv_aload_n hx hb dX9_sameWord_28 rfl (lv_at hl 1 rfl) ?_
          refine lv_iload_n hx hb dX9_sameWord_29 rfl (lv_at hl 2 rfl) ?_
          refine lv_iload_n hx hb dX9_sameWord_30 rfl (lv_at hl 0 rfl) ?_
          refine lv_iadd hx hb dX9_sameWord_31 ?_
          refine tI (y := t3) et3.symm ?_
          refine cbVi (n := 1) (rest := []) hx hb hml hown hts hE hP hD hS hA (sX_X9_isLetter_1 l dC dI cy x0 x t3 v f hIv ) k_562 k_564 k_1 k_102 k_565 (by decide +kernel) ⟨Nat.le_of_ble_eq_true rfl, Nat.le_of_ble_eq_true rfl⟩ 1 9 rfl rfl (rfl) hl.1 rfl (Nat.le_of_ble_eq_true rfl) dX9_sameWord_32 (fun r25 u H locs hw hP hD hS => ?_)
          rcases hw with ⟨g26, g26_0, g26_1, g26_2⟩ | ⟨g26⟩
          · skip
            subst g26
            refine lv_aload_n hx hb dX9_sameWord_35 rfl (lv_at hl 1 rfl) ?_
            refine lv_iload_n hx hb dX9_sameWord_36 rfl (lv_at hl 3 rfl) ?_
            refine lv_iload_n hx hb dX9_sameWord_37 rfl (lv_at hl 0 rfl) ?_
            refine lv_iadd hx hb dX9_sameWord_38 ?_
            refine lv_topi (fun t27 et27 => ?_)
            refine cbVi (n := 1) (rest := [.int 1]) hx hb hml hown hts hE hP hD hS hA (sX_X9_isLetter_1 l dC dI cy x0 x t27 v f hIv ) k_562 k_564 k_1 k_102 k_565 (by decide +kernel) ⟨Nat.le_of_ble_eq_true rfl, Nat.le_of_ble_eq_true rfl⟩ 1 9 rfl rfl (rfl) hl.1 rfl (Nat.le_of_ble_eq_true rfl) dX9_sameWord_39 (fun r28 u H locs hw hP hD hS => ?_)
            rcases hw with ⟨g29, g29_0, g29_1, g29_2⟩ | ⟨g29⟩
            · skip
              subst g29
              refine lv_icmp_ne (tgt := 49) hx hb dX9_sameWord_42 (by decide) (fun c0 => absurd (by decide) c0) (fun _ => ?_)
              refine lv_iconst (v := 1) hx hb dX9_sameWord_45 (by decide) ?_
              refine lv_goto (tgt := 50) hx hb dX9_sameWord_46 (by decide) ?_
              exact ret 1 () _ _ _ _ _ _ rfl (Or.inl rfl) hP hD hS dX9_sameWord_50 (Nat.le_refl _) (Nat.le_refl _)
            · skip
              subst g29
              refine lv_icmp_ne (tgt := 49) hx hb dX9_sameWord_42 (by decide) (fun _ => ?_) (fun c0 => absurd c0 (by decide))
              refine lv_iconst (v := 0) hx hb dX9_sameWord_49 (by decide) ?_
              exact ret 0 () _ _ _ _ _ _ rfl (Or.inr rfl) hP hD hS dX9_sameWord_50 (Nat.le_refl _) (Nat.le_refl _)
          · skip
            subst g26
            refine lv_aload_n hx hb dX9_sameWord_35 rfl (lv_at hl 1 rfl) ?_
            refine lv_iload_n hx hb dX9_sameWord_36 rfl (lv_at hl 3 rfl) ?_
            refine lv_iload_n hx hb dX9_sameWord_37 rfl (lv_at hl 0 rfl) ?_
            refine lv_iadd hx hb dX9_sameWord_38 ?_
            refine lv_topi (fun t30 et30 => ?_)
            refine cbVi (n := 1) (rest := [.int 0]) hx hb hml hown hts hE hP hD hS hA (sX_X9_isLetter_1 l dC dI cy x0 x t30 v f hIv ) k_562 k_564 k_1 k_102 k_565 (by decide +kernel) ⟨Nat.le_of_ble_eq_true rfl, Nat.le_of_ble_eq_true rfl⟩ 1 9 rfl rfl (rfl) hl.1 rfl (Nat.le_of_ble_eq_true rfl) dX9_sameWord_39 (fun r31 u H locs hw hP hD hS => ?_)
            rcases hw with ⟨g32, g32_0, g32_1, g32_2⟩ | ⟨g32⟩
            · skip
              subst g32
              refine lv_icmp_ne (tgt := 49) hx hb dX9_sameWord_42 (by decide) (fun _ => ?_) (fun c0 => absurd c0 (by decide))
              refine lv_iconst (v := 0) hx hb dX9_sameWord_49 (by decide) ?_
              exact ret 0 () _ _ _ _ _ _ rfl (Or.inr rfl) hP hD hS dX9_sameWord_50 (Nat.le_refl _) (Nat.le_refl _)
            · skip
              subst g32
              refine lv_icmp_ne (tgt := 49) hx hb dX9_sameWord_42 (by decide) (fun c0 => absurd (by decide) c0) (fun _ => ?_)
              refine lv_iconst (v := 1) hx hb dX9_sameWord_45 (by decide) ?_
              refine lv_goto (tgt := 50) hx hb dX9_sameWord_46 (by decide) ?_
              exact ret 1 () _ _ _ _ _ _ rfl (Or.inl rfl) hP hD hS dX9_sameWord_50 (Nat.le_refl _) (Nat.le_refl _)
  exact lp1 _ 0 ⟨by decide, by decide⟩ (Nat.lt_succ_self _) _ _ _ hP hD hS (lv_sub hl [0, 1, 2, 3] rfl)
set_option maxHeartbeats 4000000 in
set_option maxRecDepth 100000 in
theorem sX_X6_refuseAs_1 (l : Launch) (dC : Nat → ClassId) (dI : Nat → Nat → Nat) (cy : Nat → ClassId) (x0 : Nat) (x : Nat → Nat) (p1 : Int32) (v : Nat → Int32) (f : Nat → Nat → Int32) (hIv : XI v)  : ctI l (dC, dI) cy yX6_refuseAs cX6_refuseAs 2 .boolean 1 60 0 0 ((Nat → Int32) × (Nat → Nat → Int32)) [.ref (x 2), .int p1] (XW cy x0 x v f) (fun r u => XI u.1 ∧ u.1 0 = v 0 ∧ u.1 1 = v 1 ∧ u.1 9 = v 9 ∧ u.1 10 = v 10 ∧ u.1 31 = v 31 ∧ u.1 32 = v 32 ∧ ((r = 1) ∨ (r = 0))) (fun u => XW cy x0 x u.1 u.2) := by
  refine ctI_of (by decide) (Nat.le_of_ble_eq_true rfl) (fun p e s m below meth c A ls Q hx hb hml hts hown hE hP hD hA hl ret => ?_)
  have hown : s.vm.findClass RX6 = some m.cls := hown
  have hS : va_S A s.heap s.heap [] := va_S.rf
  have hl : lv_has ls 2 [(0, .ref (x 2)), (1, .int p1)] := hl
  refine lv_aload_n hx hb dX6_refuseAs_0 rfl (lv_at hl 0 rfl) ?_
  refine lv_iload_n hx hb dX6_refuseAs_1 rfl (lv_at hl 1 rfl) ?_
  refine va_put (D := (dC, dI)) (ci := 6) (v := .int p1) (ty := tyX6 5) (C := RX6) (T := TX6) (N := 7) hx hb hts inB_6 tyX6 tyX6_ok nmX6 hown hE.1 hP hD hS 3 rfl rfl 5 (by decide) (hts _ k_271) (fun _ h9 => h9) rfl (tyX6_ok 5 (by decide)) rfl rfl (Nat.le_of_ble_eq_true rfl) dX6_refuseAs_2 (fun H locs hP hD hS => ?_)
  have hP : va_P (dC, dI) vwCl (XW cy x0 x (upd v 7 p1) f) H := hP
  have hD : va_D A (XW cy x0 x (upd v 7 p1) f) := hD
  refine lv_aload_n hx hb dX6_refuseAs_5 rfl (lv_at hl 0 rfl) ?_
  refine lv_aload_n hx hb dX6_refuseAs_6 rfl (lv_at hl 0 rfl) ?_
  refine va_get (D := (dC, dI)) (ci := 6) (v := .ref (x 0)) (C := RX6) (T := TX6) (N := 7) hx hb hts inB_6 hown hE.1 hP 3 rfl rfl 0 (by decide) (hts _ k_265) (fun _ h9 => h9) rfl dX6_refuseAs_7 ?_
  refine va_getN (D := (dC, dI)) (ci := 9) (v := .int (v 3)) (C := RX9) (T := TX9) (N := 6) hx hb hts inB_9 hown hE.1 hP 1 rfl rfl 3 (by decide) (va_Nw.use rfl (hE.2 _ k_142)) (fun _ h9 => h9) rfl dX6_refuseAs_10 ?_
  have b3_v : 0 ≤ (v 3).toInt ∧ (v 3).toInt ≤ 1600 := XI.b hIv 3 (by decide)
  refine va_put (D := (dC, dI)) (ci := 6) (v := .int (v 3)) (ty := tyX6 6) (C := RX6) (T := TX6) (N := 7) hx hb hts inB_6 tyX6 tyX6_ok nmX6 hown hE.1 hP hD hS 3 rfl rfl 6 (by decide) (hts _ k_273) (fun _ h9 => h9) rfl (tyX6_ok 6 (by decide)) rfl rfl (Nat.le_of_ble_eq_true rfl) dX6_refuseAs_13 (fun H locs hP hD hS => ?_)
  have hP : va_P (dC, dI) vwCl (XW cy x0 x (upd (upd v 7 p1) 8 (v 3)) f) H := hP
  have hD : va_D A (XW cy x0 x (upd (upd v 7 p1) 8 (v 3)) f) := hD
  refine lv_iconst (v := 0) hx hb dX6_refuseAs_16 (by decide) ?_
  exact ret 0 ((upd (upd v 7 p1) 8 (v 3)), f) _ _ _ _ _ _ rfl ⟨(XI.upd (j := 8) (x := (v 3)) (XI.upd (j := 7) (x := p1) hIv (rlo _) (rhi _)) (rlo _) (rhi _)), rfl, rfl, rfl, rfl, rfl, rfl, (Or.inr rfl)⟩ hP hD hS dX6_refuseAs_17 (Nat.le_refl _) (Nat.le_refl _)
