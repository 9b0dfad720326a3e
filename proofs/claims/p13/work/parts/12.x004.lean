set_option maxHeartbeats 4000000 in
set_option maxRecDepth 100000 in
theorem sX_X9_advance_1 (NF : Nat) (l : Launch) (dC : Nat → ClassId) (dI : Nat → Nat → Nat) (cy : Nat → ClassId) (x0 : Nat) (x : Nat → Nat)  (v : Nat → Int32) (f : Nat → Nat → Int32) (hIv : XI v)  : ctVS l (dC, dI) cy yX9_advance cX9_advance 1 6 171 0 0 ((Nat → Int32) × (Nat → Nat → Int32)) [.ref (x 0)] (XW cy x0 x v f) (fun u => gsX_X9_advance_1 NF v f = u ∧ KV [2, 3, 4, 5] u.1 v ∧ KF [] u.2 f ∧ XI u.1 ∧ u.1 0 = v 0 ∧ u.1 1 = v 1 ∧ u.1 7 = v 7 ∧ u.1 8 = v 8 ∧ u.1 9 = v 9 ∧ u.1 10 = v 10 ∧ u.1 31 = v 31 ∧ u.1 32 = v 32) (fun u => XW cy x0 x u.1 u.2) := by
  refine ctVS_of (by decide) (Nat.le_of_ble_eq_true rfl) (fun p e s m below meth c A ls Q hx hb hml hts hown hnm hE hF hT hP hD hA hl ret => ?_)
  have hM_v : KV [2, 3, 4, 5] v v := fun _ _ => rfl
  have hA_f : KF [] f f := fun _ _ => rfl
  have hown : s.vm.findClass RX9 = some m.cls := hown
  have hS : va_S A s.heap s.heap [] := va_S.rf
  have hl : lv_has ls 1 [(0, .ref (x 0))] := hl
  refine lv_aload_n hx hb dX9_advance_0 rfl (lv_at hl 0 rfl) ?_
  refine lv_aload_n hx hb dX9_advance_1 rfl (lv_at hl 0 rfl) ?_
  refine va_get (D := (dC, dI)) (ci := 9) (v := .int (v 4)) (C := RX9) (T := TX9) (N := 6) hx hb hts inB_9 hown hE.1 hP 1 rfl rfl 4 (by decide) (hts _ k_143) (fun _ h9 => h9) rfl dX9_advance_2 ?_
  have b4_v : 0 ≤ (v 4).toInt ∧ (v 4).toInt ≤ 1600 := XI.b hIv 4 (by decide)
  refine va_put (D := (dC, dI)) (ci := 9) (v := .int (v 4)) (ty := tyX9 3) (C := RX9) (T := TX9) (N := 6) hx hb hts inB_9 tyX9 tyX9_ok nmX9 hown hE.1 hP hD hS 1 rfl rfl 3 (by decide) (hts _ k_141) (fun _ h9 => h9) rfl (tyX9_ok 3 (by decide)) rfl rfl (Nat.le_of_ble_eq_true rfl) dX9_advance_5 (fun H locs hP hD hS => ?_)
  have hP : va_P (dC, dI) vwCl (XW cy x0 x (upd v 3 (v 4)) f) H := hP
  have hD : va_D A (XW cy x0 x (upd v 3 (v 4)) f) := hD
  have lp1 : ∀ (n1 : Nat)  (v1 : Nat → Int32) (f1 : Nat → Nat → Int32), XI v1 → v1 0 = (v 0) → v1 1 = (v 1) → v1 7 = (v 7) → v1 8 = (v 8) → v1 9 = (v 9) → v1 10 = (v 10) → v1 31 = (v 31) → v1 32 = (v 32) → gsX_X9_advance_1_L1 NF v n1 v1 f1 = (gsX_X9_advance_1 NF v f) → KV [2, 3, 4, 5] v1 v → KF [] f1 f → (1600 - (v1 3).toInt).toNat < n1 → ∀ (H : Heap) (locs : List Loc) (ls : Array Slot), va_P (dC, dI) vwCl (XW cy x0 x v1 f1) H → va_D A (XW cy x0 x v1 f1) → va_S A s.heap H locs → lv_has ls 1 [(0, .ref (x 0))] → W p l e { frames := 6, cells := 0, slots := 0, locals := 171 } s m ([.ref (x 0)] : List Value).toArray below meth c H locs 0 0 Q (F0 m 8 ls []) := by
    intro n1
    induction n1 with
    | zero => intro  v1 f1 hIv1 hq0_v1 hq1_v1 hq7_v1 hq8_v1 hq9_v1 hq10_v1 hq31_v1 hq32_v1 hT1 hM_v1 hA_f1 hm; exact absurd hm (Nat.not_lt_zero _)
    | succ n1 ih1 =>
      intro  v1 f1 hIv1 hq0_v1 hq1_v1 hq7_v1 hq8_v1 hq9_v1 hq10_v1 hq31_v1 hq32_v1 hT1 hM_v1 hA_f1 hm1 H locs ls hP hD hS hl
      refine lv_aload_n hx hb dX9_advance_8 rfl (lv_at hl 0 rfl) ?_
      have jp60 : ∀ (H : Heap) (locs : List Loc) (ls : Array Slot), gsX_X9_advance_1_J2 NF v f1 v1 = (gsX_X9_advance_1 NF v f) → va_P (dC, dI) vwCl (XW cy x0 x v1 f1) H → va_D A (XW cy x0 x v1 f1) → va_S A s.heap H locs → lv_has ls 1 [(0, .ref (x 0))] → W p l e { frames := 6, cells := 0, slots := 0, locals := 171 } s m ([.ref (x 0)] : List Value).toArray below meth c H locs 0 0 Q (F0 m 60 ls []) := by
        intro H locs ls hT2 hP hD hS hl
        refine lv_aload_n hx hb dX9_advance_60 rfl (lv_at hl 0 rfl) ?_
        refine lv_aload_n hx hb dX9_advance_61 rfl (lv_at hl 0 rfl) ?_
        refine va_get (D := (dC, dI)) (ci := 9) (v := .int (v1 3)) (C := RX9) (T := TX9) (N := 6) hx hb hts inB_9 hown hE.1 hP 1 rfl rfl 3 (by decide) (hts _ k_141) (fun _ h9 => h9) rfl dX9_advance_62 ?_
        have b3_v1 : 0 ≤ (v1 3).toInt ∧ (v1 3).toInt ≤ 1600 := XI.b hIv1 3 (by decide)
        refine va_put (D := (dC, dI)) (ci := 9) (v := .int (v1 3)) (ty := tyX9 4) (C := RX9) (T := TX9) (N := 6) hx hb hts inB_9 tyX9 tyX9_ok nmX9 hown hE.1 hP hD hS 1 rfl rfl 4 (by decide) (hts _ k_143) (fun _ h9 => h9) rfl (tyX9_ok 4 (by decide)) rfl rfl (Nat.le_of_ble_eq_true rfl) dX9_advance_65 (fun H locs hP hD hS => ?_)
        have hP : va_P (dC, dI) vwCl (XW cy x0 x (upd v1 4 (v1 3)) f1) H := hP
        have hD : va_D A (XW cy x0 x (upd v1 4 (v1 3)) f1) := hD
        refine lv_aload_n hx hb dX9_advance_68 rfl (lv_at hl 0 rfl) ?_
        refine va_get (D := (dC, dI)) (ci := 9) (v := .int (v1 3)) (C := RX9) (T := TX9) (N := 6) hx hb hts inB_9 hown hE.1 hP 1 rfl rfl 3 (by decide) (hts _ k_141) (fun _ h9 => h9) rfl dX9_advance_69 ?_
        refine lv_aload_n hx hb dX9_advance_72 rfl (lv_at hl 0 rfl) ?_
        refine va_get (D := (dC, dI)) (ci := 9) (v := .int (v1 1)) (C := RX9) (T := TX9) (N := 6) hx hb hts inB_9 hown hE.1 hP 1 rfl rfl 1 (by decide) (hts _ k_137) (fun _ h9 => h9) rfl dX9_advance_73 ?_
        refine tI (y := (v 1)) hq1_v1 ?_
        have b1_v : 0 ≤ (v 1).toInt ∧ (v 1).toInt ≤ 1600 := XI.b hIv 1 (by decide)
        refine lv_icmp_lt (tgt := 87) hx hb dX9_advance_76 (by decide) (fun c3 => ?_) (fun c3 => ?_)
        · skip
          have zc3 : (v1 3).toInt < (v 1).toInt := by rw [fa_lt] at c3; exact c3
          have rg4 := fb_rng (v1 3)
          have rg5 := fb_rng (v 1)
          refine lv_aload_n hx hb dX9_advance_87 rfl (lv_at hl 0 rfl) ?_
          refine lv_aload_n hx hb dX9_advance_88 rfl (lv_at hl 0 rfl) ?_
          refine va_get (D := (dC, dI)) (ci := 9) (v := .int (v1 3)) (C := RX9) (T := TX9) (N := 6) hx hb hts inB_9 hown hE.1 hP 1 rfl rfl 3 (by decide) (hts _ k_141) (fun _ h9 => h9) rfl dX9_advance_89 ?_
          refine cbVi (n := 1) (rest := []) hx hb hml hown hts hE hP hD hS hA (sX_X9_isLetter_1 NF l dC dI cy x0 x (v1 3) (upd v1 4 (v1 3)) f1 (XI.upd (j := 4) (x := (v1 3)) hIv1 (show (0 : Int) ≤ (v1 3).toInt by omega) (show (v1 3).toInt ≤ (1600 : Int) by omega)) ) k_562 k_564 k_1 k_102 k_565 (by decide +kernel) ⟨Nat.le_of_ble_eq_true rfl, Nat.le_of_ble_eq_true rfl⟩ 1 9 rfl rfl (rfl) hl.1 rfl (Nat.le_of_ble_eq_true rfl) dX9_advance_92 (fun r6 u H locs hw hP hD hS => ?_)
          obtain ⟨hG7, hw⟩ := hw
          rcases hw with ⟨g8, g8_0, g8_1, g8_2⟩ | ⟨g8⟩
          · skip
            subst g8
            refine lv_if_eq (tgt := 162) hx hb dX9_advance_95 (by decide) (fun c0 => absurd c0 (by decide)) (fun _ => ?_)
            have lp9 : ∀ (n9 : Nat)  (v9 : Nat → Int32) (f9 : Nat → Nat → Int32), XI v9 → v9 0 = (v 0) → v9 1 = (v 1) → v9 7 = (v 7) → v9 8 = (v 8) → v9 9 = (v 9) → v9 10 = (v 10) → v9 31 = (v 31) → v9 32 = (v 32) → gsX_X9_advance_1_L9 NF v n9 v9 f9 = (gsX_X9_advance_1 NF v f) → KV [2, 3, 4, 5] v9 v → KF [] f9 f → (1600 - (v9 4).toInt).toNat < n9 → ∀ (H : Heap) (locs : List Loc) (ls : Array Slot), va_P (dC, dI) vwCl (XW cy x0 x v9 f9) H → va_D A (XW cy x0 x v9 f9) → va_S A s.heap H locs → lv_has ls 1 [(0, .ref (x 0))] → W p l e { frames := 6, cells := 0, slots := 0, locals := 171 } s m ([.ref (x 0)] : List Value).toArray below meth c H locs 0 0 Q (F0 m 98 ls []) := by
              intro n9
              induction n9 with
              | zero => intro  v9 f9 hIv9 hq0_v9 hq1_v9 hq7_v9 hq8_v9 hq9_v9 hq10_v9 hq31_v9 hq32_v9 hT9 hM_v9 hA_f9 hm; exact absurd hm (Nat.not_lt_zero _)
              | succ n9 ih9 =>
                intro  v9 f9 hIv9 hq0_v9 hq1_v9 hq7_v9 hq8_v9 hq9_v9 hq10_v9 hq31_v9 hq32_v9 hT9 hM_v9 hA_f9 hm9 H locs ls hP hD hS hl
                refine lv_aload_n hx hb dX9_advance_98 rfl (lv_at hl 0 rfl) ?_
                have jp133 : ∀ (H : Heap) (locs : List Loc) (ls : Array Slot), gsX_X9_advance_1_J10 NF f9 v9 = (gsX_X9_advance_1 NF v f) → va_P (dC, dI) vwCl (XW cy x0 x v9 f9) H → va_D A (XW cy x0 x v9 f9) → va_S A s.heap H locs → lv_has ls 1 [(0, .ref (x 0))] → W p l e { frames := 6, cells := 0, slots := 0, locals := 171 } s m ([.ref (x 0)] : List Value).toArray below meth c H locs 0 0 Q (F0 m 133 ls []) := by
                  intro H locs ls hT10 hP hD hS hl
                  refine lv_aload_n hx hb dX9_advance_133 rfl (lv_at hl 0 rfl) ?_
                  refine lv_aload_n hx hb dX9_advance_134 rfl (lv_at hl 0 rfl) ?_
                  refine va_get (D := (dC, dI)) (ci := 9) (v := .int (v9 4)) (C := RX9) (T := TX9) (N := 6) hx hb hts inB_9 hown hE.1 hP 1 rfl rfl 4 (by decide) (hts _ k_143) (fun _ h9 => h9) rfl dX9_advance_135 ?_
                  have b4_v9 : 0 ≤ (v9 4).toInt ∧ (v9 4).toInt ≤ 1600 := XI.b hIv9 4 (by decide)
                  refine lv_aload_n hx hb dX9_advance_138 rfl (lv_at hl 0 rfl) ?_
                  refine va_get (D := (dC, dI)) (ci := 9) (v := .int (v9 3)) (C := RX9) (T := TX9) (N := 6) hx hb hts inB_9 hown hE.1 hP 1 rfl rfl 3 (by decide) (hts _ k_141) (fun _ h9 => h9) rfl dX9_advance_139 ?_
                  have b3_v9 : 0 ≤ (v9 3).toInt ∧ (v9 3).toInt ≤ 1600 := XI.b hIv9 3 (by decide)
                  refine lv_isub hx hb dX9_advance_142 ?_
                  refine lv_topi (fun t11 et11 => ?_)
                  have rg12 := fb_rng (v9 4)
                  have rg13 := fb_rng (v9 3)
                  have zt11 : t11.toInt = (v9 4).toInt - (v9 3).toInt := by rw [et11]; exact sub_i rfl rfl (by omega) (by omega)
                  refine lv_bipush (v := 8) hx hb dX9_advance_143 (by decide) ?_
                  refine lv_icmp_le (tgt := 152) hx hb dX9_advance_145 (by decide) (fun c14 => ?_) (fun c14 => ?_)
                  · skip
                    have zc14 : t11.toInt ≤ 8 := by rw [fa_le, show (8 : Int32).toInt = 8 from by decide] at c14; exact c14
                    refine lv_aload_n hx hb dX9_advance_152 rfl (lv_at hl 0 rfl) ?_
                    refine csVi (n := 0) (rest := [.ref (x 0)]) hx hb hml hown hts hE hP hD hS hA hF hT (sX_X9_wordKind_1 NF l dC dI cy x0 x  v9 f9 hIv9 ) k_566 k_568 k_2 k_102 k_569 (by decide +kernel) ⟨Nat.le_of_ble_eq_true rfl, Nat.le_of_ble_eq_true rfl⟩ 1 9 rfl rfl (rfl) hl.1 rfl (Nat.le_of_ble_eq_true rfl) dX9_advance_153 (fun r15 u H locs hw hP hD hS => ?_)
                    have hG16 := hw
                    refine va_put (D := (dC, dI)) (ci := 9) (v := .int r15) (ty := tyX9 2) (C := RX9) (T := TX9) (N := 6) hx hb hts inB_9 tyX9 tyX9_ok nmX9 hown hE.1 hP hD hS 1 rfl rfl 2 (by decide) (hts _ k_140) (fun _ h9 => h9) rfl (tyX9_ok 2 (by decide)) rfl rfl (Nat.le_of_ble_eq_true rfl) dX9_advance_156 (fun H locs hP hD hS => ?_)
                    have hP : va_P (dC, dI) vwCl (XW cy x0 x (upd v9 2 r15) f9) H := hP
                    have hD : va_D A (XW cy x0 x (upd v9 2 r15) f9) := hD
                    refine lv_goto (tgt := 322) hx hb dX9_advance_159 (by decide) ?_
                    exact ret ((upd v9 2 r15), f9) _ _ _ _ _ _ ⟨(hT10.symm.trans (gsX_X9_advance_1_q0 et11 c14 hG16.symm)), (KV.up (j := 2) (x := r15) hM_v9 rfl), hA_f9, (XI.upd (j := 2) (x := r15) hIv9 (rlo _) (rhi _)), hq0_v9, hq1_v9, hq7_v9, hq8_v9, hq9_v9, hq10_v9, hq31_v9, hq32_v9⟩ hP hD hS dX9_advance_322 (Nat.le_refl _) (Nat.le_refl _)
                  · skip
                    have zc14 : ¬ (t11.toInt ≤ 8) := by rw [fa_le, show (8 : Int32).toInt = 8 from by decide] at c14; exact c14
                    refine lv_iconst (v := 1) hx hb dX9_advance_148 (by decide) ?_
                    refine lv_goto (tgt := 156) hx hb dX9_advance_149 (by decide) ?_
                    refine va_put (D := (dC, dI)) (ci := 9) (v := .int 1) (ty := tyX9 2) (C := RX9) (T := TX9) (N := 6) hx hb hts inB_9 tyX9 tyX9_ok nmX9 hown hE.1 hP hD hS 1 rfl rfl 2 (by decide) (hts _ k_140) (fun _ h9 => h9) rfl (tyX9_ok 2 (by decide)) rfl rfl (Nat.le_of_ble_eq_true rfl) dX9_advance_156 (fun H locs hP hD hS => ?_)
                    have hP : va_P (dC, dI) vwCl (XW cy x0 x (upd v9 2 1) f9) H := hP
                    have hD : va_D A (XW cy x0 x (upd v9 2 1) f9) := hD
                    refine lv_goto (tgt := 322) hx hb dX9_advance_159 (by decide) ?_
                    exact ret ((upd v9 2 1), f9) _ _ _ _ _ _ ⟨(hT10.symm.trans (gsX_X9_advance_1_q1 et11 c14)), (KV.up (j := 2) (x := 1) hM_v9 rfl), hA_f9, (XI.upd (j := 2) (x := 1) hIv9 (rlo _) (rhi _)), hq0_v9, hq1_v9, hq7_v9, hq8_v9, hq9_v9, hq10_v9, hq31_v9, hq32_v9⟩ hP hD hS dX9_advance_322 (Nat.le_refl _) (Nat.le_refl _)
                refine va_get (D := (dC, dI)) (ci := 9) (v := .int (v9 4)) (C := RX9) (T := TX9) (N := 6) hx hb hts inB_9 hown hE.1 hP 1 rfl rfl 4 (by decide) (hts _ k_143) (fun _ h9 => h9) rfl dX9_advance_99 ?_
                have b4_v9 : 0 ≤ (v9 4).toInt ∧ (v9 4).toInt ≤ 1600 := XI.b hIv9 4 (by decide)
                refine lv_aload_n hx hb dX9_advance_102 rfl (lv_at hl 0 rfl) ?_
                refine va_get (D := (dC, dI)) (ci := 9) (v := .int (v9 1)) (C := RX9) (T := TX9) (N := 6) hx hb hts inB_9 hown hE.1 hP 1 rfl rfl 1 (by decide) (hts _ k_137) (fun _ h9 => h9) rfl dX9_advance_103 ?_
                refine tI (y := (v 1)) hq1_v9 ?_
                have b1_v : 0 ≤ (v 1).toInt ∧ (v 1).toInt ≤ 1600 := XI.b hIv 1 (by decide)
                refine lv_icmp_ge (tgt := 133) hx hb dX9_advance_106 (by decide) (fun c17 => ?_) (fun c17 => ?_)
                · skip
                  have zc17 : (v 1).toInt ≤ (v9 4).toInt := by rw [fa_le] at c17; exact c17
                  have rg18 := fb_rng (v9 4)
                  exact jp133 _ _ _ ((gsX_X9_advance_1_q2 c17).symm.trans hT9) hP hD hS hl
                · skip
                  have zc17 : ¬ ((v 1).toInt ≤ (v9 4).toInt) := by rw [fa_le] at c17; exact c17
                  have rg19 := fb_rng (v9 4)
                  refine lv_aload_n hx hb dX9_advance_109 rfl (lv_at hl 0 rfl) ?_
                  refine lv_aload_n hx hb dX9_advance_110 rfl (lv_at hl 0 rfl) ?_
                  refine va_get (D := (dC, dI)) (ci := 9) (v := .int (v9 4)) (C := RX9) (T := TX9) (N := 6) hx hb hts inB_9 hown hE.1 hP 1 rfl rfl 4 (by decide) (hts _ k_143) (fun _ h9 => h9) rfl dX9_advance_111 ?_
                  refine cbVi (n := 1) (rest := []) hx hb hml hown hts hE hP hD hS hA (sX_X9_isLetter_1 NF l dC dI cy x0 x (v9 4) v9 f9 hIv9 ) k_562 k_564 k_1 k_102 k_565 (by decide +kernel) ⟨Nat.le_of_ble_eq_true rfl, Nat.le_of_ble_eq_true rfl⟩ 1 9 rfl rfl (rfl) hl.1 rfl (Nat.le_of_ble_eq_true rfl) dX9_advance_114 (fun r20 u H locs hw hP hD hS => ?_)
                  obtain ⟨hG21, hw⟩ := hw
                  rcases hw with ⟨g22, g22_0, g22_1, g22_2⟩ | ⟨g22⟩
                  · skip
                    subst g22
                    refine lv_if_eq (tgt := 133) hx hb dX9_advance_117 (by decide) (fun c0 => absurd c0 (by decide)) (fun _ => ?_)
                    refine lv_aload_n hx hb dX9_advance_120 rfl (lv_at hl 0 rfl) ?_
                    refine lv_dup hx hb dX9_advance_121 rfl ?_
                    refine va_get (D := (dC, dI)) (ci := 9) (v := .int (v9 4)) (C := RX9) (T := TX9) (N := 6) hx hb hts inB_9 hown hE.1 hP 1 rfl rfl 4 (by decide) (hts _ k_143) (fun _ h9 => h9) rfl dX9_advance_122 ?_
                    refine lv_iconst (v := 1) hx hb dX9_advance_125 (by decide) ?_
                    refine lv_iadd hx hb dX9_advance_126 ?_
                    refine lv_topi (fun t23 et23 => ?_)
                    have zt23 : t23.toInt = (v9 4).toInt + 1 := by rw [et23]; exact add_i rfl (by decide) (by omega) (by omega)
                    refine va_put (D := (dC, dI)) (ci := 9) (v := .int t23) (ty := tyX9 4) (C := RX9) (T := TX9) (N := 6) hx hb hts inB_9 tyX9 tyX9_ok nmX9 hown hE.1 hP hD hS 1 rfl rfl 4 (by decide) (hts _ k_143) (fun _ h9 => h9) rfl (tyX9_ok 4 (by decide)) rfl rfl (Nat.le_of_ble_eq_true rfl) dX9_advance_127 (fun H locs hP hD hS => ?_)
                    have hP : va_P (dC, dI) vwCl (XW cy x0 x (upd v9 4 t23) f9) H := hP
                    have hD : va_D A (XW cy x0 x (upd v9 4 t23) f9) := hD
                    refine lv_goto (tgt := 98) hx hb dX9_advance_130 (by decide) ?_
                    exact ih9  (upd v9 4 t23) f9 (XI.upd (j := 4) (x := t23) hIv9 (show (0 : Int) ≤ t23.toInt by omega) (show t23.toInt ≤ (1600 : Int) by omega)) hq0_v9 hq1_v9 hq7_v9 hq8_v9 hq9_v9 hq10_v9 hq31_v9 hq32_v9 ((gsX_X9_advance_1_q3 c17 hG21 et23).symm.trans hT9) (KV.up (j := 4) (x := t23) hM_v9 rfl) hA_f9 (by show (1600 - t23.toInt).toNat < n9; omega) _ _ _ hP hD hS (lv_sub hl [0] rfl)
                  · skip
                    subst g22
                    refine lv_if_eq (tgt := 133) hx hb dX9_advance_117 (by decide) (fun _ => ?_) (fun c0 => absurd (by decide) c0)
                    exact jp133 _ _ _ ((gsX_X9_advance_1_q4 c17 hG21).symm.trans hT9) hP hD hS hl
            exact lp9 (4294967296 + NF)  (upd v1 4 (v1 3)) f1 (XI.upd (j := 4) (x := (v1 3)) hIv1 (show (0 : Int) ≤ (v1 3).toInt by omega) (show (v1 3).toInt ≤ (1600 : Int) by omega)) hq0_v1 hq1_v1 hq7_v1 hq8_v1 hq9_v1 hq10_v1 hq31_v1 hq32_v1 ((gsX_X9_advance_1_q5 c3 hG7).symm.trans hT2) (KV.up (j := 4) (x := (v1 3)) hM_v1 rfl) hA_f1 (by have qr0 := fb_rng (v1 3); show (1600 - (v1 3).toInt).toNat < 4294967296 + NF; omega) _ _ _ hP hD hS (lv_sub hl [0] rfl)
          · skip
            subst g8
            refine lv_if_eq (tgt := 162) hx hb dX9_advance_95 (by decide) (fun _ => ?_) (fun c0 => absurd (by decide) c0)
            refine lv_aload_n hx hb dX9_advance_162 rfl (lv_at hl 0 rfl) ?_
            refine lv_aload_n hx hb dX9_advance_163 rfl (lv_at hl 0 rfl) ?_
            refine va_get (D := (dC, dI)) (ci := 9) (v := .int (v1 3)) (C := RX9) (T := TX9) (N := 6) hx hb hts inB_9 hown hE.1 hP 1 rfl rfl 3 (by decide) (hts _ k_141) (fun _ h9 => h9) rfl dX9_advance_164 ?_
            refine cbVi (n := 1) (rest := []) hx hb hml hown hts hE hP hD hS hA (sX_X9_isDigit_1 NF l dC dI cy x0 x (v1 3) (upd v1 4 (v1 3)) f1 (XI.upd (j := 4) (x := (v1 3)) hIv1 (show (0 : Int) ≤ (v1 3).toInt by omega) (show (v1 3).toInt ≤ (1600 : Int) by omega)) ) k_619 k_621 k_3 k_102 k_622 (by decide +kernel) ⟨Nat.le_of_ble_eq_true rfl, Nat.le_of_ble_eq_true rfl⟩ 1 9 rfl rfl (rfl) hl.1 rfl (Nat.le_of_ble_eq_true rfl) dX9_advance_167 (fun r24 u H locs hw hP hD hS => ?_)
            obtain ⟨hG25, hw⟩ := hw
            rcases hw with ⟨g26, g26_0, g26_1, g26_2⟩ | ⟨g26⟩
            · skip
              subst g26
              refine lv_if_eq (tgt := 273) hx hb dX9_advance_170 (by decide) (fun c0 => absurd c0 (by decide)) (fun _ => ?_)
              refine lv_aload_n hx hb dX9_advance_173 rfl (lv_at hl 0 rfl) ?_
              refine lv_iconst (v := 0) hx hb dX9_advance_174 (by decide) ?_
              refine va_put (D := (dC, dI)) (ci := 9) (v := .int 0) (ty := tyX9 5) (C := RX9) (T := TX9) (N := 6) hx hb hts inB_9 tyX9 tyX9_ok nmX9 hown hE.1 hP hD hS 1 rfl rfl 5 (by decide) (hts _ k_144) (fun _ h9 => h9) rfl (tyX9_ok 5 (by decide)) rfl rfl (Nat.le_of_ble_eq_true rfl) dX9_advance_175 (fun H locs hP hD hS => ?_)
              have hP : va_P (dC, dI) vwCl (XW cy x0 x (upd (upd v1 4 (v1 3)) 5 0) f1) H := hP
              have hD : va_D A (XW cy x0 x (upd (upd v1 4 (v1 3)) 5 0) f1) := hD
              have lp27 : ∀ (n27 : Nat)  (v27 : Nat → Int32) (f27 : Nat → Nat → Int32), XI v27 → v27 0 = (v 0) → v27 1 = (v 1) → v27 7 = (v 7) → v27 8 = (v 8) → v27 9 = (v 9) → v27 10 = (v 10) → v27 31 = (v 31) → v27 32 = (v 32) → gsX_X9_advance_1_L27 NF v n27 v27 f27 = (gsX_X9_advance_1 NF v f) → KV [2, 3, 4, 5] v27 v → KF [] f27 f → (1600 - (v27 4).toInt).toNat < n27 → ∀ (H : Heap) (locs : List Loc) (ls : Array Slot), va_P (dC, dI) vwCl (XW cy x0 x v27 f27) H → va_D A (XW cy x0 x v27 f27) → va_S A s.heap H locs → lv_has ls 1 [(0, .ref (x 0))] → W p l e { frames := 6, cells := 0, slots := 0, locals := 171 } s m ([.ref (x 0)] : List Value).toArray below meth c H locs 0 0 Q (F0 m 178 ls []) := by
                intro n27
                induction n27 with
                | zero => intro  v27 f27 hIv27 hq0_v27 hq1_v27 hq7_v27 hq8_v27 hq9_v27 hq10_v27 hq31_v27 hq32_v27 hT27 hM_v27 hA_f27 hm; exact absurd hm (Nat.not_lt_zero _)
                | succ n27 ih27 =>
                  intro  v27 f27 hIv27 hq0_v27 hq1_v27 hq7_v27 hq8_v27 hq9_v27 hq10_v27 hq31_v27 hq32_v27 hT27 hM_v27 hA_f27 hm27 H locs ls hP hD hS hl
                  refine lv_aload_n hx hb dX9_advance_178 rfl (lv_at hl 0 rfl) ?_
                  have jp237 : ∀ (H : Heap) (locs : List Loc) (ls : Array Slot), gsX_X9_advance_1_J28 NF f27 v27 = (gsX_X9_advance_1 NF v f) → va_P (dC, dI) vwCl (XW cy x0 x v27 f27) H → va_D A (XW cy x0 x v27 f27) → va_S A s.heap H locs → lv_has ls 1 [(0, .ref (x 0))] → W p l e { frames := 6, cells := 0, slots := 0, locals := 171 } s m ([.ref (x 0)] : List Value).toArray below meth c H locs 0 0 Q (F0 m 237 ls []) := by
                    intro H locs ls hT28 hP hD hS hl
                    refine lv_aload_n hx hb dX9_advance_237 rfl (lv_at hl 0 rfl) ?_
                    refine lv_aload_n hx hb dX9_advance_238 rfl (lv_at hl 0 rfl) ?_
                    refine va_get (D := (dC, dI)) (ci := 9) (v := .int (v27 4)) (C := RX9) (T := TX9) (N := 6) hx hb hts inB_9 hown hE.1 hP 1 rfl rfl 4 (by decide) (hts _ k_143) (fun _ h9 => h9) rfl dX9_advance_239 ?_
                    have b4_v27 : 0 ≤ (v27 4).toInt ∧ (v27 4).toInt ≤ 1600 := XI.b hIv27 4 (by decide)
                    refine lv_aload_n hx hb dX9_advance_242 rfl (lv_at hl 0 rfl) ?_
                    refine va_get (D := (dC, dI)) (ci := 9) (v := .int (v27 3)) (C := RX9) (T := TX9) (N := 6) hx hb hts inB_9 hown hE.1 hP 1 rfl rfl 3 (by decide) (hts _ k_141) (fun _ h9 => h9) rfl dX9_advance_243 ?_
                    have b3_v27 : 0 ≤ (v27 3).toInt ∧ (v27 3).toInt ≤ 1600 := XI.b hIv27 3 (by decide)
                    refine lv_isub hx hb dX9_advance_246 ?_
                    refine lv_topi (fun t29 et29 => ?_)
                    have rg30 := fb_rng (v27 4)
                    have rg31 := fb_rng (v27 3)
                    have zt29 : t29.toInt = (v27 4).toInt - (v27 3).toInt := by rw [et29]; exact sub_i rfl rfl (by omega) (by omega)
                    refine lv_iconst (v := 4) hx hb dX9_advance_247 (by decide) ?_
                    refine lv_icmp_gt (tgt := 262) hx hb dX9_advance_248 (by decide) (fun c32 => ?_) (fun c32 => ?_)
                    · skip
                      have zc32 : 4 < t29.toInt := by rw [fa_lt, show (4 : Int32).toInt = 4 from by decide] at c32; exact c32
                      refine lv_iconst (v := 1) hx hb dX9_advance_262 (by decide) ?_
                      refine lv_goto (tgt := 267) hx hb dX9_advance_263 (by decide) ?_
                      refine va_put (D := (dC, dI)) (ci := 9) (v := .int 1) (ty := tyX9 2) (C := RX9) (T := TX9) (N := 6) hx hb hts inB_9 tyX9 tyX9_ok nmX9 hown hE.1 hP hD hS 1 rfl rfl 2 (by decide) (hts _ k_140) (fun _ h9 => h9) rfl (tyX9_ok 2 (by decide)) rfl rfl (Nat.le_of_ble_eq_true rfl) dX9_advance_267 (fun H locs hP hD hS => ?_)
                      have hP : va_P (dC, dI) vwCl (XW cy x0 x (upd v27 2 1) f27) H := hP
                      have hD : va_D A (XW cy x0 x (upd v27 2 1) f27) := hD
                      refine lv_goto (tgt := 322) hx hb dX9_advance_270 (by decide) ?_
                      exact ret ((upd v27 2 1), f27) _ _ _ _ _ _ ⟨(hT28.symm.trans (gsX_X9_advance_1_q6 et29 c32)), (KV.up (j := 2) (x := 1) hM_v27 rfl), hA_f27, (XI.upd (j := 2) (x := 1) hIv27 (rlo _) (rhi _)), hq0_v27, hq1_v27, hq7_v27, hq8_v27, hq9_v27, hq10_v27, hq31_v27, hq32_v27⟩ hP hD hS dX9_advance_322 (Nat.le_refl _) (Nat.le_refl _)
                    · skip
                      have zc32 : ¬ (4 < t29.toInt) := by rw [fa_lt, show (4 : Int32).toInt = 4 from by decide] at c32; exact c32
                      refine lv_aload_n hx hb dX9_advance_251 rfl (lv_at hl 0 rfl) ?_
                      refine lv_aload_n hx hb dX9_advance_252 rfl (lv_at hl 0 rfl) ?_
                      refine va_get (D := (dC, dI)) (ci := 9) (v := .int (v27 4)) (C := RX9) (T := TX9) (N := 6) hx hb hts inB_9 hown hE.1 hP 1 rfl rfl 4 (by decide) (hts _ k_143) (fun _ h9 => h9) rfl dX9_advance_253 ?_
                      refine cbVi (n := 1) (rest := [.ref (x 0)]) hx hb hml hown hts hE hP hD hS hA (sX_X9_isLetter_1 NF l dC dI cy x0 x (v27 4) v27 f27 hIv27 ) k_562 k_564 k_1 k_102 k_565 (by decide +kernel) ⟨Nat.le_of_ble_eq_true rfl, Nat.le_of_ble_eq_true rfl⟩ 1 9 rfl rfl (rfl) hl.1 rfl (Nat.le_of_ble_eq_true rfl) dX9_advance_256 (fun r33 u H locs hw hP hD hS => ?_)
                      obtain ⟨hG34, hw⟩ := hw
                      rcases hw with ⟨g35, g35_0, g35_1, g35_2⟩ | ⟨g35⟩
                      · skip
                        subst g35
                        refine lv_if_eq (tgt := 266) hx hb dX9_advance_259 (by decide) (fun c0 => absurd c0 (by decide)) (fun _ => ?_)
                        refine lv_iconst (v := 1) hx hb dX9_advance_262 (by decide) ?_
                        refine lv_goto (tgt := 267) hx hb dX9_advance_263 (by decide) ?_
                        refine va_put (D := (dC, dI)) (ci := 9) (v := .int 1) (ty := tyX9 2) (C := RX9) (T := TX9) (N := 6) hx hb hts inB_9 tyX9 tyX9_ok nmX9 hown hE.1 hP hD hS 1 rfl rfl 2 (by decide) (hts _ k_140) (fun _ h9 => h9) rfl (tyX9_ok 2 (by decide)) rfl rfl (Nat.le_of_ble_eq_true rfl) dX9_advance_267 (fun H locs hP hD hS => ?_)
                        have hP : va_P (dC, dI) vwCl (XW cy x0 x (upd v27 2 1) f27) H := hP
                        have hD : va_D A (XW cy x0 x (upd v27 2 1) f27) := hD
                        refine lv_goto (tgt := 322) hx hb dX9_advance_270 (by decide) ?_
                        exact ret ((upd v27 2 1), f27) _ _ _ _ _ _ ⟨(hT28.symm.trans (gsX_X9_advance_1_q7 et29 c32 hG34)), (KV.up (j := 2) (x := 1) hM_v27 rfl), hA_f27, (XI.upd (j := 2) (x := 1) hIv27 (rlo _) (rhi _)), hq0_v27, hq1_v27, hq7_v27, hq8_v27, hq9_v27, hq10_v27, hq31_v27, hq32_v27⟩ hP hD hS dX9_advance_322 (Nat.le_refl _) (Nat.le_refl _)
                      · skip
                        subst g35
                        refine lv_if_eq (tgt := 266) hx hb dX9_advance_259 (by decide) (fun _ => ?_) (fun c0 => absurd (by decide) c0)
                        refine lv_iconst (v := 2) hx hb dX9_advance_266 (by decide) ?_
                        refine va_put (D := (dC, dI)) (ci := 9) (v := .int 2) (ty := tyX9 2) (C := RX9) (T := TX9) (N := 6) hx hb hts inB_9 tyX9 tyX9_ok nmX9 hown hE.1 hP hD hS 1 rfl rfl 2 (by decide) (hts _ k_140) (fun _ h9 => h9) rfl (tyX9_ok 2 (by decide)) rfl rfl (Nat.le_of_ble_eq_true rfl) dX9_advance_267 (fun H locs hP hD hS => ?_)
                        have hP : va_P (dC, dI) vwCl (XW cy x0 x (upd v27 2 2) f27) H := hP
                        have hD : va_D A (XW cy x0 x (upd v27 2 2) f27) := hD
                        refine lv_goto (tgt := 322) hx hb dX9_advance_270 (by decide) ?_
                        exact ret ((upd v27 2 2), f27) _ _ _ _ _ _ ⟨(hT28.symm.trans (gsX_X9_advance_1_q8 et29 c32 hG34)), (KV.up (j := 2) (x := 2) hM_v27 rfl), hA_f27, (XI.upd (j := 2) (x := 2) hIv27 (rlo _) (rhi _)), hq0_v27, hq1_v27, hq7_v27, hq8_v27, hq9_v27, hq10_v27, hq31_v27, hq32_v27⟩ hP hD hS dX9_advance_322 (Nat.le_refl _) (Nat.le_refl _)
                  refine va_get (D := (dC, dI)) (ci := 9) (v := .int (v27 4)) (C := RX9) (T := TX9) (N := 6) hx hb hts inB_9 hown hE.1 hP 1 rfl rfl 4 (by decide) (hts _ k_143) (fun _ h9 => h9) rfl dX9_advance_179 ?_
                  have b4_v27 : 0 ≤ (v27 4).toInt ∧ (v27 4).toInt ≤ 1600 := XI.b hIv27 4 (by decide)
                  refine lv_aload_n hx hb dX9_advance_182 rfl (lv_at hl 0 rfl) ?_
                  refine va_get (D := (dC, dI)) (ci := 9) (v := .int (v27 1)) (C := RX9) (T := TX9) (N := 6) hx hb hts inB_9 hown hE.1 hP 1 rfl rfl 1 (by decide) (hts _ k_137) (fun _ h9 => h9) rfl dX9_advance_183 ?_
                  refine tI (y := (v 1)) hq1_v27 ?_
                  have b1_v : 0 ≤ (v 1).toInt ∧ (v 1).toInt ≤ 1600 := XI.b hIv 1 (by decide)
                  refine lv_icmp_ge (tgt := 237) hx hb dX9_advance_186 (by decide) (fun c36 => ?_) (fun c36 => ?_)
                  · skip
                    have zc36 : (v 1).toInt ≤ (v27 4).toInt := by rw [fa_le] at c36; exact c36
                    have rg37 := fb_rng (v27 4)
                    exact jp237 _ _ _ ((gsX_X9_advance_1_q9 c36).symm.trans hT27) hP hD hS hl
                  · skip
                    have zc36 : ¬ ((v 1).toInt ≤ (v27 4).toInt) := by rw [fa_le] at c36; exact c36
                    have rg38 := fb_rng (v27 4)
                    refine lv_aload_n hx hb dX9_advance_189 rfl (lv_at hl 0 rfl) ?_
                    refine lv_aload_n hx hb dX9_advance_190 rfl (lv_at hl 0 rfl) ?_
                    refine va_get (D := (dC, dI)) (ci := 9) (v := .int (v27 4)) (C := RX9) (T := TX9) (N := 6) hx hb hts inB_9 hown hE.1 hP 1 rfl rfl 4 (by decide) (hts _ k_143) (fun _ h9 => h9) rfl dX9_advance_191 ?_
                    refine cbVi (n := 1) (rest := []) hx hb hml hown hts hE hP hD hS hA (sX_X9_isDigit_1 NF l dC dI cy x0 x (v27 4) v27 f27 hIv27 ) k_619 k_621 k_3 k_102 k_622 (by decide +kernel) ⟨Nat.le_of_ble_eq_true rfl, Nat.le_of_ble_eq_true rfl⟩ 1 9 rfl rfl (rfl) hl.1 rfl (Nat.le_of_ble_eq_true rfl) dX9_advance_194 (fun r39 u H locs hw hP hD hS => ?_)
                    obtain ⟨hG40, hw⟩ := hw
                    rcases hw with ⟨g41, g41_0, g41_1, g41_2⟩ | ⟨g41⟩
                    · skip
                      subst g41
                      refine lv_if_eq (tgt := 237) hx hb dX9_advance_197 (by decide) (fun c0 => absurd c0 (by decide)) (fun _ => ?_)
                      refine lv_aload_n hx hb dX9_advance_200 rfl (lv_at hl 0 rfl) ?_
                      refine lv_aload_n hx hb dX9_advance_201 rfl (lv_at hl 0 rfl) ?_
                      refine va_get (D := (dC, dI)) (ci := 9) (v := .int (v27 5)) (C := RX9) (T := TX9) (N := 6) hx hb hts inB_9 hown hE.1 hP 1 rfl rfl 5 (by decide) (hts _ k_144) (fun _ h9 => h9) rfl dX9_advance_202 ?_
                      refine lv_bipush (v := 10) hx hb dX9_advance_205 (by decide) ?_
                      refine lv_imul hx hb dX9_advance_207 ?_
                      refine lv_topi (fun t42 et42 => ?_)
                      refine lv_aload_n hx hb dX9_advance_208 rfl (lv_at hl 0 rfl) ?_
                      refine va_get (D := (dC, dI)) (ci := 9) (v := .ref (x 1)) (C := RX9) (T := TX9) (N := 6) hx hb hts inB_9 hown hE.1 hP 1 rfl rfl 0 (by decide) (hts _ k_136) (fun _ h9 => h9) rfl dX9_advance_209 ?_
                      refine lv_aload_n hx hb dX9_advance_212 rfl (lv_at hl 0 rfl) ?_
                      refine va_get (D := (dC, dI)) (ci := 9) (v := .int (v27 4)) (C := RX9) (T := TX9) (N := 6) hx hb hts inB_9 hown hE.1 hP 1 rfl rfl 4 (by decide) (hts _ k_143) (fun _ h9 => h9) rfl dX9_advance_213 ?_
                      refine ldB hx hb hE hP 2 rfl (vp_in_iff.mpr ⟨by omega, by omega⟩) rfl rfl dX9_advance_216 ?_
                      refine lv_topi (fun t43 et43 => ?_)
                      refine lv_iadd hx hb dX9_advance_217 ?_
                      refine lv_topi (fun t44 et44 => ?_)
                      refine lv_bipush (v := 48) hx hb dX9_advance_218 (by decide) ?_
                      refine lv_isub hx hb dX9_advance_220 ?_
                      refine lv_topi (fun t45 et45 => ?_)
                      refine va_put (D := (dC, dI)) (ci := 9) (v := .int t45) (ty := tyX9 5) (C := RX9) (T := TX9) (N := 6) hx hb hts inB_9 tyX9 tyX9_ok nmX9 hown hE.1 hP hD hS 1 rfl rfl 5 (by decide) (hts _ k_144) (fun _ h9 => h9) rfl (tyX9_ok 5 (by decide)) rfl rfl (Nat.le_of_ble_eq_true rfl) dX9_advance_221 (fun H locs hP hD hS => ?_)
                      have hP : va_P (dC, dI) vwCl (XW cy x0 x (upd v27 5 t45) f27) H := hP
                      have hD : va_D A (XW cy x0 x (upd v27 5 t45) f27) := hD
                      refine lv_aload_n hx hb dX9_advance_224 rfl (lv_at hl 0 rfl) ?_
                      refine lv_dup hx hb dX9_advance_225 rfl ?_
                      refine va_get (D := (dC, dI)) (ci := 9) (v := .int (v27 4)) (C := RX9) (T := TX9) (N := 6) hx hb hts inB_9 hown hE.1 hP 1 rfl rfl 4 (by decide) (hts _ k_143) (fun _ h9 => h9) rfl dX9_advance_226 ?_
                      refine lv_iconst (v := 1) hx hb dX9_advance_229 (by decide) ?_
                      refine lv_iadd hx hb dX9_advance_230 ?_
                      refine lv_topi (fun t46 et46 => ?_)
                      have zt46 : t46.toInt = (v27 4).toInt + 1 := by rw [et46]; exact add_i rfl (by decide) (by omega) (by omega)
                      refine va_put (D := (dC, dI)) (ci := 9) (v := .int t46) (ty := tyX9 4) (C := RX9) (T := TX9) (N := 6) hx hb hts inB_9 tyX9 tyX9_ok nmX9 hown hE.1 hP hD hS 1 rfl rfl 4 (by decide) (hts _ k_143) (fun _ h9 => h9) rfl (tyX9_ok 4 (by decide)) rfl rfl (Nat.le_of_ble_eq_true rfl) dX9_advance_231 (fun H locs hP hD hS => ?_)
                      have hP : va_P (dC, dI) vwCl (XW cy x0 x (upd (upd v27 5 t45) 4 t46) f27) H := hP
                      have hD : va_D A (XW cy x0 x (upd (upd v27 5 t45) 4 t46) f27) := hD
                      refine lv_goto (tgt := 178) hx hb dX9_advance_234 (by decide) ?_
                      exact ih27  (upd (upd v27 5 t45) 4 t46) f27 (XI.upd (j := 4) (x := t46) (XI.upd (j := 5) (x := t45) hIv27 (rlo _) (rhi _)) (show (0 : Int) ≤ t46.toInt by omega) (show t46.toInt ≤ (1600 : Int) by omega)) hq0_v27 hq1_v27 hq7_v27 hq8_v27 hq9_v27 hq10_v27 hq31_v27 hq32_v27 ((gsX_X9_advance_1_q10 c36 hG40 et42 et43 et44 et45 et46).symm.trans hT27) (KV.up (j := 4) (x := t46) (KV.up (j := 5) (x := t45) hM_v27 rfl) rfl) hA_f27 (by show (1600 - t46.toInt).toNat < n27; omega) _ _ _ hP hD hS (lv_sub hl [0] rfl)
                    · skip
                      subst g41
                      refine lv_if_eq (tgt := 237) hx hb dX9_advance_197 (by decide) (fun _ => ?_) (fun c0 => absurd (by decide) c0)
                      exact jp237 _ _ _ ((gsX_X9_advance_1_q11 c36 hG40).symm.trans hT27) hP hD hS hl
              exact lp27 (4294967296 + NF)  (upd (upd v1 4 (v1 3)) 5 0) f1 (XI.upd (j := 5) (x := 0) (XI.upd (j := 4) (x := (v1 3)) hIv1 (show (0 : Int) ≤ (v1 3).toInt by omega) (show (v1 3).toInt ≤ (1600 : Int) by omega)) (rlo _) (rhi _)) hq0_v1 hq1_v1 hq7_v1 hq8_v1 hq9_v1 hq10_v1 hq31_v1 hq32_v1 ((gsX_X9_advance_1_q12 c3 hG7 hG25).symm.trans hT2) (KV.up (j := 5) (x := 0) (KV.up (j := 4) (x := (v1 3)) hM_v1 rfl) rfl) hA_f1 (by have qc0 : (0 : Int32).toInt = 0 := (by decide); have qr0 := fb_rng (v1 3); show (1600 - (v1 3).toInt).toNat < 4294967296 + NF; omega) _ _ _ hP hD hS (lv_sub hl [0] rfl)
            · skip
              subst g26
              refine lv_if_eq (tgt := 273) hx hb dX9_advance_170 (by decide) (fun _ => ?_) (fun c0 => absurd (by decide) c0)
              refine lv_aload_n hx hb dX9_advance_273 rfl (lv_at hl 0 rfl) ?_
              refine lv_dup hx hb dX9_advance_274 rfl ?_
              refine va_get (D := (dC, dI)) (ci := 9) (v := .int (v1 3)) (C := RX9) (T := TX9) (N := 6) hx hb hts inB_9 hown hE.1 hP 1 rfl rfl 4 (by decide) (hts _ k_143) (fun _ h9 => h9) rfl dX9_advance_275 ?_
              refine lv_iconst (v := 1) hx hb dX9_advance_278 (by decide) ?_
              refine lv_iadd hx hb dX9_advance_279 ?_
              refine lv_topi (fun t47 et47 => ?_)
              have zt47 : t47.toInt = (v1 3).toInt + 1 := by rw [et47]; exact add_i rfl (by decide) (by omega) (by omega)
              refine va_put (D := (dC, dI)) (ci := 9) (v := .int t47) (ty := tyX9 4) (C := RX9) (T := TX9) (N := 6) hx hb hts inB_9 tyX9 tyX9_ok nmX9 hown hE.1 hP hD hS 1 rfl rfl 4 (by decide) (hts _ k_143) (fun _ h9 => h9) rfl (tyX9_ok 4 (by decide)) rfl rfl (Nat.le_of_ble_eq_true rfl) dX9_advance_280 (fun H locs hP hD hS => ?_)
              have hP : va_P (dC, dI) vwCl (XW cy x0 x (upd (upd v1 4 (v1 3)) 4 t47) f1) H := hP
              have hD : va_D A (XW cy x0 x (upd (upd v1 4 (v1 3)) 4 t47) f1) := hD
              refine lv_aload_n hx hb dX9_advance_283 rfl (lv_at hl 0 rfl) ?_
              refine va_ldcS hx hb hown hF.1 dX9_advance_284 ?_
              refine lv_aload_n hx hb dX9_advance_286 rfl (lv_at hl 0 rfl) ?_
              refine va_get (D := (dC, dI)) (ci := 9) (v := .ref (x 1)) (C := RX9) (T := TX9) (N := 6) hx hb hts inB_9 hown hE.1 hP 1 rfl rfl 0 (by decide) (hts _ k_136) (fun _ h9 => h9) rfl dX9_advance_287 ?_
              refine lv_aload_n hx hb dX9_advance_290 rfl (lv_at hl 0 rfl) ?_
              refine va_get (D := (dC, dI)) (ci := 9) (v := .int (v1 3)) (C := RX9) (T := TX9) (N := 6) hx hb hts inB_9 hown hE.1 hP 1 rfl rfl 3 (by decide) (hts _ k_141) (fun _ h9 => h9) rfl dX9_advance_291 ?_
              refine ldB hx hb hE hP 2 rfl (vp_in_iff.mpr ⟨by omega, by omega⟩) rfl rfl dX9_advance_294 ?_
              refine lv_topi (fun t48 et48 => ?_)
              refine lv_sipush (v := 255) hx hb dX9_advance_295 (by decide) ?_
              refine lv_iand hx hb dX9_advance_298 ?_
              refine lv_topi (fun t49 et49 => ?_)
              have zt49 : 0 ≤ t49.toInt ∧ t49.toInt < 256 := by rw [et49]; exact and_rng _ (k := 8) (by decide) (by decide)
              refine lv_i2c hx hb dX9_advance_299 rfl ?_
              refine lv_topi (fun t50 et50 => ?_)
              refine crVi (n := 1) (rest := [.ref (x 0)]) hx hb hml hown hts hE hP hD hS hA hF hT (sX_J0_indexOf_0f7a4_1 NF l dC dI cy x0 x t50 (upd (upd v1 4 (v1 3)) 4 t47) f1 (XI.upd (j := 4) (x := t47) (XI.upd (j := 4) (x := (v1 3)) hIv1 (show (0 : Int) ≤ (v1 3).toInt by omega) (show (v1 3).toInt ≤ (1600 : Int) by omega)) (show (0 : Int) ≤ t47.toInt by omega) (show t47.toInt ≤ (1600 : Int) by omega)) ) k_624 k_625 k_626 k_115 k_627 (by decide +kernel) ⟨Nat.le_of_ble_eq_true rfl, Nat.le_of_ble_eq_true rfl⟩ 0 (by decide) rfl rfl (rfl) hl.1 rfl (Nat.le_of_ble_eq_true rfl) dX9_advance_300 (fun r51 u H locs hw hP hD hS => ?_)
              have hG52 := hw
              refine lv_if_lt (tgt := 318) hx hb dX9_advance_303 (by decide) (fun c53 => ?_) (fun c53 => ?_)
              · skip
                have zc53 : r51.toInt < 0 := by rw [fa_lt, show (0 : Int32).toInt = 0 from by decide] at c53; exact c53
                refine lv_iconst (v := 1) hx hb dX9_advance_318 (by decide) ?_
                refine va_put (D := (dC, dI)) (ci := 9) (v := .int 1) (ty := tyX9 2) (C := RX9) (T := TX9) (N := 6) hx hb hts inB_9 tyX9 tyX9_ok nmX9 hown hE.1 hP hD hS 1 rfl rfl 2 (by decide) (hts _ k_140) (fun _ h9 => h9) rfl (tyX9_ok 2 (by decide)) rfl rfl (Nat.le_of_ble_eq_true rfl) dX9_advance_319 (fun H locs hP hD hS => ?_)
                have hP : va_P (dC, dI) vwCl (XW cy x0 x (upd (upd (upd v1 4 (v1 3)) 4 t47) 2 1) f1) H := hP
                have hD : va_D A (XW cy x0 x (upd (upd (upd v1 4 (v1 3)) 4 t47) 2 1) f1) := hD
                exact ret ((upd (upd (upd v1 4 (v1 3)) 4 t47) 2 1), f1) _ _ _ _ _ _ ⟨(hT2.symm.trans (gsX_X9_advance_1_q13 c3 hG7 hG25 et47 et48 et49 et50 hG52.symm c53)), (KV.up (j := 2) (x := 1) (KV.up (j := 4) (x := t47) (KV.up (j := 4) (x := (v1 3)) hM_v1 rfl) rfl) rfl), hA_f1, (XI.upd (j := 2) (x := 1) (XI.upd (j := 4) (x := t47) (XI.upd (j := 4) (x := (v1 3)) hIv1 (show (0 : Int) ≤ (v1 3).toInt by omega) (show (v1 3).toInt ≤ (1600 : Int) by omega)) (show (0 : Int) ≤ t47.toInt by omega) (show t47.toInt ≤ (1600 : Int) by omega)) (rlo _) (rhi _)), (show v1 0 = v 0 from hq0_v1), (show v1 1 = v 1 from hq1_v1), (show v1 7 = v 7 from hq7_v1), (show v1 8 = v 8 from hq8_v1), (show v1 9 = v 9 from hq9_v1), (show v1 10 = v 10 from hq10_v1), (show v1 31 = v 31 from hq31_v1), (show v1 32 = v 32 from hq32_v1)⟩ hP hD hS dX9_advance_322 (Nat.le_refl _) (Nat.le_refl _)
              · skip
                have zc53 : ¬ (r51.toInt < 0) := by rw [fa_lt, show (0 : Int32).toInt = 0 from by decide] at c53; exact c53
                refine lv_aload_n hx hb dX9_advance_306 rfl (lv_at hl 0 rfl) ?_
                refine va_get (D := (dC, dI)) (ci := 9) (v := .ref (x 1)) (C := RX9) (T := TX9) (N := 6) hx hb hts inB_9 hown hE.1 hP 1 rfl rfl 0 (by decide) (hts _ k_136) (fun _ h9 => h9) rfl dX9_advance_307 ?_
                refine lv_aload_n hx hb dX9_advance_310 rfl (lv_at hl 0 rfl) ?_
                refine va_get (D := (dC, dI)) (ci := 9) (v := .int (v1 3)) (C := RX9) (T := TX9) (N := 6) hx hb hts inB_9 hown hE.1 hP 1 rfl rfl 3 (by decide) (hts _ k_141) (fun _ h9 => h9) rfl dX9_advance_311 ?_
                refine ldB hx hb hE hP 2 rfl (vp_in_iff.mpr ⟨by omega, by omega⟩) rfl rfl dX9_advance_314 ?_
                refine lv_topi (fun t54 et54 => ?_)
                refine lv_goto (tgt := 319) hx hb dX9_advance_315 (by decide) ?_
                refine va_put (D := (dC, dI)) (ci := 9) (v := .int t54) (ty := tyX9 2) (C := RX9) (T := TX9) (N := 6) hx hb hts inB_9 tyX9 tyX9_ok nmX9 hown hE.1 hP hD hS 1 rfl rfl 2 (by decide) (hts _ k_140) (fun _ h9 => h9) rfl (tyX9_ok 2 (by decide)) rfl rfl (Nat.le_of_ble_eq_true rfl) dX9_advance_319 (fun H locs hP hD hS => ?_)
                have hP : va_P (dC, dI) vwCl (XW cy x0 x (upd (upd (upd v1 4 (v1 3)) 4 t47) 2 t54) f1) H := hP
                have hD : va_D A (XW cy x0 x (upd (upd (upd v1 4 (v1 3)) 4 t47) 2 t54) f1) := hD
                exact ret ((upd (upd (upd v1 4 (v1 3)) 4 t47) 2 t54), f1) _ _ _ _ _ _ ⟨(hT2.symm.trans (gsX_X9_advance_1_q14 c3 hG7 hG25 et47 et48 et49 et50 hG52.symm c53 et54)), (KV.up (j := 2) (x := t54) (KV.up (j := 4) (x := t47) (KV.up (j := 4) (x := (v1 3)) hM_v1 rfl) rfl) rfl), hA_f1, (XI.upd (j := 2) (x := t54) (XI.upd (j := 4) (x := t47) (XI.upd (j := 4) (x := (v1 3)) hIv1 (show (0 : Int) ≤ (v1 3).toInt by omega) (show (v1 3).toInt ≤ (1600 : Int) by omega)) (show (0 : Int) ≤ t47.toInt by omega) (show t47.toInt ≤ (1600 : Int) by omega)) (rlo _) (rhi _)), (show v1 0 = v 0 from hq0_v1), (show v1 1 = v 1 from hq1_v1), (show v1 7 = v 7 from hq7_v1), (show v1 8 = v 8 from hq8_v1), (show v1 9 = v 9 from hq9_v1), (show v1 10 = v 10 from hq10_v1), (show v1 31 = v 31 from hq31_v1), (show v1 32 = v 32 from hq32_v1)⟩ hP hD hS dX9_advance_322 (Nat.le_refl _) (Nat.le_refl _)
        · skip
          have zc3 : ¬ ((v1 3).toInt < (v 1).toInt) := by rw [fa_lt] at c3; exact c3
          have rg55 := fb_rng (v1 3)
          have rg56 := fb_rng (v 1)
          refine lv_aload_n hx hb dX9_advance_79 rfl (lv_at hl 0 rfl) ?_
          refine lv_iconst (v := 0) hx hb dX9_advance_80 (by decide) ?_
          refine va_put (D := (dC, dI)) (ci := 9) (v := .int 0) (ty := tyX9 2) (C := RX9) (T := TX9) (N := 6) hx hb hts inB_9 tyX9 tyX9_ok nmX9 hown hE.1 hP hD hS 1 rfl rfl 2 (by decide) (hts _ k_140) (fun _ h9 => h9) rfl (tyX9_ok 2 (by decide)) rfl rfl (Nat.le_of_ble_eq_true rfl) dX9_advance_81 (fun H locs hP hD hS => ?_)
          have hP : va_P (dC, dI) vwCl (XW cy x0 x (upd (upd v1 4 (v1 3)) 2 0) f1) H := hP
          have hD : va_D A (XW cy x0 x (upd (upd v1 4 (v1 3)) 2 0) f1) := hD
          refine lv_goto (tgt := 322) hx hb dX9_advance_84 (by decide) ?_
          exact ret ((upd (upd v1 4 (v1 3)) 2 0), f1) _ _ _ _ _ _ ⟨(hT2.symm.trans (gsX_X9_advance_1_q15 c3)), (KV.up (j := 2) (x := 0) (KV.up (j := 4) (x := (v1 3)) hM_v1 rfl) rfl), hA_f1, (XI.upd (j := 2) (x := 0) (XI.upd (j := 4) (x := (v1 3)) hIv1 (show (0 : Int) ≤ (v1 3).toInt by omega) (show (v1 3).toInt ≤ (1600 : Int) by omega)) (rlo _) (rhi _)), (show v1 0 = v 0 from hq0_v1), (show v1 1 = v 1 from hq1_v1), (show v1 7 = v 7 from hq7_v1), (show v1 8 = v 8 from hq8_v1), (show v1 9 = v 9 from hq9_v1), (show v1 10 = v 10 from hq10_v1), (show v1 31 = v 31 from hq31_v1), (show v1 32 = v 32 from hq32_v1)⟩ hP hD hS dX9_advance_322 (Nat.le_refl _) (Nat.le_refl _)
      refine va_get (D := (dC, dI)) (ci := 9) (v := .int (v1 3)) (C := RX9) (T := TX9) (N := 6) hx hb hts inB_9 hown hE.1 hP 1 rfl rfl 3 (by decide) (hts _ k_141) (fun _ h9 => h9) rfl dX9_advance_9 ?_
      have b3_v1 : 0 ≤ (v1 3).toInt ∧ (v1 3).toInt ≤ 1600 := XI.b hIv1 3 (by decide)
      refine lv_aload_n hx hb dX9_advance_12 rfl (lv_at hl 0 rfl) ?_
      refine va_get (D := (dC, dI)) (ci := 9) (v := .int (v1 1)) (C := RX9) (T := TX9) (N := 6) hx hb hts inB_9 hown hE.1 hP 1 rfl rfl 1 (by decide) (hts _ k_137) (fun _ h9 => h9) rfl dX9_advance_13 ?_
      refine tI (y := (v 1)) hq1_v1 ?_
      have b1_v : 0 ≤ (v 1).toInt ∧ (v 1).toInt ≤ 1600 := XI.b hIv 1 (by decide)
      refine lv_icmp_ge (tgt := 60) hx hb dX9_advance_16 (by decide) (fun c57 => ?_) (fun c57 => ?_)
      · skip
        have zc57 : (v 1).toInt ≤ (v1 3).toInt := by rw [fa_le] at c57; exact c57
        have rg58 := fb_rng (v1 3)
        have rg59 := fb_rng (v 1)
        exact jp60 _ _ _ ((gsX_X9_advance_1_q16 c57).symm.trans hT1) hP hD hS hl
      · skip
        have zc57 : ¬ ((v 1).toInt ≤ (v1 3).toInt) := by rw [fa_le] at c57; exact c57
        have rg60 := fb_rng (v1 3)
        have rg61 := fb_rng (v 1)
        refine lv_aload_n hx hb dX9_advance_19 rfl (lv_at hl 0 rfl) ?_
        refine va_get (D := (dC, dI)) (ci := 9) (v := .ref (x 1)) (C := RX9) (T := TX9) (N := 6) hx hb hts inB_9 hown hE.1 hP 1 rfl rfl 0 (by decide) (hts _ k_136) (fun _ h9 => h9) rfl dX9_advance_20 ?_
        refine lv_aload_n hx hb dX9_advance_23 rfl (lv_at hl 0 rfl) ?_
        refine va_get (D := (dC, dI)) (ci := 9) (v := .int (v1 3)) (C := RX9) (T := TX9) (N := 6) hx hb hts inB_9 hown hE.1 hP 1 rfl rfl 3 (by decide) (hts _ k_141) (fun _ h9 => h9) rfl dX9_advance_24 ?_
        refine ldB hx hb hE hP 2 rfl (vp_in_iff.mpr ⟨by omega, by omega⟩) rfl rfl dX9_advance_27 ?_
        refine lv_topi (fun t62 et62 => ?_)
        refine lv_bipush (v := 32) hx hb dX9_advance_28 (by decide) ?_
        refine lv_icmp_eq (tgt := 47) hx hb dX9_advance_30 (by decide) (fun c63 => ?_) (fun c63 => ?_)
        · skip
          have zc63 : t62.toInt = 32 := by rw [fa_eq, show (32 : Int32).toInt = 32 from by decide] at c63; exact c63
          refine lv_aload_n hx hb dX9_advance_47 rfl (lv_at hl 0 rfl) ?_
          refine lv_dup hx hb dX9_advance_48 rfl ?_
          refine va_get (D := (dC, dI)) (ci := 9) (v := .int (v1 3)) (C := RX9) (T := TX9) (N := 6) hx hb hts inB_9 hown hE.1 hP 1 rfl rfl 3 (by decide) (hts _ k_141) (fun _ h9 => h9) rfl dX9_advance_49 ?_
          refine lv_iconst (v := 1) hx hb dX9_advance_52 (by decide) ?_
          refine lv_iadd hx hb dX9_advance_53 ?_
          refine lv_topi (fun t64 et64 => ?_)
          have zt64 : t64.toInt = (v1 3).toInt + 1 := by rw [et64]; exact add_i rfl (by decide) (by omega) (by omega)
          refine va_put (D := (dC, dI)) (ci := 9) (v := .int t64) (ty := tyX9 3) (C := RX9) (T := TX9) (N := 6) hx hb hts inB_9 tyX9 tyX9_ok nmX9 hown hE.1 hP hD hS 1 rfl rfl 3 (by decide) (hts _ k_141) (fun _ h9 => h9) rfl (tyX9_ok 3 (by decide)) rfl rfl (Nat.le_of_ble_eq_true rfl) dX9_advance_54 (fun H locs hP hD hS => ?_)
          have hP : va_P (dC, dI) vwCl (XW cy x0 x (upd v1 3 t64) f1) H := hP
          have hD : va_D A (XW cy x0 x (upd v1 3 t64) f1) := hD
          refine lv_goto (tgt := 8) hx hb dX9_advance_57 (by decide) ?_
          exact ih1  (upd v1 3 t64) f1 (XI.upd (j := 3) (x := t64) hIv1 (show (0 : Int) ≤ t64.toInt by omega) (show t64.toInt ≤ (1600 : Int) by omega)) hq0_v1 hq1_v1 hq7_v1 hq8_v1 hq9_v1 hq10_v1 hq31_v1 hq32_v1 ((gsX_X9_advance_1_q17 c57 et62 c63 et64).symm.trans hT1) (KV.up (j := 3) (x := t64) hM_v1 rfl) hA_f1 (by show (1600 - t64.toInt).toNat < n1; omega) _ _ _ hP hD hS (lv_sub hl [0] rfl)
        · skip
          have zc63 : ¬ (t62.toInt = 32) := by rw [fa_eq, show (32 : Int32).toInt = 32 from by decide] at c63; exact c63
          refine lv_aload_n hx hb dX9_advance_33 rfl (lv_at hl 0 rfl) ?_
          refine va_get (D := (dC, dI)) (ci := 9) (v := .ref (x 1)) (C := RX9) (T := TX9) (N := 6) hx hb hts inB_9 hown hE.1 hP 1 rfl rfl 0 (by decide) (hts _ k_136) (fun _ h9 => h9) rfl dX9_advance_34 ?_
          refine lv_aload_n hx hb dX9_advance_37 rfl (lv_at hl 0 rfl) ?_
          refine va_get (D := (dC, dI)) (ci := 9) (v := .int (v1 3)) (C := RX9) (T := TX9) (N := 6) hx hb hts inB_9 hown hE.1 hP 1 rfl rfl 3 (by decide) (hts _ k_141) (fun _ h9 => h9) rfl dX9_advance_38 ?_
          refine ldB hx hb hE hP 2 rfl (vp_in_iff.mpr ⟨by omega, by omega⟩) rfl rfl dX9_advance_41 ?_
          refine lv_topi (fun t65 et65 => ?_)
          refine lv_bipush (v := 10) hx hb dX9_advance_42 (by decide) ?_
          refine lv_icmp_ne (tgt := 60) hx hb dX9_advance_44 (by decide) (fun c66 => ?_) (fun c66 => ?_)
          · skip
            have zc66 : ¬ (t65.toInt = 10) := by rw [fa_eq, show (10 : Int32).toInt = 10 from by decide] at c66; exact c66
            exact jp60 _ _ _ ((gsX_X9_advance_1_q18 c57 et62 c63 et65 c66).symm.trans hT1) hP hD hS hl
          · skip
            have zc66 : t65.toInt = 10 := by rw [fa_eq, show (10 : Int32).toInt = 10 from by decide] at c66; exact c66
            refine lv_aload_n hx hb dX9_advance_47 rfl (lv_at hl 0 rfl) ?_
            refine lv_dup hx hb dX9_advance_48 rfl ?_
            refine va_get (D := (dC, dI)) (ci := 9) (v := .int (v1 3)) (C := RX9) (T := TX9) (N := 6) hx hb hts inB_9 hown hE.1 hP 1 rfl rfl 3 (by decide) (hts _ k_141) (fun _ h9 => h9) rfl dX9_advance_49 ?_
            refine lv_iconst (v := 1) hx hb dX9_advance_52 (by decide) ?_
            refine lv_iadd hx hb dX9_advance_53 ?_
            refine lv_topi (fun t67 et67 => ?_)
            have zt67 : t67.toInt = (v1 3).toInt + 1 := by rw [et67]; exact add_i rfl (by decide) (by omega) (by omega)
            refine va_put (D := (dC, dI)) (ci := 9) (v := .int t67) (ty := tyX9 3) (C := RX9) (T := TX9) (N := 6) hx hb hts inB_9 tyX9 tyX9_ok nmX9 hown hE.1 hP hD hS 1 rfl rfl 3 (by decide) (hts _ k_141) (fun _ h9 => h9) rfl (tyX9_ok 3 (by decide)) rfl rfl (Nat.le_of_ble_eq_true rfl) dX9_advance_54 (fun H locs hP hD hS => ?_)
            have hP : va_P (dC, dI) vwCl (XW cy x0 x (upd v1 3 t67) f1) H := hP
            have hD : va_D A (XW cy x0 x (upd v1 3 t67) f1) := hD
            refine lv_goto (tgt := 8) hx hb dX9_advance_57 (by decide) ?_
            exact ih1  (upd v1 3 t67) f1 (XI.upd (j := 3) (x := t67) hIv1 (show (0 : Int) ≤ t67.toInt by omega) (show t67.toInt ≤ (1600 : Int) by omega)) hq0_v1 hq1_v1 hq7_v1 hq8_v1 hq9_v1 hq10_v1 hq31_v1 hq32_v1 ((gsX_X9_advance_1_q19 c57 et62 c63 et65 c66 et67).symm.trans hT1) (KV.up (j := 3) (x := t67) hM_v1 rfl) hA_f1 (by show (1600 - t67.toInt).toNat < n1; omega) _ _ _ hP hD hS (lv_sub hl [0] rfl)
  exact lp1 (4294967296 + NF)  (upd v 3 (v 4)) f (XI.upd (j := 3) (x := (v 4)) hIv (show (0 : Int) ≤ (v 4).toInt by omega) (show (v 4).toInt ≤ (1600 : Int) by omega)) rfl rfl rfl rfl rfl rfl rfl rfl gsX_X9_advance_1_q20.symm (KV.up (j := 3) (x := (v 4)) hM_v rfl) hA_f (by have qr0 := fb_rng (v 4); show (1600 - (v 4).toInt).toNat < 4294967296 + NF; omega) _ _ _ hP hD hS (lv_sub hl [0] rfl)
