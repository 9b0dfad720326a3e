set_option maxHeartbeats 4000000 in
set_option maxRecDepth 100000 in
theorem sX_X10_untell_1 (NF : Nat) (l : Launch) (dC : Nat → ClassId) (dI : Nat → Nat → Nat) (cy : Nat → ClassId) (x0 : Nat) (x : Nat → Nat) (p1 : Int32) (v : Nat → Int32) (f : Nat → Nat → Int32) (hIv : XI v)  : ctI l (dC, dI) cy yX10_untell cX10_untell 2 .boolean 2 82 0 0 ((Nat → Int32) × (Nat → Nat → Int32)) [.ref x0, .int p1] (XW cy x0 x v f) (fun r u => gsX_X10_untell_1 NF p1 v f = (r, u) ∧ KV [] u.1 v ∧ KF [26] u.2 f ∧ XI u.1 ∧ u.1 0 = v 0 ∧ u.1 1 = v 1 ∧ u.1 7 = v 7 ∧ u.1 8 = v 8 ∧ u.1 9 = v 9 ∧ u.1 10 = v 10 ∧ u.1 31 = v 31 ∧ u.1 32 = v 32 ∧ ((r = 1) ∨ (r = 0))) (fun u => XW cy x0 x u.1 u.2) := by
  refine ctI_of (by decide) (Nat.le_of_ble_eq_true rfl) (fun p e s m below meth c A ls Q hx hb hml hts hown hE hP hD hA hl ret => ?_)
  have hM_v : KV [] v v := fun _ _ => rfl
  have hA_f : KF [26] f f := fun _ _ => rfl
  have hown : s.vm.findClass RX10 = some m.cls := hown
  have hS : va_S A s.heap s.heap [] := va_S.rf
  have hl : lv_has ls 2 [(0, .ref x0), (1, .int p1)] := hl
  refine lv_aload_n hx hb dX10_untell_0 rfl (lv_at hl 0 rfl) ?_
  refine va_get (D := (dC, dI)) (ci := 10) (v := .ref (x 35)) (C := RX10) (T := TX10) (N := 10) hx hb hts inB_10 hown hE.1 hP 0 rfl rfl 8 (by decide) (hts _ k_499) (fun _ h9 => h9) rfl dX10_untell_1 ?_
  refine lv_iload_n hx hb dX10_untell_4 rfl (lv_at hl 1 rfl) ?_
  refine lv_aload_n hx hb dX10_untell_5 rfl (lv_at hl 0 rfl) ?_
  refine va_get (D := (dC, dI)) (ci := 10) (v := .int (v 0)) (C := RX10) (T := TX10) (N := 10) hx hb hts inB_10 hown hE.1 hP 0 rfl rfl 9 (by decide) (hts _ k_500) (fun _ h9 => h9) rfl dX10_untell_6 ?_
  have b0_v : 0 ≤ (v 0).toInt ∧ (v 0).toInt ≤ 100000 := XI.b hIv 0 (by decide)
  refine cbVi (n := 2) (rest := []) hx hb hml hown hts hE hP hD hS hA (sX_X8_takeBack_1 NF l dC dI cy x0 x p1 (v 0) v f hIv ) k_1234 k_1235 k_1236 k_112 k_1237 (by decide +kernel) ⟨Nat.le_of_ble_eq_true rfl, Nat.le_of_ble_eq_true rfl⟩ 36 8 rfl rfl (rfl) hl.1 rfl (Nat.le_of_ble_eq_true rfl) dX10_untell_9 (fun r1 u H locs hw hP hD hS => ?_)
  obtain ⟨hG2, hw⟩ := hw
  obtain ⟨v3, f4⟩ := u
  obtain ⟨kV_v3, kF_f4, hIv3, hk0_v3, hk1_v3, hk7_v3, hk8_v3, hk9_v3, hk10_v3, hk31_v3, hk32_v3, hw⟩ := hw
  have hM_v3 : KV [] v3 v := KV.tr kV_v3 hM_v rfl
  have hA_f4 : KF [26] f4 f := KF.tr kF_f4 hA_f rfl
  have hP : va_P (dC, dI) vwCl (XW cy x0 x v3 f4) H := hP
  have hD : va_D A (XW cy x0 x v3 f4) := hD
  have hq0_v3 : v3 0 = (v 0) := hk0_v3
  have hq1_v3 : v3 1 = (v 1) := hk1_v3
  have hq7_v3 : v3 7 = (v 7) := hk7_v3
  have hq8_v3 : v3 8 = (v 8) := hk8_v3
  have hq9_v3 : v3 9 = (v 9) := hk9_v3
  have hq10_v3 : v3 10 = (v 10) := hk10_v3
  have hq31_v3 : v3 31 = (v 31) := hk31_v3
  have hq32_v3 : v3 32 = (v 32) := hk32_v3
  rcases hw with ⟨g5⟩ | ⟨g5⟩
  · skip
    subst g5
    exact ret 1 (v3, f4) _ _ _ _ _ _ rfl ⟨(gsX_X10_untell_1_q0 hG2), hM_v3, hA_f4, hIv3, hk0_v3, hk1_v3, hk7_v3, hk8_v3, hk9_v3, hk10_v3, hk31_v3, hk32_v3, (Or.inl rfl)⟩ hP hD hS dX10_untell_12 (Nat.le_refl _) (Nat.le_refl _)
  · skip
    subst g5
    exact ret 0 (v3, f4) _ _ _ _ _ _ rfl ⟨(gsX_X10_untell_1_q1 hG2), hM_v3, hA_f4, hIv3, hk0_v3, hk1_v3, hk7_v3, hk8_v3, hk9_v3, hk10_v3, hk31_v3, hk32_v3, (Or.inr rfl)⟩ hP hD hS dX10_untell_12 (Nat.le_refl _) (Nat.le_refl _)
set_option maxHeartbeats 4000000 in
set_option maxRecDepth 100000 in
theorem sX_X10_later_1 (NF : Nat) (l : Launch) (dC : Nat → ClassId) (dI : Nat → Nat → Nat) (cy : Nat → ClassId) (x0 : Nat) (x : Nat → Nat) (p1 : Int32) (v : Nat → Int32) (f : Nat → Nat → Int32) (hIv : XI v)  : ctI l (dC, dI) cy yX10_later cX10_later 2 .int 1 60 0 0 ((Nat → Int32) × (Nat → Nat → Int32)) [.ref x0, .int p1] (XW cy x0 x v f) (fun r u => gsX_X10_later_1 NF p1 v f = (r, u) ∧ KV [0] u.1 v ∧ KF [] u.2 f ∧ XI u.1 ∧ u.1 1 = v 1 ∧ u.1 7 = v 7 ∧ u.1 8 = v 8 ∧ u.1 9 = v 9 ∧ u.1 10 = v 10 ∧ u.1 31 = v 31 ∧ u.1 32 = v 32) (fun u => XW cy x0 x u.1 u.2) := by
  refine ctI_of (by decide) (Nat.le_of_ble_eq_true rfl) (fun p e s m below meth c A ls Q hx hb hml hts hown hE hP hD hA hl ret => ?_)
  have hM_v : KV [0] v v := fun _ _ => rfl
  have hA_f : KF [] f f := fun _ _ => rfl
  have hown : s.vm.findClass RX10 = some m.cls := hown
  have hS : va_S A s.heap s.heap [] := va_S.rf
  have hl : lv_has ls 2 [(0, .ref x0), (1, .int p1)] := hl
  refine lv_iload_n hx hb dX10_later_0 rfl (lv_at hl 1 rfl) ?_
  refine lv_if_lt (tgt := 23) hx hb dX10_later_1 (by decide) (fun c1 => ?_) (fun c1 => ?_)
  · skip
    have zc1 : p1.toInt < 0 := by rw [fa_lt, show (0 : Int32).toInt = 0 from by decide] at c1; exact c1
    refine lv_iconst (v := (-1)) hx hb dX10_later_23 (by decide) ?_
    exact ret (-1) (v, f) _ _ _ _ _ _ rfl ⟨(gsX_X10_later_1_q0 c1), hM_v, hA_f, hIv, rfl, rfl, rfl, rfl, rfl, rfl, rfl⟩ hP hD hS dX10_later_24 (Nat.le_refl _) (Nat.le_refl _)
  · skip
    have zc1 : ¬ (p1.toInt < 0) := by rw [fa_lt, show (0 : Int32).toInt = 0 from by decide] at c1; exact c1
    refine lv_iload_n hx hb dX10_later_4 rfl (lv_at hl 1 rfl) ?_
    refine lv_sipush (v := 1000) hx hb dX10_later_5 (by decide) ?_
    refine lv_icmp_gt (tgt := 23) hx hb dX10_later_8 (by decide) (fun c2 => ?_) (fun c2 => ?_)
    · skip
      have zc2 : 1000 < p1.toInt := by rw [fa_lt, show (1000 : Int32).toInt = 1000 from by decide] at c2; exact c2
      refine lv_iconst (v := (-1)) hx hb dX10_later_23 (by decide) ?_
      exact ret (-1) (v, f) _ _ _ _ _ _ rfl ⟨(gsX_X10_later_1_q1 c1 c2), hM_v, hA_f, hIv, rfl, rfl, rfl, rfl, rfl, rfl, rfl⟩ hP hD hS dX10_later_24 (Nat.le_refl _) (Nat.le_refl _)
    · skip
      have zc2 : ¬ (1000 < p1.toInt) := by rw [fa_lt, show (1000 : Int32).toInt = 1000 from by decide] at c2; exact c2
      refine lv_aload_n hx hb dX10_later_11 rfl (lv_at hl 0 rfl) ?_
      refine va_get (D := (dC, dI)) (ci := 10) (v := .int (v 0)) (C := RX10) (T := TX10) (N := 10) hx hb hts inB_10 hown hE.1 hP 0 rfl rfl 9 (by decide) (hts _ k_500) (fun _ h9 => h9) rfl dX10_later_12 ?_
      have b0_v : 0 ≤ (v 0).toInt ∧ (v 0).toInt ≤ 100000 := XI.b hIv 0 (by decide)
      refine lv_iload_n hx hb dX10_later_15 rfl (lv_at hl 1 rfl) ?_
      refine lv_iadd hx hb dX10_later_16 ?_
      refine lv_topi (fun t3 et3 => ?_)
      have rg4 := fb_rng (v 0)
      have rg5 := fb_rng p1
      have zt3 : t3.toInt = (v 0).toInt + p1.toInt := by rw [et3]; exact add_i rfl rfl (by omega) (by omega)
      refine lv_ldcw (v := 100000) hx hb hown (hts _ k_1242) dX10_later_17 ?_
      refine lv_icmp_le (tgt := 25) hx hb dX10_later_20 (by decide) (fun c6 => ?_) (fun c6 => ?_)
      · skip
        have zc6 : t3.toInt ≤ 100000 := by rw [fa_le, show (100000 : Int32).toInt = 100000 from by decide] at c6; exact c6
        refine lv_aload_n hx hb dX10_later_25 rfl (lv_at hl 0 rfl) ?_
        refine lv_dup hx hb dX10_later_26 rfl ?_
        refine va_get (D := (dC, dI)) (ci := 10) (v := .int (v 0)) (C := RX10) (T := TX10) (N := 10) hx hb hts inB_10 hown hE.1 hP 0 rfl rfl 9 (by decide) (hts _ k_500) (fun _ h9 => h9) rfl dX10_later_27 ?_
        refine lv_iload_n hx hb dX10_later_30 rfl (lv_at hl 1 rfl) ?_
        refine lv_iadd hx hb dX10_later_31 ?_
        refine tI (y := t3) et3.symm ?_
        refine va_put (D := (dC, dI)) (ci := 10) (v := .int t3) (ty := tyX10 9) (C := RX10) (T := TX10) (N := 10) hx hb hts inB_10 tyX10 tyX10_ok nmX10 hown hE.1 hP hD hS 0 rfl rfl 9 (by decide) (hts _ k_500) (fun _ h9 => h9) rfl (tyX10_ok 9 (by decide)) rfl rfl (Nat.le_of_ble_eq_true rfl) dX10_later_32 (fun H locs hP hD hS => ?_)
        have hP : va_P (dC, dI) vwCl (XW cy x0 x (upd v 0 t3) f) H := hP
        have hD : va_D A (XW cy x0 x (upd v 0 t3) f) := hD
        refine lv_aload_n hx hb dX10_later_35 rfl (lv_at hl 0 rfl) ?_
        refine va_get (D := (dC, dI)) (ci := 10) (v := .int t3) (C := RX10) (T := TX10) (N := 10) hx hb hts inB_10 hown hE.1 hP 0 rfl rfl 9 (by decide) (hts _ k_500) (fun _ h9 => h9) rfl dX10_later_36 ?_
        exact ret t3 ((upd v 0 t3), f) _ _ _ _ _ _ rfl ⟨(gsX_X10_later_1_q2 c1 c2 et3 c6), (KV.up (j := 0) (x := t3) hM_v rfl), hA_f, (XI.upd (j := 0) (x := t3) hIv (show (0 : Int) ≤ t3.toInt by omega) (show t3.toInt ≤ (100000 : Int) by omega)), rfl, rfl, rfl, rfl, rfl, rfl, rfl⟩ hP hD hS dX10_later_39 (Nat.le_refl _) (Nat.le_refl _)
      · skip
        have zc6 : ¬ (t3.toInt ≤ 100000) := by rw [fa_le, show (100000 : Int32).toInt = 100000 from by decide] at c6; exact c6
        refine lv_iconst (v := (-1)) hx hb dX10_later_23 (by decide) ?_
        exact ret (-1) (v, f) _ _ _ _ _ _ rfl ⟨(gsX_X10_later_1_q3 c1 c2 et3 c6), hM_v, hA_f, hIv, rfl, rfl, rfl, rfl, rfl, rfl, rfl⟩ hP hD hS dX10_later_24 (Nat.le_refl _) (Nat.le_refl _)
set_option maxHeartbeats 4000000 in
set_option maxRecDepth 100000 in
theorem sX_X10_commonDivisor_1 (NF : Nat) (l : Launch) (dC : Nat → ClassId) (dI : Nat → Nat → Nat) (cy : Nat → ClassId) (x0 : Nat) (x : Nat → Nat) (p0 : Int32) (p1 : Int32) (v : Nat → Int32) (f : Nat → Nat → Int32) (hIv : XI v)  : ctI l (dC, dI) cy yX10_commonDivisor cX10_commonDivisor 6 .int 1 60 0 0 Unit [.int p0, .int p1] (XW cy x0 x v f) (fun r u => gsX_X10_commonDivisor_1 NF p0 p1 v f = r) (fun u => XW cy x0 x v f) := by
  refine ctI_of (by decide) (Nat.le_of_ble_eq_true rfl) (fun p e s m below meth c A ls Q hx hb hml hts hown hE hP hD hA hl ret => ?_)
  have hown : s.vm.findClass RX10 = some m.cls := hown
  have hS : va_S A s.heap s.heap [] := va_S.rf
  have hl : lv_has ls 6 [(0, .int p0), (1, .int p1)] := hl
  refine lv_iload_n hx hb dX10_commonDivisor_0 rfl (lv_at hl 0 rfl) ?_
  refine lv_istore_n (lv' := [(2, .int p0), (0, .int p0), (1, .int p1)]) hx hb dX10_commonDivisor_1 rfl hl (by decide) rfl (fun ls hl => ?_)
  refine lv_iload_n hx hb dX10_commonDivisor_2 rfl (lv_at hl 2 rfl) ?_
  refine lv_istore_n (lv' := [(3, .int p1), (2, .int p0), (0, .int p0), (1, .int p1)]) hx hb dX10_commonDivisor_3 rfl hl (by decide) rfl (fun ls hl => ?_)
  refine lv_iconst (v := 0) hx hb dX10_commonDivisor_4 (by decide) ?_
  refine lv_istore (lv' := [(4, .int 0), (3, .int p1), (2, .int p0), (0, .int p0), (1, .int p1)]) hx hb dX10_commonDivisor_5 hl (by decide) rfl (fun ls hl => ?_)
  have lp1 : ∀ (n1 : Nat) (l2_1 : Int32) (l3_1 : Int32) (l4_1 : Int32), gsX_X10_commonDivisor_1_L1 NF n1 l2_1 l3_1 l4_1 = (gsX_X10_commonDivisor_1 NF p0 p1 v f) → ((0 : Int) ≤ l4_1.toInt ∧ l4_1.toInt ≤ 2147483647) → (2147483647 - l4_1.toInt).toNat < n1 → ∀ (H : Heap) (locs : List Loc) (ls : Array Slot), va_P (dC, dI) vwCl (XW cy x0 x v f) H → va_D A (XW cy x0 x v f) → va_S A s.heap H locs → lv_has ls 6 [(4, .int l4_1), (3, .int l3_1), (2, .int l2_1), (0, .int p0), (1, .int p1)] → W p l e { frames := 1, cells := 0, slots := 0, locals := 60 } s m ([.int p0, .int p1] : List Value).toArray below meth c H locs 0 0 Q (F0 m 7 ls []) := by
    intro n1
    induction n1 with
    | zero => intro l2_1 l3_1 l4_1 hT1 hr4_1 hm; exact absurd hm (Nat.not_lt_zero _)
    | succ n1 ih1 =>
      intro l2_1 l3_1 l4_1 hT1 hr4_1 hm1 H locs ls hP hD hS hl
      refine lv_iload hx hb dX10_commonDivisor_7 (lv_at hl 0 rfl) ?_
      refine lv_bipush (v := 100) hx hb dX10_commonDivisor_9 (by decide) ?_
      refine lv_icmp_ge (tgt := 34) hx hb dX10_commonDivisor_11 (by decide) (fun c2 => ?_) (fun c2 => ?_)
      · skip
        have zc2 : 100 ≤ l4_1.toInt := by rw [fa_le, show (100 : Int32).toInt = 100 from by decide] at c2; exact c2
        refine lv_iload_n hx hb dX10_commonDivisor_34 rfl (lv_at hl 2 rfl) ?_
        exact ret l2_1 () _ _ _ _ _ _ rfl (hT1.symm.trans (gsX_X10_commonDivisor_1_q0 c2)) hP hD hS dX10_commonDivisor_35 (Nat.le_refl _) (Nat.le_refl _)
      · skip
        have zc2 : ¬ (100 ≤ l4_1.toInt) := by rw [fa_le, show (100 : Int32).toInt = 100 from by decide] at c2; exact c2
        refine lv_iload_n hx hb dX10_commonDivisor_14 rfl (lv_at hl 1 rfl) ?_
        refine lv_if_eq (tgt := 34) hx hb dX10_commonDivisor_15 (by decide) (fun c3 => ?_) (fun c3 => ?_)
        · skip
          have zc3 : l3_1.toInt = 0 := by rw [fa_eq, show (0 : Int32).toInt = 0 from by decide] at c3; exact c3
          refine lv_iload_n hx hb dX10_commonDivisor_34 rfl (lv_at hl 2 rfl) ?_
          exact ret l2_1 () _ _ _ _ _ _ rfl (hT1.symm.trans (gsX_X10_commonDivisor_1_q1 c2 c3)) hP hD hS dX10_commonDivisor_35 (Nat.le_refl _) (Nat.le_refl _)
        · skip
          have zc3 : ¬ (l3_1.toInt = 0) := by rw [fa_eq, show (0 : Int32).toInt = 0 from by decide] at c3; exact c3
          refine lv_iload_n hx hb dX10_commonDivisor_18 rfl (lv_at hl 2 rfl) ?_
          refine lv_iload_n hx hb dX10_commonDivisor_19 rfl (lv_at hl 1 rfl) ?_
          refine lv_irem hx hb dX10_commonDivisor_20 (ne0 (by omega)) ?_
          refine lv_topi (fun t4 et4 => ?_)
          refine lv_istore (lv' := [(5, .int t4), (4, .int l4_1), (3, .int l3_1), (2, .int l2_1), (0, .int p0), (1, .int p1)]) hx hb dX10_commonDivisor_21 hl (by decide) rfl (fun ls hl => ?_)
          refine lv_iload_n hx hb dX10_commonDivisor_23 rfl (lv_at hl 2 rfl) ?_
          refine lv_istore_n (lv' := [(2, .int l3_1), (5, .int t4), (4, .int l4_1), (3, .int l3_1), (0, .int p0), (1, .int p1)]) hx hb dX10_commonDivisor_24 rfl hl (by decide) rfl (fun ls hl => ?_)
          refine lv_iload hx hb dX10_commonDivisor_25 (lv_at hl 1 rfl) ?_
          refine lv_istore_n (lv' := [(3, .int t4), (2, .int l3_1), (5, .int t4), (4, .int l4_1), (0, .int p0), (1, .int p1)]) hx hb dX10_commonDivisor_27 rfl hl (by decide) rfl (fun ls hl => ?_)
          obtain ⟨t5, et5⟩ : ∃ y : Int32, y = l4_1 + 1 := ⟨_, rfl⟩
          have rg6 := fb_rng l4_1
          have zt5 : t5.toInt = l4_1.toInt + 1 := by rw [et5]; exact add_i rfl (by decide) (by omega) (by omega)
          refine lv_iinc (v := t5) (lv' := [(4, .int t5), (3, .int t4), (2, .int l3_1), (5, .int t4), (0, .int p0), (1, .int p1)]) hx hb dX10_commonDivisor_28 hl (k := 3) rfl (by rw [et5]; rfl) (by decide) rfl (fun ls hl => ?_)
          refine lv_goto (tgt := 7) hx hb dX10_commonDivisor_31 (by decide) ?_
          have rg7 := fb_rng t5
          exact ih1 l3_1 t4 t5 ((gsX_X10_commonDivisor_1_q2 c2 c3 et4 et5).symm.trans hT1) ⟨show (0 : Int) ≤ t5.toInt by omega, show t5.toInt ≤ (2147483647 : Int) by omega⟩ (by show (2147483647 - t5.toInt).toNat < n1; omega) _ _ _ hP hD hS (lv_sub hl [0, 1, 2, 4, 5] rfl)
  exact lp1 (4294967296 + NF) p0 p1 0 gsX_X10_commonDivisor_1_q3.symm ⟨by decide, by decide⟩ (by have q4 : (0 : Int32).toInt = 0 := (by decide); show (2147483647 - (0 : Int32).toInt).toNat < 4294967296 + NF; omega) _ _ _ hP hD hS (lv_sub hl [0, 1, 2, 3, 4] rfl)
set_option maxHeartbeats 4000000 in
set_option maxRecDepth 100000 in
theorem sX_X10_odds_1 (NF : Nat) (l : Launch) (dC : Nat → ClassId) (dI : Nat → Nat → Nat) (cy : Nat → ClassId) (x0 : Nat) (x : Nat → Nat) (p1 : Int32) (p2 : Int32) (v : Nat → Int32) (f : Nat → Nat → Int32) (hIv : XI v)  : ctI l (dC, dI) cy yX10_odds cX10_odds 6 .int 2 85 0 0 Unit [.ref x0, .int p1, .int p2] (XW cy x0 x v f) (fun r u => gsX_X10_odds_1 NF p1 p2 v f = r) (fun u => XW cy x0 x v f) := by
  refine ctI_of (by decide) (Nat.le_of_ble_eq_true rfl) (fun p e s m below meth c A ls Q hx hb hml hts hown hE hP hD hA hl ret => ?_)
  have hown : s.vm.findClass RX10 = some m.cls := hown
  have hS : va_S A s.heap s.heap [] := va_S.rf
  have hl : lv_has ls 6 [(0, .ref x0), (1, .int p1), (2, .int p2)] := hl
  refine lv_iload_n hx hb dX10_odds_0 rfl (lv_at hl 1 rfl) ?_
  refine lv_if_lt (tgt := 18) hx hb dX10_odds_1 (by decide) (fun c1 => ?_) (fun c1 => ?_)
  · skip
    have zc1 : p1.toInt < 0 := by rw [fa_lt, show (0 : Int32).toInt = 0 from by decide] at c1; exact c1
    refine lv_iconst (v := (-1)) hx hb dX10_odds_18 (by decide) ?_
    exact ret (-1) () _ _ _ _ _ _ rfl (gsX_X10_odds_1_q0 c1) hP hD hS dX10_odds_19 (Nat.le_refl _) (Nat.le_refl _)
  · skip
    have zc1 : ¬ (p1.toInt < 0) := by rw [fa_lt, show (0 : Int32).toInt = 0 from by decide] at c1; exact c1
    refine lv_iload_n hx hb dX10_odds_4 rfl (lv_at hl 1 rfl) ?_
    refine lv_iconst (v := 4) hx hb dX10_odds_5 (by decide) ?_
    refine lv_icmp_gt (tgt := 18) hx hb dX10_odds_6 (by decide) (fun c2 => ?_) (fun c2 => ?_)
    · skip
      have zc2 : 4 < p1.toInt := by rw [fa_lt, show (4 : Int32).toInt = 4 from by decide] at c2; exact c2
      refine lv_iconst (v := (-1)) hx hb dX10_odds_18 (by decide) ?_
      exact ret (-1) () _ _ _ _ _ _ rfl (gsX_X10_odds_1_q1 c1 c2) hP hD hS dX10_odds_19 (Nat.le_refl _) (Nat.le_refl _)
    · skip
      have zc2 : ¬ (4 < p1.toInt) := by rw [fa_lt, show (4 : Int32).toInt = 4 from by decide] at c2; exact c2
      refine lv_iload_n hx hb dX10_odds_9 rfl (lv_at hl 2 rfl) ?_
      refine lv_if_lt (tgt := 18) hx hb dX10_odds_10 (by decide) (fun c3 => ?_) (fun c3 => ?_)
      · skip
        have zc3 : p2.toInt < 0 := by rw [fa_lt, show (0 : Int32).toInt = 0 from by decide] at c3; exact c3
        refine lv_iconst (v := (-1)) hx hb dX10_odds_18 (by decide) ?_
        exact ret (-1) () _ _ _ _ _ _ rfl (gsX_X10_odds_1_q2 c1 c2 c3) hP hD hS dX10_odds_19 (Nat.le_refl _) (Nat.le_refl _)
      · skip
        have zc3 : ¬ (p2.toInt < 0) := by rw [fa_lt, show (0 : Int32).toInt = 0 from by decide] at c3; exact c3
        refine lv_iload_n hx hb dX10_odds_13 rfl (lv_at hl 2 rfl) ?_
        refine lv_iconst (v := 1) hx hb dX10_odds_14 (by decide) ?_
        refine lv_icmp_le (tgt := 20) hx hb dX10_odds_15 (by decide) (fun c4 => ?_) (fun c4 => ?_)
        · skip
          have zc4 : p2.toInt ≤ 1 := by rw [fa_le, show (1 : Int32).toInt = 1 from by decide] at c4; exact c4
          refine lv_iconst (v := 1) hx hb dX10_odds_20 (by decide) ?_
          refine lv_istore_n (lv' := [(3, .int 1), (0, .ref x0), (1, .int p1), (2, .int p2)]) hx hb dX10_odds_21 rfl hl (by decide) rfl (fun ls hl => ?_)
          refine lv_iconst (v := 1) hx hb dX10_odds_22 (by decide) ?_
          refine lv_istore (lv' := [(4, .int 1), (3, .int 1), (0, .ref x0), (1, .int p1), (2, .int p2)]) hx hb dX10_odds_23 hl (by decide) rfl (fun ls hl => ?_)
          refine lv_iconst (v := 0) hx hb dX10_odds_25 (by decide) ?_
          refine lv_istore (lv' := [(5, .int 0), (4, .int 1), (3, .int 1), (0, .ref x0), (1, .int p1), (2, .int p2)]) hx hb dX10_odds_26 hl (by decide) rfl (fun ls hl => ?_)
          have lp5 : ∀ (n5 : Nat) (l3_5 : Int32) (l4_5 : Int32) (l5_5 : Int32), gsX_X10_odds_1_L5 NF p1 p2 v f n5 l3_5 l4_5 l5_5 = (gsX_X10_odds_1 NF p1 p2 v f) → ((0 : Int) ≤ l5_5.toInt ∧ l5_5.toInt ≤ 2147483647) → (2147483647 - l5_5.toInt).toNat < n5 → ∀ (H : Heap) (locs : List Loc) (ls : Array Slot), va_P (dC, dI) vwCl (XW cy x0 x v f) H → va_D A (XW cy x0 x v f) → va_S A s.heap H locs → lv_has ls 6 [(5, .int l5_5), (4, .int l4_5), (3, .int l3_5), (0, .ref x0), (1, .int p1), (2, .int p2)] → W p l e { frames := 2, cells := 0, slots := 0, locals := 85 } s m ([.ref x0, .int p1, .int p2] : List Value).toArray below meth c H locs 0 0 Q (F0 m 28 ls []) := by
            intro n5
            induction n5 with
            | zero => intro l3_5 l4_5 l5_5 hT5 hr5_5 hm; exact absurd hm (Nat.not_lt_zero _)
            | succ n5 ih5 =>
              intro l3_5 l4_5 l5_5 hT5 hr5_5 hm5 H locs ls hP hD hS hl
              refine lv_iload hx hb dX10_odds_28 (lv_at hl 0 rfl) ?_
              refine lv_iload_n hx hb dX10_odds_30 rfl (lv_at hl 4 rfl) ?_
              refine lv_icmp_ge (tgt := 60) hx hb dX10_odds_31 (by decide) (fun c6 => ?_) (fun c6 => ?_)
              · skip
                have zc6 : p1.toInt ≤ l5_5.toInt := by rw [fa_le] at c6; exact c6
                have rg7 := fb_rng l5_5
                have rg8 := fb_rng p1
                refine lv_iload hx hb dX10_odds_60 (lv_at hl 1 rfl) ?_
                refine lv_iload_n hx hb dX10_odds_62 rfl (lv_at hl 2 rfl) ?_
                refine cbSi (n := 2) (rest := []) hx hb hml hown hts hE hP hD hS hA (sX_X10_commonDivisor_1 NF l dC dI cy x0 x l4_5 l3_5 v f hIv ) k_1211 k_1212 k_101 k_1213 (by decide +kernel) ⟨Nat.le_of_ble_eq_true rfl, Nat.le_of_ble_eq_true rfl⟩ (rfl) hl.1 rfl (Nat.le_of_ble_eq_true rfl) dX10_odds_63 (fun r9 u H locs hw hP hD hS => ?_)
                have hG10 := hw
                refine lv_istore (lv' := [(5, .int r9), (4, .int l4_5), (3, .int l3_5), (0, .ref x0), (1, .int p1), (2, .int p2)]) hx hb dX10_odds_66 hl (by decide) rfl (fun ls hl => ?_)
                refine lv_iload hx hb dX10_odds_68 (lv_at hl 0 rfl) ?_
                refine lv_iconst (v := 1) hx hb dX10_odds_70 (by decide) ?_
                refine lv_icmp_ge (tgt := 76) hx hb dX10_odds_71 (by decide) (fun c11 => ?_) (fun c11 => ?_)
                · skip
                  have zc11 : 1 ≤ r9.toInt := by rw [fa_le, show (1 : Int32).toInt = 1 from by decide] at c11; exact c11
                  refine lv_iload_n hx hb dX10_odds_76 rfl (lv_at hl 5 rfl) ?_
                  refine lv_if_ne (tgt := 84) hx hb dX10_odds_77 (by decide) (fun c12 => ?_) (fun c12 => ?_)
                  · skip
                    have zc12 : ¬ (p2.toInt = 0) := by rw [fa_eq, show (0 : Int32).toInt = 0 from by decide] at c12; exact c12
                    refine lv_iload hx hb dX10_odds_84 (lv_at hl 1 rfl) ?_
                    refine lv_iload hx hb dX10_odds_86 (lv_at hl 0 rfl) ?_
                    refine lv_idiv hx hb dX10_odds_88 (ne0 (by omega)) ?_
                    refine lv_topi (fun t13 et13 => ?_)
                    exact ret t13 () _ _ _ _ _ _ rfl (hT5.symm.trans (gsX_X10_odds_1_q3 c6 hG10.symm c11 c12 et13)) hP hD hS dX10_odds_89 (Nat.le_refl _) (Nat.le_refl _)
                  · skip
                    have zc12 : p2.toInt = 0 := by rw [fa_eq, show (0 : Int32).toInt = 0 from by decide] at c12; exact c12
                    refine lv_iload_n hx hb dX10_odds_80 rfl (lv_at hl 2 rfl) ?_
                    refine lv_goto (tgt := 86) hx hb dX10_odds_81 (by decide) ?_
                    refine lv_iload hx hb dX10_odds_86 (lv_at hl 0 rfl) ?_
                    refine lv_idiv hx hb dX10_odds_88 (ne0 (by omega)) ?_
                    refine lv_topi (fun t14 et14 => ?_)
                    exact ret t14 () _ _ _ _ _ _ rfl (hT5.symm.trans (gsX_X10_odds_1_q4 c6 hG10.symm c11 c12 et14)) hP hD hS dX10_odds_89 (Nat.le_refl _) (Nat.le_refl _)
                · skip
                  have zc11 : ¬ (1 ≤ r9.toInt) := by rw [fa_le, show (1 : Int32).toInt = 1 from by decide] at c11; exact c11
                  refine lv_iconst (v := (-1)) hx hb dX10_odds_74 (by decide) ?_
                  exact ret (-1) () _ _ _ _ _ _ rfl (hT5.symm.trans (gsX_X10_odds_1_q5 c6 hG10.symm c11)) hP hD hS dX10_odds_75 (Nat.le_refl _) (Nat.le_refl _)
              · skip
                have zc6 : ¬ (p1.toInt ≤ l5_5.toInt) := by rw [fa_le] at c6; exact c6
                have rg15 := fb_rng l5_5
                have rg16 := fb_rng p1
                refine lv_iload_n hx hb dX10_odds_34 rfl (lv_at hl 2 rfl) ?_
                refine lv_bipush (v := 100) hx hb dX10_odds_35 (by decide) ?_
                refine lv_aload_n hx hb dX10_odds_37 rfl (lv_at hl 3 rfl) ?_
                refine va_get (D := (dC, dI)) (ci := 10) (v := .ref (x 26)) (C := RX10) (T := TX10) (N := 10) hx hb hts inB_10 hown hE.1 hP 0 rfl rfl 2 (by decide) (hts _ k_493) (fun _ h9 => h9) rfl dX10_odds_38 ?_
                refine va_getN (D := (dC, dI)) (ci := 7) (v := .int (v 36)) (C := RX7) (T := TX7) (N := 10) hx hb hts inB_7 hown hE.1 hP 27 rfl rfl 8 (by decide) (va_Nw.use rfl (hE.2 _ k_241)) (fun _ h9 => h9) rfl dX10_odds_41 ?_
                refine lv_isub hx hb dX10_odds_44 ?_
                refine lv_topi (fun t17 et17 => ?_)
                refine lv_imul hx hb dX10_odds_45 ?_
                refine lv_topi (fun t18 et18 => ?_)
                refine lv_istore_n (lv' := [(3, .int t18), (5, .int l5_5), (4, .int l4_5), (0, .ref x0), (1, .int p1), (2, .int p2)]) hx hb dX10_odds_46 rfl hl (by decide) rfl (fun ls hl => ?_)
                refine lv_iload hx hb dX10_odds_47 (lv_at hl 2 rfl) ?_
                refine lv_bipush (v := 100) hx hb dX10_odds_49 (by decide) ?_
                refine lv_imul hx hb dX10_odds_51 ?_
                refine lv_topi (fun t19 et19 => ?_)
                refine lv_istore (lv' := [(4, .int t19), (3, .int t18), (5, .int l5_5), (0, .ref x0), (1, .int p1), (2, .int p2)]) hx hb dX10_odds_52 hl (by decide) rfl (fun ls hl => ?_)
                obtain ⟨t20, et20⟩ : ∃ y : Int32, y = l5_5 + 1 := ⟨_, rfl⟩
                have zt20 : t20.toInt = l5_5.toInt + 1 := by rw [et20]; exact add_i rfl (by decide) (by omega) (by omega)
                refine lv_iinc (v := t20) (lv' := [(5, .int t20), (4, .int t19), (3, .int t18), (0, .ref x0), (1, .int p1), (2, .int p2)]) hx hb dX10_odds_54 hl (k := 2) rfl (by rw [et20]; rfl) (by decide) rfl (fun ls hl => ?_)
                refine lv_goto (tgt := 28) hx hb dX10_odds_57 (by decide) ?_
                have rg21 := fb_rng t20
                exact ih5 t18 t19 t20 ((gsX_X10_odds_1_q6 c6 et17 et18 et19 et20).symm.trans hT5) ⟨show (0 : Int) ≤ t20.toInt by omega, show t20.toInt ≤ (2147483647 : Int) by omega⟩ (by show (2147483647 - t20.toInt).toNat < n5; omega) _ _ _ hP hD hS (lv_sub hl [0, 1, 2, 3, 4, 5] rfl)
          exact lp5 (4294967296 + NF) 1 1 0 (gsX_X10_odds_1_q7 c1 c2 c3 c4).symm ⟨by decide, by decide⟩ (by have q5 : (0 : Int32).toInt = 0 := (by decide); have q4 : (1 : Int32).toInt = 1 := (by decide); have q3 : (1 : Int32).toInt = 1 := (by decide); show (2147483647 - (0 : Int32).toInt).toNat < 4294967296 + NF; omega) _ _ _ hP hD hS (lv_sub hl [0, 1, 2, 3, 4, 5] rfl)
        · skip
          have zc4 : ¬ (p2.toInt ≤ 1) := by rw [fa_le, show (1 : Int32).toInt = 1 from by decide] at c4; exact c4
          refine lv_iconst (v := (-1)) hx hb dX10_odds_18 (by decide) ?_
          exact ret (-1) () _ _ _ _ _ _ rfl (gsX_X10_odds_1_q8 c1 c2 c3 c4) hP hD hS dX10_odds_19 (Nat.le_refl _) (Nat.le_refl _)
set_option maxHeartbeats 4000000 in
set_option maxRecDepth 100000 in
theorem sX_X1_manWide_1 (l : Launch) (dC : Nat → ClassId) (dI : Nat → Nat → Nat) (cy : Nat → ClassId) (x0 : Nat) (x : Nat → Nat) (p1 : Int32) (v : Nat → Int32) (f : Nat → Nat → Int32) (hIv : XI v)  : ctI l (dC, dI) cy yX1_manWide cX1_manWide 2 .int 2 81 0 0 Unit [.ref (x 21), .int p1] (XW cy x0 x v f) (fun r u => True) (fun u => XW cy x0 x v f) := by
  refine ctI_of (by decide) (Nat.le_of_ble_eq_true rfl) (fun p e s m below meth c A ls Q hx hb hml hts hown hE hP hD hA hl ret => ?_)
  have hown : s.vm.findClass RX1 = some m.cls := hown
  have hS : va_S A s.heap s.heap [] := va_S.rf
  have hl : lv_has ls 2 [(0, .ref (x 21)), (1, .int p1)] := hl
  refine lv_aload_n hx hb dX1_manWide_0 rfl (lv_at hl 0 rfl) ?_
  refine va_get (D := (dC, dI)) (ci := 1) (v := .ref (x 26)) (C := RX1) (T := TX1) (N := 2) hx hb hts inB_1 hown hE.1 hP 22 rfl rfl 0 (by decide) (hts _ k_318) (fun _ h9 => h9) rfl dX1_manWide_1 ?_
  refine lv_iload_n hx hb dX1_manWide_4 rfl (lv_at hl 1 rfl) ?_
  refine cbVi (n := 1) (rest := []) hx hb hml hown hts hE hP hD hS hA (sX_X7_hasMan_1 0 l dC dI cy x0 x p1 v f hIv ) k_808 k_307 k_308 k_104 k_309 (by decide +kernel) ⟨Nat.le_of_ble_eq_true rfl, Nat.le_of_ble_eq_true rfl⟩ 27 7 rfl rfl (rfl) hl.1 rfl (Nat.le_of_ble_eq_true rfl) dX1_manWide_5 (fun r1 u H locs hw hP hD hS => ?_)
  obtain ⟨hG2, hw⟩ := hw
  rcases hw with ⟨g3, g3_0, g3_1, g3_2⟩ | ⟨g3⟩
  · skip
    subst g3
    refine lv_if_eq (tgt := 20) hx hb dX1_manWide_8 (by decide) (fun c0 => absurd c0 (by decide)) (fun _ => ?_)
    refine lv_aload_n hx hb dX1_manWide_11 rfl (lv_at hl 0 rfl) ?_
    refine va_get (D := (dC, dI)) (ci := 1) (v := .ref (x 22)) (C := RX1) (T := TX1) (N := 2) hx hb hts inB_1 hown hE.1 hP 22 rfl rfl 1 (by decide) (hts _ k_319) (fun _ h9 => h9) rfl dX1_manWide_12 ?_
    refine lv_iload_n hx hb dX1_manWide_15 rfl (lv_at hl 1 rfl) ?_
    refine ldI hx hb hE hP 23 rfl (vp_in_iff.mpr ⟨by omega, by omega⟩) rfl rfl dX1_manWide_16 ?_
    refine lv_topi (fun t4 et4 => ?_)
    refine lv_goto (tgt := 21) hx hb dX1_manWide_17 (by decide) ?_
    exact ret t4 () _ _ _ _ _ _ rfl trivial hP hD hS dX1_manWide_21 (Nat.le_refl _) (Nat.le_refl _)
  · skip
    subst g3
    refine lv_if_eq (tgt := 20) hx hb dX1_manWide_8 (by decide) (fun _ => ?_) (fun c0 => absurd (by decide) c0)
    refine lv_iconst (v := 0) hx hb dX1_manWide_20 (by decide) ?_
    exact ret 0 () _ _ _ _ _ _ rfl trivial hP hD hS dX1_manWide_21 (Nat.le_refl _) (Nat.le_refl _)
set_option maxHeartbeats 4000000 in
set_option maxRecDepth 100000 in
theorem sX_X1_wears_1 (l : Launch) (dC : Nat → ClassId) (dI : Nat → Nat → Nat) (cy : Nat → ClassId) (x0 : Nat) (x : Nat → Nat) (p1 : Int32) (v : Nat → Int32) (f : Nat → Nat → Int32) (hIv : XI v)  : ctI l (dC, dI) cy yX1_wears cX1_wears 2 .int 2 81 0 0 Unit [.ref (x 21), .int p1] (XW cy x0 x v f) (fun r u => True) (fun u => XW cy x0 x v f) := by
  refine ctI_of (by decide) (Nat.le_of_ble_eq_true rfl) (fun p e s m below meth c A ls Q hx hb hml hts hown hE hP hD hA hl ret => ?_)
  have hown : s.vm.findClass RX1 = some m.cls := hown
  have hS : va_S A s.heap s.heap [] := va_S.rf
  have hl : lv_has ls 2 [(0, .ref (x 21)), (1, .int p1)] := hl
  refine lv_aload_n hx hb dX1_wears_0 rfl (lv_at hl 0 rfl) ?_
  refine va_get (D := (dC, dI)) (ci := 1) (v := .ref (x 26)) (C := RX1) (T := TX1) (N := 2) hx hb hts inB_1 hown hE.1 hP 22 rfl rfl 0 (by decide) (hts _ k_318) (fun _ h9 => h9) rfl dX1_wears_1 ?_
  refine lv_iload_n hx hb dX1_wears_4 rfl (lv_at hl 1 rfl) ?_
  refine cbVi (n := 1) (rest := []) hx hb hml hown hts hE hP hD hS hA (sX_X7_hasMan_1 0 l dC dI cy x0 x p1 v f hIv ) k_808 k_307 k_308 k_104 k_309 (by decide +kernel) ⟨Nat.le_of_ble_eq_true rfl, Nat.le_of_ble_eq_true rfl⟩ 27 7 rfl rfl (rfl) hl.1 rfl (Nat.le_of_ble_eq_true rfl) dX1_wears_5 (fun r1 u H locs hw hP hD hS => ?_)
  obtain ⟨hG2, hw⟩ := hw
  rcases hw with ⟨g3, g3_0, g3_1, g3_2⟩ | ⟨g3⟩
  · skip
    subst g3
    refine lv_if_eq (tgt := 23) hx hb dX1_wears_8 (by decide) (fun c0 => absurd c0 (by decide)) (fun _ => ?_)
    refine lv_aload_n hx hb dX1_wears_11 rfl (lv_at hl 0 rfl) ?_
    refine va_get (D := (dC, dI)) (ci := 1) (v := .ref (x 22)) (C := RX1) (T := TX1) (N := 2) hx hb hts inB_1 hown hE.1 hP 22 rfl rfl 1 (by decide) (hts _ k_319) (fun _ h9 => h9) rfl dX1_wears_12 ?_
    refine lv_bipush (v := 6) hx hb dX1_wears_15 (by decide) ?_
    refine lv_iload_n hx hb dX1_wears_17 rfl (lv_at hl 1 rfl) ?_
    refine lv_iadd hx hb dX1_wears_18 ?_
    refine lv_topi (fun t4 et4 => ?_)
    have rg5 := fb_rng p1
    have zt4 : t4.toInt = 6 + p1.toInt := by rw [et4]; exact add_i (by decide) rfl (by omega) (by omega)
    refine ldI hx hb hE hP 23 rfl (vp_in_iff.mpr ⟨by omega, by omega⟩) rfl rfl dX1_wears_19 ?_
    refine lv_topi (fun t6 et6 => ?_)
    refine lv_goto (tgt := 24) hx hb dX1_wears_20 (by decide) ?_
    exact ret t6 () _ _ _ _ _ _ rfl trivial hP hD hS dX1_wears_24 (Nat.le_refl _) (Nat.le_refl _)
  · skip
    subst g3
    refine lv_if_eq (tgt := 23) hx hb dX1_wears_8 (by decide) (fun _ => ?_) (fun c0 => absurd (by decide) c0)
    refine lv_iconst (v := (-1)) hx hb dX1_wears_23 (by decide) ?_
    exact ret (-1) () _ _ _ _ _ _ rfl trivial hP hD hS dX1_wears_24 (Nat.le_refl _) (Nat.le_refl _)
set_option maxHeartbeats 4000000 in
set_option maxRecDepth 100000 in
theorem sX_X1_part_1 (l : Launch) (dC : Nat → ClassId) (dI : Nat → Nat → Nat) (cy : Nat → ClassId) (x0 : Nat) (x : Nat → Nat) (p1 : Int32) (p2 : Int32) (v : Nat → Int32) (f : Nat → Nat → Int32) (hIv : XI v)  : ctI l (dC, dI) cy yX1_part cX1_part 4 .int 2 81 0 0 Unit [.ref (x 21), .int p1, .int p2] (XW cy x0 x v f) (fun r u => True) (fun u => XW cy x0 x v f) := by
  refine ctI_of (by decide) (Nat.le_of_ble_eq_true rfl) (fun p e s m below meth c A ls Q hx hb hml hts hown hE hP hD hA hl ret => ?_)
  have hown : s.vm.findClass RX1 = some m.cls := hown
  have hS : va_S A s.heap s.heap [] := va_S.rf
  have hl : lv_has ls 4 [(0, .ref (x 21)), (1, .int p1), (2, .int p2)] := hl
  refine lv_aload_n hx hb dX1_part_0 rfl (lv_at hl 0 rfl) ?_
  refine va_get (D := (dC, dI)) (ci := 1) (v := .ref (x 26)) (C := RX1) (T := TX1) (N := 2) hx hb hts inB_1 hown hE.1 hP 22 rfl rfl 0 (by decide) (hts _ k_318) (fun _ h9 => h9) rfl dX1_part_1 ?_
  refine lv_iload_n hx hb dX1_part_4 rfl (lv_at hl 2 rfl) ?_
  refine cbVi (n := 1) (rest := []) hx hb hml hown hts hE hP hD hS hA (sX_X7_hasCoat_1 0 l dC dI cy x0 x p2 v f hIv ) k_821 k_315 k_316 k_104 k_317 (by decide +kernel) ⟨Nat.le_of_ble_eq_true rfl, Nat.le_of_ble_eq_true rfl⟩ 27 7 rfl rfl (rfl) hl.1 rfl (Nat.le_of_ble_eq_true rfl) dX1_part_5 (fun r1 u H locs hw hP hD hS => ?_)
  obtain ⟨hG2, hw⟩ := hw
  rcases hw with ⟨g3, g3_0, g3_1, g3_2⟩ | ⟨g3⟩
  · skip
    subst g3
    refine lv_if_eq (tgt := 24) hx hb dX1_part_8 (by decide) (fun c0 => absurd c0 (by decide)) (fun _ => ?_)
    refine lv_iload_n hx hb dX1_part_11 rfl (lv_at hl 1 rfl) ?_
    refine lv_if_lt (tgt := 24) hx hb dX1_part_12 (by decide) (fun c4 => ?_) (fun c4 => ?_)
    · skip
      have zc4 : p1.toInt < 0 := by rw [fa_lt, show (0 : Int32).toInt = 0 from by decide] at c4; exact c4
      refine lv_iconst (v := 0) hx hb dX1_part_24 (by decide) ?_
      refine lv_istore_n (lv' := [(3, .int 0), (0, .ref (x 21)), (1, .int p1), (2, .int p2)]) hx hb dX1_part_25 rfl hl (by decide) rfl (fun ls hl => ?_)
      refine lv_iload_n hx hb dX1_part_26 rfl (lv_at hl 0 rfl) ?_
      refine lv_if_eq (tgt := 47) hx hb dX1_part_27 (by decide) (fun _ => ?_) (fun c0 => absurd (by decide) c0)
      refine lv_iconst (v := 0) hx hb dX1_part_47 (by decide) ?_
      exact ret 0 () _ _ _ _ _ _ rfl trivial hP hD hS dX1_part_48 (Nat.le_refl _) (Nat.le_refl _)
    · skip
      have zc4 : ¬ (p1.toInt < 0) := by rw [fa_lt, show (0 : Int32).toInt = 0 from by decide] at c4; exact c4
      refine lv_iload_n hx hb dX1_part_15 rfl (lv_at hl 1 rfl) ?_
      refine lv_iconst (v := 5) hx hb dX1_part_16 (by decide) ?_
      refine lv_icmp_ge (tgt := 24) hx hb dX1_part_17 (by decide) (fun c5 => ?_) (fun c5 => ?_)
      · skip
        have zc5 : 5 ≤ p1.toInt := by rw [fa_le, show (5 : Int32).toInt = 5 from by decide] at c5; exact c5
        refine lv_iconst (v := 0) hx hb dX1_part_24 (by decide) ?_
        refine lv_istore_n (lv' := [(3, .int 0), (0, .ref (x 21)), (1, .int p1), (2, .int p2)]) hx hb dX1_part_25 rfl hl (by decide) rfl (fun ls hl => ?_)
        refine lv_iload_n hx hb dX1_part_26 rfl (lv_at hl 0 rfl) ?_
        refine lv_if_eq (tgt := 47) hx hb dX1_part_27 (by decide) (fun _ => ?_) (fun c0 => absurd (by decide) c0)
        refine lv_iconst (v := 0) hx hb dX1_part_47 (by decide) ?_
        exact ret 0 () _ _ _ _ _ _ rfl trivial hP hD hS dX1_part_48 (Nat.le_refl _) (Nat.le_refl _)
      · skip
        have zc5 : ¬ (5 ≤ p1.toInt) := by rw [fa_le, show (5 : Int32).toInt = 5 from by decide] at c5; exact c5
        refine lv_iconst (v := 1) hx hb dX1_part_20 (by decide) ?_
        refine lv_goto (tgt := 25) hx hb dX1_part_21 (by decide) ?_
        refine lv_istore_n (lv' := [(3, .int 1), (0, .ref (x 21)), (1, .int p1), (2, .int p2)]) hx hb dX1_part_25 rfl hl (by decide) rfl (fun ls hl => ?_)
        refine lv_iload_n hx hb dX1_part_26 rfl (lv_at hl 0 rfl) ?_
        refine lv_if_eq (tgt := 47) hx hb dX1_part_27 (by decide) (fun c0 => absurd c0 (by decide)) (fun _ => ?_)
        refine lv_aload_n hx hb dX1_part_30 rfl (lv_at hl 1 rfl) ?_
        refine va_get (D := (dC, dI)) (ci := 1) (v := .ref (x 22)) (C := RX1) (T := TX1) (N := 2) hx hb hts inB_1 hown hE.1 hP 22 rfl rfl 1 (by decide) (hts _ k_319) (fun _ h9 => h9) rfl dX1_part_31 ?_
        refine lv_bipush (v := 12) hx hb dX1_part_34 (by decide) ?_
        refine lv_iload_n hx hb dX1_part_36 rfl (lv_at hl 2 rfl) ?_
        refine lv_bipush (v := 6) hx hb dX1_part_37 (by decide) ?_
        refine lv_imul hx hb dX1_part_39 ?_
        refine lv_topi (fun t6 et6 => ?_)
        have rg7 := fb_rng p1
        have zt6 : t6.toInt = p1.toInt * 6 := by rw [et6]; exact mul_i rfl (by decide) (by omega) (by omega)
        refine lv_iadd hx hb dX1_part_40 ?_
        refine lv_topi (fun t8 et8 => ?_)
        have rg9 := fb_rng t6
        have zt8 : t8.toInt = 12 + t6.toInt := by rw [et8]; exact add_i (by decide) rfl (by omega) (by omega)
        refine lv_iload_n hx hb dX1_part_41 rfl (lv_at hl 3 rfl) ?_
        refine lv_iadd hx hb dX1_part_42 ?_
        refine lv_topi (fun t10 et10 => ?_)
        have rg11 := fb_rng t8
        have rg12 := fb_rng p2
        have zt10 : t10.toInt = t8.toInt + p2.toInt := by rw [et10]; exact add_i rfl rfl (by omega) (by omega)
        refine ldI hx hb hE hP 23 rfl (vp_in_iff.mpr ⟨by omega, by omega⟩) rfl rfl dX1_part_43 ?_
        refine lv_topi (fun t13 et13 => ?_)
        refine lv_goto (tgt := 48) hx hb dX1_part_44 (by decide) ?_
        exact ret t13 () _ _ _ _ _ _ rfl trivial hP hD hS dX1_part_48 (Nat.le_refl _) (Nat.le_refl _)
  · skip
    subst g3
    refine lv_if_eq (tgt := 24) hx hb dX1_part_8 (by decide) (fun _ => ?_) (fun c0 => absurd (by decide) c0)
    refine lv_iconst (v := 0) hx hb dX1_part_24 (by decide) ?_
    refine lv_istore_n (lv' := [(3, .int 0), (0, .ref (x 21)), (1, .int p1), (2, .int p2)]) hx hb dX1_part_25 rfl hl (by decide) rfl (fun ls hl => ?_)
    refine lv_iload_n hx hb dX1_part_26 rfl (lv_at hl 0 rfl) ?_
    refine lv_if_eq (tgt := 47) hx hb dX1_part_27 (by decide) (fun _ => ?_) (fun c0 => absurd (by decide) c0)
    refine lv_iconst (v := 0) hx hb dX1_part_47 (by decide) ?_
    exact ret 0 () _ _ _ _ _ _ rfl trivial hP hD hS dX1_part_48 (Nat.le_refl _) (Nat.le_refl _)
set_option maxHeartbeats 4000000 in
set_option maxRecDepth 100000 in
theorem sX_X1_today_1 (l : Launch) (dC : Nat → ClassId) (dI : Nat → Nat → Nat) (cy : Nat → ClassId) (x0 : Nat) (x : Nat → Nat)  (v : Nat → Int32) (f : Nat → Nat → Int32) (hIv : XI v)  : ctI l (dC, dI) cy yX1_today cX1_today 1 .int 1 60 0 0 Unit [.ref (x 21)] (XW cy x0 x v f) (fun r u => True) (fun u => XW cy x0 x v f) := by
  refine ctI_of (by decide) (Nat.le_of_ble_eq_true rfl) (fun p e s m below meth c A ls Q hx hb hml hts hown hE hP hD hA hl ret => ?_)
  have hown : s.vm.findClass RX1 = some m.cls := hown
  have hS : va_S A s.heap s.heap [] := va_S.rf
  have hl : lv_has ls 1 [(0, .ref (x 21))] := hl
  refine lv_aload_n hx hb dX1_today_0 rfl (lv_at hl 0 rfl) ?_
  refine va_get (D := (dC, dI)) (ci := 1) (v := .ref (x 22)) (C := RX1) (T := TX1) (N := 2) hx hb hts inB_1 hown hE.1 hP 22 rfl rfl 1 (by decide) (hts _ k_319) (fun _ h9 => h9) rfl dX1_today_1 ?_
  refine lv_bipush (v := 42) hx hb dX1_today_4 (by decide) ?_
  refine ldI hx hb hE hP 23 rfl (vp_in_nI (n := 42) (by decide) (by decide)) rfl rfl dX1_today_6 ?_
  refine lv_topi (fun t1 et1 => ?_)
  exact ret t1 () _ _ _ _ _ _ rfl trivial hP hD hS dX1_today_7 (Nat.le_refl _) (Nat.le_refl _)
set_option maxHeartbeats 4000000 in
set_option maxRecDepth 100000 in
theorem sX_X4_joined_1 (l : Launch) (dC : Nat → ClassId) (dI : Nat → Nat → Nat) (cy : Nat → ClassId) (x0 : Nat) (x : Nat → Nat) (p0 : Int32) (p1 : Int32) (p2 : Int32) (v : Nat → Int32) (f : Nat → Nat → Int32) (hIv : XI v)  : ctI l (dC, dI) cy yX4_joined cX4_joined 3 .int 1 60 0 0 Unit [.int p0, .int p1, .int p2] (XW cy x0 x v f) (fun r u => True) (fun u => XW cy x0 x v f) := by
  refine ctI_of (by decide) (Nat.le_of_ble_eq_true rfl) (fun p e s m below meth c A ls Q hx hb hml hts hown hE hP hD hA hl ret => ?_)
  have hown : s.vm.findClass RX4 = some m.cls := hown
  have hS : va_S A s.heap s.heap [] := va_S.rf
  have hl : lv_has ls 3 [(0, .int p0), (1, .int p1), (2, .int p2)] := hl
  refine lv_iload_n hx hb dX4_joined_0 rfl (lv_at hl 0 rfl) ?_
  by_cases c1 : p0 = 37
  · skip
    refine lv_lookup (off := 115) (tgt := 116) hx hb dX4_joined_1 (by decide) (by rw [c1]; decide) (by decide) ?_
    have zc1 : p0.toInt = 37 := by rw [fa_eq, show (37 : Int32).toInt = 37 from by decide] at c1; exact c1
    refine lv_iload_n hx hb dX4_joined_116 rfl (lv_at hl 2 rfl) ?_
    refine lv_if_ne (tgt := 124) hx hb dX4_joined_117 (by decide) (fun c2 => ?_) (fun c2 => ?_)
    · skip
      have zc2 : ¬ (p2.toInt = 0) := by rw [fa_eq, show (0 : Int32).toInt = 0 from by decide] at c2; exact c2
      refine lv_iload_n hx hb dX4_joined_124 rfl (lv_at hl 1 rfl) ?_
      refine lv_iload_n hx hb dX4_joined_125 rfl (lv_at hl 2 rfl) ?_
      refine lv_irem hx hb dX4_joined_126 (ne0 (by omega)) ?_
      refine lv_topi (fun t3 et3 => ?_)
      exact ret t3 () _ _ _ _ _ _ rfl trivial hP hD hS dX4_joined_127 (Nat.le_refl _) (Nat.le_refl _)
    · skip
      have zc2 : p2.toInt = 0 := by rw [fa_eq, show (0 : Int32).toInt = 0 from by decide] at c2; exact c2
      refine lv_iconst (v := 0) hx hb dX4_joined_120 (by decide) ?_
      refine lv_goto (tgt := 127) hx hb dX4_joined_121 (by decide) ?_
      exact ret 0 () _ _ _ _ _ _ rfl trivial hP hD hS dX4_joined_127 (Nat.le_refl _) (Nat.le_refl _)
  · skip
    have zc1 : ¬ (p0.toInt = 37) := by rw [fa_eq, show (37 : Int32).toInt = 37 from by decide] at c1; exact c1
    by_cases c4 : p0 = 42
    · skip
      refine lv_lookup (off := 99) (tgt := 100) hx hb dX4_joined_1 (by decide) (by rw [c4]; decide) (by decide) ?_
      have zc4 : p0.toInt = 42 := by rw [fa_eq, show (42 : Int32).toInt = 42 from by decide] at c4; exact c4
      refine lv_iload_n hx hb dX4_joined_100 rfl (lv_at hl 1 rfl) ?_
      refine lv_iload_n hx hb dX4_joined_101 rfl (lv_at hl 2 rfl) ?_
      refine lv_imul hx hb dX4_joined_102 ?_
      refine lv_topi (fun t5 et5 => ?_)
      exact ret t5 () _ _ _ _ _ _ rfl trivial hP hD hS dX4_joined_103 (Nat.le_refl _) (Nat.le_refl _)
    · skip
      have zc4 : ¬ (p0.toInt = 42) := by rw [fa_eq, show (42 : Int32).toInt = 42 from by decide] at c4; exact c4
      by_cases c6 : p0 = 43
      · skip
        refine lv_lookup (off := 91) (tgt := 92) hx hb dX4_joined_1 (by decide) (by rw [c6]; decide) (by decide) ?_
        have zc6 : p0.toInt = 43 := by rw [fa_eq, show (43 : Int32).toInt = 43 from by decide] at c6; exact c6
        refine lv_iload_n hx hb dX4_joined_92 rfl (lv_at hl 1 rfl) ?_
        refine lv_iload_n hx hb dX4_joined_93 rfl (lv_at hl 2 rfl) ?_
        refine lv_iadd hx hb dX4_joined_94 ?_
        refine lv_topi (fun t7 et7 => ?_)
        exact ret t7 () _ _ _ _ _ _ rfl trivial hP hD hS dX4_joined_95 (Nat.le_refl _) (Nat.le_refl _)
      · skip
        have zc6 : ¬ (p0.toInt = 43) := by rw [fa_eq, show (43 : Int32).toInt = 43 from by decide] at c6; exact c6
        by_cases c8 : p0 = 45
        · skip
          refine lv_lookup (off := 95) (tgt := 96) hx hb dX4_joined_1 (by decide) (by rw [c8]; decide) (by decide) ?_
          have zc8 : p0.toInt = 45 := by rw [fa_eq, show (45 : Int32).toInt = 45 from by decide] at c8; exact c8
          refine lv_iload_n hx hb dX4_joined_96 rfl (lv_at hl 1 rfl) ?_
          refine lv_iload_n hx hb dX4_joined_97 rfl (lv_at hl 2 rfl) ?_
          refine lv_isub hx hb dX4_joined_98 ?_
          refine lv_topi (fun t9 et9 => ?_)
          exact ret t9 () _ _ _ _ _ _ rfl trivial hP hD hS dX4_joined_99 (Nat.le_refl _) (Nat.le_refl _)
        · skip
          have zc8 : ¬ (p0.toInt = 45) := by rw [fa_eq, show (45 : Int32).toInt = 45 from by decide] at c8; exact c8
          by_cases c10 : p0 = 47
          · skip
            refine lv_lookup (off := 103) (tgt := 104) hx hb dX4_joined_1 (by decide) (by rw [c10]; decide) (by decide) ?_
            have zc10 : p0.toInt = 47 := by rw [fa_eq, show (47 : Int32).toInt = 47 from by decide] at c10; exact c10
            refine lv_iload_n hx hb dX4_joined_104 rfl (lv_at hl 2 rfl) ?_
            refine lv_if_ne (tgt := 112) hx hb dX4_joined_105 (by decide) (fun c11 => ?_) (fun c11 => ?_)
            · skip
              have zc11 : ¬ (p2.toInt = 0) := by rw [fa_eq, show (0 : Int32).toInt = 0 from by decide] at c11; exact c11
              refine lv_iload_n hx hb dX4_joined_112 rfl (lv_at hl 1 rfl) ?_
              refine lv_iload_n hx hb dX4_joined_113 rfl (lv_at hl 2 rfl) ?_
              refine lv_idiv hx hb dX4_joined_114 (ne0 (by omega)) ?_
              refine lv_topi (fun t12 et12 => ?_)
              exact ret t12 () _ _ _ _ _ _ rfl trivial hP hD hS dX4_joined_115 (Nat.le_refl _) (Nat.le_refl _)
            · skip
              have zc11 : p2.toInt = 0 := by rw [fa_eq, show (0 : Int32).toInt = 0 from by decide] at c11; exact c11
              refine lv_iconst (v := 0) hx hb dX4_joined_108 (by decide) ?_
              refine lv_goto (tgt := 115) hx hb dX4_joined_109 (by decide) ?_
              exact ret 0 () _ _ _ _ _ _ rfl trivial hP hD hS dX4_joined_115 (Nat.le_refl _) (Nat.le_refl _)
          · skip
            have zc10 : ¬ (p0.toInt = 47) := by rw [fa_eq, show (47 : Int32).toInt = 47 from by decide] at c10; exact c10
            by_cases c13 : p0 = 60
            · skip
              refine lv_lookup (off := 127) (tgt := 128) hx hb dX4_joined_1 (by decide) (by rw [c13]; decide) (by decide) ?_
              have zc13 : p0.toInt = 60 := by rw [fa_eq, show (60 : Int32).toInt = 60 from by decide] at c13; exact c13
              refine lv_iload_n hx hb dX4_joined_128 rfl (lv_at hl 1 rfl) ?_
              refine lv_iload_n hx hb dX4_joined_129 rfl (lv_at hl 2 rfl) ?_
              refine lv_icmp_ge (tgt := 137) hx hb dX4_joined_130 (by decide) (fun c14 => ?_) (fun c14 => ?_)
              · skip
                have zc14 : p2.toInt ≤ p1.toInt := by rw [fa_le] at c14; exact c14
                have rg15 := fb_rng p1
                have rg16 := fb_rng p2
                refine lv_iconst (v := 0) hx hb dX4_joined_137 (by decide) ?_
                exact ret 0 () _ _ _ _ _ _ rfl trivial hP hD hS dX4_joined_138 (Nat.le_refl _) (Nat.le_refl _)
              · skip
                have zc14 : ¬ (p2.toInt ≤ p1.toInt) := by rw [fa_le] at c14; exact c14
                have rg17 := fb_rng p1
                have rg18 := fb_rng p2
                refine lv_iconst (v := 1) hx hb dX4_joined_133 (by decide) ?_
                refine lv_goto (tgt := 138) hx hb dX4_joined_134 (by decide) ?_
                exact ret 1 () _ _ _ _ _ _ rfl trivial hP hD hS dX4_joined_138 (Nat.le_refl _) (Nat.le_refl _)
            · skip
              have zc13 : ¬ (p0.toInt = 60) := by rw [fa_eq, show (60 : Int32).toInt = 60 from by decide] at c13; exact c13
              by_cases c19 : p0 = 61
              · skip
                refine lv_lookup (off := 149) (tgt := 150) hx hb dX4_joined_1 (by decide) (by rw [c19]; decide) (by decide) ?_
                have zc19 : p0.toInt = 61 := by rw [fa_eq, show (61 : Int32).toInt = 61 from by decide] at c19; exact c19
                refine lv_iload_n hx hb dX4_joined_150 rfl (lv_at hl 1 rfl) ?_
                refine lv_iload_n hx hb dX4_joined_151 rfl (lv_at hl 2 rfl) ?_
                refine lv_icmp_ne (tgt := 159) hx hb dX4_joined_152 (by decide) (fun c20 => ?_) (fun c20 => ?_)
                · skip
                  have zc20 : ¬ (p1.toInt = p2.toInt) := by rw [fa_eq] at c20; exact c20
                  have rg21 := fb_rng p1
                  have rg22 := fb_rng p2
                  refine lv_iconst (v := 0) hx hb dX4_joined_159 (by decide) ?_
                  exact ret 0 () _ _ _ _ _ _ rfl trivial hP hD hS dX4_joined_160 (Nat.le_refl _) (Nat.le_refl _)
                · skip
                  have zc20 : p1.toInt = p2.toInt := by rw [fa_eq] at c20; exact c20
                  have rg23 := fb_rng p1
                  have rg24 := fb_rng p2
                  refine lv_iconst (v := 1) hx hb dX4_joined_155 (by decide) ?_
                  refine lv_goto (tgt := 160) hx hb dX4_joined_156 (by decide) ?_
                  exact ret 1 () _ _ _ _ _ _ rfl trivial hP hD hS dX4_joined_160 (Nat.le_refl _) (Nat.le_refl _)
              · skip
                have zc19 : ¬ (p0.toInt = 61) := by rw [fa_eq, show (61 : Int32).toInt = 61 from by decide] at c19; exact c19
                by_cases c25 : p0 = 62
                · skip
                  refine lv_lookup (off := 138) (tgt := 139) hx hb dX4_joined_1 (by decide) (by rw [c25]; decide) (by decide) ?_
                  have zc25 : p0.toInt = 62 := by rw [fa_eq, show (62 : Int32).toInt = 62 from by decide] at c25; exact c25
                  refine lv_iload_n hx hb dX4_joined_139 rfl (lv_at hl 1 rfl) ?_
                  refine lv_iload_n hx hb dX4_joined_140 rfl (lv_at hl 2 rfl) ?_
                  refine lv_icmp_le (tgt := 148) hx hb dX4_joined_141 (by decide) (fun c26 => ?_) (fun c26 => ?_)
                  · skip
                    have zc26 : p1.toInt ≤ p2.toInt := by rw [fa_le] at c26; exact c26
                    have rg27 := fb_rng p1
                    have rg28 := fb_rng p2
                    refine lv_iconst (v := 0) hx hb dX4_joined_148 (by decide) ?_
                    exact ret 0 () _ _ _ _ _ _ rfl trivial hP hD hS dX4_joined_149 (Nat.le_refl _) (Nat.le_refl _)
                  · skip
                    have zc26 : ¬ (p1.toInt ≤ p2.toInt) := by rw [fa_le] at c26; exact c26
                    have rg29 := fb_rng p1
                    have rg30 := fb_rng p2
                    refine lv_iconst (v := 1) hx hb dX4_joined_144 (by decide) ?_
                    refine lv_goto (tgt := 149) hx hb dX4_joined_145 (by decide) ?_
                    exact ret 1 () _ _ _ _ _ _ rfl trivial hP hD hS dX4_joined_149 (Nat.le_refl _) (Nat.le_refl _)
                · skip
                  have zc25 : ¬ (p0.toInt = 62) := by rw [fa_eq, show (62 : Int32).toInt = 62 from by decide] at c25; exact c25
                  by_cases c31 : p0 = 113
                  · skip
                    refine lv_lookup (off := 174) (tgt := 175) hx hb dX4_joined_1 (by decide) (by rw [c31]; decide) (by decide) ?_
                    have zc31 : p0.toInt = 113 := by rw [fa_eq, show (113 : Int32).toInt = 113 from by decide] at c31; exact c31
                    refine lv_iload_n hx hb dX4_joined_175 rfl (lv_at hl 1 rfl) ?_
                    refine lv_if_ne (tgt := 183) hx hb dX4_joined_176 (by decide) (fun c32 => ?_) (fun c32 => ?_)
                    · skip
                      have zc32 : ¬ (p1.toInt = 0) := by rw [fa_eq, show (0 : Int32).toInt = 0 from by decide] at c32; exact c32
                      refine lv_iconst (v := 1) hx hb dX4_joined_183 (by decide) ?_
                      refine lv_goto (tgt := 188) hx hb dX4_joined_184 (by decide) ?_
                      exact ret 1 () _ _ _ _ _ _ rfl trivial hP hD hS dX4_joined_188 (Nat.le_refl _) (Nat.le_refl _)
                    · skip
                      have zc32 : p1.toInt = 0 := by rw [fa_eq, show (0 : Int32).toInt = 0 from by decide] at c32; exact c32
                      refine lv_iload_n hx hb dX4_joined_179 rfl (lv_at hl 2 rfl) ?_
                      refine lv_if_eq (tgt := 187) hx hb dX4_joined_180 (by decide) (fun c33 => ?_) (fun c33 => ?_)
                      · skip
                        have zc33 : p2.toInt = 0 := by rw [fa_eq, show (0 : Int32).toInt = 0 from by decide] at c33; exact c33
                        refine lv_iconst (v := 0) hx hb dX4_joined_187 (by decide) ?_
                        exact ret 0 () _ _ _ _ _ _ rfl trivial hP hD hS dX4_joined_188 (Nat.le_refl _) (Nat.le_refl _)
                      · skip
                        have zc33 : ¬ (p2.toInt = 0) := by rw [fa_eq, show (0 : Int32).toInt = 0 from by decide] at c33; exact c33
                        refine lv_iconst (v := 1) hx hb dX4_joined_183 (by decide) ?_
                        refine lv_goto (tgt := 188) hx hb dX4_joined_184 (by decide) ?_
                        exact ret 1 () _ _ _ _ _ _ rfl trivial hP hD hS dX4_joined_188 (Nat.le_refl _) (Nat.le_refl _)
                  · skip
                    have zc31 : ¬ (p0.toInt = 113) := by rw [fa_eq, show (113 : Int32).toInt = 113 from by decide] at c31; exact c31
                    by_cases c34 : p0 = 114
                    · skip
                      refine lv_lookup (off := 160) (tgt := 161) hx hb dX4_joined_1 (by decide) (by rw [c34]; decide) (by decide) ?_
                      have zc34 : p0.toInt = 114 := by rw [fa_eq, show (114 : Int32).toInt = 114 from by decide] at c34; exact c34
                      refine lv_iload_n hx hb dX4_joined_161 rfl (lv_at hl 1 rfl) ?_
                      refine lv_if_eq (tgt := 173) hx hb dX4_joined_162 (by decide) (fun c35 => ?_) (fun c35 => ?_)
                      · skip
                        have zc35 : p1.toInt = 0 := by rw [fa_eq, show (0 : Int32).toInt = 0 from by decide] at c35; exact c35
                        refine lv_iconst (v := 0) hx hb dX4_joined_173 (by decide) ?_
                        exact ret 0 () _ _ _ _ _ _ rfl trivial hP hD hS dX4_joined_174 (Nat.le_refl _) (Nat.le_refl _)
                      · skip
                        have zc35 : ¬ (p1.toInt = 0) := by rw [fa_eq, show (0 : Int32).toInt = 0 from by decide] at c35; exact c35
                        refine lv_iload_n hx hb dX4_joined_165 rfl (lv_at hl 2 rfl) ?_
                        refine lv_if_eq (tgt := 173) hx hb dX4_joined_166 (by decide) (fun c36 => ?_) (fun c36 => ?_)
                        · skip
                          have zc36 : p2.toInt = 0 := by rw [fa_eq, show (0 : Int32).toInt = 0 from by decide] at c36; exact c36
                          refine lv_iconst (v := 0) hx hb dX4_joined_173 (by decide) ?_
                          exact ret 0 () _ _ _ _ _ _ rfl trivial hP hD hS dX4_joined_174 (Nat.le_refl _) (Nat.le_refl _)
                        · skip
                          have zc36 : ¬ (p2.toInt = 0) := by rw [fa_eq, show (0 : Int32).toInt = 0 from by decide] at c36; exact c36
                          refine lv_iconst (v := 1) hx hb dX4_joined_169 (by decide) ?_
                          refine lv_goto (tgt := 174) hx hb dX4_joined_170 (by decide) ?_
                          exact ret 1 () _ _ _ _ _ _ rfl trivial hP hD hS dX4_joined_174 (Nat.le_refl _) (Nat.le_refl _)
                    · skip
                      have zc34 : ¬ (p0.toInt = 114) := by rw [fa_eq, show (114 : Int32).toInt = 114 from by decide] at c34; exact c34
                      refine lv_lookup (off := 188) (tgt := 189) hx hb dX4_joined_1 (by decide) (by show Op.lookupswitch.offset [(37, 115), (42, 99), (43, 91), (45, 95), (47, 103), (60, 127), (61, 149), (62, 138), (113, 174), (114, 160)] 188 p0.toInt = 188; rw [lv_osw c1 (by decide), lv_osw c4 (by decide), lv_osw c6 (by decide), lv_osw c8 (by decide), lv_osw c10 (by decide), lv_osw c13 (by decide), lv_osw c19 (by decide), lv_osw c25 (by decide), lv_osw c31 (by decide), lv_osw c34 (by decide)]; rfl) (by decide) ?_
                      refine lv_iconst (v := 0) hx hb dX4_joined_189 (by decide) ?_
                      exact ret 0 () _ _ _ _ _ _ rfl trivial hP hD hS dX4_joined_190 (Nat.le_refl _) (Nat.le_refl _)
