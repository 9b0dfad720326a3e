set_option maxHeartbeats 4000000 in
set_option maxRecDepth 100000 in
theorem sY_X11_freeCoats_1 (l : Launch) (dC : Nat → ClassId) (dI : Nat → Nat → Nat) (cy : Nat → ClassId) (y0 : Nat) (r : Nat → Nat)  (v : Nat → Int32) (f : Nat → Nat → Int32) (w : Int64) (g : Nat → Int64) (hIv : YI v) (hCf : YC f) (hRf : progOK (f 4) (f 5) (v 9).toInt.toNat)  : ctI l (dC, dI) cy yX11_freeCoats cX11_freeCoats 3 .int 2 83 0 0 Unit [.ref y0] (YW cy y0 r v f w g) (fun r u => True) (fun u => YW cy y0 r v f w g) := by
  refine ctI_of (by decide) (Nat.le_of_ble_eq_true rfl) (fun p e s m below meth c A ls Q hx hb hml hts hown hE hP hD hA hl ret => ?_)
  have hUv : (v 35).toInt + (v 36).toInt ≤ 40 := hIv.2
  have hown : s.vm.findClass RX11 = some m.cls := hown
  have hS : va_S A s.heap s.heap [] := va_S.rf
  have hl : lv_has ls 3 [(0, .ref y0)] := hl
  refine lv_iconst (v := 0) hx hb dX11_freeCoats_0 (by decide) ?_
  refine lv_istore_n (lv' := [(1, .int 0), (0, .ref y0)]) hx hb dX11_freeCoats_1 rfl hl (by decide) rfl (fun ls hl => ?_)
  refine lv_iconst (v := 0) hx hb dX11_freeCoats_2 (by decide) ?_
  refine lv_istore_n (lv' := [(2, .int 0), (1, .int 0), (0, .ref y0)]) hx hb dX11_freeCoats_3 rfl hl (by decide) rfl (fun ls hl => ?_)
  have lp1 : ∀ (n1 : Nat) (l1_1 : Int32) (l2_1 : Int32), ((0 : Int) ≤ l2_1.toInt ∧ l2_1.toInt ≤ 2147483647) → (2147483647 - l2_1.toInt).toNat < n1 → ∀ (H : Heap) (locs : List Loc) (ls : Array Slot), va_P (dC, dI) vwCl (YW cy y0 r v f w g) H → va_D A (YW cy y0 r v f w g) → va_S A s.heap H locs → lv_has ls 3 [(2, .int l2_1), (1, .int l1_1), (0, .ref y0)] → W p l e { frames := 2, cells := 0, slots := 0, locals := 83 } s m ([.ref y0] : List Value).toArray below meth c H locs 0 0 Q (F0 m 4 ls []) := by
    intro n1
    induction n1 with
    | zero => intro l1_1 l2_1 hr2_1 hm; exact absurd hm (Nat.not_lt_zero _)
    | succ n1 ih1 =>
      intro l1_1 l2_1 hr2_1 hm1 H locs ls hP hD hS hl
      refine lv_iload_n hx hb dX11_freeCoats_4 rfl (lv_at hl 0 rfl) ?_
      refine lv_aload_n hx hb dX11_freeCoats_5 rfl (lv_at hl 2 rfl) ?_
      refine va_get (D := (dC, dI)) (ci := 11) (v := .int (v 25)) (C := RX11) (T := TX11) (N := 79) hx hb hts inB_11 hown hE.1 hP 0 rfl rfl 49 (by decide) (hts _ k_1369) (fun _ h9 => h9) rfl dX11_freeCoats_6 ?_
      have b25_v : 0 ≤ (v 25).toInt ∧ (v 25).toInt ≤ 6 := YIb.b hIv.1 25 (by decide)
      refine lv_icmp_ge (tgt := 39) hx hb dX11_freeCoats_9 (by decide) (fun c2 => ?_) (fun c2 => ?_)
      · skip
        have zc2 : (v 25).toInt ≤ l2_1.toInt := by rw [fa_le] at c2; exact c2
        have rg3 := fb_rng l2_1
        have rg4 := fb_rng (v 25)
        refine lv_iload_n hx hb dX11_freeCoats_39 rfl (lv_at hl 1 rfl) ?_
        exact ret l1_1 () _ _ _ _ _ _ rfl trivial hP hD hS dX11_freeCoats_40 (Nat.le_refl _) (Nat.le_refl _)
      · skip
        have zc2 : ¬ ((v 25).toInt ≤ l2_1.toInt) := by rw [fa_le] at c2; exact c2
        have rg5 := fb_rng l2_1
        have rg6 := fb_rng (v 25)
        refine lv_iload_n hx hb dX11_freeCoats_12 rfl (lv_at hl 1 rfl) ?_
        refine lv_aload_n hx hb dX11_freeCoats_13 rfl (lv_at hl 2 rfl) ?_
        refine lv_iload_n hx hb dX11_freeCoats_14 rfl (lv_at hl 0 rfl) ?_
        refine cbVi (n := 1) (rest := [.int l1_1]) hx hb hml hown hts hE hP hD hS hA (sY_X11_wearer_1 l dC dI cy y0 r l2_1 v f w g hIv hCf hRf ) k_1775 k_1777 k_76 k_114 k_1778 (by decide +kernel) ⟨Nat.le_of_ble_eq_true rfl, Nat.le_of_ble_eq_true rfl⟩ 0 11 rfl rfl (rfl) hl.1 rfl (Nat.le_of_ble_eq_true rfl) dX11_freeCoats_15 (fun r7 u H locs hw hP hD hS => ?_)
        refine lv_if_ge (tgt := 25) hx hb dX11_freeCoats_18 (by decide) (fun c8 => ?_) (fun c8 => ?_)
        · skip
          have zc8 : 0 ≤ r7.toInt := by rw [fa_le, show (0 : Int32).toInt = 0 from by decide] at c8; exact c8
          refine lv_iconst (v := 0) hx hb dX11_freeCoats_25 (by decide) ?_
          have lt9 : (0 : Int32).toInt = 0 := by decide
          refine cbSi (n := 1) (rest := [.int l1_1]) hx hb hml hown hts hE hP hD hS hA (sY_X11_truth_1 l dC dI cy y0 r 0 v f w g hIv hCf hRf ) k_1761 k_1762 k_114 k_1763 (by decide +kernel) ⟨Nat.le_of_ble_eq_true rfl, Nat.le_of_ble_eq_true rfl⟩ (rfl) hl.1 rfl (Nat.le_of_ble_eq_true rfl) dX11_freeCoats_26 (fun r10 u H locs hw hP hD hS => ?_)
          refine lv_iload_n hx hb dX11_freeCoats_29 rfl (lv_at hl 0 rfl) ?_
          refine lv_ishl hx hb dX11_freeCoats_30 ?_
          refine lv_topi (fun t11 et11 => ?_)
          have zt11 : 0 ≤ t11.toInt ∧ t11.toInt ≤ 32 := by rw [et11]; exact shl01_rng (by omega) (by omega) (by omega) (by omega)
          refine lv_ior hx hb dX11_freeCoats_31 ?_
          refine lv_topi (fun t12 et12 => ?_)
          refine lv_istore_n (lv' := [(1, .int t12), (2, .int l2_1), (0, .ref y0)]) hx hb dX11_freeCoats_32 rfl hl (by decide) rfl (fun ls hl => ?_)
          obtain ⟨t13, et13⟩ : ∃ y : Int32, y = l2_1 + 1 := ⟨_, rfl⟩
          have zt13 : t13.toInt = l2_1.toInt + 1 := by rw [et13]; exact add_i rfl (by decide) (by omega) (by omega)
          refine lv_iinc (v := t13) (lv' := [(2, .int t13), (1, .int t12), (0, .ref y0)]) hx hb dX11_freeCoats_33 hl (k := 1) rfl (by rw [et13]; rfl) (by decide) rfl (fun ls hl => ?_)
          refine lv_goto (tgt := 4) hx hb dX11_freeCoats_36 (by decide) ?_
          have rg14 := fb_rng t13
          exact ih1 t12 t13 ⟨show (0 : Int) ≤ t13.toInt by omega, show t13.toInt ≤ (2147483647 : Int) by omega⟩ (by show (2147483647 - t13.toInt).toNat < n1; omega) _ _ _ hP hD hS (lv_sub hl [0, 1, 2] rfl)
        · skip
          have zc8 : ¬ (0 ≤ r7.toInt) := by rw [fa_le, show (0 : Int32).toInt = 0 from by decide] at c8; exact c8
          refine lv_iconst (v := 1) hx hb dX11_freeCoats_21 (by decide) ?_
          refine lv_goto (tgt := 26) hx hb dX11_freeCoats_22 (by decide) ?_
          have lt15 : (1 : Int32).toInt = 1 := by decide
          refine cbSi (n := 1) (rest := [.int l1_1]) hx hb hml hown hts hE hP hD hS hA (sY_X11_truth_1 l dC dI cy y0 r 1 v f w g hIv hCf hRf ) k_1761 k_1762 k_114 k_1763 (by decide +kernel) ⟨Nat.le_of_ble_eq_true rfl, Nat.le_of_ble_eq_true rfl⟩ (rfl) hl.1 rfl (Nat.le_of_ble_eq_true rfl) dX11_freeCoats_26 (fun r16 u H locs hw hP hD hS => ?_)
          refine lv_iload_n hx hb dX11_freeCoats_29 rfl (lv_at hl 0 rfl) ?_
          refine lv_ishl hx hb dX11_freeCoats_30 ?_
          refine lv_topi (fun t17 et17 => ?_)
          have zt17 : 0 ≤ t17.toInt ∧ t17.toInt ≤ 32 := by rw [et17]; exact shl01_rng (by omega) (by omega) (by omega) (by omega)
          refine lv_ior hx hb dX11_freeCoats_31 ?_
          refine lv_topi (fun t18 et18 => ?_)
          refine lv_istore_n (lv' := [(1, .int t18), (2, .int l2_1), (0, .ref y0)]) hx hb dX11_freeCoats_32 rfl hl (by decide) rfl (fun ls hl => ?_)
          obtain ⟨t19, et19⟩ : ∃ y : Int32, y = l2_1 + 1 := ⟨_, rfl⟩
          have zt19 : t19.toInt = l2_1.toInt + 1 := by rw [et19]; exact add_i rfl (by decide) (by omega) (by omega)
          refine lv_iinc (v := t19) (lv' := [(2, .int t19), (1, .int t18), (0, .ref y0)]) hx hb dX11_freeCoats_33 hl (k := 1) rfl (by rw [et19]; rfl) (by decide) rfl (fun ls hl => ?_)
          refine lv_goto (tgt := 4) hx hb dX11_freeCoats_36 (by decide) ?_
          have rg20 := fb_rng t19
          exact ih1 t18 t19 ⟨show (0 : Int) ≤ t19.toInt by omega, show t19.toInt ≤ (2147483647 : Int) by omega⟩ (by show (2147483647 - t19.toInt).toNat < n1; omega) _ _ _ hP hD hS (lv_sub hl [0, 1, 2] rfl)
  exact lp1 _ 0 0 ⟨by decide, by decide⟩ (Nat.lt_succ_self _) _ _ _ hP hD hS (lv_sub hl [0, 1, 2] rfl)
set_option maxHeartbeats 4000000 in
set_option maxRecDepth 100000 in
theorem sY_X11_reached_1 (l : Launch) (dC : Nat → ClassId) (dI : Nat → Nat → Nat) (cy : Nat → ClassId) (y0 : Nat) (r : Nat → Nat) (p1 : Int32) (p2 : Int32) (p3 : Int32) (v : Nat → Int32) (f : Nat → Nat → Int32) (w : Int64) (g : Nat → Int64) (hIv : YI v) (hCf : YC f) (hRf : progOK (f 4) (f 5) (v 9).toInt.toNat) (hp1 : (0 : Int) ≤ p1.toInt ∧ p1.toInt ≤ 5) (hp2 : (0 : Int) ≤ p2.toInt ∧ p2.toInt ≤ 5) : ctI l (dC, dI) cy yX11_reached cX11_reached 4 .int 1 60 0 0 Unit [.ref y0, .int p1, .int p2, .int p3] (YW cy y0 r v f w g) (fun r u => True) (fun u => YW cy y0 r v f w g) := by
  refine ctI_of (by decide) (Nat.le_of_ble_eq_true rfl) (fun p e s m below meth c A ls Q hx hb hml hts hown hE hP hD hA hl ret => ?_)
  have hUv : (v 35).toInt + (v 36).toInt ≤ 40 := hIv.2
  have hown : s.vm.findClass RX11 = some m.cls := hown
  have hS : va_S A s.heap s.heap [] := va_S.rf
  have hl : lv_has ls 4 [(0, .ref y0), (1, .int p1), (2, .int p2), (3, .int p3)] := hl
  refine lv_iload_n hx hb dX11_reached_0 rfl (lv_at hl 2 rfl) ?_
  refine lv_iload_n hx hb dX11_reached_1 rfl (lv_at hl 3 rfl) ?_
  refine lv_icmp_ne (tgt := 11) hx hb dX11_reached_2 (by decide) (fun c1 => ?_) (fun c1 => ?_)
  · skip
    have zc1 : ¬ (p2.toInt = p3.toInt) := by rw [fa_eq] at c1; exact c1
    have rg2 := fb_rng p2
    have rg3 := fb_rng p3
    refine lv_aload_n hx hb dX11_reached_11 rfl (lv_at hl 0 rfl) ?_
    refine va_get (D := (dC, dI)) (ci := 11) (v := .ref (r 66)) (C := RX11) (T := TX11) (N := 79) hx hb hts inB_11 hown hE.1 hP 0 rfl rfl 66 (by decide) (hts _ k_1386) (fun _ h9 => h9) rfl dX11_reached_12 ?_
    refine lv_bipush (v := 6) hx hb dX11_reached_15 (by decide) ?_
    refine lv_iload_n hx hb dX11_reached_17 rfl (lv_at hl 1 rfl) ?_
    refine lv_imul hx hb dX11_reached_18 ?_
    refine lv_topi (fun t4 et4 => ?_)
    have rg5 := fb_rng p1
    have zt4 : t4.toInt = 6 * p1.toInt := by rw [et4]; exact mul_i (by decide) rfl (by omega) (by omega)
    refine lv_iload_n hx hb dX11_reached_19 rfl (lv_at hl 2 rfl) ?_
    refine lv_iadd hx hb dX11_reached_20 ?_
    refine lv_topi (fun t6 et6 => ?_)
    have rg7 := fb_rng t4
    have zt6 : t6.toInt = t4.toInt + p2.toInt := by rw [et6]; exact add_i rfl rfl (by omega) (by omega)
    refine ldI hx hb hE hP 29 rfl (vp_in_iff.mpr ⟨by omega, by omega⟩) rfl rfl dX11_reached_21 ?_
    refine lv_topi (fun t8 et8 => ?_)
    exact ret t8 () _ _ _ _ _ _ rfl trivial hP hD hS dX11_reached_22 (Nat.le_refl _) (Nat.le_refl _)
  · skip
    have zc1 : p2.toInt = p3.toInt := by rw [fa_eq] at c1; exact c1
    have rg9 := fb_rng p2
    have rg10 := fb_rng p3
    refine lv_sipush (v := 1000) hx hb dX11_reached_5 (by decide) ?_
    refine lv_goto (tgt := 22) hx hb dX11_reached_8 (by decide) ?_
    exact ret 1000 () _ _ _ _ _ _ rfl trivial hP hD hS dX11_reached_22 (Nat.le_refl _) (Nat.le_refl _)
set_option maxHeartbeats 4000000 in
set_option maxRecDepth 100000 in
theorem sY_X11_isRest_1 (l : Launch) (dC : Nat → ClassId) (dI : Nat → Nat → Nat) (cy : Nat → ClassId) (y0 : Nat) (r : Nat → Nat) (p1 : Int32) (p2 : Int32) (p3 : Int32) (p4 : Int32) (p5 : Int32) (v : Nat → Int32) (f : Nat → Nat → Int32) (w : Int64) (g : Nat → Int64) (hIv : YI v) (hCf : YC f) (hRf : progOK (f 4) (f 5) (v 9).toInt.toNat) (hp1 : (0 : Int) ≤ p1.toInt ∧ p1.toInt ≤ 5) (hp2 : (0 : Int) ≤ p2.toInt ∧ p2.toInt ≤ 5) (hp3 : (0 : Int) ≤ p3.toInt ∧ p3.toInt ≤ 5) (hp4 : (0 : Int) ≤ p4.toInt ∧ p4.toInt ≤ 5) : ctI l (dC, dI) cy yX11_isRest cX11_isRest 8 .boolean 2 83 0 0 Unit [.ref y0, .int p1, .int p2, .int p3, .int p4, .int p5] (YW cy y0 r v f w g) (fun r u => ((r = 1) ∨ (r = 0))) (fun u => YW cy y0 r v f w g) := by
  refine ctI_of (by decide) (Nat.le_of_ble_eq_true rfl) (fun p e s m below meth c A ls Q hx hb hml hts hown hE hP hD hA hl ret => ?_)
  have hUv : (v 35).toInt + (v 36).toInt ≤ 40 := hIv.2
  have hown : s.vm.findClass RX11 = some m.cls := hown
  have hS : va_S A s.heap s.heap [] := va_S.rf
  have hl : lv_has ls 8 [(0, .ref y0), (1, .int p1), (2, .int p2), (3, .int p3), (4, .int p4), (5, .int p5)] := hl
  refine lv_iconst (v := 1) hx hb dX11_isRest_0 (by decide) ?_
  refine lv_istore (lv' := [(6, .int 1), (0, .ref y0), (1, .int p1), (2, .int p2), (3, .int p3), (4, .int p4), (5, .int p5)]) hx hb dX11_isRest_1 hl (by decide) rfl (fun ls hl => ?_)
  refine lv_iconst (v := 0) hx hb dX11_isRest_3 (by decide) ?_
  refine lv_istore (lv' := [(7, .int 0), (6, .int 1), (0, .ref y0), (1, .int p1), (2, .int p2), (3, .int p3), (4, .int p4), (5, .int p5)]) hx hb dX11_isRest_4 hl (by decide) rfl (fun ls hl => ?_)
  have lp1 : ∀ (n1 : Nat) (l6_1 : Int32) (l7_1 : Int32), ((0 : Int) ≤ l6_1.toInt ∧ l6_1.toInt ≤ 1) → ((0 : Int) ≤ l7_1.toInt ∧ l7_1.toInt ≤ 2147483647) → (2147483647 - l7_1.toInt).toNat < n1 → ∀ (H : Heap) (locs : List Loc) (ls : Array Slot), va_P (dC, dI) vwCl (YW cy y0 r v f w g) H → va_D A (YW cy y0 r v f w g) → va_S A s.heap H locs → lv_has ls 8 [(7, .int l7_1), (6, .int l6_1), (0, .ref y0), (1, .int p1), (2, .int p2), (3, .int p3), (4, .int p4), (5, .int p5)] → W p l e { frames := 2, cells := 0, slots := 0, locals := 83 } s m ([.ref y0, .int p1, .int p2, .int p3, .int p4, .int p5] : List Value).toArray below meth c H locs 0 0 Q (F0 m 6 ls []) := by
    intro n1
    induction n1 with
    | zero => intro l6_1 l7_1 hr6_1 hr7_1 hm; exact absurd hm (Nat.not_lt_zero _)
    | succ n1 ih1 =>
      intro l6_1 l7_1 hr6_1 hr7_1 hm1 H locs ls hP hD hS hl
      refine lv_iload hx hb dX11_isRest_6 (lv_at hl 0 rfl) ?_
      refine lv_aload_n hx hb dX11_isRest_8 rfl (lv_at hl 2 rfl) ?_
      refine va_get (D := (dC, dI)) (ci := 11) (v := .int (v 25)) (C := RX11) (T := TX11) (N := 79) hx hb hts inB_11 hown hE.1 hP 0 rfl rfl 49 (by decide) (hts _ k_1369) (fun _ h9 => h9) rfl dX11_isRest_9 ?_
      have b25_v : 0 ≤ (v 25).toInt ∧ (v 25).toInt ≤ 6 := YIb.b hIv.1 25 (by decide)
      refine lv_icmp_ge (tgt := 85) hx hb dX11_isRest_12 (by decide) (fun c2 => ?_) (fun c2 => ?_)
      · skip
        have zc2 : (v 25).toInt ≤ l7_1.toInt := by rw [fa_le] at c2; exact c2
        have rg3 := fb_rng l7_1
        have rg4 := fb_rng (v 25)
        refine lv_iload hx hb dX11_isRest_85 (lv_at hl 1 rfl) ?_
        rcases b01 (x := l6_1) (by omega) (by omega) with h5 | h5
        · skip
          refine tI (y := 1) h5 ?_
          exact ret 1 () _ _ _ _ _ _ rfl (Or.inl rfl) hP hD hS dX11_isRest_87 (Nat.le_refl _) (Nat.le_refl _)
        · skip
          refine tI (y := 0) h5 ?_
          exact ret 0 () _ _ _ _ _ _ rfl (Or.inr rfl) hP hD hS dX11_isRest_87 (Nat.le_refl _) (Nat.le_refl _)
      · skip
        have zc2 : ¬ ((v 25).toInt ≤ l7_1.toInt) := by rw [fa_le] at c2; exact c2
        have rg6 := fb_rng l7_1
        have rg7 := fb_rng (v 25)
        refine lv_iload hx hb dX11_isRest_15 (lv_at hl 7 rfl) ?_
        refine lv_iload hx hb dX11_isRest_17 (lv_at hl 0 rfl) ?_
        refine lv_ishr hx hb dX11_isRest_19 ?_
        refine lv_topi (fun t8 et8 => ?_)
        refine lv_iconst (v := 1) hx hb dX11_isRest_20 (by decide) ?_
        refine lv_iand hx hb dX11_isRest_21 ?_
        refine lv_topi (fun t9 et9 => ?_)
        have zt9 : 0 ≤ t9.toInt ∧ t9.toInt < 2 := by rw [et9]; exact and_rng _ (k := 1) (by decide) (by decide)
        refine lv_if_ne (tgt := 28) hx hb dX11_isRest_22 (by decide) (fun c10 => ?_) (fun c10 => ?_)
        · skip
          have zc10 : ¬ (t9.toInt = 0) := by rw [fa_eq, show (0 : Int32).toInt = 0 from by decide] at c10; exact c10
          refine lv_iload hx hb dX11_isRest_28 (lv_at hl 1 rfl) ?_
          refine lv_if_eq (tgt := 76) hx hb dX11_isRest_30 (by decide) (fun c11 => ?_) (fun c11 => ?_)
          · skip
            have zc11 : l6_1.toInt = 0 := by rw [fa_eq, show (0 : Int32).toInt = 0 from by decide] at c11; exact c11
            refine lv_iconst (v := 0) hx hb dX11_isRest_76 (by decide) ?_
            refine lv_istore (lv' := [(6, .int 0), (7, .int l7_1), (0, .ref y0), (1, .int p1), (2, .int p2), (3, .int p3), (4, .int p4), (5, .int p5)]) hx hb dX11_isRest_77 hl (by decide) rfl (fun ls hl => ?_)
            obtain ⟨t12, et12⟩ : ∃ y : Int32, y = l7_1 + 1 := ⟨_, rfl⟩
            have zt12 : t12.toInt = l7_1.toInt + 1 := by rw [et12]; exact add_i rfl (by decide) (by omega) (by omega)
            refine lv_iinc (v := t12) (lv' := [(7, .int t12), (6, .int 0), (0, .ref y0), (1, .int p1), (2, .int p2), (3, .int p3), (4, .int p4), (5, .int p5)]) hx hb dX11_isRest_79 hl (k := 1) rfl (by rw [et12]; rfl) (by decide) rfl (fun ls hl => ?_)
            refine lv_goto (tgt := 6) hx hb dX11_isRest_82 (by decide) ?_
            have rg13 := fb_rng t12
            exact ih1 0 t12 ⟨by decide, by decide⟩ ⟨show (0 : Int) ≤ t12.toInt by omega, show t12.toInt ≤ (2147483647 : Int) by omega⟩ (by show (2147483647 - t12.toInt).toNat < n1; omega) _ _ _ hP hD hS (lv_sub hl [0, 1, 2, 3, 4, 5, 6, 7] rfl)
          · skip
            have zc11 : ¬ (l6_1.toInt = 0) := by rw [fa_eq, show (0 : Int32).toInt = 0 from by decide] at c11; exact c11
            refine lv_aload_n hx hb dX11_isRest_33 rfl (lv_at hl 2 rfl) ?_
            refine lv_iload_n hx hb dX11_isRest_34 rfl (lv_at hl 3 rfl) ?_
            refine lv_iload hx hb dX11_isRest_35 (lv_at hl 0 rfl) ?_
            refine lv_iload hx hb dX11_isRest_37 (lv_at hl 6 rfl) ?_
            refine cbVi (n := 3) (rest := []) hx hb hml hown hts hE hP hD hS hA (sY_X11_reached_1 l dC dI cy y0 r p1 l7_1 p4 v f w g hIv hCf hRf ⟨show (0 : Int) ≤ p1.toInt by omega, show p1.toInt ≤ (5 : Int) by omega⟩ ⟨show (0 : Int) ≤ l7_1.toInt by omega, show l7_1.toInt ≤ (5 : Int) by omega⟩) k_1956 k_1958 k_94 k_114 k_1959 (by decide +kernel) ⟨Nat.le_of_ble_eq_true rfl, Nat.le_of_ble_eq_true rfl⟩ 0 11 rfl rfl (rfl) hl.1 rfl (Nat.le_of_ble_eq_true rfl) dX11_isRest_39 (fun r14 u H locs hw hP hD hS => ?_)
            refine lv_aload_n hx hb dX11_isRest_42 rfl (lv_at hl 2 rfl) ?_
            refine lv_iload_n hx hb dX11_isRest_43 rfl (lv_at hl 3 rfl) ?_
            refine lv_iload_n hx hb dX11_isRest_44 rfl (lv_at hl 5 rfl) ?_
            refine lv_iload hx hb dX11_isRest_45 (lv_at hl 6 rfl) ?_
            refine cbVi (n := 3) (rest := [.int r14]) hx hb hml hown hts hE hP hD hS hA (sY_X11_reached_1 l dC dI cy y0 r p1 p3 p4 v f w g hIv hCf hRf ⟨show (0 : Int) ≤ p1.toInt by omega, show p1.toInt ≤ (5 : Int) by omega⟩ ⟨show (0 : Int) ≤ p3.toInt by omega, show p3.toInt ≤ (5 : Int) by omega⟩) k_1956 k_1958 k_94 k_114 k_1959 (by decide +kernel) ⟨Nat.le_of_ble_eq_true rfl, Nat.le_of_ble_eq_true rfl⟩ 0 11 rfl rfl (rfl) hl.1 rfl (Nat.le_of_ble_eq_true rfl) dX11_isRest_47 (fun r15 u H locs hw hP hD hS => ?_)
            refine lv_icmp_lt (tgt := 76) hx hb dX11_isRest_50 (by decide) (fun c16 => ?_) (fun c16 => ?_)
            · skip
              have zc16 : r14.toInt < r15.toInt := by rw [fa_lt] at c16; exact c16
              have rg17 := fb_rng r14
              have rg18 := fb_rng r15
              refine lv_iconst (v := 0) hx hb dX11_isRest_76 (by decide) ?_
              refine lv_istore (lv' := [(6, .int 0), (7, .int l7_1), (0, .ref y0), (1, .int p1), (2, .int p2), (3, .int p3), (4, .int p4), (5, .int p5)]) hx hb dX11_isRest_77 hl (by decide) rfl (fun ls hl => ?_)
              obtain ⟨t19, et19⟩ : ∃ y : Int32, y = l7_1 + 1 := ⟨_, rfl⟩
              have zt19 : t19.toInt = l7_1.toInt + 1 := by rw [et19]; exact add_i rfl (by decide) (by omega) (by omega)
              refine lv_iinc (v := t19) (lv' := [(7, .int t19), (6, .int 0), (0, .ref y0), (1, .int p1), (2, .int p2), (3, .int p3), (4, .int p4), (5, .int p5)]) hx hb dX11_isRest_79 hl (k := 1) rfl (by rw [et19]; rfl) (by decide) rfl (fun ls hl => ?_)
              refine lv_goto (tgt := 6) hx hb dX11_isRest_82 (by decide) ?_
              have rg20 := fb_rng t19
              exact ih1 0 t19 ⟨by decide, by decide⟩ ⟨show (0 : Int) ≤ t19.toInt by omega, show t19.toInt ≤ (2147483647 : Int) by omega⟩ (by show (2147483647 - t19.toInt).toNat < n1; omega) _ _ _ hP hD hS (lv_sub hl [0, 1, 2, 3, 4, 5, 6, 7] rfl)
            · skip
              have zc16 : ¬ (r14.toInt < r15.toInt) := by rw [fa_lt] at c16; exact c16
              have rg21 := fb_rng r14
              have rg22 := fb_rng r15
              refine lv_aload_n hx hb dX11_isRest_53 rfl (lv_at hl 2 rfl) ?_
              refine lv_iload_n hx hb dX11_isRest_54 rfl (lv_at hl 4 rfl) ?_
              refine lv_iload hx hb dX11_isRest_55 (lv_at hl 0 rfl) ?_
              refine lv_iload_n hx hb dX11_isRest_57 rfl (lv_at hl 5 rfl) ?_
              refine cbVi (n := 3) (rest := []) hx hb hml hown hts hE hP hD hS hA (sY_X11_reached_1 l dC dI cy y0 r p2 l7_1 p3 v f w g hIv hCf hRf ⟨show (0 : Int) ≤ p2.toInt by omega, show p2.toInt ≤ (5 : Int) by omega⟩ ⟨show (0 : Int) ≤ l7_1.toInt by omega, show l7_1.toInt ≤ (5 : Int) by omega⟩) k_1956 k_1958 k_94 k_114 k_1959 (by decide +kernel) ⟨Nat.le_of_ble_eq_true rfl, Nat.le_of_ble_eq_true rfl⟩ 0 11 rfl rfl (rfl) hl.1 rfl (Nat.le_of_ble_eq_true rfl) dX11_isRest_58 (fun r23 u H locs hw hP hD hS => ?_)
              refine lv_aload_n hx hb dX11_isRest_61 rfl (lv_at hl 2 rfl) ?_
              refine lv_iload_n hx hb dX11_isRest_62 rfl (lv_at hl 4 rfl) ?_
              refine lv_iload hx hb dX11_isRest_63 (lv_at hl 6 rfl) ?_
              refine lv_iload_n hx hb dX11_isRest_65 rfl (lv_at hl 5 rfl) ?_
              refine cbVi (n := 3) (rest := [.int r23]) hx hb hml hown hts hE hP hD hS hA (sY_X11_reached_1 l dC dI cy y0 r p2 p4 p3 v f w g hIv hCf hRf ⟨show (0 : Int) ≤ p2.toInt by omega, show p2.toInt ≤ (5 : Int) by omega⟩ ⟨show (0 : Int) ≤ p4.toInt by omega, show p4.toInt ≤ (5 : Int) by omega⟩) k_1956 k_1958 k_94 k_114 k_1959 (by decide +kernel) ⟨Nat.le_of_ble_eq_true rfl, Nat.le_of_ble_eq_true rfl⟩ 0 11 rfl rfl (rfl) hl.1 rfl (Nat.le_of_ble_eq_true rfl) dX11_isRest_66 (fun r24 u H locs hw hP hD hS => ?_)
              refine lv_icmp_lt (tgt := 76) hx hb dX11_isRest_69 (by decide) (fun c25 => ?_) (fun c25 => ?_)
              · skip
                have zc25 : r23.toInt < r24.toInt := by rw [fa_lt] at c25; exact c25
                have rg26 := fb_rng r23
                have rg27 := fb_rng r24
                refine lv_iconst (v := 0) hx hb dX11_isRest_76 (by decide) ?_
                refine lv_istore (lv' := [(6, .int 0), (7, .int l7_1), (0, .ref y0), (1, .int p1), (2, .int p2), (3, .int p3), (4, .int p4), (5, .int p5)]) hx hb dX11_isRest_77 hl (by decide) rfl (fun ls hl => ?_)
                obtain ⟨t28, et28⟩ : ∃ y : Int32, y = l7_1 + 1 := ⟨_, rfl⟩
                have zt28 : t28.toInt = l7_1.toInt + 1 := by rw [et28]; exact add_i rfl (by decide) (by omega) (by omega)
                refine lv_iinc (v := t28) (lv' := [(7, .int t28), (6, .int 0), (0, .ref y0), (1, .int p1), (2, .int p2), (3, .int p3), (4, .int p4), (5, .int p5)]) hx hb dX11_isRest_79 hl (k := 1) rfl (by rw [et28]; rfl) (by decide) rfl (fun ls hl => ?_)
                refine lv_goto (tgt := 6) hx hb dX11_isRest_82 (by decide) ?_
                have rg29 := fb_rng t28
                exact ih1 0 t28 ⟨by decide, by decide⟩ ⟨show (0 : Int) ≤ t28.toInt by omega, show t28.toInt ≤ (2147483647 : Int) by omega⟩ (by show (2147483647 - t28.toInt).toNat < n1; omega) _ _ _ hP hD hS (lv_sub hl [0, 1, 2, 3, 4, 5, 6, 7] rfl)
              · skip
                have zc25 : ¬ (r23.toInt < r24.toInt) := by rw [fa_lt] at c25; exact c25
                have rg30 := fb_rng r23
                have rg31 := fb_rng r24
                refine lv_iconst (v := 1) hx hb dX11_isRest_72 (by decide) ?_
                refine lv_goto (tgt := 77) hx hb dX11_isRest_73 (by decide) ?_
                refine lv_istore (lv' := [(6, .int 1), (7, .int l7_1), (0, .ref y0), (1, .int p1), (2, .int p2), (3, .int p3), (4, .int p4), (5, .int p5)]) hx hb dX11_isRest_77 hl (by decide) rfl (fun ls hl => ?_)
                obtain ⟨t32, et32⟩ : ∃ y : Int32, y = l7_1 + 1 := ⟨_, rfl⟩
                have zt32 : t32.toInt = l7_1.toInt + 1 := by rw [et32]; exact add_i rfl (by decide) (by omega) (by omega)
                refine lv_iinc (v := t32) (lv' := [(7, .int t32), (6, .int 1), (0, .ref y0), (1, .int p1), (2, .int p2), (3, .int p3), (4, .int p4), (5, .int p5)]) hx hb dX11_isRest_79 hl (k := 1) rfl (by rw [et32]; rfl) (by decide) rfl (fun ls hl => ?_)
                refine lv_goto (tgt := 6) hx hb dX11_isRest_82 (by decide) ?_
                have rg33 := fb_rng t32
                exact ih1 1 t32 ⟨by decide, by decide⟩ ⟨show (0 : Int) ≤ t32.toInt by omega, show t32.toInt ≤ (2147483647 : Int) by omega⟩ (by show (2147483647 - t32.toInt).toNat < n1; omega) _ _ _ hP hD hS (lv_sub hl [0, 1, 2, 3, 4, 5, 6, 7] rfl)
        · skip
          have zc10 : t9.toInt = 0 := by rw [fa_eq, show (0 : Int32).toInt = 0 from by decide] at c10; exact c10
          refine lv_goto (tgt := 79) hx hb dX11_isRest_25 (by decide) ?_
          obtain ⟨t34, et34⟩ : ∃ y : Int32, y = l7_1 + 1 := ⟨_, rfl⟩
          have zt34 : t34.toInt = l7_1.toInt + 1 := by rw [et34]; exact add_i rfl (by decide) (by omega) (by omega)
          refine lv_iinc (v := t34) (lv' := [(7, .int t34), (6, .int l6_1), (0, .ref y0), (1, .int p1), (2, .int p2), (3, .int p3), (4, .int p4), (5, .int p5)]) hx hb dX11_isRest_79 hl (k := 0) rfl (by rw [et34]; rfl) (by decide) rfl (fun ls hl => ?_)
          refine lv_goto (tgt := 6) hx hb dX11_isRest_82 (by decide) ?_
          have rg35 := fb_rng l6_1
          have rg36 := fb_rng t34
          exact ih1 l6_1 t34 ⟨show (0 : Int) ≤ l6_1.toInt by omega, show l6_1.toInt ≤ (1 : Int) by omega⟩ ⟨show (0 : Int) ≤ t34.toInt by omega, show t34.toInt ≤ (2147483647 : Int) by omega⟩ (by show (2147483647 - t34.toInt).toNat < n1; omega) _ _ _ hP hD hS (lv_sub hl [0, 1, 2, 3, 4, 5, 6, 7] rfl)
  exact lp1 _ 1 0 ⟨by decide, by decide⟩ ⟨by decide, by decide⟩ (Nat.lt_succ_self _) _ _ _ hP hD hS (lv_sub hl [0, 1, 2, 3, 4, 5, 6, 7] rfl)
set_option maxHeartbeats 4000000 in
set_option maxRecDepth 100000 in
theorem sY_X11_reach_1 (l : Launch) (dC : Nat → ClassId) (dI : Nat → Nat → Nat) (cy : Nat → ClassId) (y0 : Nat) (r : Nat → Nat) (p1 : Int32) (p2 : Int32) (v : Nat → Int32) (f : Nat → Nat → Int32) (w : Int64) (g : Nat → Int64) (hIv : YI v) (hCf : YC f) (hRf : progOK (f 4) (f 5) (v 9).toInt.toNat)  : ctI l (dC, dI) cy yX11_reach cX11_reach 7 .int 5 148 0 0 ((Nat → Int32) × (Nat → Nat → Int32) × (Int64) × (Nat → Int64)) [.ref y0, .int p1, .int p2] (YW cy y0 r v f w g) (fun r u => KV [37] u.1 v ∧ KF [7, 8, 24, 26, 28] u.2.1 f ∧ YI u.1 ∧ YC u.2.1 ∧ progOK (u.2.1 4) (u.2.1 5) (u.1 9).toInt.toNat ∧ u.1 0 = v 0 ∧ u.1 1 = v 1 ∧ u.1 2 = v 2 ∧ u.1 3 = v 3 ∧ u.1 4 = v 4 ∧ u.1 5 = v 5 ∧ u.1 8 = v 8 ∧ u.1 9 = v 9 ∧ u.1 10 = v 10 ∧ u.1 13 = v 13 ∧ u.1 14 = v 14 ∧ u.1 15 = v 15 ∧ u.1 17 = v 17 ∧ u.1 18 = v 18 ∧ u.1 24 = v 24 ∧ u.1 25 = v 25 ∧ u.1 35 = v 35 ∧ u.1 36 = v 36 ∧ u.1 38 = v 38 ∧ u.1 39 = v 39) (fun u => YW cy y0 r u.1 u.2.1 u.2.2.1 u.2.2.2) := by
  refine ctI_of (by decide) (Nat.le_of_ble_eq_true rfl) (fun p e s m below meth c A ls Q hx hb hml hts hown hE hP hD hA hl ret => ?_)
  have hUv : (v 35).toInt + (v 36).toInt ≤ 40 := hIv.2
  have hM_v : KV [37] v v := fun _ _ => rfl
  have hA_f : KF [7, 8, 24, 26, 28] f f := fun _ _ => rfl
  have hown : s.vm.findClass RX11 = some m.cls := hown
  have hS : va_S A s.heap s.heap [] := va_S.rf
  have hl : lv_has ls 7 [(0, .ref y0), (1, .int p1), (2, .int p2)] := hl
  refine lv_aload_n hx hb dX11_reach_0 rfl (lv_at hl 0 rfl) ?_
  refine lv_iconst (v := 0) hx hb dX11_reach_1 (by decide) ?_
  refine va_put (D := (dC, dI)) (ci := 11) (v := .int 0) (ty := tyX11 67) (C := RX11) (T := TX11) (N := 79) hx hb hts inB_11 tyX11 tyX11_ok nmX11 hown hE.1 hP hD hS 0 rfl rfl 67 (by decide) (hts _ k_1387) (fun _ h9 => h9) rfl (tyX11_ok 67 (by decide)) rfl rfl (Nat.le_of_ble_eq_true rfl) dX11_reach_2 (fun H locs hP hD hS => ?_)
  have hP : va_P (dC, dI) vwCl (YW cy y0 r (upd v 37 0) f w g) H := hP
  have hD : va_D A (YW cy y0 r (upd v 37 0) f w g) := hD
  refine lv_aload_n hx hb dX11_reach_5 rfl (lv_at hl 0 rfl) ?_
  refine cbVv (n := 0) (rest := []) hx hb hml hown hts hE hP hD hS hA (sY_X11_layIlls_1 l dC dI cy y0 r  (upd v 37 0) f w g ⟨(YIb.upd (j := 37) (x := 0) hIv.1 (by decide) (by decide)), hIv.2⟩ hCf hRf ) k_1873 k_1875 k_84 k_114 k_1876 (by decide +kernel) ⟨Nat.le_of_ble_eq_true rfl, Nat.le_of_ble_eq_true rfl⟩ 0 11 rfl rfl (rfl) hl.1 rfl (Nat.le_of_ble_eq_true rfl) dX11_reach_6 (fun u H locs hw hP hD hS => ?_)
  obtain ⟨v1, f2, w3, g4⟩ := u
  obtain ⟨kV_v1, kF_f2, hIv1, hCf2, hRf2, hk0_v1, hk1_v1, hk2_v1, hk3_v1, hk4_v1, hk5_v1, hk8_v1, hk9_v1, hk10_v1, hk13_v1, hk14_v1, hk15_v1, hk17_v1, hk18_v1, hk24_v1, hk25_v1, hk35_v1, hk36_v1, hk38_v1, hk39_v1⟩ := hw
  have hM_v1 : KV [37] v1 v := KV.tr kV_v1 (KV.up (j := 37) (x := 0) hM_v rfl) rfl
  have hA_f2 : KF [7, 8, 24, 26, 28] f2 f := KF.tr kF_f2 hA_f rfl
  have hP : va_P (dC, dI) vwCl (YW cy y0 r v1 f2 w3 g4) H := hP
  have hD : va_D A (YW cy y0 r v1 f2 w3 g4) := hD
  have hUv1 : (v1 35).toInt + (v1 36).toInt ≤ 40 := hIv1.2
  have hq0_v1 : v1 0 = (v 0) := hk0_v1
  have hq1_v1 : v1 1 = (v 1) := hk1_v1
  have hq2_v1 : v1 2 = (v 2) := hk2_v1
  have hq3_v1 : v1 3 = (v 3) := hk3_v1
  have hq4_v1 : v1 4 = (v 4) := hk4_v1
  have hq5_v1 : v1 5 = (v 5) := hk5_v1
  have hq8_v1 : v1 8 = (v 8) := hk8_v1
  have hq9_v1 : v1 9 = (v 9) := hk9_v1
  have zq9_v1 := congrArg Int32.toInt hq9_v1
  have hq10_v1 : v1 10 = (v 10) := hk10_v1
  have hq13_v1 : v1 13 = (v 13) := hk13_v1
  have hq14_v1 : v1 14 = (v 14) := hk14_v1
  have hq15_v1 : v1 15 = (v 15) := hk15_v1
  have hq17_v1 : v1 17 = (v 17) := hk17_v1
  have hq18_v1 : v1 18 = (v 18) := hk18_v1
  have hq24_v1 : v1 24 = (v 24) := hk24_v1
  have hq25_v1 : v1 25 = (v 25) := hk25_v1
  have hq35_v1 : v1 35 = (v 35) := hk35_v1
  have hq36_v1 : v1 36 = (v 36) := hk36_v1
  have hq38_v1 : v1 38 = (v 38) := hk38_v1
  have hq39_v1 : v1 39 = (v 39) := hk39_v1
  refine lv_aload_n hx hb dX11_reach_9 rfl (lv_at hl 0 rfl) ?_
  refine cbVi (n := 0) (rest := []) hx hb hml hown hts hE hP hD hS hA (sY_X11_freeCoats_1 l dC dI cy y0 r  v1 f2 w3 g4 hIv1 hCf2 hRf2 ) k_1948 k_1950 k_92 k_114 k_1951 (by decide +kernel) ⟨Nat.le_of_ble_eq_true rfl, Nat.le_of_ble_eq_true rfl⟩ 0 11 rfl rfl (rfl) hl.1 rfl (Nat.le_of_ble_eq_true rfl) dX11_reach_10 (fun r5 u H locs hw hP hD hS => ?_)
  refine lv_istore_n (lv' := [(3, .int r5), (0, .ref y0), (1, .int p1), (2, .int p2)]) hx hb dX11_reach_13 rfl hl (by decide) rfl (fun ls hl => ?_)
  refine lv_aload_n hx hb dX11_reach_14 rfl (lv_at hl 1 rfl) ?_
  refine lv_iload_n hx hb dX11_reach_15 rfl (lv_at hl 2 rfl) ?_
  refine cbVi (n := 1) (rest := []) hx hb hml hown hts hE hP hD hS hA (sY_X11_isMan_1 l dC dI cy y0 r p1 v1 f2 w3 g4 hIv1 hCf2 hRf2 ) k_1732 k_1734 k_70 k_114 k_1735 (by decide +kernel) ⟨Nat.le_of_ble_eq_true rfl, Nat.le_of_ble_eq_true rfl⟩ 0 11 rfl rfl (rfl) hl.1 rfl (Nat.le_of_ble_eq_true rfl) dX11_reach_16 (fun r6 u H locs hw hP hD hS => ?_)
  rcases hw with ⟨g7, g7_0, g7_1, g7_2⟩ | ⟨g7⟩
  · skip
    subst g7
    refine lv_if_eq (tgt := 39) hx hb dX11_reach_19 (by decide) (fun c0 => absurd c0 (by decide)) (fun _ => ?_)
    refine lv_aload_n hx hb dX11_reach_22 rfl (lv_at hl 1 rfl) ?_
    refine lv_iload_n hx hb dX11_reach_23 rfl (lv_at hl 3 rfl) ?_
    refine cbVi (n := 1) (rest := []) hx hb hml hown hts hE hP hD hS hA (sY_X11_isMan_1 l dC dI cy y0 r p2 v1 f2 w3 g4 hIv1 hCf2 hRf2 ) k_1732 k_1734 k_70 k_114 k_1735 (by decide +kernel) ⟨Nat.le_of_ble_eq_true rfl, Nat.le_of_ble_eq_true rfl⟩ 0 11 rfl rfl (rfl) hl.1 rfl (Nat.le_of_ble_eq_true rfl) dX11_reach_24 (fun r8 u H locs hw hP hD hS => ?_)
    rcases hw with ⟨g9, g9_0, g9_1, g9_2⟩ | ⟨g9⟩
    · skip
      subst g9
      refine lv_if_eq (tgt := 39) hx hb dX11_reach_27 (by decide) (fun c0 => absurd c0 (by decide)) (fun _ => ?_)
      refine lv_iload_n hx hb dX11_reach_30 rfl (lv_at hl 2 rfl) ?_
      refine lv_iload_n hx hb dX11_reach_31 rfl (lv_at hl 3 rfl) ?_
      refine lv_icmp_eq (tgt := 39) hx hb dX11_reach_32 (by decide) (fun c10 => ?_) (fun c10 => ?_)
      · skip
        have zc10 : p1.toInt = p2.toInt := by rw [fa_eq] at c10; exact c10
        have rg11 := fb_rng p1
        have rg12 := fb_rng p2
        refine lv_iconst (v := (-1)) hx hb dX11_reach_39 (by decide) ?_
        exact ret (-1) (v1, f2, w3, g4) _ _ _ _ _ _ rfl ⟨hM_v1, hA_f2, hIv1, hCf2, hRf2, hk0_v1, hk1_v1, hk2_v1, hk3_v1, hk4_v1, hk5_v1, hk8_v1, hk9_v1, hk10_v1, hk13_v1, hk14_v1, hk15_v1, hk17_v1, hk18_v1, hk24_v1, hk25_v1, hk35_v1, hk36_v1, hk38_v1, hk39_v1⟩ hP hD hS dX11_reach_40 (Nat.le_refl _) (Nat.le_refl _)
      · skip
        have zc10 : ¬ (p1.toInt = p2.toInt) := by rw [fa_eq] at c10; exact c10
        have rg13 := fb_rng p1
        have rg14 := fb_rng p2
        refine lv_iload_n hx hb dX11_reach_35 rfl (lv_at hl 0 rfl) ?_
        refine lv_if_ne (tgt := 41) hx hb dX11_reach_36 (by decide) (fun c15 => ?_) (fun c15 => ?_)
        · skip
          have zc15 : ¬ (r5.toInt = 0) := by rw [fa_eq, show (0 : Int32).toInt = 0 from by decide] at c15; exact c15
          refine lv_iconst (v := 0) hx hb dX11_reach_41 (by decide) ?_
          refine lv_istore (lv' := [(4, .int 0), (3, .int r5), (0, .ref y0), (1, .int p1), (2, .int p2)]) hx hb dX11_reach_42 hl (by decide) rfl (fun ls hl => ?_)
          refine lv_iconst (v := 0) hx hb dX11_reach_44 (by decide) ?_
          refine lv_istore (lv' := [(5, .int 0), (4, .int 0), (3, .int r5), (0, .ref y0), (1, .int p1), (2, .int p2)]) hx hb dX11_reach_45 hl (by decide) rfl (fun ls hl => ?_)
          have lp16 : ∀ (n16 : Nat) (l4_16 : Int32) (l5_16 : Int32) (v16 : Nat → Int32) (f16 : Nat → Nat → Int32) (w16 : Int64) (g16 : Nat → Int64), YI v16 → YC f16 → progOK (f16 4) (f16 5) (v16 9).toInt.toNat → v16 0 = (v 0) → v16 1 = (v 1) → v16 2 = (v 2) → v16 3 = (v 3) → v16 4 = (v 4) → v16 5 = (v 5) → v16 8 = (v 8) → v16 9 = (v 9) → v16 10 = (v 10) → v16 13 = (v 13) → v16 14 = (v 14) → v16 15 = (v 15) → v16 17 = (v 17) → v16 18 = (v 18) → v16 24 = (v 24) → v16 25 = (v 25) → v16 35 = (v 35) → v16 36 = (v 36) → v16 38 = (v 38) → v16 39 = (v 39) → ((0 : Int) ≤ l5_16.toInt ∧ l5_16.toInt ≤ 2147483647) → KV [37] v16 v → KF [7, 8, 24, 26, 28] f16 f → (2147483647 - l5_16.toInt).toNat < n16 → ∀ (H : Heap) (locs : List Loc) (ls : Array Slot), va_P (dC, dI) vwCl (YW cy y0 r v16 f16 w16 g16) H → va_D A (YW cy y0 r v16 f16 w16 g16) → va_S A s.heap H locs → lv_has ls 7 [(5, .int l5_16), (4, .int l4_16), (3, .int r5), (0, .ref y0), (1, .int p1), (2, .int p2)] → W p l e { frames := 5, cells := 0, slots := 0, locals := 148 } s m ([.ref y0, .int p1, .int p2] : List Value).toArray below meth c H locs 0 0 Q (F0 m 47 ls []) := by
            intro n16
            induction n16 with
            | zero => intro l4_16 l5_16 v16 f16 w16 g16 hIv16 hCf16 hRf16 hq0_v16 hq1_v16 hq2_v16 hq3_v16 hq4_v16 hq5_v16 hq8_v16 hq9_v16 hq10_v16 hq13_v16 hq14_v16 hq15_v16 hq17_v16 hq18_v16 hq24_v16 hq25_v16 hq35_v16 hq36_v16 hq38_v16 hq39_v16 hr5_16 hM_v16 hA_f16 hm; exact absurd hm (Nat.not_lt_zero _)
            | succ n16 ih16 =>
              intro l4_16 l5_16 v16 f16 w16 g16 hIv16 hCf16 hRf16 hq0_v16 hq1_v16 hq2_v16 hq3_v16 hq4_v16 hq5_v16 hq8_v16 hq9_v16 hq10_v16 hq13_v16 hq14_v16 hq15_v16 hq17_v16 hq18_v16 hq24_v16 hq25_v16 hq35_v16 hq36_v16 hq38_v16 hq39_v16 hr5_16 hM_v16 hA_f16 hm16 H locs ls hP hD hS hl
              have hUv16 : (v16 35).toInt + (v16 36).toInt ≤ 40 := hIv16.2
              have zq9_v16 := congrArg Int32.toInt hq9_v16
              refine lv_iload hx hb dX11_reach_47 (lv_at hl 0 rfl) ?_
              refine lv_aload_n hx hb dX11_reach_49 rfl (lv_at hl 3 rfl) ?_
              refine va_get (D := (dC, dI)) (ci := 11) (v := .int (v16 25)) (C := RX11) (T := TX11) (N := 79) hx hb hts inB_11 hown hE.1 hP 0 rfl rfl 49 (by decide) (hts _ k_1369) (fun _ h9 => h9) rfl dX11_reach_50 ?_
              refine tI (y := (v 25)) hq25_v16 ?_
              have b25_v : 0 ≤ (v 25).toInt ∧ (v 25).toInt ≤ 6 := YIb.b hIv.1 25 (by decide)
              refine lv_icmp_ge (tgt := 144) hx hb dX11_reach_53 (by decide) (fun c17 => ?_) (fun c17 => ?_)
              · skip
                have zc17 : (v 25).toInt ≤ l5_16.toInt := by rw [fa_le] at c17; exact c17
                have rg18 := fb_rng l5_16
                have rg19 := fb_rng (v 25)
                refine lv_iload hx hb dX11_reach_144 (lv_at hl 1 rfl) ?_
                exact ret l4_16 (v16, f16, w16, g16) _ _ _ _ _ _ rfl ⟨hM_v16, hA_f16, hIv16, hCf16, hRf16, hq0_v16, hq1_v16, hq2_v16, hq3_v16, hq4_v16, hq5_v16, hq8_v16, hq9_v16, hq10_v16, hq13_v16, hq14_v16, hq15_v16, hq17_v16, hq18_v16, hq24_v16, hq25_v16, hq35_v16, hq36_v16, hq38_v16, hq39_v16⟩ hP hD hS dX11_reach_146 (Nat.le_refl _) (Nat.le_refl _)
              · skip
                have zc17 : ¬ ((v 25).toInt ≤ l5_16.toInt) := by rw [fa_le] at c17; exact c17
                have rg20 := fb_rng l5_16
                have rg21 := fb_rng (v 25)
                refine lv_iconst (v := 0) hx hb dX11_reach_56 (by decide) ?_
                refine lv_istore (lv' := [(6, .int 0), (5, .int l5_16), (4, .int l4_16), (3, .int r5), (0, .ref y0), (1, .int p1), (2, .int p2)]) hx hb dX11_reach_57 hl (by decide) rfl (fun ls hl => ?_)
                have lp22 : ∀ (n22 : Nat) (l4_22 : Int32) (l6_22 : Int32) (v22 : Nat → Int32) (f22 : Nat → Nat → Int32) (w22 : Int64) (g22 : Nat → Int64), YI v22 → YC f22 → progOK (f22 4) (f22 5) (v22 9).toInt.toNat → v22 0 = (v 0) → v22 1 = (v 1) → v22 2 = (v 2) → v22 3 = (v 3) → v22 4 = (v 4) → v22 5 = (v 5) → v22 8 = (v 8) → v22 9 = (v 9) → v22 10 = (v 10) → v22 13 = (v 13) → v22 14 = (v 14) → v22 15 = (v 15) → v22 17 = (v 17) → v22 18 = (v 18) → v22 24 = (v 24) → v22 25 = (v 25) → v22 35 = (v 35) → v22 36 = (v 36) → v22 38 = (v 38) → v22 39 = (v 39) → ((0 : Int) ≤ l6_22.toInt ∧ l6_22.toInt ≤ 2147483647) → KV [37] v22 v → KF [7, 8, 24, 26, 28] f22 f → (2147483647 - l6_22.toInt).toNat < n22 → ∀ (H : Heap) (locs : List Loc) (ls : Array Slot), va_P (dC, dI) vwCl (YW cy y0 r v22 f22 w22 g22) H → va_D A (YW cy y0 r v22 f22 w22 g22) → va_S A s.heap H locs → lv_has ls 7 [(6, .int l6_22), (5, .int l5_16), (4, .int l4_22), (3, .int r5), (0, .ref y0), (1, .int p1), (2, .int p2)] → W p l e { frames := 5, cells := 0, slots := 0, locals := 148 } s m ([.ref y0, .int p1, .int p2] : List Value).toArray below meth c H locs 0 0 Q (F0 m 59 ls []) := by
                  intro n22
                  induction n22 with
                  | zero => intro l4_22 l6_22 v22 f22 w22 g22 hIv22 hCf22 hRf22 hq0_v22 hq1_v22 hq2_v22 hq3_v22 hq4_v22 hq5_v22 hq8_v22 hq9_v22 hq10_v22 hq13_v22 hq14_v22 hq15_v22 hq17_v22 hq18_v22 hq24_v22 hq25_v22 hq35_v22 hq36_v22 hq38_v22 hq39_v22 hr6_22 hM_v22 hA_f22 hm; exact absurd hm (Nat.not_lt_zero _)
                  | succ n22 ih22 =>
                    intro l4_22 l6_22 v22 f22 w22 g22 hIv22 hCf22 hRf22 hq0_v22 hq1_v22 hq2_v22 hq3_v22 hq4_v22 hq5_v22 hq8_v22 hq9_v22 hq10_v22 hq13_v22 hq14_v22 hq15_v22 hq17_v22 hq18_v22 hq24_v22 hq25_v22 hq35_v22 hq36_v22 hq38_v22 hq39_v22 hr6_22 hM_v22 hA_f22 hm22 H locs ls hP hD hS hl
                    have hUv22 : (v22 35).toInt + (v22 36).toInt ≤ 40 := hIv22.2
                    have zq9_v22 := congrArg Int32.toInt hq9_v22
                    refine lv_iload hx hb dX11_reach_59 (lv_at hl 0 rfl) ?_
                    refine lv_aload_n hx hb dX11_reach_61 rfl (lv_at hl 4 rfl) ?_
                    refine va_get (D := (dC, dI)) (ci := 11) (v := .int (v22 25)) (C := RX11) (T := TX11) (N := 79) hx hb hts inB_11 hown hE.1 hP 0 rfl rfl 49 (by decide) (hts _ k_1369) (fun _ h9 => h9) rfl dX11_reach_62 ?_
                    refine tI (y := (v 25)) hq25_v22 ?_
                    have b25_v : 0 ≤ (v 25).toInt ∧ (v 25).toInt ≤ 6 := YIb.b hIv.1 25 (by decide)
                    refine lv_icmp_ge (tgt := 138) hx hb dX11_reach_65 (by decide) (fun c23 => ?_) (fun c23 => ?_)
                    · skip
                      have zc23 : (v 25).toInt ≤ l6_22.toInt := by rw [fa_le] at c23; exact c23
                      have rg24 := fb_rng l6_22
                      obtain ⟨t25, et25⟩ : ∃ y : Int32, y = l5_16 + 1 := ⟨_, rfl⟩
                      have zt25 : t25.toInt = l5_16.toInt + 1 := by rw [et25]; exact add_i rfl (by decide) (by omega) (by omega)
                      refine lv_iinc (v := t25) (lv' := [(5, .int t25), (6, .int l6_22), (4, .int l4_22), (3, .int r5), (0, .ref y0), (1, .int p1), (2, .int p2)]) hx hb dX11_reach_138 hl (k := 1) rfl (by rw [et25]; rfl) (by decide) rfl (fun ls hl => ?_)
                      refine lv_goto (tgt := 47) hx hb dX11_reach_141 (by decide) ?_
                      have rg26 := fb_rng t25
                      exact ih16 l4_22 t25 v22 f22 w22 g22 hIv22 hCf22 hRf22 hq0_v22 hq1_v22 hq2_v22 hq3_v22 hq4_v22 hq5_v22 hq8_v22 hq9_v22 hq10_v22 hq13_v22 hq14_v22 hq15_v22 hq17_v22 hq18_v22 hq24_v22 hq25_v22 hq35_v22 hq36_v22 hq38_v22 hq39_v22 ⟨show (0 : Int) ≤ t25.toInt by omega, show t25.toInt ≤ (2147483647 : Int) by omega⟩ hM_v22 hA_f22 (by show (2147483647 - t25.toInt).toNat < n16; omega) _ _ _ hP hD hS (lv_sub hl [0, 2, 3, 4, 5, 6] rfl)
                    · skip
                      have zc23 : ¬ ((v 25).toInt ≤ l6_22.toInt) := by rw [fa_le] at c23; exact c23
                      have rg27 := fb_rng l6_22
                      refine lv_iload_n hx hb dX11_reach_68 rfl (lv_at hl 3 rfl) ?_
                      refine lv_iload hx hb dX11_reach_69 (lv_at hl 1 rfl) ?_
                      refine lv_ishr hx hb dX11_reach_71 ?_
                      refine lv_topi (fun t28 et28 => ?_)
                      refine lv_iconst (v := 1) hx hb dX11_reach_72 (by decide) ?_
                      refine lv_iand hx hb dX11_reach_73 ?_
                      refine lv_topi (fun t29 et29 => ?_)
                      have zt29 : 0 ≤ t29.toInt ∧ t29.toInt < 2 := by rw [et29]; exact and_rng _ (k := 1) (by decide) (by decide)
                      refine lv_if_eq (tgt := 132) hx hb dX11_reach_74 (by decide) (fun c30 => ?_) (fun c30 => ?_)
                      · skip
                        have zc30 : t29.toInt = 0 := by rw [fa_eq, show (0 : Int32).toInt = 0 from by decide] at c30; exact c30
                        obtain ⟨t31, et31⟩ : ∃ y : Int32, y = l6_22 + 1 := ⟨_, rfl⟩
                        have zt31 : t31.toInt = l6_22.toInt + 1 := by rw [et31]; exact add_i rfl (by decide) (by omega) (by omega)
                        refine lv_iinc (v := t31) (lv' := [(6, .int t31), (5, .int l5_16), (4, .int l4_22), (3, .int r5), (0, .ref y0), (1, .int p1), (2, .int p2)]) hx hb dX11_reach_132 hl (k := 0) rfl (by rw [et31]; rfl) (by decide) rfl (fun ls hl => ?_)
                        refine lv_goto (tgt := 59) hx hb dX11_reach_135 (by decide) ?_
                        have rg32 := fb_rng t31
                        exact ih22 l4_22 t31 v22 f22 w22 g22 hIv22 hCf22 hRf22 hq0_v22 hq1_v22 hq2_v22 hq3_v22 hq4_v22 hq5_v22 hq8_v22 hq9_v22 hq10_v22 hq13_v22 hq14_v22 hq15_v22 hq17_v22 hq18_v22 hq24_v22 hq25_v22 hq35_v22 hq36_v22 hq38_v22 hq39_v22 ⟨show (0 : Int) ≤ t31.toInt by omega, show t31.toInt ≤ (2147483647 : Int) by omega⟩ hM_v22 hA_f22 (by show (2147483647 - t31.toInt).toNat < n22; omega) _ _ _ hP hD hS (lv_sub hl [0, 1, 2, 3, 4, 5, 6] rfl)
                      · skip
                        have zc30 : ¬ (t29.toInt = 0) := by rw [fa_eq, show (0 : Int32).toInt = 0 from by decide] at c30; exact c30
                        refine lv_iload_n hx hb dX11_reach_77 rfl (lv_at hl 3 rfl) ?_
                        refine lv_iload hx hb dX11_reach_78 (lv_at hl 0 rfl) ?_
                        refine lv_ishr hx hb dX11_reach_80 ?_
                        refine lv_topi (fun t33 et33 => ?_)
                        refine lv_iconst (v := 1) hx hb dX11_reach_81 (by decide) ?_
                        refine lv_iand hx hb dX11_reach_82 ?_
                        refine lv_topi (fun t34 et34 => ?_)
                        have zt34 : 0 ≤ t34.toInt ∧ t34.toInt < 2 := by rw [et34]; exact and_rng _ (k := 1) (by decide) (by decide)
                        refine lv_if_eq (tgt := 132) hx hb dX11_reach_83 (by decide) (fun c35 => ?_) (fun c35 => ?_)
                        · skip
                          have zc35 : t34.toInt = 0 := by rw [fa_eq, show (0 : Int32).toInt = 0 from by decide] at c35; exact c35
                          obtain ⟨t36, et36⟩ : ∃ y : Int32, y = l6_22 + 1 := ⟨_, rfl⟩
                          have zt36 : t36.toInt = l6_22.toInt + 1 := by rw [et36]; exact add_i rfl (by decide) (by omega) (by omega)
                          refine lv_iinc (v := t36) (lv' := [(6, .int t36), (5, .int l5_16), (4, .int l4_22), (3, .int r5), (0, .ref y0), (1, .int p1), (2, .int p2)]) hx hb dX11_reach_132 hl (k := 0) rfl (by rw [et36]; rfl) (by decide) rfl (fun ls hl => ?_)
                          refine lv_goto (tgt := 59) hx hb dX11_reach_135 (by decide) ?_
                          have rg37 := fb_rng t36
                          exact ih22 l4_22 t36 v22 f22 w22 g22 hIv22 hCf22 hRf22 hq0_v22 hq1_v22 hq2_v22 hq3_v22 hq4_v22 hq5_v22 hq8_v22 hq9_v22 hq10_v22 hq13_v22 hq14_v22 hq15_v22 hq17_v22 hq18_v22 hq24_v22 hq25_v22 hq35_v22 hq36_v22 hq38_v22 hq39_v22 ⟨show (0 : Int) ≤ t36.toInt by omega, show t36.toInt ≤ (2147483647 : Int) by omega⟩ hM_v22 hA_f22 (by show (2147483647 - t36.toInt).toNat < n22; omega) _ _ _ hP hD hS (lv_sub hl [0, 1, 2, 3, 4, 5, 6] rfl)
                        · skip
                          have zc35 : ¬ (t34.toInt = 0) := by rw [fa_eq, show (0 : Int32).toInt = 0 from by decide] at c35; exact c35
                          refine lv_aload_n hx hb dX11_reach_86 rfl (lv_at hl 4 rfl) ?_
                          refine lv_iload_n hx hb dX11_reach_87 rfl (lv_at hl 5 rfl) ?_
                          refine lv_iload_n hx hb dX11_reach_88 rfl (lv_at hl 6 rfl) ?_
                          refine lv_iload hx hb dX11_reach_89 (lv_at hl 1 rfl) ?_
                          refine lv_iload hx hb dX11_reach_91 (lv_at hl 0 rfl) ?_
                          refine lv_iload_n hx hb dX11_reach_93 rfl (lv_at hl 3 rfl) ?_
                          refine cbVi (n := 5) (rest := []) hx hb hml hown hts hE hP hD hS hA (sY_X11_isRest_1 l dC dI cy y0 r p1 p2 l5_16 l6_22 r5 v22 f22 w22 g22 hIv22 hCf22 hRf22 ⟨show (0 : Int) ≤ p1.toInt by omega, show p1.toInt ≤ (5 : Int) by omega⟩ ⟨show (0 : Int) ≤ p2.toInt by omega, show p2.toInt ≤ (5 : Int) by omega⟩ ⟨show (0 : Int) ≤ l5_16.toInt by omega, show l5_16.toInt ≤ (5 : Int) by omega⟩ ⟨show (0 : Int) ≤ l6_22.toInt by omega, show l6_22.toInt ≤ (5 : Int) by omega⟩) k_1952 k_1954 k_93 k_114 k_1955 (by decide +kernel) ⟨Nat.le_of_ble_eq_true rfl, Nat.le_of_ble_eq_true rfl⟩ 0 11 rfl rfl (rfl) hl.1 rfl (Nat.le_of_ble_eq_true rfl) dX11_reach_94 (fun r38 u H locs hw hP hD hS => ?_)
                          rcases hw with ⟨g39⟩ | ⟨g39⟩
                          · skip
                            subst g39
                            refine lv_if_ne (tgt := 103) hx hb dX11_reach_97 (by decide) (fun _ => ?_) (fun c0 => absurd c0 (by decide))
                            refine lv_iload hx hb dX11_reach_103 (lv_at hl 2 rfl) ?_
                            refine lv_if_ne (tgt := 129) hx hb dX11_reach_105 (by decide) (fun c40 => ?_) (fun c40 => ?_)
                            · skip
                              have zc40 : ¬ (l4_22.toInt = 0) := by rw [fa_eq, show (0 : Int32).toInt = 0 from by decide] at c40; exact c40
                              obtain ⟨t41, et41⟩ : ∃ y : Int32, y = l4_22 + 1 := ⟨_, rfl⟩
                              refine lv_iinc (v := t41) (lv' := [(4, .int t41), (6, .int l6_22), (5, .int l5_16), (3, .int r5), (0, .ref y0), (1, .int p1), (2, .int p2)]) hx hb dX11_reach_129 hl (k := 2) rfl (by rw [et41]; rfl) (by decide) rfl (fun ls hl => ?_)
                              obtain ⟨t42, et42⟩ : ∃ y : Int32, y = l6_22 + 1 := ⟨_, rfl⟩
                              have zt42 : t42.toInt = l6_22.toInt + 1 := by rw [et42]; exact add_i rfl (by decide) (by omega) (by omega)
                              refine lv_iinc (v := t42) (lv' := [(6, .int t42), (4, .int t41), (5, .int l5_16), (3, .int r5), (0, .ref y0), (1, .int p1), (2, .int p2)]) hx hb dX11_reach_132 hl (k := 1) rfl (by rw [et42]; rfl) (by decide) rfl (fun ls hl => ?_)
                              refine lv_goto (tgt := 59) hx hb dX11_reach_135 (by decide) ?_
                              have rg43 := fb_rng t42
                              exact ih22 t41 t42 v22 f22 w22 g22 hIv22 hCf22 hRf22 hq0_v22 hq1_v22 hq2_v22 hq3_v22 hq4_v22 hq5_v22 hq8_v22 hq9_v22 hq10_v22 hq13_v22 hq14_v22 hq15_v22 hq17_v22 hq18_v22 hq24_v22 hq25_v22 hq35_v22 hq36_v22 hq38_v22 hq39_v22 ⟨show (0 : Int) ≤ t42.toInt by omega, show t42.toInt ≤ (2147483647 : Int) by omega⟩ hM_v22 hA_f22 (by show (2147483647 - t42.toInt).toNat < n22; omega) _ _ _ hP hD hS (lv_sub hl [0, 2, 1, 3, 4, 5, 6] rfl)
                            · skip
                              have zc40 : l4_22.toInt = 0 := by rw [fa_eq, show (0 : Int32).toInt = 0 from by decide] at c40; exact c40
                              refine lv_aload_n hx hb dX11_reach_108 rfl (lv_at hl 4 rfl) ?_
                              refine va_get (D := (dC, dI)) (ci := 11) (v := .ref (r 64)) (C := RX11) (T := TX11) (N := 79) hx hb hts inB_11 hown hE.1 hP 0 rfl rfl 64 (by decide) (hts _ k_1384) (fun _ h9 => h9) rfl dX11_reach_109 ?_
                              refine lv_iconst (v := 0) hx hb dX11_reach_112 (by decide) ?_
                              refine lv_iload hx hb dX11_reach_113 (lv_at hl 1 rfl) ?_
                              refine stI hx hb hE hP hD hS 27 rfl (vp_in_nI (n := 0) (by decide) (by decide)) rfl dX11_reach_115 (fun H locs hP hD hS => ?_)
                              obtain ⟨f44, ef44, hP, hD⟩ : ∃ fz9, fz9 = upd2 f22 26 (upd (f22 26) (0 : Int32).toNatClampNeg l5_16) ∧ va_P (dC, dI) vwCl (YW cy y0 r v22 fz9 w22 g22) H ∧ va_D A (YW cy y0 r v22 fz9 w22 g22) := ⟨_, rfl, hP, hD⟩
                              have hCf44 : YC f44 := by rw [ef44]; exact hCf22
                              have hRf44 : progOK (f44 4) (f44 5) (v22 9).toInt.toNat := by rw [ef44]; exact hRf22
                              have hA_f44 : KF [7, 8, 24, 26, 28] f44 f := by rw [ef44]; exact KF.up hA_f22 rfl
                              refine lv_aload_n hx hb dX11_reach_116 rfl (lv_at hl 4 rfl) ?_
                              refine va_get (D := (dC, dI)) (ci := 11) (v := .ref (r 64)) (C := RX11) (T := TX11) (N := 79) hx hb hts inB_11 hown hE.1 hP 0 rfl rfl 64 (by decide) (hts _ k_1384) (fun _ h9 => h9) rfl dX11_reach_117 ?_
                              refine lv_iconst (v := 1) hx hb dX11_reach_120 (by decide) ?_
                              refine lv_iload hx hb dX11_reach_121 (lv_at hl 0 rfl) ?_
                              refine stI hx hb hE hP hD hS 27 rfl (vp_in_nI (n := 1) (by decide) (by decide)) rfl dX11_reach_123 (fun H locs hP hD hS => ?_)
                              obtain ⟨f45, ef45, hP, hD⟩ : ∃ fz9, fz9 = upd2 f44 26 (upd (f44 26) (1 : Int32).toNatClampNeg l6_22) ∧ va_P (dC, dI) vwCl (YW cy y0 r v22 fz9 w22 g22) H ∧ va_D A (YW cy y0 r v22 fz9 w22 g22) := ⟨_, rfl, hP, hD⟩
                              have hCf45 : YC f45 := by rw [ef45]; exact hCf44
                              have hRf45 : progOK (f45 4) (f45 5) (v22 9).toInt.toNat := by rw [ef45]; exact hRf44
                              have hA_f45 : KF [7, 8, 24, 26, 28] f45 f := by rw [ef45]; exact KF.up hA_f44 rfl
                              refine lv_aload_n hx hb dX11_reach_124 rfl (lv_at hl 4 rfl) ?_
                              refine lv_iconst (v := 2) hx hb dX11_reach_125 (by decide) ?_
                              refine va_put (D := (dC, dI)) (ci := 11) (v := .int 2) (ty := tyX11 67) (C := RX11) (T := TX11) (N := 79) hx hb hts inB_11 tyX11 tyX11_ok nmX11 hown hE.1 hP hD hS 0 rfl rfl 67 (by decide) (hts _ k_1387) (fun _ h9 => h9) rfl (tyX11_ok 67 (by decide)) rfl rfl (Nat.le_of_ble_eq_true rfl) dX11_reach_126 (fun H locs hP hD hS => ?_)
                              have hP : va_P (dC, dI) vwCl (YW cy y0 r (upd v22 37 2) f45 w22 g22) H := hP
                              have hD : va_D A (YW cy y0 r (upd v22 37 2) f45 w22 g22) := hD
                              obtain ⟨t46, et46⟩ : ∃ y : Int32, y = l4_22 + 1 := ⟨_, rfl⟩
                              have rg47 := fb_rng l4_22
                              have zt46 : t46.toInt = l4_22.toInt + 1 := by rw [et46]; exact add_i rfl (by decide) (by omega) (by omega)
                              refine lv_iinc (v := t46) (lv' := [(4, .int t46), (6, .int l6_22), (5, .int l5_16), (3, .int r5), (0, .ref y0), (1, .int p1), (2, .int p2)]) hx hb dX11_reach_129 hl (k := 2) rfl (by rw [et46]; rfl) (by decide) rfl (fun ls hl => ?_)
                              obtain ⟨t48, et48⟩ : ∃ y : Int32, y = l6_22 + 1 := ⟨_, rfl⟩
                              have zt48 : t48.toInt = l6_22.toInt + 1 := by rw [et48]; exact add_i rfl (by decide) (by omega) (by omega)
                              refine lv_iinc (v := t48) (lv' := [(6, .int t48), (4, .int t46), (5, .int l5_16), (3, .int r5), (0, .ref y0), (1, .int p1), (2, .int p2)]) hx hb dX11_reach_132 hl (k := 1) rfl (by rw [et48]; rfl) (by decide) rfl (fun ls hl => ?_)
                              refine lv_goto (tgt := 59) hx hb dX11_reach_135 (by decide) ?_
                              have rg49 := fb_rng t48
                              exact ih22 t46 t48 (upd v22 37 2) f45 w22 g22 ⟨(YIb.upd (j := 37) (x := 2) hIv22.1 (by decide) (by decide)), hIv22.2⟩ hCf45 hRf45 hq0_v22 hq1_v22 hq2_v22 hq3_v22 hq4_v22 hq5_v22 hq8_v22 hq9_v22 hq10_v22 hq13_v22 hq14_v22 hq15_v22 hq17_v22 hq18_v22 hq24_v22 hq25_v22 hq35_v22 hq36_v22 hq38_v22 hq39_v22 ⟨show (0 : Int) ≤ t48.toInt by omega, show t48.toInt ≤ (2147483647 : Int) by omega⟩ (KV.up (j := 37) (x := 2) hM_v22 rfl) hA_f45 (by show (2147483647 - t48.toInt).toNat < n22; omega) _ _ _ hP hD hS (lv_sub hl [0, 2, 1, 3, 4, 5, 6] rfl)
                          · skip
                            subst g39
                            refine lv_if_ne (tgt := 103) hx hb dX11_reach_97 (by decide) (fun c0 => absurd (by decide) c0) (fun _ => ?_)
                            refine lv_goto (tgt := 132) hx hb dX11_reach_100 (by decide) ?_
                            obtain ⟨t50, et50⟩ : ∃ y : Int32, y = l6_22 + 1 := ⟨_, rfl⟩
                            have zt50 : t50.toInt = l6_22.toInt + 1 := by rw [et50]; exact add_i rfl (by decide) (by omega) (by omega)
                            refine lv_iinc (v := t50) (lv' := [(6, .int t50), (5, .int l5_16), (4, .int l4_22), (3, .int r5), (0, .ref y0), (1, .int p1), (2, .int p2)]) hx hb dX11_reach_132 hl (k := 0) rfl (by rw [et50]; rfl) (by decide) rfl (fun ls hl => ?_)
                            refine lv_goto (tgt := 59) hx hb dX11_reach_135 (by decide) ?_
                            have rg51 := fb_rng t50
                            exact ih22 l4_22 t50 v22 f22 w22 g22 hIv22 hCf22 hRf22 hq0_v22 hq1_v22 hq2_v22 hq3_v22 hq4_v22 hq5_v22 hq8_v22 hq9_v22 hq10_v22 hq13_v22 hq14_v22 hq15_v22 hq17_v22 hq18_v22 hq24_v22 hq25_v22 hq35_v22 hq36_v22 hq38_v22 hq39_v22 ⟨show (0 : Int) ≤ t50.toInt by omega, show t50.toInt ≤ (2147483647 : Int) by omega⟩ hM_v22 hA_f22 (by show (2147483647 - t50.toInt).toNat < n22; omega) _ _ _ hP hD hS (lv_sub hl [0, 1, 2, 3, 4, 5, 6] rfl)
                exact lp22 _ l4_16 0 v16 f16 w16 g16 hIv16 hCf16 hRf16 hq0_v16 hq1_v16 hq2_v16 hq3_v16 hq4_v16 hq5_v16 hq8_v16 hq9_v16 hq10_v16 hq13_v16 hq14_v16 hq15_v16 hq17_v16 hq18_v16 hq24_v16 hq25_v16 hq35_v16 hq36_v16 hq38_v16 hq39_v16 ⟨by decide, by decide⟩ hM_v16 hA_f16 (Nat.lt_succ_self _) _ _ _ hP hD hS (lv_sub hl [0, 1, 2, 3, 4, 5, 6] rfl)
          exact lp16 _ 0 0 v1 f2 w3 g4 hIv1 hCf2 hRf2 hq0_v1 hq1_v1 hq2_v1 hq3_v1 hq4_v1 hq5_v1 hq8_v1 hq9_v1 hq10_v1 hq13_v1 hq14_v1 hq15_v1 hq17_v1 hq18_v1 hq24_v1 hq25_v1 hq35_v1 hq36_v1 hq38_v1 hq39_v1 ⟨by decide, by decide⟩ hM_v1 hA_f2 (Nat.lt_succ_self _) _ _ _ hP hD hS (lv_sub hl [0, 1, 2, 3, 4, 5] rfl)
        · skip
          have zc15 : r5.toInt = 0 := by rw [fa_eq, show (0 : Int32).toInt = 0 from by decide] at c15; exact c15
          refine lv_iconst (v := (-1)) hx hb dX11_reach_39 (by decide) ?_
          exact ret (-1) (v1, f2, w3, g4) _ _ _ _ _ _ rfl ⟨hM_v1, hA_f2, hIv1, hCf2, hRf2, hk0_v1, hk1_v1, hk2_v1, hk3_v1, hk4_v1, hk5_v1, hk8_v1, hk9_v1, hk10_v1, hk13_v1, hk14_v1, hk15_v1, hk17_v1, hk18_v1, hk24_v1, hk25_v1, hk35_v1, hk36_v1, hk38_v1, hk39_v1⟩ hP hD hS dX11_reach_40 (Nat.le_refl _) (Nat.le_refl _)
    · skip
      subst g9
      refine lv_if_eq (tgt := 39) hx hb dX11_reach_27 (by decide) (fun _ => ?_) (fun c0 => absurd (by decide) c0)
      refine lv_iconst (v := (-1)) hx hb dX11_reach_39 (by decide) ?_
      exact ret (-1) (v1, f2, w3, g4) _ _ _ _ _ _ rfl ⟨hM_v1, hA_f2, hIv1, hCf2, hRf2, hk0_v1, hk1_v1, hk2_v1, hk3_v1, hk4_v1, hk5_v1, hk8_v1, hk9_v1, hk10_v1, hk13_v1, hk14_v1, hk15_v1, hk17_v1, hk18_v1, hk24_v1, hk25_v1, hk35_v1, hk36_v1, hk38_v1, hk39_v1⟩ hP hD hS dX11_reach_40 (Nat.le_refl _) (Nat.le_refl _)
  · skip
    subst g7
    refine lv_if_eq (tgt := 39) hx hb dX11_reach_19 (by decide) (fun _ => ?_) (fun c0 => absurd (by decide) c0)
    refine lv_iconst (v := (-1)) hx hb dX11_reach_39 (by decide) ?_
    exact ret (-1) (v1, f2, w3, g4) _ _ _ _ _ _ rfl ⟨hM_v1, hA_f2, hIv1, hCf2, hRf2, hk0_v1, hk1_v1, hk2_v1, hk3_v1, hk4_v1, hk5_v1, hk8_v1, hk9_v1, hk10_v1, hk13_v1, hk14_v1, hk15_v1, hk17_v1, hk18_v1, hk24_v1, hk25_v1, hk35_v1, hk36_v1, hk38_v1, hk39_v1⟩ hP hD hS dX11_reach_40 (Nat.le_refl _) (Nat.le_refl _)
set_option maxHeartbeats 4000000 in
set_option maxRecDepth 100000 in
theorem sY_X11_turning_1 (l : Launch) (dC : Nat → ClassId) (dI : Nat → Nat → Nat) (cy : Nat → ClassId) (y0 : Nat) (r : Nat → Nat)  (v : Nat → Int32) (f : Nat → Nat → Int32) (w : Int64) (g : Nat → Int64) (hIv : YI v) (hCf : YC f) (hRf : progOK (f 4) (f 5) (v 9).toInt.toNat)  : ctI l (dC, dI) cy yX11_turning cX11_turning 5 .int 7 191 0 0 ((Nat → Int32) × (Nat → Nat → Int32) × (Int64) × (Nat → Int64)) [.ref y0] (YW cy y0 r v f w g) (fun r u => KV [] u.1 v ∧ KF [7, 8, 24] u.2.1 f ∧ YI u.1 ∧ YC u.2.1 ∧ progOK (u.2.1 4) (u.2.1 5) (u.1 9).toInt.toNat ∧ u.1 0 = v 0 ∧ u.1 1 = v 1 ∧ u.1 2 = v 2 ∧ u.1 3 = v 3 ∧ u.1 4 = v 4 ∧ u.1 5 = v 5 ∧ u.1 8 = v 8 ∧ u.1 9 = v 9 ∧ u.1 10 = v 10 ∧ u.1 13 = v 13 ∧ u.1 14 = v 14 ∧ u.1 15 = v 15 ∧ u.1 17 = v 17 ∧ u.1 18 = v 18 ∧ u.1 24 = v 24 ∧ u.1 25 = v 25 ∧ u.1 35 = v 35 ∧ u.1 36 = v 36 ∧ u.1 38 = v 38 ∧ u.1 39 = v 39) (fun u => YW cy y0 r u.1 u.2.1 u.2.2.1 u.2.2.2) := by
  refine ctI_of (by decide) (Nat.le_of_ble_eq_true rfl) (fun p e s m below meth c A ls Q hx hb hml hts hown hE hP hD hA hl ret => ?_)
  have hUv : (v 35).toInt + (v 36).toInt ≤ 40 := hIv.2
  have hM_v : KV [] v v := fun _ _ => rfl
  have hA_f : KF [7, 8, 24] f f := fun _ _ => rfl
  have hown : s.vm.findClass RX11 = some m.cls := hown
  have hS : va_S A s.heap s.heap [] := va_S.rf
  have hl : lv_has ls 5 [(0, .ref y0)] := hl
  refine lv_iconst (v := (-1)) hx hb dX11_turning_0 (by decide) ?_
  refine lv_istore_n (lv' := [(1, .int (-1)), (0, .ref y0)]) hx hb dX11_turning_1 rfl hl (by decide) rfl (fun ls hl => ?_)
  refine lv_iconst (v := (-1)) hx hb dX11_turning_2 (by decide) ?_
  refine lv_istore_n (lv' := [(2, .int (-1)), (1, .int (-1)), (0, .ref y0)]) hx hb dX11_turning_3 rfl hl (by decide) rfl (fun ls hl => ?_)
  refine lv_iconst (v := 0) hx hb dX11_turning_4 (by decide) ?_
  refine lv_istore_n (lv' := [(3, .int 0), (2, .int (-1)), (1, .int (-1)), (0, .ref y0)]) hx hb dX11_turning_5 rfl hl (by decide) rfl (fun ls hl => ?_)
  have lp1 : ∀ (n1 : Nat) (l1_1 : Int32) (l2_1 : Int32) (l3_1 : Int32) (v1 : Nat → Int32) (f1 : Nat → Nat → Int32) (w1 : Int64) (g1 : Nat → Int64), YI v1 → YC f1 → progOK (f1 4) (f1 5) (v1 9).toInt.toNat → v1 0 = (v 0) → v1 1 = (v 1) → v1 2 = (v 2) → v1 3 = (v 3) → v1 4 = (v 4) → v1 5 = (v 5) → v1 8 = (v 8) → v1 9 = (v 9) → v1 10 = (v 10) → v1 13 = (v 13) → v1 14 = (v 14) → v1 15 = (v 15) → v1 17 = (v 17) → v1 18 = (v 18) → v1 24 = (v 24) → v1 25 = (v 25) → v1 35 = (v 35) → v1 36 = (v 36) → v1 38 = (v 38) → v1 39 = (v 39) → ((0 : Int) ≤ l3_1.toInt ∧ l3_1.toInt ≤ 2147483647) → KV [] v1 v → KF [7, 8, 24] f1 f → (2147483647 - l3_1.toInt).toNat < n1 → ∀ (H : Heap) (locs : List Loc) (ls : Array Slot), va_P (dC, dI) vwCl (YW cy y0 r v1 f1 w1 g1) H → va_D A (YW cy y0 r v1 f1 w1 g1) → va_S A s.heap H locs → lv_has ls 5 [(3, .int l3_1), (2, .int l2_1), (1, .int l1_1), (0, .ref y0)] → W p l e { frames := 7, cells := 0, slots := 0, locals := 191 } s m ([.ref y0] : List Value).toArray below meth c H locs 0 0 Q (F0 m 6 ls []) := by
    intro n1
    induction n1 with
    | zero => intro l1_1 l2_1 l3_1 v1 f1 w1 g1 hIv1 hCf1 hRf1 hq0_v1 hq1_v1 hq2_v1 hq3_v1 hq4_v1 hq5_v1 hq8_v1 hq9_v1 hq10_v1 hq13_v1 hq14_v1 hq15_v1 hq17_v1 hq18_v1 hq24_v1 hq25_v1 hq35_v1 hq36_v1 hq38_v1 hq39_v1 hr3_1 hM_v1 hA_f1 hm; exact absurd hm (Nat.not_lt_zero _)
    | succ n1 ih1 =>
      intro l1_1 l2_1 l3_1 v1 f1 w1 g1 hIv1 hCf1 hRf1 hq0_v1 hq1_v1 hq2_v1 hq3_v1 hq4_v1 hq5_v1 hq8_v1 hq9_v1 hq10_v1 hq13_v1 hq14_v1 hq15_v1 hq17_v1 hq18_v1 hq24_v1 hq25_v1 hq35_v1 hq36_v1 hq38_v1 hq39_v1 hr3_1 hM_v1 hA_f1 hm1 H locs ls hP hD hS hl
      have hUv1 : (v1 35).toInt + (v1 36).toInt ≤ 40 := hIv1.2
      have zq9_v1 := congrArg Int32.toInt hq9_v1
      refine lv_iload_n hx hb dX11_turning_6 rfl (lv_at hl 0 rfl) ?_
      refine lv_aload_n hx hb dX11_turning_7 rfl (lv_at hl 3 rfl) ?_
      refine va_get (D := (dC, dI)) (ci := 11) (v := .int (v1 25)) (C := RX11) (T := TX11) (N := 79) hx hb hts inB_11 hown hE.1 hP 0 rfl rfl 49 (by decide) (hts _ k_1369) (fun _ h9 => h9) rfl dX11_turning_8 ?_
      refine tI (y := (v 25)) hq25_v1 ?_
      have b25_v : 0 ≤ (v 25).toInt ∧ (v 25).toInt ≤ 6 := YIb.b hIv.1 25 (by decide)
      refine lv_icmp_ge (tgt := 75) hx hb dX11_turning_11 (by decide) (fun c2 => ?_) (fun c2 => ?_)
      · skip
        have zc2 : (v 25).toInt ≤ l3_1.toInt := by rw [fa_le] at c2; exact c2
        have rg3 := fb_rng l3_1
        have rg4 := fb_rng (v 25)
        refine lv_iload_n hx hb dX11_turning_75 rfl (lv_at hl 2 rfl) ?_
        exact ret l1_1 (v1, f1, w1, g1) _ _ _ _ _ _ rfl ⟨hM_v1, hA_f1, hIv1, hCf1, hRf1, (show v1 0 = v 0 from hq0_v1), (show v1 1 = v 1 from hq1_v1), (show v1 2 = v 2 from hq2_v1), (show v1 3 = v 3 from hq3_v1), (show v1 4 = v 4 from hq4_v1), (show v1 5 = v 5 from hq5_v1), (show v1 8 = v 8 from hq8_v1), (show v1 9 = v 9 from hq9_v1), (show v1 10 = v 10 from hq10_v1), (show v1 13 = v 13 from hq13_v1), (show v1 14 = v 14 from hq14_v1), (show v1 15 = v 15 from hq15_v1), (show v1 17 = v 17 from hq17_v1), (show v1 18 = v 18 from hq18_v1), (show v1 24 = v 24 from hq24_v1), (show v1 25 = v 25 from hq25_v1), (show v1 35 = v 35 from hq35_v1), (show v1 36 = v 36 from hq36_v1), (show v1 38 = v 38 from hq38_v1), (show v1 39 = v 39 from hq39_v1)⟩ hP hD hS dX11_turning_76 (Nat.le_refl _) (Nat.le_refl _)
      · skip
        have zc2 : ¬ ((v 25).toInt ≤ l3_1.toInt) := by rw [fa_le] at c2; exact c2
        have rg5 := fb_rng l3_1
        have rg6 := fb_rng (v 25)
        refine lv_aload_n hx hb dX11_turning_14 rfl (lv_at hl 3 rfl) ?_
        refine cbVv (n := 0) (rest := []) hx hb hml hown hts hE hP hD hS hA (sY_X11_fill_1 l dC dI cy y0 r  v1 f1 w1 g1 hIv1 hCf1 hRf1 ) k_1739 k_1741 k_71 k_114 k_1742 (by decide +kernel) ⟨Nat.le_of_ble_eq_true rfl, Nat.le_of_ble_eq_true rfl⟩ 0 11 rfl rfl (rfl) hl.1 rfl (Nat.le_of_ble_eq_true rfl) dX11_turning_15 (fun u H locs hw hP hD hS => ?_)
        obtain ⟨v7, f8, w9, g10⟩ := u
        obtain ⟨kV_v7, kF_f8, hIv7, hCf8, hRf8, hk0_v7, hk1_v7, hk2_v7, hk3_v7, hk4_v7, hk5_v7, hk8_v7, hk9_v7, hk10_v7, hk13_v7, hk14_v7, hk15_v7, hk17_v7, hk18_v7, hk24_v7, hk25_v7, hk35_v7, hk36_v7, hk38_v7, hk39_v7⟩ := hw
        have hM_v7 : KV [] v7 v := KV.tr kV_v7 hM_v1 rfl
        have hA_f8 : KF [7, 8, 24] f8 f := KF.tr kF_f8 hA_f1 rfl
        have hP : va_P (dC, dI) vwCl (YW cy y0 r v7 f8 w9 g10) H := hP
        have hD : va_D A (YW cy y0 r v7 f8 w9 g10) := hD
        have hUv7 : (v7 35).toInt + (v7 36).toInt ≤ 40 := hIv7.2
        have hq0_v7 : v7 0 = (v 0) := hk0_v7.trans hq0_v1
        have hq1_v7 : v7 1 = (v 1) := hk1_v7.trans hq1_v1
        have hq2_v7 : v7 2 = (v 2) := hk2_v7.trans hq2_v1
        have hq3_v7 : v7 3 = (v 3) := hk3_v7.trans hq3_v1
        have hq4_v7 : v7 4 = (v 4) := hk4_v7.trans hq4_v1
        have hq5_v7 : v7 5 = (v 5) := hk5_v7.trans hq5_v1
        have hq8_v7 : v7 8 = (v 8) := hk8_v7.trans hq8_v1
        have hq9_v7 : v7 9 = (v 9) := hk9_v7.trans hq9_v1
        have zq9_v7 := congrArg Int32.toInt hq9_v7
        have hq10_v7 : v7 10 = (v 10) := hk10_v7.trans hq10_v1
        have hq13_v7 : v7 13 = (v 13) := hk13_v7.trans hq13_v1
        have hq14_v7 : v7 14 = (v 14) := hk14_v7.trans hq14_v1
        have hq15_v7 : v7 15 = (v 15) := hk15_v7.trans hq15_v1
        have hq17_v7 : v7 17 = (v 17) := hk17_v7.trans hq17_v1
        have hq18_v7 : v7 18 = (v 18) := hk18_v7.trans hq18_v1
        have hq24_v7 : v7 24 = (v 24) := hk24_v7.trans hq24_v1
        have hq25_v7 : v7 25 = (v 25) := hk25_v7.trans hq25_v1
        have hq35_v7 : v7 35 = (v 35) := hk35_v7.trans hq35_v1
        have hq36_v7 : v7 36 = (v 36) := hk36_v7.trans hq36_v1
        have hq38_v7 : v7 38 = (v 38) := hk38_v7.trans hq38_v1
        have hq39_v7 : v7 39 = (v 39) := hk39_v7.trans hq39_v1
        refine lv_aload_n hx hb dX11_turning_18 rfl (lv_at hl 3 rfl) ?_
        refine va_get (D := (dC, dI)) (ci := 11) (v := .ref (r 60)) (C := RX11) (T := TX11) (N := 79) hx hb hts inB_11 hown hE.1 hP 0 rfl rfl 60 (by decide) (hts _ k_1380) (fun _ h9 => h9) rfl dX11_turning_19 ?_
        refine lv_bipush (v := 36) hx hb dX11_turning_22 (by decide) ?_
        refine ldI hx hb hE hP 25 rfl (vp_in_nI (n := 36) (by decide) (by decide)) rfl rfl dX11_turning_24 ?_
        refine lv_topi (fun t11 et11 => ?_)
        have zt11 : 36 % 39 < 6 ∨ 12 ≤ 36 % 39 ∨ (-1 ≤ t11.toInt ∧ t11.toInt ≤ 5) := by rw [et11]; exact wear_ld hCf8.2.1 (show 36 < 39 by omega)
        refine lv_iload_n hx hb dX11_turning_25 rfl (lv_at hl 0 rfl) ?_
        refine lv_ishr hx hb dX11_turning_26 ?_
        refine lv_topi (fun t12 et12 => ?_)
        refine lv_iconst (v := 1) hx hb dX11_turning_27 (by decide) ?_
        refine lv_iand hx hb dX11_turning_28 ?_
        refine lv_topi (fun t13 et13 => ?_)
        have zt13 : 0 ≤ t13.toInt ∧ t13.toInt < 2 := by rw [et13]; exact and_rng _ (k := 1) (by decide) (by decide)
        refine lv_iconst (v := 1) hx hb dX11_turning_29 (by decide) ?_
        refine lv_icmp_ne (tgt := 36) hx hb dX11_turning_30 (by decide) (fun c14 => ?_) (fun c14 => ?_)
        · skip
          have zc14 : ¬ (t13.toInt = 1) := by rw [fa_eq, show (1 : Int32).toInt = 1 from by decide] at c14; exact c14
          refine lv_aload_n hx hb dX11_turning_36 rfl (lv_at hl 3 rfl) ?_
          refine va_get (D := (dC, dI)) (ci := 11) (v := .ref (r 60)) (C := RX11) (T := TX11) (N := 79) hx hb hts inB_11 hown hE.1 hP 0 rfl rfl 60 (by decide) (hts _ k_1380) (fun _ h9 => h9) rfl dX11_turning_37 ?_
          refine lv_bipush (v := 30) hx hb dX11_turning_40 (by decide) ?_
          refine lv_iload_n hx hb dX11_turning_42 rfl (lv_at hl 0 rfl) ?_
          refine lv_iadd hx hb dX11_turning_43 ?_
          refine lv_topi (fun t15 et15 => ?_)
          have zt15 : t15.toInt = 30 + l3_1.toInt := by rw [et15]; exact add_i (by decide) rfl (by omega) (by omega)
          refine lv_iconst (v := 0) hx hb dX11_turning_44 (by decide) ?_
          refine stI hx hb hE hP hD hS 25 rfl (vp_in_iff.mpr ⟨by omega, by omega⟩) rfl dX11_turning_45 (fun H locs hP hD hS => ?_)
          obtain ⟨f16, ef16, hP, hD⟩ : ∃ fz9, fz9 = upd2 f8 24 (upd (f8 24) t15.toNatClampNeg 0) ∧ va_P (dC, dI) vwCl (YW cy y0 r v7 fz9 w9 g10) H ∧ va_D A (YW cy y0 r v7 fz9 w9 g10) := ⟨_, rfl, hP, hD⟩
          have hCf16 : YC f16 := by rw [ef16]; exact ⟨hCf8.1, (wear_st hCf8.2.1 (by have q9 : (0 : Int32).toInt = 0 := (by decide); show t15.toInt.toNat % 39 < 6 ∨ 12 ≤ t15.toInt.toNat % 39 ∨ (-1 ≤ (0 : Int32).toInt ∧ (0 : Int32).toInt ≤ 5); omega)), hCf8.2.2.1, hCf8.2.2.2.1, hCf8.2.2.2.2.1, hCf8.2.2.2.2.2⟩
          have hRf16 : progOK (f16 4) (f16 5) (v7 9).toInt.toNat := by rw [ef16]; exact hRf8
          have hA_f16 : KF [7, 8, 24] f16 f := by rw [ef16]; exact KF.up hA_f8 rfl
          refine lv_aload_n hx hb dX11_turning_46 rfl (lv_at hl 3 rfl) ?_
          refine cbVi (n := 0) (rest := []) hx hb hml hown hts hE hP hD hS hA (sY_X11_fittedOnes_1 l dC dI cy y0 r  v7 f16 w9 g10 hIv7 hCf16 hRf16 ) k_1809 k_1811 k_81 k_114 k_1812 (by decide +kernel) ⟨Nat.le_of_ble_eq_true rfl, Nat.le_of_ble_eq_true rfl⟩ 0 11 rfl rfl (rfl) hl.1 rfl (Nat.le_of_ble_eq_true rfl) dX11_turning_47 (fun r17 u H locs hw hP hD hS => ?_)
          obtain ⟨v18, f19, w20, g21⟩ := u
          obtain ⟨kV_v18, kF_f19, hIv18, hCf19, hRf19, hk0_v18, hk1_v18, hk2_v18, hk3_v18, hk4_v18, hk5_v18, hk8_v18, hk9_v18, hk10_v18, hk13_v18, hk14_v18, hk15_v18, hk17_v18, hk18_v18, hk24_v18, hk25_v18, hk35_v18, hk36_v18, hk38_v18, hk39_v18⟩ := hw
          have hM_v18 : KV [] v18 v := KV.tr kV_v18 hM_v7 rfl
          have hA_f19 : KF [7, 8, 24] f19 f := KF.tr kF_f19 hA_f16 rfl
          have hP : va_P (dC, dI) vwCl (YW cy y0 r v18 f19 w20 g21) H := hP
          have hD : va_D A (YW cy y0 r v18 f19 w20 g21) := hD
          have hUv18 : (v18 35).toInt + (v18 36).toInt ≤ 40 := hIv18.2
          have hq0_v18 : v18 0 = (v 0) := hk0_v18.trans hq0_v7
          have hq1_v18 : v18 1 = (v 1) := hk1_v18.trans hq1_v7
          have hq2_v18 : v18 2 = (v 2) := hk2_v18.trans hq2_v7
          have hq3_v18 : v18 3 = (v 3) := hk3_v18.trans hq3_v7
          have hq4_v18 : v18 4 = (v 4) := hk4_v18.trans hq4_v7
          have hq5_v18 : v18 5 = (v 5) := hk5_v18.trans hq5_v7
          have hq8_v18 : v18 8 = (v 8) := hk8_v18.trans hq8_v7
          have hq9_v18 : v18 9 = (v 9) := hk9_v18.trans hq9_v7
          have zq9_v18 := congrArg Int32.toInt hq9_v18
          have hq10_v18 : v18 10 = (v 10) := hk10_v18.trans hq10_v7
          have hq13_v18 : v18 13 = (v 13) := hk13_v18.trans hq13_v7
          have hq14_v18 : v18 14 = (v 14) := hk14_v18.trans hq14_v7
          have hq15_v18 : v18 15 = (v 15) := hk15_v18.trans hq15_v7
          have hq17_v18 : v18 17 = (v 17) := hk17_v18.trans hq17_v7
          have hq18_v18 : v18 18 = (v 18) := hk18_v18.trans hq18_v7
          have hq24_v18 : v18 24 = (v 24) := hk24_v18.trans hq24_v7
          have hq25_v18 : v18 25 = (v 25) := hk25_v18.trans hq25_v7
          have hq35_v18 : v18 35 = (v 35) := hk35_v18.trans hq35_v7
          have hq36_v18 : v18 36 = (v 36) := hk36_v18.trans hq36_v7
          have hq38_v18 : v18 38 = (v 38) := hk38_v18.trans hq38_v7
          have hq39_v18 : v18 39 = (v 39) := hk39_v18.trans hq39_v7
          refine cbSi (n := 1) (rest := []) hx hb hml hown hts hE hP hD hS hA (sY_X11_members_1 l dC dI cy y0 r r17 v18 f19 w20 g21 hIv18 hCf19 hRf19 ) k_1900 k_1901 k_114 k_1902 (by decide +kernel) ⟨Nat.le_of_ble_eq_true rfl, Nat.le_of_ble_eq_true rfl⟩ (rfl) hl.1 rfl (Nat.le_of_ble_eq_true rfl) dX11_turning_50 (fun r22 u H locs hw hP hD hS => ?_)
          refine lv_istore (lv' := [(4, .int r22), (3, .int l3_1), (2, .int l2_1), (1, .int l1_1), (0, .ref y0)]) hx hb dX11_turning_53 hl (by decide) rfl (fun ls hl => ?_)
          refine lv_iload hx hb dX11_turning_55 (lv_at hl 0 rfl) ?_
          refine lv_iload_n hx hb dX11_turning_57 rfl (lv_at hl 2 rfl) ?_
          refine lv_icmp_gt (tgt := 64) hx hb dX11_turning_58 (by decide) (fun c23 => ?_) (fun c23 => ?_)
          · skip
            have zc23 : l2_1.toInt < r22.toInt := by rw [fa_lt] at c23; exact c23
            have rg24 := fb_rng r22
            have rg25 := fb_rng l2_1
            refine lv_iload_n hx hb dX11_turning_64 rfl (lv_at hl 1 rfl) ?_
            refine lv_istore_n (lv' := [(1, .int l3_1), (4, .int r22), (3, .int l3_1), (2, .int l2_1), (0, .ref y0)]) hx hb dX11_turning_65 rfl hl (by decide) rfl (fun ls hl => ?_)
            refine lv_iload hx hb dX11_turning_66 (lv_at hl 1 rfl) ?_
            refine lv_istore_n (lv' := [(2, .int r22), (1, .int l3_1), (4, .int r22), (3, .int l3_1), (0, .ref y0)]) hx hb dX11_turning_68 rfl hl (by decide) rfl (fun ls hl => ?_)
            obtain ⟨t26, et26⟩ : ∃ y : Int32, y = l3_1 + 1 := ⟨_, rfl⟩
            have zt26 : t26.toInt = l3_1.toInt + 1 := by rw [et26]; exact add_i rfl (by decide) (by omega) (by omega)
            refine lv_iinc (v := t26) (lv' := [(3, .int t26), (2, .int r22), (1, .int l3_1), (4, .int r22), (0, .ref y0)]) hx hb dX11_turning_69 hl (k := 3) rfl (by rw [et26]; rfl) (by decide) rfl (fun ls hl => ?_)
            refine lv_goto (tgt := 6) hx hb dX11_turning_72 (by decide) ?_
            have rg27 := fb_rng t26
            exact ih1 l3_1 r22 t26 v18 f19 w20 g21 hIv18 hCf19 hRf19 hq0_v18 hq1_v18 hq2_v18 hq3_v18 hq4_v18 hq5_v18 hq8_v18 hq9_v18 hq10_v18 hq13_v18 hq14_v18 hq15_v18 hq17_v18 hq18_v18 hq24_v18 hq25_v18 hq35_v18 hq36_v18 hq38_v18 hq39_v18 ⟨show (0 : Int) ≤ t26.toInt by omega, show t26.toInt ≤ (2147483647 : Int) by omega⟩ hM_v18 hA_f19 (by show (2147483647 - t26.toInt).toNat < n1; omega) _ _ _ hP hD hS (lv_sub hl [0, 1, 2, 4] rfl)
          · skip
            have zc23 : ¬ (l2_1.toInt < r22.toInt) := by rw [fa_lt] at c23; exact c23
            have rg28 := fb_rng r22
            have rg29 := fb_rng l2_1
            refine lv_goto (tgt := 69) hx hb dX11_turning_61 (by decide) ?_
            obtain ⟨t30, et30⟩ : ∃ y : Int32, y = l3_1 + 1 := ⟨_, rfl⟩
            have zt30 : t30.toInt = l3_1.toInt + 1 := by rw [et30]; exact add_i rfl (by decide) (by omega) (by omega)
            refine lv_iinc (v := t30) (lv' := [(3, .int t30), (4, .int r22), (2, .int l2_1), (1, .int l1_1), (0, .ref y0)]) hx hb dX11_turning_69 hl (k := 1) rfl (by rw [et30]; rfl) (by decide) rfl (fun ls hl => ?_)
            refine lv_goto (tgt := 6) hx hb dX11_turning_72 (by decide) ?_
            have rg31 := fb_rng t30
            exact ih1 l1_1 l2_1 t30 v18 f19 w20 g21 hIv18 hCf19 hRf19 hq0_v18 hq1_v18 hq2_v18 hq3_v18 hq4_v18 hq5_v18 hq8_v18 hq9_v18 hq10_v18 hq13_v18 hq14_v18 hq15_v18 hq17_v18 hq18_v18 hq24_v18 hq25_v18 hq35_v18 hq36_v18 hq38_v18 hq39_v18 ⟨show (0 : Int) ≤ t30.toInt by omega, show t30.toInt ≤ (2147483647 : Int) by omega⟩ hM_v18 hA_f19 (by show (2147483647 - t30.toInt).toNat < n1; omega) _ _ _ hP hD hS (lv_sub hl [0, 2, 3, 4] rfl)
        · skip
          have zc14 : t13.toInt = 1 := by rw [fa_eq, show (1 : Int32).toInt = 1 from by decide] at c14; exact c14
          refine lv_goto (tgt := 69) hx hb dX11_turning_33 (by decide) ?_
          obtain ⟨t32, et32⟩ : ∃ y : Int32, y = l3_1 + 1 := ⟨_, rfl⟩
          have zt32 : t32.toInt = l3_1.toInt + 1 := by rw [et32]; exact add_i rfl (by decide) (by omega) (by omega)
          refine lv_iinc (v := t32) (lv' := [(3, .int t32), (2, .int l2_1), (1, .int l1_1), (0, .ref y0)]) hx hb dX11_turning_69 hl (k := 0) rfl (by rw [et32]; rfl) (by decide) rfl (fun ls hl => ?_)
          refine lv_goto (tgt := 6) hx hb dX11_turning_72 (by decide) ?_
          have rg33 := fb_rng t32
          exact ih1 l1_1 l2_1 t32 v7 f8 w9 g10 hIv7 hCf8 hRf8 hq0_v7 hq1_v7 hq2_v7 hq3_v7 hq4_v7 hq5_v7 hq8_v7 hq9_v7 hq10_v7 hq13_v7 hq14_v7 hq15_v7 hq17_v7 hq18_v7 hq24_v7 hq25_v7 hq35_v7 hq36_v7 hq38_v7 hq39_v7 ⟨show (0 : Int) ≤ t32.toInt by omega, show t32.toInt ≤ (2147483647 : Int) by omega⟩ hM_v7 hA_f8 (by show (2147483647 - t32.toInt).toNat < n1; omega) _ _ _ hP hD hS (lv_sub hl [0, 1, 2, 3] rfl)
  exact lp1 _ (-1) (-1) 0 v f w g hIv hCf hRf rfl rfl rfl rfl rfl rfl rfl rfl rfl rfl rfl rfl rfl rfl rfl rfl rfl rfl rfl rfl ⟨by decide, by decide⟩ hM_v hA_f (Nat.lt_succ_self _) _ _ _ hP hD hS (lv_sub hl [0, 1, 2, 3] rfl)
set_option maxHeartbeats 4000000 in
set_option maxRecDepth 100000 in
theorem sY_X11_menFor_1 (l : Launch) (dC : Nat → ClassId) (dI : Nat → Nat → Nat) (cy : Nat → ClassId) (y0 : Nat) (r : Nat → Nat) (p1 : Int32) (v : Nat → Int32) (f : Nat → Nat → Int32) (w : Int64) (g : Nat → Int64) (hIv : YI v) (hCf : YC f) (hRf : progOK (f 4) (f 5) (v 9).toInt.toNat) (hp1 : (0 : Int) ≤ p1.toInt ∧ p1.toInt ≤ 5) : ctI l (dC, dI) cy yX11_menFor cX11_menFor 4 .int 5 148 0 0 ((Nat → Int32) × (Nat → Nat → Int32) × (Int64) × (Nat → Int64)) [.ref y0, .int p1] (YW cy y0 r v f w g) (fun r u => KV [] u.1 v ∧ KF [7, 8] u.2.1 f ∧ YI u.1 ∧ YC u.2.1 ∧ progOK (u.2.1 4) (u.2.1 5) (u.1 9).toInt.toNat ∧ u.1 0 = v 0 ∧ u.1 1 = v 1 ∧ u.1 2 = v 2 ∧ u.1 3 = v 3 ∧ u.1 4 = v 4 ∧ u.1 5 = v 5 ∧ u.1 8 = v 8 ∧ u.1 9 = v 9 ∧ u.1 10 = v 10 ∧ u.1 13 = v 13 ∧ u.1 14 = v 14 ∧ u.1 15 = v 15 ∧ u.1 17 = v 17 ∧ u.1 18 = v 18 ∧ u.1 24 = v 24 ∧ u.1 25 = v 25 ∧ u.1 35 = v 35 ∧ u.1 36 = v 36 ∧ u.1 38 = v 38 ∧ u.1 39 = v 39) (fun u => YW cy y0 r u.1 u.2.1 u.2.2.1 u.2.2.2) := by
  refine ctI_of (by decide) (Nat.le_of_ble_eq_true rfl) (fun p e s m below meth c A ls Q hx hb hml hts hown hE hP hD hA hl ret => ?_)
  have hUv : (v 35).toInt + (v 36).toInt ≤ 40 := hIv.2
  have hM_v : KV [] v v := fun _ _ => rfl
  have hA_f : KF [7, 8] f f := fun _ _ => rfl
  have hown : s.vm.findClass RX11 = some m.cls := hown
  have hS : va_S A s.heap s.heap [] := va_S.rf
  have hl : lv_has ls 4 [(0, .ref y0), (1, .int p1)] := hl
  refine lv_iconst (v := 0) hx hb dX11_menFor_0 (by decide) ?_
  refine lv_istore_n (lv' := [(2, .int 0), (0, .ref y0), (1, .int p1)]) hx hb dX11_menFor_1 rfl hl (by decide) rfl (fun ls hl => ?_)
  refine lv_iconst (v := 0) hx hb dX11_menFor_2 (by decide) ?_
  refine lv_istore_n (lv' := [(3, .int 0), (2, .int 0), (0, .ref y0), (1, .int p1)]) hx hb dX11_menFor_3 rfl hl (by decide) rfl (fun ls hl => ?_)
  have lp1 : ∀ (n1 : Nat) (l2_1 : Int32) (l3_1 : Int32) (v1 : Nat → Int32) (f1 : Nat → Nat → Int32) (w1 : Int64) (g1 : Nat → Int64), YI v1 → YC f1 → progOK (f1 4) (f1 5) (v1 9).toInt.toNat → v1 0 = (v 0) → v1 1 = (v 1) → v1 2 = (v 2) → v1 3 = (v 3) → v1 4 = (v 4) → v1 5 = (v 5) → v1 8 = (v 8) → v1 9 = (v 9) → v1 10 = (v 10) → v1 13 = (v 13) → v1 14 = (v 14) → v1 15 = (v 15) → v1 17 = (v 17) → v1 18 = (v 18) → v1 24 = (v 24) → v1 25 = (v 25) → v1 35 = (v 35) → v1 36 = (v 36) → v1 38 = (v 38) → v1 39 = (v 39) → ((0 : Int) ≤ l3_1.toInt ∧ l3_1.toInt ≤ 2147483647) → KV [] v1 v → KF [7, 8] f1 f → (2147483647 - l3_1.toInt).toNat < n1 → ∀ (H : Heap) (locs : List Loc) (ls : Array Slot), va_P (dC, dI) vwCl (YW cy y0 r v1 f1 w1 g1) H → va_D A (YW cy y0 r v1 f1 w1 g1) → va_S A s.heap H locs → lv_has ls 4 [(3, .int l3_1), (2, .int l2_1), (0, .ref y0), (1, .int p1)] → W p l e { frames := 5, cells := 0, slots := 0, locals := 148 } s m ([.ref y0, .int p1] : List Value).toArray below meth c H locs 0 0 Q (F0 m 4 ls []) := by
    intro n1
    induction n1 with
    | zero => intro l2_1 l3_1 v1 f1 w1 g1 hIv1 hCf1 hRf1 hq0_v1 hq1_v1 hq2_v1 hq3_v1 hq4_v1 hq5_v1 hq8_v1 hq9_v1 hq10_v1 hq13_v1 hq14_v1 hq15_v1 hq17_v1 hq18_v1 hq24_v1 hq25_v1 hq35_v1 hq36_v1 hq38_v1 hq39_v1 hr3_1 hM_v1 hA_f1 hm; exact absurd hm (Nat.not_lt_zero _)
    | succ n1 ih1 =>
      intro l2_1 l3_1 v1 f1 w1 g1 hIv1 hCf1 hRf1 hq0_v1 hq1_v1 hq2_v1 hq3_v1 hq4_v1 hq5_v1 hq8_v1 hq9_v1 hq10_v1 hq13_v1 hq14_v1 hq15_v1 hq17_v1 hq18_v1 hq24_v1 hq25_v1 hq35_v1 hq36_v1 hq38_v1 hq39_v1 hr3_1 hM_v1 hA_f1 hm1 H locs ls hP hD hS hl
      have hUv1 : (v1 35).toInt + (v1 36).toInt ≤ 40 := hIv1.2
      have zq9_v1 := congrArg Int32.toInt hq9_v1
      refine lv_iload_n hx hb dX11_menFor_4 rfl (lv_at hl 0 rfl) ?_
      refine lv_aload_n hx hb dX11_menFor_5 rfl (lv_at hl 2 rfl) ?_
      refine va_get (D := (dC, dI)) (ci := 11) (v := .int (v1 24)) (C := RX11) (T := TX11) (N := 79) hx hb hts inB_11 hown hE.1 hP 0 rfl rfl 48 (by decide) (hts _ k_1368) (fun _ h9 => h9) rfl dX11_menFor_6 ?_
      refine tI (y := (v 24)) hq24_v1 ?_
      have b24_v : 0 ≤ (v 24).toInt ∧ (v 24).toInt ≤ 6 := YIb.b hIv.1 24 (by decide)
      refine lv_icmp_ge (tgt := 30) hx hb dX11_menFor_9 (by decide) (fun c2 => ?_) (fun c2 => ?_)
      · skip
        have zc2 : (v 24).toInt ≤ l3_1.toInt := by rw [fa_le] at c2; exact c2
        have rg3 := fb_rng l3_1
        have rg4 := fb_rng (v 24)
        refine lv_iload_n hx hb dX11_menFor_30 rfl (lv_at hl 1 rfl) ?_
        exact ret l2_1 (v1, f1, w1, g1) _ _ _ _ _ _ rfl ⟨hM_v1, hA_f1, hIv1, hCf1, hRf1, (show v1 0 = v 0 from hq0_v1), (show v1 1 = v 1 from hq1_v1), (show v1 2 = v 2 from hq2_v1), (show v1 3 = v 3 from hq3_v1), (show v1 4 = v 4 from hq4_v1), (show v1 5 = v 5 from hq5_v1), (show v1 8 = v 8 from hq8_v1), (show v1 9 = v 9 from hq9_v1), (show v1 10 = v 10 from hq10_v1), (show v1 13 = v 13 from hq13_v1), (show v1 14 = v 14 from hq14_v1), (show v1 15 = v 15 from hq15_v1), (show v1 17 = v 17 from hq17_v1), (show v1 18 = v 18 from hq18_v1), (show v1 24 = v 24 from hq24_v1), (show v1 25 = v 25 from hq25_v1), (show v1 35 = v 35 from hq35_v1), (show v1 36 = v 36 from hq36_v1), (show v1 38 = v 38 from hq38_v1), (show v1 39 = v 39 from hq39_v1)⟩ hP hD hS dX11_menFor_31 (Nat.le_refl _) (Nat.le_refl _)
      · skip
        have zc2 : ¬ ((v 24).toInt ≤ l3_1.toInt) := by rw [fa_le] at c2; exact c2
        have rg5 := fb_rng l3_1
        have rg6 := fb_rng (v 24)
        refine lv_iload_n hx hb dX11_menFor_12 rfl (lv_at hl 1 rfl) ?_
        refine lv_aload_n hx hb dX11_menFor_13 rfl (lv_at hl 2 rfl) ?_
        refine lv_iload_n hx hb dX11_menFor_14 rfl (lv_at hl 0 rfl) ?_
        refine lv_iload_n hx hb dX11_menFor_15 rfl (lv_at hl 3 rfl) ?_
        refine cbVi (n := 2) (rest := [.int l2_1]) hx hb hml hown hts hE hP hD hS hA (sY_X11_fits_1 l dC dI cy y0 r l3_1 p1 v1 f1 w1 g1 hIv1 hCf1 hRf1 ⟨show (0 : Int) ≤ l3_1.toInt by omega, show l3_1.toInt ≤ (5 : Int) by omega⟩ ⟨show (-1 : Int) ≤ p1.toInt by omega, show p1.toInt ≤ (5 : Int) by omega⟩) k_1747 k_1749 k_73 k_114 k_1750 (by decide +kernel) ⟨Nat.le_of_ble_eq_true rfl, Nat.le_of_ble_eq_true rfl⟩ 0 11 rfl rfl (rfl) hl.1 rfl (Nat.le_of_ble_eq_true rfl) dX11_menFor_16 (fun r7 u H locs hw hP hD hS => ?_)
        obtain ⟨v8, f9, w10, g11⟩ := u
        obtain ⟨kV_v8, kF_f9, hIv8, hCf9, hRf9, hk0_v8, hk1_v8, hk2_v8, hk3_v8, hk4_v8, hk5_v8, hk8_v8, hk9_v8, hk10_v8, hk13_v8, hk14_v8, hk15_v8, hk17_v8, hk18_v8, hk24_v8, hk25_v8, hk35_v8, hk36_v8, hk38_v8, hk39_v8, hw⟩ := hw
        have hM_v8 : KV [] v8 v := KV.tr kV_v8 hM_v1 rfl
        have hA_f9 : KF [7, 8] f9 f := KF.tr kF_f9 hA_f1 rfl
        have hP : va_P (dC, dI) vwCl (YW cy y0 r v8 f9 w10 g11) H := hP
        have hD : va_D A (YW cy y0 r v8 f9 w10 g11) := hD
        have hUv8 : (v8 35).toInt + (v8 36).toInt ≤ 40 := hIv8.2
        have hq0_v8 : v8 0 = (v 0) := hk0_v8.trans hq0_v1
        have hq1_v8 : v8 1 = (v 1) := hk1_v8.trans hq1_v1
        have hq2_v8 : v8 2 = (v 2) := hk2_v8.trans hq2_v1
        have hq3_v8 : v8 3 = (v 3) := hk3_v8.trans hq3_v1
        have hq4_v8 : v8 4 = (v 4) := hk4_v8.trans hq4_v1
        have hq5_v8 : v8 5 = (v 5) := hk5_v8.trans hq5_v1
        have hq8_v8 : v8 8 = (v 8) := hk8_v8.trans hq8_v1
        have hq9_v8 : v8 9 = (v 9) := hk9_v8.trans hq9_v1
        have zq9_v8 := congrArg Int32.toInt hq9_v8
        have hq10_v8 : v8 10 = (v 10) := hk10_v8.trans hq10_v1
        have hq13_v8 : v8 13 = (v 13) := hk13_v8.trans hq13_v1
        have hq14_v8 : v8 14 = (v 14) := hk14_v8.trans hq14_v1
        have hq15_v8 : v8 15 = (v 15) := hk15_v8.trans hq15_v1
        have hq17_v8 : v8 17 = (v 17) := hk17_v8.trans hq17_v1
        have hq18_v8 : v8 18 = (v 18) := hk18_v8.trans hq18_v1
        have hq24_v8 : v8 24 = (v 24) := hk24_v8.trans hq24_v1
        have hq25_v8 : v8 25 = (v 25) := hk25_v8.trans hq25_v1
        have hq35_v8 : v8 35 = (v 35) := hk35_v8.trans hq35_v1
        have hq36_v8 : v8 36 = (v 36) := hk36_v8.trans hq36_v1
        have hq38_v8 : v8 38 = (v 38) := hk38_v8.trans hq38_v1
        have hq39_v8 : v8 39 = (v 39) := hk39_v8.trans hq39_v1
        rcases hw with ⟨g12⟩ | ⟨g12⟩
        · skip
          subst g12
          have lt13 : (1 : Int32).toInt = 1 := by decide
          refine cbSi (n := 1) (rest := [.int l2_1]) hx hb hml hown hts hE hP hD hS hA (sY_X11_truth_1 l dC dI cy y0 r 1 v8 f9 w10 g11 hIv8 hCf9 hRf9 ) k_1761 k_1762 k_114 k_1763 (by decide +kernel) ⟨Nat.le_of_ble_eq_true rfl, Nat.le_of_ble_eq_true rfl⟩ (rfl) hl.1 rfl (Nat.le_of_ble_eq_true rfl) dX11_menFor_19 (fun r14 u H locs hw hP hD hS => ?_)
          refine lv_iadd hx hb dX11_menFor_22 ?_
          refine lv_topi (fun t15 et15 => ?_)
          refine lv_istore_n (lv' := [(2, .int t15), (3, .int l3_1), (0, .ref y0), (1, .int p1)]) hx hb dX11_menFor_23 rfl hl (by decide) rfl (fun ls hl => ?_)
          obtain ⟨t16, et16⟩ : ∃ y : Int32, y = l3_1 + 1 := ⟨_, rfl⟩
          have zt16 : t16.toInt = l3_1.toInt + 1 := by rw [et16]; exact add_i rfl (by decide) (by omega) (by omega)
          refine lv_iinc (v := t16) (lv' := [(3, .int t16), (2, .int t15), (0, .ref y0), (1, .int p1)]) hx hb dX11_menFor_24 hl (k := 1) rfl (by rw [et16]; rfl) (by decide) rfl (fun ls hl => ?_)
          refine lv_goto (tgt := 4) hx hb dX11_menFor_27 (by decide) ?_
          have rg17 := fb_rng t16
          exact ih1 t15 t16 v8 f9 w10 g11 hIv8 hCf9 hRf9 hq0_v8 hq1_v8 hq2_v8 hq3_v8 hq4_v8 hq5_v8 hq8_v8 hq9_v8 hq10_v8 hq13_v8 hq14_v8 hq15_v8 hq17_v8 hq18_v8 hq24_v8 hq25_v8 hq35_v8 hq36_v8 hq38_v8 hq39_v8 ⟨show (0 : Int) ≤ t16.toInt by omega, show t16.toInt ≤ (2147483647 : Int) by omega⟩ hM_v8 hA_f9 (by show (2147483647 - t16.toInt).toNat < n1; omega) _ _ _ hP hD hS (lv_sub hl [0, 1, 2, 3] rfl)
        · skip
          subst g12
          have lt18 : (0 : Int32).toInt = 0 := by decide
          refine cbSi (n := 1) (rest := [.int l2_1]) hx hb hml hown hts hE hP hD hS hA (sY_X11_truth_1 l dC dI cy y0 r 0 v8 f9 w10 g11 hIv8 hCf9 hRf9 ) k_1761 k_1762 k_114 k_1763 (by decide +kernel) ⟨Nat.le_of_ble_eq_true rfl, Nat.le_of_ble_eq_true rfl⟩ (rfl) hl.1 rfl (Nat.le_of_ble_eq_true rfl) dX11_menFor_19 (fun r19 u H locs hw hP hD hS => ?_)
          refine lv_iadd hx hb dX11_menFor_22 ?_
          refine lv_topi (fun t20 et20 => ?_)
          refine lv_istore_n (lv' := [(2, .int t20), (3, .int l3_1), (0, .ref y0), (1, .int p1)]) hx hb dX11_menFor_23 rfl hl (by decide) rfl (fun ls hl => ?_)
          obtain ⟨t21, et21⟩ : ∃ y : Int32, y = l3_1 + 1 := ⟨_, rfl⟩
          have zt21 : t21.toInt = l3_1.toInt + 1 := by rw [et21]; exact add_i rfl (by decide) (by omega) (by omega)
          refine lv_iinc (v := t21) (lv' := [(3, .int t21), (2, .int t20), (0, .ref y0), (1, .int p1)]) hx hb dX11_menFor_24 hl (k := 1) rfl (by rw [et21]; rfl) (by decide) rfl (fun ls hl => ?_)
          refine lv_goto (tgt := 4) hx hb dX11_menFor_27 (by decide) ?_
          have rg22 := fb_rng t21
          exact ih1 t20 t21 v8 f9 w10 g11 hIv8 hCf9 hRf9 hq0_v8 hq1_v8 hq2_v8 hq3_v8 hq4_v8 hq5_v8 hq8_v8 hq9_v8 hq10_v8 hq13_v8 hq14_v8 hq15_v8 hq17_v8 hq18_v8 hq24_v8 hq25_v8 hq35_v8 hq36_v8 hq38_v8 hq39_v8 ⟨show (0 : Int) ≤ t21.toInt by omega, show t21.toInt ≤ (2147483647 : Int) by omega⟩ hM_v8 hA_f9 (by show (2147483647 - t21.toInt).toNat < n1; omega) _ _ _ hP hD hS (lv_sub hl [0, 1, 2, 3] rfl)
  exact lp1 _ 0 0 v f w g hIv hCf hRf rfl rfl rfl rfl rfl rfl rfl rfl rfl rfl rfl rfl rfl rfl rfl rfl rfl rfl rfl rfl ⟨by decide, by decide⟩ hM_v hA_f (Nat.lt_succ_self _) _ _ _ hP hD hS (lv_sub hl [0, 1, 2, 3] rfl)
set_option maxHeartbeats 4000000 in
set_option maxRecDepth 100000 in
theorem sY_X11_rags_1 (l : Launch) (dC : Nat → ClassId) (dI : Nat → Nat → Nat) (cy : Nat → ClassId) (y0 : Nat) (r : Nat → Nat)  (v : Nat → Int32) (f : Nat → Nat → Int32) (w : Int64) (g : Nat → Int64) (hIv : YI v) (hCf : YC f) (hRf : progOK (f 4) (f 5) (v 9).toInt.toNat)  : ctI l (dC, dI) cy yX11_rags cX11_rags 3 .int 6 171 0 0 ((Nat → Int32) × (Nat → Nat → Int32) × (Int64) × (Nat → Int64)) [.ref y0] (YW cy y0 r v f w g) (fun r u => KV [] u.1 v ∧ KF [7, 8, 24] u.2.1 f ∧ YI u.1 ∧ YC u.2.1 ∧ progOK (u.2.1 4) (u.2.1 5) (u.1 9).toInt.toNat ∧ u.1 0 = v 0 ∧ u.1 1 = v 1 ∧ u.1 2 = v 2 ∧ u.1 3 = v 3 ∧ u.1 4 = v 4 ∧ u.1 5 = v 5 ∧ u.1 8 = v 8 ∧ u.1 9 = v 9 ∧ u.1 10 = v 10 ∧ u.1 13 = v 13 ∧ u.1 14 = v 14 ∧ u.1 15 = v 15 ∧ u.1 17 = v 17 ∧ u.1 18 = v 18 ∧ u.1 24 = v 24 ∧ u.1 25 = v 25 ∧ u.1 35 = v 35 ∧ u.1 36 = v 36 ∧ u.1 38 = v 38 ∧ u.1 39 = v 39) (fun u => YW cy y0 r u.1 u.2.1 u.2.2.1 u.2.2.2) := by
  refine ctI_of (by decide) (Nat.le_of_ble_eq_true rfl) (fun p e s m below meth c A ls Q hx hb hml hts hown hE hP hD hA hl ret => ?_)
  have hUv : (v 35).toInt + (v 36).toInt ≤ 40 := hIv.2
  have hM_v : KV [] v v := fun _ _ => rfl
  have hA_f : KF [7, 8, 24] f f := fun _ _ => rfl
  have hown : s.vm.findClass RX11 = some m.cls := hown
  have hS : va_S A s.heap s.heap [] := va_S.rf
  have hl : lv_has ls 3 [(0, .ref y0)] := hl
  refine lv_aload_n hx hb dX11_rags_0 rfl (lv_at hl 0 rfl) ?_
  refine cbVv (n := 0) (rest := []) hx hb hml hown hts hE hP hD hS hA (sY_X11_fill_1 l dC dI cy y0 r  v f w g hIv hCf hRf ) k_1739 k_1741 k_71 k_114 k_1742 (by decide +kernel) ⟨Nat.le_of_ble_eq_true rfl, Nat.le_of_ble_eq_true rfl⟩ 0 11 rfl rfl (rfl) hl.1 rfl (Nat.le_of_ble_eq_true rfl) dX11_rags_1 (fun u H locs hw hP hD hS => ?_)
  obtain ⟨v1, f2, w3, g4⟩ := u
  obtain ⟨kV_v1, kF_f2, hIv1, hCf2, hRf2, hk0_v1, hk1_v1, hk2_v1, hk3_v1, hk4_v1, hk5_v1, hk8_v1, hk9_v1, hk10_v1, hk13_v1, hk14_v1, hk15_v1, hk17_v1, hk18_v1, hk24_v1, hk25_v1, hk35_v1, hk36_v1, hk38_v1, hk39_v1⟩ := hw
  have hM_v1 : KV [] v1 v := KV.tr kV_v1 hM_v rfl
  have hA_f2 : KF [7, 8, 24] f2 f := KF.tr kF_f2 hA_f rfl
  have hP : va_P (dC, dI) vwCl (YW cy y0 r v1 f2 w3 g4) H := hP
  have hD : va_D A (YW cy y0 r v1 f2 w3 g4) := hD
  have hUv1 : (v1 35).toInt + (v1 36).toInt ≤ 40 := hIv1.2
  have hq0_v1 : v1 0 = (v 0) := hk0_v1
  have hq1_v1 : v1 1 = (v 1) := hk1_v1
  have hq2_v1 : v1 2 = (v 2) := hk2_v1
  have hq3_v1 : v1 3 = (v 3) := hk3_v1
  have hq4_v1 : v1 4 = (v 4) := hk4_v1
  have hq5_v1 : v1 5 = (v 5) := hk5_v1
  have hq8_v1 : v1 8 = (v 8) := hk8_v1
  have hq9_v1 : v1 9 = (v 9) := hk9_v1
  have zq9_v1 := congrArg Int32.toInt hq9_v1
  have hq10_v1 : v1 10 = (v 10) := hk10_v1
  have hq13_v1 : v1 13 = (v 13) := hk13_v1
  have hq14_v1 : v1 14 = (v 14) := hk14_v1
  have hq15_v1 : v1 15 = (v 15) := hk15_v1
  have hq17_v1 : v1 17 = (v 17) := hk17_v1
  have hq18_v1 : v1 18 = (v 18) := hk18_v1
  have hq24_v1 : v1 24 = (v 24) := hk24_v1
  have hq25_v1 : v1 25 = (v 25) := hk25_v1
  have hq35_v1 : v1 35 = (v 35) := hk35_v1
  have hq36_v1 : v1 36 = (v 36) := hk36_v1
  have hq38_v1 : v1 38 = (v 38) := hk38_v1
  have hq39_v1 : v1 39 = (v 39) := hk39_v1
  refine lv_iconst (v := 0) hx hb dX11_rags_4 (by decide) ?_
  refine lv_istore_n (lv' := [(1, .int 0), (0, .ref y0)]) hx hb dX11_rags_5 rfl hl (by decide) rfl (fun ls hl => ?_)
  refine lv_iconst (v := 0) hx hb dX11_rags_6 (by decide) ?_
  refine lv_istore_n (lv' := [(2, .int 0), (1, .int 0), (0, .ref y0)]) hx hb dX11_rags_7 rfl hl (by decide) rfl (fun ls hl => ?_)
  have lp5 : ∀ (n5 : Nat) (l1_5 : Int32) (l2_5 : Int32) (v5 : Nat → Int32) (f5 : Nat → Nat → Int32) (w5 : Int64) (g5 : Nat → Int64), YI v5 → YC f5 → progOK (f5 4) (f5 5) (v5 9).toInt.toNat → v5 0 = (v 0) → v5 1 = (v 1) → v5 2 = (v 2) → v5 3 = (v 3) → v5 4 = (v 4) → v5 5 = (v 5) → v5 8 = (v 8) → v5 9 = (v 9) → v5 10 = (v 10) → v5 13 = (v 13) → v5 14 = (v 14) → v5 15 = (v 15) → v5 17 = (v 17) → v5 18 = (v 18) → v5 24 = (v 24) → v5 25 = (v 25) → v5 35 = (v 35) → v5 36 = (v 36) → v5 38 = (v 38) → v5 39 = (v 39) → ((0 : Int) ≤ l2_5.toInt ∧ l2_5.toInt ≤ 2147483647) → KV [] v5 v → KF [7, 8, 24] f5 f → (2147483647 - l2_5.toInt).toNat < n5 → ∀ (H : Heap) (locs : List Loc) (ls : Array Slot), va_P (dC, dI) vwCl (YW cy y0 r v5 f5 w5 g5) H → va_D A (YW cy y0 r v5 f5 w5 g5) → va_S A s.heap H locs → lv_has ls 3 [(2, .int l2_5), (1, .int l1_5), (0, .ref y0)] → W p l e { frames := 6, cells := 0, slots := 0, locals := 171 } s m ([.ref y0] : List Value).toArray below meth c H locs 0 0 Q (F0 m 8 ls []) := by
    intro n5
    induction n5 with
    | zero => intro l1_5 l2_5 v5 f5 w5 g5 hIv5 hCf5 hRf5 hq0_v5 hq1_v5 hq2_v5 hq3_v5 hq4_v5 hq5_v5 hq8_v5 hq9_v5 hq10_v5 hq13_v5 hq14_v5 hq15_v5 hq17_v5 hq18_v5 hq24_v5 hq25_v5 hq35_v5 hq36_v5 hq38_v5 hq39_v5 hr2_5 hM_v5 hA_f5 hm; exact absurd hm (Nat.not_lt_zero _)
    | succ n5 ih5 =>
      intro l1_5 l2_5 v5 f5 w5 g5 hIv5 hCf5 hRf5 hq0_v5 hq1_v5 hq2_v5 hq3_v5 hq4_v5 hq5_v5 hq8_v5 hq9_v5 hq10_v5 hq13_v5 hq14_v5 hq15_v5 hq17_v5 hq18_v5 hq24_v5 hq25_v5 hq35_v5 hq36_v5 hq38_v5 hq39_v5 hr2_5 hM_v5 hA_f5 hm5 H locs ls hP hD hS hl
      have hUv5 : (v5 35).toInt + (v5 36).toInt ≤ 40 := hIv5.2
      have zq9_v5 := congrArg Int32.toInt hq9_v5
      refine lv_iload_n hx hb dX11_rags_8 rfl (lv_at hl 0 rfl) ?_
      refine lv_aload_n hx hb dX11_rags_9 rfl (lv_at hl 2 rfl) ?_
      refine va_get (D := (dC, dI)) (ci := 11) (v := .int (v5 25)) (C := RX11) (T := TX11) (N := 79) hx hb hts inB_11 hown hE.1 hP 0 rfl rfl 49 (by decide) (hts _ k_1369) (fun _ h9 => h9) rfl dX11_rags_10 ?_
      refine tI (y := (v 25)) hq25_v5 ?_
      have b25_v : 0 ≤ (v 25).toInt ∧ (v 25).toInt ≤ 6 := YIb.b hIv.1 25 (by decide)
      refine lv_icmp_ge (tgt := 43) hx hb dX11_rags_13 (by decide) (fun c6 => ?_) (fun c6 => ?_)
      · skip
        have zc6 : (v 25).toInt ≤ l2_5.toInt := by rw [fa_le] at c6; exact c6
        have rg7 := fb_rng l2_5
        have rg8 := fb_rng (v 25)
        refine lv_iload_n hx hb dX11_rags_43 rfl (lv_at hl 1 rfl) ?_
        exact ret l1_5 (v5, f5, w5, g5) _ _ _ _ _ _ rfl ⟨hM_v5, hA_f5, hIv5, hCf5, hRf5, hq0_v5, hq1_v5, hq2_v5, hq3_v5, hq4_v5, hq5_v5, hq8_v5, hq9_v5, hq10_v5, hq13_v5, hq14_v5, hq15_v5, hq17_v5, hq18_v5, hq24_v5, hq25_v5, hq35_v5, hq36_v5, hq38_v5, hq39_v5⟩ hP hD hS dX11_rags_44 (Nat.le_refl _) (Nat.le_refl _)
      · skip
        have zc6 : ¬ ((v 25).toInt ≤ l2_5.toInt) := by rw [fa_le] at c6; exact c6
        have rg9 := fb_rng l2_5
        have rg10 := fb_rng (v 25)
        refine lv_iload_n hx hb dX11_rags_16 rfl (lv_at hl 1 rfl) ?_
        refine lv_aload_n hx hb dX11_rags_17 rfl (lv_at hl 2 rfl) ?_
        refine lv_iload_n hx hb dX11_rags_18 rfl (lv_at hl 0 rfl) ?_
        refine cbVi (n := 1) (rest := [.int l1_5]) hx hb hml hown hts hE hP hD hS hA (sY_X11_menFor_1 l dC dI cy y0 r l2_5 v5 f5 w5 g5 hIv5 hCf5 hRf5 ⟨show (0 : Int) ≤ l2_5.toInt by omega, show l2_5.toInt ≤ (5 : Int) by omega⟩) k_1968 k_1970 k_95 k_114 k_1971 (by decide +kernel) ⟨Nat.le_of_ble_eq_true rfl, Nat.le_of_ble_eq_true rfl⟩ 0 11 rfl rfl (rfl) hl.1 rfl (Nat.le_of_ble_eq_true rfl) dX11_rags_19 (fun r11 u H locs hw hP hD hS => ?_)
        obtain ⟨v12, f13, w14, g15⟩ := u
        obtain ⟨kV_v12, kF_f13, hIv12, hCf13, hRf13, hk0_v12, hk1_v12, hk2_v12, hk3_v12, hk4_v12, hk5_v12, hk8_v12, hk9_v12, hk10_v12, hk13_v12, hk14_v12, hk15_v12, hk17_v12, hk18_v12, hk24_v12, hk25_v12, hk35_v12, hk36_v12, hk38_v12, hk39_v12⟩ := hw
        have hM_v12 : KV [] v12 v := KV.tr kV_v12 hM_v5 rfl
        have hA_f13 : KF [7, 8, 24] f13 f := KF.tr kF_f13 hA_f5 rfl
        have hP : va_P (dC, dI) vwCl (YW cy y0 r v12 f13 w14 g15) H := hP
        have hD : va_D A (YW cy y0 r v12 f13 w14 g15) := hD
        have hUv12 : (v12 35).toInt + (v12 36).toInt ≤ 40 := hIv12.2
        have hq0_v12 : v12 0 = (v 0) := hk0_v12.trans hq0_v5
        have hq1_v12 : v12 1 = (v 1) := hk1_v12.trans hq1_v5
        have hq2_v12 : v12 2 = (v 2) := hk2_v12.trans hq2_v5
        have hq3_v12 : v12 3 = (v 3) := hk3_v12.trans hq3_v5
        have hq4_v12 : v12 4 = (v 4) := hk4_v12.trans hq4_v5
        have hq5_v12 : v12 5 = (v 5) := hk5_v12.trans hq5_v5
        have hq8_v12 : v12 8 = (v 8) := hk8_v12.trans hq8_v5
        have hq9_v12 : v12 9 = (v 9) := hk9_v12.trans hq9_v5
        have zq9_v12 := congrArg Int32.toInt hq9_v12
        have hq10_v12 : v12 10 = (v 10) := hk10_v12.trans hq10_v5
        have hq13_v12 : v12 13 = (v 13) := hk13_v12.trans hq13_v5
        have hq14_v12 : v12 14 = (v 14) := hk14_v12.trans hq14_v5
        have hq15_v12 : v12 15 = (v 15) := hk15_v12.trans hq15_v5
        have hq17_v12 : v12 17 = (v 17) := hk17_v12.trans hq17_v5
        have hq18_v12 : v12 18 = (v 18) := hk18_v12.trans hq18_v5
        have hq24_v12 : v12 24 = (v 24) := hk24_v12.trans hq24_v5
        have hq25_v12 : v12 25 = (v 25) := hk25_v12.trans hq25_v5
        have hq35_v12 : v12 35 = (v 35) := hk35_v12.trans hq35_v5
        have hq36_v12 : v12 36 = (v 36) := hk36_v12.trans hq36_v5
        have hq38_v12 : v12 38 = (v 38) := hk38_v12.trans hq38_v5
        have hq39_v12 : v12 39 = (v 39) := hk39_v12.trans hq39_v5
        refine lv_if_ne (tgt := 29) hx hb dX11_rags_22 (by decide) (fun c16 => ?_) (fun c16 => ?_)
        · skip
          have zc16 : ¬ (r11.toInt = 0) := by rw [fa_eq, show (0 : Int32).toInt = 0 from by decide] at c16; exact c16
          refine lv_iconst (v := 0) hx hb dX11_rags_29 (by decide) ?_
          have lt17 : (0 : Int32).toInt = 0 := by decide
          refine cbSi (n := 1) (rest := [.int l1_5]) hx hb hml hown hts hE hP hD hS hA (sY_X11_truth_1 l dC dI cy y0 r 0 v12 f13 w14 g15 hIv12 hCf13 hRf13 ) k_1761 k_1762 k_114 k_1763 (by decide +kernel) ⟨Nat.le_of_ble_eq_true rfl, Nat.le_of_ble_eq_true rfl⟩ (rfl) hl.1 rfl (Nat.le_of_ble_eq_true rfl) dX11_rags_30 (fun r18 u H locs hw hP hD hS => ?_)
          refine lv_iload_n hx hb dX11_rags_33 rfl (lv_at hl 0 rfl) ?_
          refine lv_ishl hx hb dX11_rags_34 ?_
          refine lv_topi (fun t19 et19 => ?_)
          have zt19 : 0 ≤ t19.toInt ∧ t19.toInt ≤ 32 := by rw [et19]; exact shl01_rng (by omega) (by omega) (by omega) (by omega)
          refine lv_ior hx hb dX11_rags_35 ?_
          refine lv_topi (fun t20 et20 => ?_)
          refine lv_istore_n (lv' := [(1, .int t20), (2, .int l2_5), (0, .ref y0)]) hx hb dX11_rags_36 rfl hl (by decide) rfl (fun ls hl => ?_)
          obtain ⟨t21, et21⟩ : ∃ y : Int32, y = l2_5 + 1 := ⟨_, rfl⟩
          have zt21 : t21.toInt = l2_5.toInt + 1 := by rw [et21]; exact add_i rfl (by decide) (by omega) (by omega)
          refine lv_iinc (v := t21) (lv' := [(2, .int t21), (1, .int t20), (0, .ref y0)]) hx hb dX11_rags_37 hl (k := 1) rfl (by rw [et21]; rfl) (by decide) rfl (fun ls hl => ?_)
          refine lv_goto (tgt := 8) hx hb dX11_rags_40 (by decide) ?_
          have rg22 := fb_rng t21
          exact ih5 t20 t21 v12 f13 w14 g15 hIv12 hCf13 hRf13 hq0_v12 hq1_v12 hq2_v12 hq3_v12 hq4_v12 hq5_v12 hq8_v12 hq9_v12 hq10_v12 hq13_v12 hq14_v12 hq15_v12 hq17_v12 hq18_v12 hq24_v12 hq25_v12 hq35_v12 hq36_v12 hq38_v12 hq39_v12 ⟨show (0 : Int) ≤ t21.toInt by omega, show t21.toInt ≤ (2147483647 : Int) by omega⟩ hM_v12 hA_f13 (by show (2147483647 - t21.toInt).toNat < n5; omega) _ _ _ hP hD hS (lv_sub hl [0, 1, 2] rfl)
        · skip
          have zc16 : r11.toInt = 0 := by rw [fa_eq, show (0 : Int32).toInt = 0 from by decide] at c16; exact c16
          refine lv_iconst (v := 1) hx hb dX11_rags_25 (by decide) ?_
          refine lv_goto (tgt := 30) hx hb dX11_rags_26 (by decide) ?_
          have lt23 : (1 : Int32).toInt = 1 := by decide
          refine cbSi (n := 1) (rest := [.int l1_5]) hx hb hml hown hts hE hP hD hS hA (sY_X11_truth_1 l dC dI cy y0 r 1 v12 f13 w14 g15 hIv12 hCf13 hRf13 ) k_1761 k_1762 k_114 k_1763 (by decide +kernel) ⟨Nat.le_of_ble_eq_true rfl, Nat.le_of_ble_eq_true rfl⟩ (rfl) hl.1 rfl (Nat.le_of_ble_eq_true rfl) dX11_rags_30 (fun r24 u H locs hw hP hD hS => ?_)
          refine lv_iload_n hx hb dX11_rags_33 rfl (lv_at hl 0 rfl) ?_
          refine lv_ishl hx hb dX11_rags_34 ?_
          refine lv_topi (fun t25 et25 => ?_)
          have zt25 : 0 ≤ t25.toInt ∧ t25.toInt ≤ 32 := by rw [et25]; exact shl01_rng (by omega) (by omega) (by omega) (by omega)
          refine lv_ior hx hb dX11_rags_35 ?_
          refine lv_topi (fun t26 et26 => ?_)
          refine lv_istore_n (lv' := [(1, .int t26), (2, .int l2_5), (0, .ref y0)]) hx hb dX11_rags_36 rfl hl (by decide) rfl (fun ls hl => ?_)
          obtain ⟨t27, et27⟩ : ∃ y : Int32, y = l2_5 + 1 := ⟨_, rfl⟩
          have zt27 : t27.toInt = l2_5.toInt + 1 := by rw [et27]; exact add_i rfl (by decide) (by omega) (by omega)
          refine lv_iinc (v := t27) (lv' := [(2, .int t27), (1, .int t26), (0, .ref y0)]) hx hb dX11_rags_37 hl (k := 1) rfl (by rw [et27]; rfl) (by decide) rfl (fun ls hl => ?_)
          refine lv_goto (tgt := 8) hx hb dX11_rags_40 (by decide) ?_
          have rg28 := fb_rng t27
          exact ih5 t26 t27 v12 f13 w14 g15 hIv12 hCf13 hRf13 hq0_v12 hq1_v12 hq2_v12 hq3_v12 hq4_v12 hq5_v12 hq8_v12 hq9_v12 hq10_v12 hq13_v12 hq14_v12 hq15_v12 hq17_v12 hq18_v12 hq24_v12 hq25_v12 hq35_v12 hq36_v12 hq38_v12 hq39_v12 ⟨show (0 : Int) ≤ t27.toInt by omega, show t27.toInt ≤ (2147483647 : Int) by omega⟩ hM_v12 hA_f13 (by show (2147483647 - t27.toInt).toNat < n5; omega) _ _ _ hP hD hS (lv_sub hl [0, 1, 2] rfl)
  exact lp5 _ 0 0 v1 f2 w3 g4 hIv1 hCf2 hRf2 hq0_v1 hq1_v1 hq2_v1 hq3_v1 hq4_v1 hq5_v1 hq8_v1 hq9_v1 hq10_v1 hq13_v1 hq14_v1 hq15_v1 hq17_v1 hq18_v1 hq24_v1 hq25_v1 hq35_v1 hq36_v1 hq38_v1 hq39_v1 ⟨by decide, by decide⟩ hM_v1 hA_f2 (Nat.lt_succ_self _) _ _ _ hP hD hS (lv_sub hl [0, 1, 2] rfl)
set_option maxHeartbeats 4000000 in
set_option maxRecDepth 100000 in
theorem sY_X11_naked_1 (l : Launch) (dC : Nat → ClassId) (dI : Nat → Nat → Nat) (cy : Nat → ClassId) (y0 : Nat) (r : Nat → Nat)  (v : Nat → Int32) (f : Nat → Nat → Int32) (w : Int64) (g : Nat → Int64) (hIv : YI v) (hCf : YC f) (hRf : progOK (f 4) (f 5) (v 9).toInt.toNat)  : ctI l (dC, dI) cy yX11_naked cX11_naked 3 .int 6 171 0 0 ((Nat → Int32) × (Nat → Nat → Int32) × (Int64) × (Nat → Int64)) [.ref y0] (YW cy y0 r v f w g) (fun r u => KV [] u.1 v ∧ KF [7, 8, 24] u.2.1 f ∧ YI u.1 ∧ YC u.2.1 ∧ progOK (u.2.1 4) (u.2.1 5) (u.1 9).toInt.toNat ∧ u.1 0 = v 0 ∧ u.1 1 = v 1 ∧ u.1 2 = v 2 ∧ u.1 3 = v 3 ∧ u.1 4 = v 4 ∧ u.1 5 = v 5 ∧ u.1 8 = v 8 ∧ u.1 9 = v 9 ∧ u.1 10 = v 10 ∧ u.1 13 = v 13 ∧ u.1 14 = v 14 ∧ u.1 15 = v 15 ∧ u.1 17 = v 17 ∧ u.1 18 = v 18 ∧ u.1 24 = v 24 ∧ u.1 25 = v 25 ∧ u.1 35 = v 35 ∧ u.1 36 = v 36 ∧ u.1 38 = v 38 ∧ u.1 39 = v 39) (fun u => YW cy y0 r u.1 u.2.1 u.2.2.1 u.2.2.2) := by
  refine ctI_of (by decide) (Nat.le_of_ble_eq_true rfl) (fun p e s m below meth c A ls Q hx hb hml hts hown hE hP hD hA hl ret => ?_)
  have hUv : (v 35).toInt + (v 36).toInt ≤ 40 := hIv.2
  have hM_v : KV [] v v := fun _ _ => rfl
  have hA_f : KF [7, 8, 24] f f := fun _ _ => rfl
  have hown : s.vm.findClass RX11 = some m.cls := hown
  have hS : va_S A s.heap s.heap [] := va_S.rf
  have hl : lv_has ls 3 [(0, .ref y0)] := hl
  refine lv_aload_n hx hb dX11_naked_0 rfl (lv_at hl 0 rfl) ?_
  refine cbVv (n := 0) (rest := []) hx hb hml hown hts hE hP hD hS hA (sY_X11_fill_1 l dC dI cy y0 r  v f w g hIv hCf hRf ) k_1739 k_1741 k_71 k_114 k_1742 (by decide +kernel) ⟨Nat.le_of_ble_eq_true rfl, Nat.le_of_ble_eq_true rfl⟩ 0 11 rfl rfl (rfl) hl.1 rfl (Nat.le_of_ble_eq_true rfl) dX11_naked_1 (fun u H locs hw hP hD hS => ?_)
  obtain ⟨v1, f2, w3, g4⟩ := u
  obtain ⟨kV_v1, kF_f2, hIv1, hCf2, hRf2, hk0_v1, hk1_v1, hk2_v1, hk3_v1, hk4_v1, hk5_v1, hk8_v1, hk9_v1, hk10_v1, hk13_v1, hk14_v1, hk15_v1, hk17_v1, hk18_v1, hk24_v1, hk25_v1, hk35_v1, hk36_v1, hk38_v1, hk39_v1⟩ := hw
  have hM_v1 : KV [] v1 v := KV.tr kV_v1 hM_v rfl
  have hA_f2 : KF [7, 8, 24] f2 f := KF.tr kF_f2 hA_f rfl
  have hP : va_P (dC, dI) vwCl (YW cy y0 r v1 f2 w3 g4) H := hP
  have hD : va_D A (YW cy y0 r v1 f2 w3 g4) := hD
  have hUv1 : (v1 35).toInt + (v1 36).toInt ≤ 40 := hIv1.2
  have hq0_v1 : v1 0 = (v 0) := hk0_v1
  have hq1_v1 : v1 1 = (v 1) := hk1_v1
  have hq2_v1 : v1 2 = (v 2) := hk2_v1
  have hq3_v1 : v1 3 = (v 3) := hk3_v1
  have hq4_v1 : v1 4 = (v 4) := hk4_v1
  have hq5_v1 : v1 5 = (v 5) := hk5_v1
  have hq8_v1 : v1 8 = (v 8) := hk8_v1
  have hq9_v1 : v1 9 = (v 9) := hk9_v1
  have zq9_v1 := congrArg Int32.toInt hq9_v1
  have hq10_v1 : v1 10 = (v 10) := hk10_v1
  have hq13_v1 : v1 13 = (v 13) := hk13_v1
  have hq14_v1 : v1 14 = (v 14) := hk14_v1
  have hq15_v1 : v1 15 = (v 15) := hk15_v1
  have hq17_v1 : v1 17 = (v 17) := hk17_v1
  have hq18_v1 : v1 18 = (v 18) := hk18_v1
  have hq24_v1 : v1 24 = (v 24) := hk24_v1
  have hq25_v1 : v1 25 = (v 25) := hk25_v1
  have hq35_v1 : v1 35 = (v 35) := hk35_v1
  have hq36_v1 : v1 36 = (v 36) := hk36_v1
  have hq38_v1 : v1 38 = (v 38) := hk38_v1
  have hq39_v1 : v1 39 = (v 39) := hk39_v1
  refine lv_iconst (v := 0) hx hb dX11_naked_4 (by decide) ?_
  refine lv_istore_n (lv' := [(1, .int 0), (0, .ref y0)]) hx hb dX11_naked_5 rfl hl (by decide) rfl (fun ls hl => ?_)
  refine lv_iconst (v := 0) hx hb dX11_naked_6 (by decide) ?_
  refine lv_istore_n (lv' := [(2, .int 0), (1, .int 0), (0, .ref y0)]) hx hb dX11_naked_7 rfl hl (by decide) rfl (fun ls hl => ?_)
  have lp5 : ∀ (n5 : Nat) (l1_5 : Int32) (l2_5 : Int32) (v5 : Nat → Int32) (f5 : Nat → Nat → Int32) (w5 : Int64) (g5 : Nat → Int64), YI v5 → YC f5 → progOK (f5 4) (f5 5) (v5 9).toInt.toNat → v5 0 = (v 0) → v5 1 = (v 1) → v5 2 = (v 2) → v5 3 = (v 3) → v5 4 = (v 4) → v5 5 = (v 5) → v5 8 = (v 8) → v5 9 = (v 9) → v5 10 = (v 10) → v5 13 = (v 13) → v5 14 = (v 14) → v5 15 = (v 15) → v5 17 = (v 17) → v5 18 = (v 18) → v5 24 = (v 24) → v5 25 = (v 25) → v5 35 = (v 35) → v5 36 = (v 36) → v5 38 = (v 38) → v5 39 = (v 39) → ((0 : Int) ≤ l2_5.toInt ∧ l2_5.toInt ≤ 2147483647) → KV [] v5 v → KF [7, 8, 24] f5 f → (2147483647 - l2_5.toInt).toNat < n5 → ∀ (H : Heap) (locs : List Loc) (ls : Array Slot), va_P (dC, dI) vwCl (YW cy y0 r v5 f5 w5 g5) H → va_D A (YW cy y0 r v5 f5 w5 g5) → va_S A s.heap H locs → lv_has ls 3 [(2, .int l2_5), (1, .int l1_5), (0, .ref y0)] → W p l e { frames := 6, cells := 0, slots := 0, locals := 171 } s m ([.ref y0] : List Value).toArray below meth c H locs 0 0 Q (F0 m 8 ls []) := by
    intro n5
    induction n5 with
    | zero => intro l1_5 l2_5 v5 f5 w5 g5 hIv5 hCf5 hRf5 hq0_v5 hq1_v5 hq2_v5 hq3_v5 hq4_v5 hq5_v5 hq8_v5 hq9_v5 hq10_v5 hq13_v5 hq14_v5 hq15_v5 hq17_v5 hq18_v5 hq24_v5 hq25_v5 hq35_v5 hq36_v5 hq38_v5 hq39_v5 hr2_5 hM_v5 hA_f5 hm; exact absurd hm (Nat.not_lt_zero _)
    | succ n5 ih5 =>
      intro l1_5 l2_5 v5 f5 w5 g5 hIv5 hCf5 hRf5 hq0_v5 hq1_v5 hq2_v5 hq3_v5 hq4_v5 hq5_v5 hq8_v5 hq9_v5 hq10_v5 hq13_v5 hq14_v5 hq15_v5 hq17_v5 hq18_v5 hq24_v5 hq25_v5 hq35_v5 hq36_v5 hq38_v5 hq39_v5 hr2_5 hM_v5 hA_f5 hm5 H locs ls hP hD hS hl
      have hUv5 : (v5 35).toInt + (v5 36).toInt ≤ 40 := hIv5.2
      have zq9_v5 := congrArg Int32.toInt hq9_v5
      refine lv_iload_n hx hb dX11_naked_8 rfl (lv_at hl 0 rfl) ?_
      refine lv_aload_n hx hb dX11_naked_9 rfl (lv_at hl 2 rfl) ?_
      refine va_get (D := (dC, dI)) (ci := 11) (v := .int (v5 24)) (C := RX11) (T := TX11) (N := 79) hx hb hts inB_11 hown hE.1 hP 0 rfl rfl 48 (by decide) (hts _ k_1368) (fun _ h9 => h9) rfl dX11_naked_10 ?_
      refine tI (y := (v 24)) hq24_v5 ?_
      have b24_v : 0 ≤ (v 24).toInt ∧ (v 24).toInt ≤ 6 := YIb.b hIv.1 24 (by decide)
      refine lv_icmp_ge (tgt := 43) hx hb dX11_naked_13 (by decide) (fun c6 => ?_) (fun c6 => ?_)
      · skip
        have zc6 : (v 24).toInt ≤ l2_5.toInt := by rw [fa_le] at c6; exact c6
        have rg7 := fb_rng l2_5
        have rg8 := fb_rng (v 24)
        refine lv_iload_n hx hb dX11_naked_43 rfl (lv_at hl 1 rfl) ?_
        exact ret l1_5 (v5, f5, w5, g5) _ _ _ _ _ _ rfl ⟨hM_v5, hA_f5, hIv5, hCf5, hRf5, hq0_v5, hq1_v5, hq2_v5, hq3_v5, hq4_v5, hq5_v5, hq8_v5, hq9_v5, hq10_v5, hq13_v5, hq14_v5, hq15_v5, hq17_v5, hq18_v5, hq24_v5, hq25_v5, hq35_v5, hq36_v5, hq38_v5, hq39_v5⟩ hP hD hS dX11_naked_44 (Nat.le_refl _) (Nat.le_refl _)
      · skip
        have zc6 : ¬ ((v 24).toInt ≤ l2_5.toInt) := by rw [fa_le] at c6; exact c6
        have rg9 := fb_rng l2_5
        have rg10 := fb_rng (v 24)
        refine lv_iload_n hx hb dX11_naked_16 rfl (lv_at hl 1 rfl) ?_
        refine lv_aload_n hx hb dX11_naked_17 rfl (lv_at hl 2 rfl) ?_
        refine lv_iload_n hx hb dX11_naked_18 rfl (lv_at hl 0 rfl) ?_
        refine cbVi (n := 1) (rest := [.int l1_5]) hx hb hml hown hts hE hP hD hS hA (sY_X11_coatsFor_1 l dC dI cy y0 r l2_5 v5 f5 w5 g5 hIv5 hCf5 hRf5 ⟨show (0 : Int) ≤ l2_5.toInt by omega, show l2_5.toInt ≤ (5 : Int) by omega⟩) k_1743 k_1745 k_72 k_114 k_1746 (by decide +kernel) ⟨Nat.le_of_ble_eq_true rfl, Nat.le_of_ble_eq_true rfl⟩ 0 11 rfl rfl (rfl) hl.1 rfl (Nat.le_of_ble_eq_true rfl) dX11_naked_19 (fun r11 u H locs hw hP hD hS => ?_)
        obtain ⟨v12, f13, w14, g15⟩ := u
        obtain ⟨kV_v12, kF_f13, hIv12, hCf13, hRf13, hk0_v12, hk1_v12, hk2_v12, hk3_v12, hk4_v12, hk5_v12, hk8_v12, hk9_v12, hk10_v12, hk13_v12, hk14_v12, hk15_v12, hk17_v12, hk18_v12, hk24_v12, hk25_v12, hk35_v12, hk36_v12, hk38_v12, hk39_v12⟩ := hw
        have hM_v12 : KV [] v12 v := KV.tr kV_v12 hM_v5 rfl
        have hA_f13 : KF [7, 8, 24] f13 f := KF.tr kF_f13 hA_f5 rfl
        have hP : va_P (dC, dI) vwCl (YW cy y0 r v12 f13 w14 g15) H := hP
        have hD : va_D A (YW cy y0 r v12 f13 w14 g15) := hD
        have hUv12 : (v12 35).toInt + (v12 36).toInt ≤ 40 := hIv12.2
        have hq0_v12 : v12 0 = (v 0) := hk0_v12.trans hq0_v5
        have hq1_v12 : v12 1 = (v 1) := hk1_v12.trans hq1_v5
        have hq2_v12 : v12 2 = (v 2) := hk2_v12.trans hq2_v5
        have hq3_v12 : v12 3 = (v 3) := hk3_v12.trans hq3_v5
        have hq4_v12 : v12 4 = (v 4) := hk4_v12.trans hq4_v5
        have hq5_v12 : v12 5 = (v 5) := hk5_v12.trans hq5_v5
        have hq8_v12 : v12 8 = (v 8) := hk8_v12.trans hq8_v5
        have hq9_v12 : v12 9 = (v 9) := hk9_v12.trans hq9_v5
        have zq9_v12 := congrArg Int32.toInt hq9_v12
        have hq10_v12 : v12 10 = (v 10) := hk10_v12.trans hq10_v5
        have hq13_v12 : v12 13 = (v 13) := hk13_v12.trans hq13_v5
        have hq14_v12 : v12 14 = (v 14) := hk14_v12.trans hq14_v5
        have hq15_v12 : v12 15 = (v 15) := hk15_v12.trans hq15_v5
        have hq17_v12 : v12 17 = (v 17) := hk17_v12.trans hq17_v5
        have hq18_v12 : v12 18 = (v 18) := hk18_v12.trans hq18_v5
        have hq24_v12 : v12 24 = (v 24) := hk24_v12.trans hq24_v5
        have hq25_v12 : v12 25 = (v 25) := hk25_v12.trans hq25_v5
        have hq35_v12 : v12 35 = (v 35) := hk35_v12.trans hq35_v5
        have hq36_v12 : v12 36 = (v 36) := hk36_v12.trans hq36_v5
        have hq38_v12 : v12 38 = (v 38) := hk38_v12.trans hq38_v5
        have hq39_v12 : v12 39 = (v 39) := hk39_v12.trans hq39_v5
        refine lv_if_ne (tgt := 29) hx hb dX11_naked_22 (by decide) (fun c16 => ?_) (fun c16 => ?_)
        · skip
          have zc16 : ¬ (r11.toInt = 0) := by rw [fa_eq, show (0 : Int32).toInt = 0 from by decide] at c16; exact c16
          refine lv_iconst (v := 0) hx hb dX11_naked_29 (by decide) ?_
          have lt17 : (0 : Int32).toInt = 0 := by decide
          refine cbSi (n := 1) (rest := [.int l1_5]) hx hb hml hown hts hE hP hD hS hA (sY_X11_truth_1 l dC dI cy y0 r 0 v12 f13 w14 g15 hIv12 hCf13 hRf13 ) k_1761 k_1762 k_114 k_1763 (by decide +kernel) ⟨Nat.le_of_ble_eq_true rfl, Nat.le_of_ble_eq_true rfl⟩ (rfl) hl.1 rfl (Nat.le_of_ble_eq_true rfl) dX11_naked_30 (fun r18 u H locs hw hP hD hS => ?_)
          refine lv_iload_n hx hb dX11_naked_33 rfl (lv_at hl 0 rfl) ?_
          refine lv_ishl hx hb dX11_naked_34 ?_
          refine lv_topi (fun t19 et19 => ?_)
          have zt19 : 0 ≤ t19.toInt ∧ t19.toInt ≤ 32 := by rw [et19]; exact shl01_rng (by omega) (by omega) (by omega) (by omega)
          refine lv_ior hx hb dX11_naked_35 ?_
          refine lv_topi (fun t20 et20 => ?_)
          refine lv_istore_n (lv' := [(1, .int t20), (2, .int l2_5), (0, .ref y0)]) hx hb dX11_naked_36 rfl hl (by decide) rfl (fun ls hl => ?_)
          obtain ⟨t21, et21⟩ : ∃ y : Int32, y = l2_5 + 1 := ⟨_, rfl⟩
          have zt21 : t21.toInt = l2_5.toInt + 1 := by rw [et21]; exact add_i rfl (by decide) (by omega) (by omega)
          refine lv_iinc (v := t21) (lv' := [(2, .int t21), (1, .int t20), (0, .ref y0)]) hx hb dX11_naked_37 hl (k := 1) rfl (by rw [et21]; rfl) (by decide) rfl (fun ls hl => ?_)
          refine lv_goto (tgt := 8) hx hb dX11_naked_40 (by decide) ?_
          have rg22 := fb_rng t21
          exact ih5 t20 t21 v12 f13 w14 g15 hIv12 hCf13 hRf13 hq0_v12 hq1_v12 hq2_v12 hq3_v12 hq4_v12 hq5_v12 hq8_v12 hq9_v12 hq10_v12 hq13_v12 hq14_v12 hq15_v12 hq17_v12 hq18_v12 hq24_v12 hq25_v12 hq35_v12 hq36_v12 hq38_v12 hq39_v12 ⟨show (0 : Int) ≤ t21.toInt by omega, show t21.toInt ≤ (2147483647 : Int) by omega⟩ hM_v12 hA_f13 (by show (2147483647 - t21.toInt).toNat < n5; omega) _ _ _ hP hD hS (lv_sub hl [0, 1, 2] rfl)
        · skip
          have zc16 : r11.toInt = 0 := by rw [fa_eq, show (0 : Int32).toInt = 0 from by decide] at c16; exact c16
          refine lv_iconst (v := 1) hx hb dX11_naked_25 (by decide) ?_
          refine lv_goto (tgt := 30) hx hb dX11_naked_26 (by decide) ?_
          have lt23 : (1 : Int32).toInt = 1 := by decide
          refine cbSi (n := 1) (rest := [.int l1_5]) hx hb hml hown hts hE hP hD hS hA (sY_X11_truth_1 l dC dI cy y0 r 1 v12 f13 w14 g15 hIv12 hCf13 hRf13 ) k_1761 k_1762 k_114 k_1763 (by decide +kernel) ⟨Nat.le_of_ble_eq_true rfl, Nat.le_of_ble_eq_true rfl⟩ (rfl) hl.1 rfl (Nat.le_of_ble_eq_true rfl) dX11_naked_30 (fun r24 u H locs hw hP hD hS => ?_)
          refine lv_iload_n hx hb dX11_naked_33 rfl (lv_at hl 0 rfl) ?_
          refine lv_ishl hx hb dX11_naked_34 ?_
          refine lv_topi (fun t25 et25 => ?_)
          have zt25 : 0 ≤ t25.toInt ∧ t25.toInt ≤ 32 := by rw [et25]; exact shl01_rng (by omega) (by omega) (by omega) (by omega)
          refine lv_ior hx hb dX11_naked_35 ?_
          refine lv_topi (fun t26 et26 => ?_)
          refine lv_istore_n (lv' := [(1, .int t26), (2, .int l2_5), (0, .ref y0)]) hx hb dX11_naked_36 rfl hl (by decide) rfl (fun ls hl => ?_)
          obtain ⟨t27, et27⟩ : ∃ y : Int32, y = l2_5 + 1 := ⟨_, rfl⟩
          have zt27 : t27.toInt = l2_5.toInt + 1 := by rw [et27]; exact add_i rfl (by decide) (by omega) (by omega)
          refine lv_iinc (v := t27) (lv' := [(2, .int t27), (1, .int t26), (0, .ref y0)]) hx hb dX11_naked_37 hl (k := 1) rfl (by rw [et27]; rfl) (by decide) rfl (fun ls hl => ?_)
          refine lv_goto (tgt := 8) hx hb dX11_naked_40 (by decide) ?_
          have rg28 := fb_rng t27
          exact ih5 t26 t27 v12 f13 w14 g15 hIv12 hCf13 hRf13 hq0_v12 hq1_v12 hq2_v12 hq3_v12 hq4_v12 hq5_v12 hq8_v12 hq9_v12 hq10_v12 hq13_v12 hq14_v12 hq15_v12 hq17_v12 hq18_v12 hq24_v12 hq25_v12 hq35_v12 hq36_v12 hq38_v12 hq39_v12 ⟨show (0 : Int) ≤ t27.toInt by omega, show t27.toInt ≤ (2147483647 : Int) by omega⟩ hM_v12 hA_f13 (by show (2147483647 - t27.toInt).toNat < n5; omega) _ _ _ hP hD hS (lv_sub hl [0, 1, 2] rfl)
  exact lp5 _ 0 0 v1 f2 w3 g4 hIv1 hCf2 hRf2 hq0_v1 hq1_v1 hq2_v1 hq3_v1 hq4_v1 hq5_v1 hq8_v1 hq9_v1 hq10_v1 hq13_v1 hq14_v1 hq15_v1 hq17_v1 hq18_v1 hq24_v1 hq25_v1 hq35_v1 hq36_v1 hq38_v1 hq39_v1 ⟨by decide, by decide⟩ hM_v1 hA_f2 (Nat.lt_succ_self _) _ _ _ hP hD hS (lv_sub hl [0, 1, 2] rfl)
set_option maxHeartbeats 4000000 in
set_option maxRecDepth 100000 in
theorem sY_X11_popular_1 (l : Launch) (dC : Nat → ClassId) (dI : Nat → Nat → Nat) (cy : Nat → ClassId) (y0 : Nat) (r : Nat → Nat) (p1 : Int32) (v : Nat → Int32) (f : Nat → Nat → Int32) (w : Int64) (g : Nat → Int64) (hIv : YI v) (hCf : YC f) (hRf : progOK (f 4) (f 5) (v 9).toInt.toNat)  : ctI l (dC, dI) cy yX11_popular cX11_popular 2 .int 6 171 0 0 ((Nat → Int32) × (Nat → Nat → Int32) × (Int64) × (Nat → Int64)) [.ref y0, .int p1] (YW cy y0 r v f w g) (fun r u => KV [] u.1 v ∧ KF [7, 8, 24] u.2.1 f ∧ YI u.1 ∧ YC u.2.1 ∧ progOK (u.2.1 4) (u.2.1 5) (u.1 9).toInt.toNat ∧ u.1 0 = v 0 ∧ u.1 1 = v 1 ∧ u.1 2 = v 2 ∧ u.1 3 = v 3 ∧ u.1 4 = v 4 ∧ u.1 5 = v 5 ∧ u.1 8 = v 8 ∧ u.1 9 = v 9 ∧ u.1 10 = v 10 ∧ u.1 13 = v 13 ∧ u.1 14 = v 14 ∧ u.1 15 = v 15 ∧ u.1 17 = v 17 ∧ u.1 18 = v 18 ∧ u.1 24 = v 24 ∧ u.1 25 = v 25 ∧ u.1 35 = v 35 ∧ u.1 36 = v 36 ∧ u.1 38 = v 38 ∧ u.1 39 = v 39) (fun u => YW cy y0 r u.1 u.2.1 u.2.2.1 u.2.2.2) := by
  refine ctI_of (by decide) (Nat.le_of_ble_eq_true rfl) (fun p e s m below meth c A ls Q hx hb hml hts hown hE hP hD hA hl ret => ?_)
  have hUv : (v 35).toInt + (v 36).toInt ≤ 40 := hIv.2
  have hM_v : KV [] v v := fun _ _ => rfl
  have hA_f : KF [7, 8, 24] f f := fun _ _ => rfl
  have hown : s.vm.findClass RX11 = some m.cls := hown
  have hS : va_S A s.heap s.heap [] := va_S.rf
  have hl : lv_has ls 2 [(0, .ref y0), (1, .int p1)] := hl
  refine lv_aload_n hx hb dX11_popular_0 rfl (lv_at hl 0 rfl) ?_
  refine cbVv (n := 0) (rest := []) hx hb hml hown hts hE hP hD hS hA (sY_X11_fill_1 l dC dI cy y0 r  v f w g hIv hCf hRf ) k_1739 k_1741 k_71 k_114 k_1742 (by decide +kernel) ⟨Nat.le_of_ble_eq_true rfl, Nat.le_of_ble_eq_true rfl⟩ 0 11 rfl rfl (rfl) hl.1 rfl (Nat.le_of_ble_eq_true rfl) dX11_popular_1 (fun u H locs hw hP hD hS => ?_)
  obtain ⟨v1, f2, w3, g4⟩ := u
  obtain ⟨kV_v1, kF_f2, hIv1, hCf2, hRf2, hk0_v1, hk1_v1, hk2_v1, hk3_v1, hk4_v1, hk5_v1, hk8_v1, hk9_v1, hk10_v1, hk13_v1, hk14_v1, hk15_v1, hk17_v1, hk18_v1, hk24_v1, hk25_v1, hk35_v1, hk36_v1, hk38_v1, hk39_v1⟩ := hw
  have hM_v1 : KV [] v1 v := KV.tr kV_v1 hM_v rfl
  have hA_f2 : KF [7, 8, 24] f2 f := KF.tr kF_f2 hA_f rfl
  have hP : va_P (dC, dI) vwCl (YW cy y0 r v1 f2 w3 g4) H := hP
  have hD : va_D A (YW cy y0 r v1 f2 w3 g4) := hD
  have hUv1 : (v1 35).toInt + (v1 36).toInt ≤ 40 := hIv1.2
  have hq9_v1 : v1 9 = (v 9) := hk9_v1
  have zq9_v1 := congrArg Int32.toInt hq9_v1
  refine lv_aload_n hx hb dX11_popular_4 rfl (lv_at hl 0 rfl) ?_
  refine lv_iload_n hx hb dX11_popular_5 rfl (lv_at hl 1 rfl) ?_
  refine cbVi (n := 1) (rest := []) hx hb hml hown hts hE hP hD hS hA (sY_X11_isCoat_1 l dC dI cy y0 r p1 v1 f2 w3 g4 hIv1 hCf2 hRf2 ) k_1771 k_1773 k_75 k_114 k_1774 (by decide +kernel) ⟨Nat.le_of_ble_eq_true rfl, Nat.le_of_ble_eq_true rfl⟩ 0 11 rfl rfl (rfl) hl.1 rfl (Nat.le_of_ble_eq_true rfl) dX11_popular_6 (fun r5 u H locs hw hP hD hS => ?_)
  rcases hw with ⟨g6, g6_0, g6_1, g6_2⟩ | ⟨g6⟩
  · skip
    subst g6
    refine lv_if_eq (tgt := 20) hx hb dX11_popular_9 (by decide) (fun c0 => absurd c0 (by decide)) (fun _ => ?_)
    refine lv_aload_n hx hb dX11_popular_12 rfl (lv_at hl 0 rfl) ?_
    refine lv_iload_n hx hb dX11_popular_13 rfl (lv_at hl 1 rfl) ?_
    refine cbVi (n := 1) (rest := []) hx hb hml hown hts hE hP hD hS hA (sY_X11_menFor_1 l dC dI cy y0 r p1 v1 f2 w3 g4 hIv1 hCf2 hRf2 ⟨show (0 : Int) ≤ p1.toInt by omega, show p1.toInt ≤ (5 : Int) by omega⟩) k_1968 k_1970 k_95 k_114 k_1971 (by decide +kernel) ⟨Nat.le_of_ble_eq_true rfl, Nat.le_of_ble_eq_true rfl⟩ 0 11 rfl rfl (rfl) hl.1 rfl (Nat.le_of_ble_eq_true rfl) dX11_popular_14 (fun r7 u H locs hw hP hD hS => ?_)
    obtain ⟨v8, f9, w10, g11⟩ := u
    obtain ⟨kV_v8, kF_f9, hIv8, hCf9, hRf9, hk0_v8, hk1_v8, hk2_v8, hk3_v8, hk4_v8, hk5_v8, hk8_v8, hk9_v8, hk10_v8, hk13_v8, hk14_v8, hk15_v8, hk17_v8, hk18_v8, hk24_v8, hk25_v8, hk35_v8, hk36_v8, hk38_v8, hk39_v8⟩ := hw
    have hM_v8 : KV [] v8 v := KV.tr kV_v8 hM_v1 rfl
    have hA_f9 : KF [7, 8, 24] f9 f := KF.tr kF_f9 hA_f2 rfl
    have hP : va_P (dC, dI) vwCl (YW cy y0 r v8 f9 w10 g11) H := hP
    have hD : va_D A (YW cy y0 r v8 f9 w10 g11) := hD
    have hUv8 : (v8 35).toInt + (v8 36).toInt ≤ 40 := hIv8.2
    have hq9_v8 : v8 9 = (v 9) := hk9_v8.trans hq9_v1
    have zq9_v8 := congrArg Int32.toInt hq9_v8
    refine lv_goto (tgt := 21) hx hb dX11_popular_17 (by decide) ?_
    exact ret r7 (v8, f9, w10, g11) _ _ _ _ _ _ rfl ⟨hM_v8, hA_f9, hIv8, hCf9, hRf9, (hk0_v8.trans hk0_v1), (hk1_v8.trans hk1_v1), (hk2_v8.trans hk2_v1), (hk3_v8.trans hk3_v1), (hk4_v8.trans hk4_v1), (hk5_v8.trans hk5_v1), (hk8_v8.trans hk8_v1), (hk9_v8.trans hk9_v1), (hk10_v8.trans hk10_v1), (hk13_v8.trans hk13_v1), (hk14_v8.trans hk14_v1), (hk15_v8.trans hk15_v1), (hk17_v8.trans hk17_v1), (hk18_v8.trans hk18_v1), (hk24_v8.trans hk24_v1), (hk25_v8.trans hk25_v1), (hk35_v8.trans hk35_v1), (hk36_v8.trans hk36_v1), (hk38_v8.trans hk38_v1), (hk39_v8.trans hk39_v1)⟩ hP hD hS dX11_popular_21 (Nat.le_refl _) (Nat.le_refl _)
  · skip
    subst g6
    refine lv_if_eq (tgt := 20) hx hb dX11_popular_9 (by decide) (fun _ => ?_) (fun c0 => absurd (by decide) c0)
    refine lv_iconst (v := (-1)) hx hb dX11_popular_20 (by decide) ?_
    exact ret (-1) (v1, f2, w3, g4) _ _ _ _ _ _ rfl ⟨hM_v1, hA_f2, hIv1, hCf2, hRf2, hk0_v1, hk1_v1, hk2_v1, hk3_v1, hk4_v1, hk5_v1, hk8_v1, hk9_v1, hk10_v1, hk13_v1, hk14_v1, hk15_v1, hk17_v1, hk18_v1, hk24_v1, hk25_v1, hk35_v1, hk36_v1, hk38_v1, hk39_v1⟩ hP hD hS dX11_popular_21 (Nat.le_refl _) (Nat.le_refl _)
set_option maxHeartbeats 4000000 in
set_option maxRecDepth 100000 in
theorem sY_X11_ownIll_1 (l : Launch) (dC : Nat → ClassId) (dI : Nat → Nat → Nat) (cy : Nat → ClassId) (y0 : Nat) (r : Nat → Nat) (p1 : Int32) (v : Nat → Int32) (f : Nat → Nat → Int32) (w : Int64) (g : Nat → Int64) (hIv : YI v) (hCf : YC f) (hRf : progOK (f 4) (f 5) (v 9).toInt.toNat) (hp1 : (0 : Int) ≤ p1.toInt ∧ p1.toInt ≤ 5) : ctI l (dC, dI) cy yX11_ownIll cX11_ownIll 2 .int 4 126 0 0 ((Nat → Int32) × (Nat → Nat → Int32) × (Int64) × (Nat → Int64)) [.ref y0, .int p1] (YW cy y0 r v f w g) (fun r u => KV [] u.1 v ∧ KF [7, 8] u.2.1 f ∧ YI u.1 ∧ YC u.2.1 ∧ progOK (u.2.1 4) (u.2.1 5) (u.1 9).toInt.toNat ∧ u.1 0 = v 0 ∧ u.1 1 = v 1 ∧ u.1 2 = v 2 ∧ u.1 3 = v 3 ∧ u.1 4 = v 4 ∧ u.1 5 = v 5 ∧ u.1 8 = v 8 ∧ u.1 9 = v 9 ∧ u.1 10 = v 10 ∧ u.1 13 = v 13 ∧ u.1 14 = v 14 ∧ u.1 15 = v 15 ∧ u.1 17 = v 17 ∧ u.1 18 = v 18 ∧ u.1 24 = v 24 ∧ u.1 25 = v 25 ∧ u.1 35 = v 35 ∧ u.1 36 = v 36 ∧ u.1 38 = v 38 ∧ u.1 39 = v 39) (fun u => YW cy y0 r u.1 u.2.1 u.2.2.1 u.2.2.2) := by
  refine ctI_of (by decide) (Nat.le_of_ble_eq_true rfl) (fun p e s m below meth c A ls Q hx hb hml hts hown hE hP hD hA hl ret => ?_)
  have hUv : (v 35).toInt + (v 36).toInt ≤ 40 := hIv.2
  have hM_v : KV [] v v := fun _ _ => rfl
  have hA_f : KF [7, 8] f f := fun _ _ => rfl
  have hown : s.vm.findClass RX11 = some m.cls := hown
  have hS : va_S A s.heap s.heap [] := va_S.rf
  have hl : lv_has ls 2 [(0, .ref y0), (1, .int p1)] := hl
  refine lv_aload_n hx hb dX11_ownIll_0 rfl (lv_at hl 0 rfl) ?_
  refine va_get (D := (dC, dI)) (ci := 11) (v := .ref (r 60)) (C := RX11) (T := TX11) (N := 79) hx hb hts inB_11 hown hE.1 hP 0 rfl rfl 60 (by decide) (hts _ k_1380) (fun _ h9 => h9) rfl dX11_ownIll_1 ?_
  refine lv_bipush (v := 6) hx hb dX11_ownIll_4 (by decide) ?_
  refine lv_iload_n hx hb dX11_ownIll_6 rfl (lv_at hl 1 rfl) ?_
  refine lv_iadd hx hb dX11_ownIll_7 ?_
  refine lv_topi (fun t1 et1 => ?_)
  have rg2 := fb_rng p1
  have zt1 : t1.toInt = 6 + p1.toInt := by rw [et1]; exact add_i (by decide) rfl (by omega) (by omega)
  refine ldI hx hb hE hP 25 rfl (vp_in_iff.mpr ⟨by omega, by omega⟩) rfl rfl dX11_ownIll_8 ?_
  refine lv_topi (fun t3 et3 => ?_)
  have zt3 : t1.toInt.toNat % 39 < 6 ∨ 12 ≤ t1.toInt.toNat % 39 ∨ (-1 ≤ t3.toInt ∧ t3.toInt ≤ 5) := by rw [et3]; exact wear_ld hCf.2.1 (show t1.toInt.toNat < 39 by omega)
  refine lv_if_ge (tgt := 16) hx hb dX11_ownIll_9 (by decide) (fun c4 => ?_) (fun c4 => ?_)
  · skip
    have zc4 : 0 ≤ t3.toInt := by rw [fa_le, show (0 : Int32).toInt = 0 from by decide] at c4; exact c4
    refine lv_aload_n hx hb dX11_ownIll_16 rfl (lv_at hl 0 rfl) ?_
    refine lv_iload_n hx hb dX11_ownIll_17 rfl (lv_at hl 1 rfl) ?_
    refine lv_aload_n hx hb dX11_ownIll_18 rfl (lv_at hl 0 rfl) ?_
    refine va_get (D := (dC, dI)) (ci := 11) (v := .ref (r 60)) (C := RX11) (T := TX11) (N := 79) hx hb hts inB_11 hown hE.1 hP 0 rfl rfl 60 (by decide) (hts _ k_1380) (fun _ h9 => h9) rfl dX11_ownIll_19 ?_
    refine lv_bipush (v := 6) hx hb dX11_ownIll_22 (by decide) ?_
    refine lv_iload_n hx hb dX11_ownIll_24 rfl (lv_at hl 1 rfl) ?_
    refine lv_iadd hx hb dX11_ownIll_25 ?_
    refine tI (y := t1) et1.symm ?_
    refine ldI hx hb hE hP 25 rfl (vp_in_iff.mpr ⟨by omega, by omega⟩) rfl rfl dX11_ownIll_26 ?_
    refine tI (y := t3) et3.symm ?_
    refine cbVi (n := 2) (rest := []) hx hb hml hown hts hE hP hD hS hA (sY_X11_misfitOf_1 l dC dI cy y0 r p1 t3 v f w g hIv hCf hRf ⟨show (0 : Int) ≤ p1.toInt by omega, show p1.toInt ≤ (5 : Int) by omega⟩ ⟨show (0 : Int) ≤ t3.toInt by omega, show t3.toInt ≤ (5 : Int) by omega⟩) k_1751 k_1753 k_74 k_114 k_1754 (by decide +kernel) ⟨Nat.le_of_ble_eq_true rfl, Nat.le_of_ble_eq_true rfl⟩ 0 11 rfl rfl (rfl) hl.1 rfl (Nat.le_of_ble_eq_true rfl) dX11_ownIll_27 (fun r5 u H locs hw hP hD hS => ?_)
    obtain ⟨v6, f7, w8, g9⟩ := u
    obtain ⟨kV_v6, kF_f7, hIv6, hCf7, hRf7, hk0_v6, hk1_v6, hk2_v6, hk3_v6, hk4_v6, hk5_v6, hk8_v6, hk9_v6, hk10_v6, hk13_v6, hk14_v6, hk15_v6, hk17_v6, hk18_v6, hk24_v6, hk25_v6, hk35_v6, hk36_v6, hk38_v6, hk39_v6⟩ := hw
    have hM_v6 : KV [] v6 v := KV.tr kV_v6 hM_v rfl
    have hA_f7 : KF [7, 8] f7 f := KF.tr kF_f7 hA_f rfl
    have hP : va_P (dC, dI) vwCl (YW cy y0 r v6 f7 w8 g9) H := hP
    have hD : va_D A (YW cy y0 r v6 f7 w8 g9) := hD
    have hUv6 : (v6 35).toInt + (v6 36).toInt ≤ 40 := hIv6.2
    have hq9_v6 : v6 9 = (v 9) := hk9_v6
    have zq9_v6 := congrArg Int32.toInt hq9_v6
    exact ret r5 (v6, f7, w8, g9) _ _ _ _ _ _ rfl ⟨hM_v6, hA_f7, hIv6, hCf7, hRf7, hk0_v6, hk1_v6, hk2_v6, hk3_v6, hk4_v6, hk5_v6, hk8_v6, hk9_v6, hk10_v6, hk13_v6, hk14_v6, hk15_v6, hk17_v6, hk18_v6, hk24_v6, hk25_v6, hk35_v6, hk36_v6, hk38_v6, hk39_v6⟩ hP hD hS dX11_ownIll_30 (Nat.le_refl _) (Nat.le_refl _)
  · skip
    have zc4 : ¬ (0 ≤ t3.toInt) := by rw [fa_le, show (0 : Int32).toInt = 0 from by decide] at c4; exact c4
    refine lv_iconst (v := (-1)) hx hb dX11_ownIll_12 (by decide) ?_
    refine lv_goto (tgt := 30) hx hb dX11_ownIll_13 (by decide) ?_
    exact ret (-1) (v, f, w, g) _ _ _ _ _ _ rfl ⟨hM_v, hA_f, hIv, hCf, hRf, rfl, rfl, rfl, rfl, rfl, rfl, rfl, rfl, rfl, rfl, rfl, rfl, rfl, rfl, rfl, rfl, rfl, rfl, rfl, rfl⟩ hP hD hS dX11_ownIll_30 (Nat.le_refl _) (Nat.le_refl _)
