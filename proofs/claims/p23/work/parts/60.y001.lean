set_option maxHeartbeats 4000000 in
set_option maxRecDepth 100000 in
theorem sY_X11_hasBracket_1 (NF : Nat) (l : Launch) (dC : Nat → ClassId) (dI : Nat → Nat → Nat) (cy : Nat → ClassId) (y0 : Nat) (r : Nat → Nat)  (v : Nat → Int32) (f : Nat → Nat → Int32) (w : Int64) (g : Nat → Int64) (hIv : YI v) (hCf : YC f) (hRf : progOK (f 4) (f 5) (v 9).toInt.toNat)  : ctI l (dC, dI) cy yX11_hasBracket cX11_hasBracket 3 .boolean 1 60 0 0 Unit [.ref y0] (YW cy y0 r v f w g) (fun r u => gsY_X11_hasBracket_1 NF v f w g = r ∧ ((r = 1 ∧ ∃ k, k < ((v 10).toInt).toNat ∧ f 6 k = 20) ∨ (r = 0))) (fun u => YW cy y0 r v f w g) := by
  refine ctI_of (by decide) (Nat.le_of_ble_eq_true rfl) (fun p e s m below meth c A ls Q hx hb hml hts hown hE hP hD hA hl ret => ?_)
  have hUv : (v 35).toInt + (v 36).toInt ≤ 40 := hIv.2
  have hown : s.vm.findClass RX11 = some m.cls := hown
  have hS : va_S A s.heap s.heap [] := va_S.rf
  have hl : lv_has ls 3 [(0, .ref y0)] := hl
  refine lv_iconst (v := 0) hx hb dX11_hasBracket_0 rfl ?_
  refine lv_istore_n (lv' := [(1, .int 0), (0, .ref y0)]) hx hb dX11_hasBracket_1 rfl hl (Nat.le_of_ble_eq_true rfl) rfl (fun ls hl => ?_)
  refine lv_iconst (v := 0) hx hb dX11_hasBracket_2 rfl ?_
  refine lv_istore_n (lv' := [(2, .int 0), (1, .int 0), (0, .ref y0)]) hx hb dX11_hasBracket_3 rfl hl (Nat.le_of_ble_eq_true rfl) rfl (fun ls hl => ?_)
  have lp1 : ∀ (n1 : Nat) (l1_1 : Int32) (l2_1 : Int32), gsY_X11_hasBracket_1_L1 NF v f n1 l1_1 l2_1 = (gsY_X11_hasBracket_1 NF v f w g) → ((0 : Int) ≤ l1_1.toInt ∧ l1_1.toInt ≤ 1) → ((0 : Int) ≤ l2_1.toInt ∧ l2_1.toInt ≤ 2147483647) → (HBx l1_1.toInt (v 10).toInt (f 6)) → (2147483647 - l2_1.toInt).toNat < n1 → ∀ (H : Heap) (locs : List Loc) (ls : Array Slot), va_P (dC, dI) vwCl (YW cy y0 r v f w g) H → va_D A (YW cy y0 r v f w g) → va_S A s.heap H locs → lv_has ls 3 [(2, .int l2_1), (1, .int l1_1), (0, .ref y0)] → W p l e { frames := 1, cells := 0, slots := 0, locals := 60 } s m ([.ref y0] : List Value).toArray below meth c H locs 0 0 Q (F0 m 4 ls []) := by
    intro n1
    induction n1 with
    | zero => intro l1_1 l2_1 hT1 hr1_1 hr2_1 hx0_1 hm; exact absurd hm (Nat.not_lt_zero _)
    | succ n1 ih1 =>
      intro l1_1 l2_1 hT1 hr1_1 hr2_1 hx0_1 hm1 H locs ls hP hD hS hl
      have b10_v : 0 ≤ (v 10).toInt ∧ (v 10).toInt ≤ 160 := Yb_10 hIv.1
      have hHB := hx0_1
      refine lv_iload_n hx hb dX11_hasBracket_4 rfl (lv_at hl 0 rfl) ?_
      refine lv_aload_n hx hb dX11_hasBracket_5 rfl (lv_at hl 2 rfl) ?_
      refine va_get (D := (dC, dI)) (ci := 11) (v := .int (v 10)) (C := RX11) (T := TX11) (N := 79) hx hb hts inB_11 hown hE.1 hP 0 rfl rfl 19 (Nat.le_of_ble_eq_true rfl) (hts _ k_1339) (fun _ h9 => h9) rfl dX11_hasBracket_6 ?_
      refine lv_icmp_ge (tgt := 39) hx hb dX11_hasBracket_9 rfl (fun c2 => ?_) (fun c2 => ?_)
      · skip
        have zc2 : (v 10).toInt ≤ l2_1.toInt := zMp rfl rfl c2
        have rg3 := fb_rng l2_1
        have rg4 := fb_rng (v 10)
        refine lv_iload_n hx hb dX11_hasBracket_39 rfl (lv_at hl 1 rfl) ?_
        rcases b01 (x := l1_1) (show 0 ≤ l1_1.toInt from om_367 hr1_1) (show l1_1.toInt ≤ 1 from om_368 hr1_1) with h5 | h5
        · skip
          refine tI (y := 1) h5 ?_
          have hb1 : l1_1.toInt = 1 := by rw [h5]; decide
          exact ret 1 () _ _ _ _ _ _ rfl ⟨(hT1.symm.trans ((gsY_X11_hasBracket_1_q0 c2).trans h5)), (Or.inl ⟨rfl, by exact hHB (by omega)⟩)⟩ hP hD hS dX11_hasBracket_40 (Nat.le_refl _) (Nat.le_refl _)
        · skip
          refine tI (y := 0) h5 ?_
          have hb1 : l1_1.toInt = 0 := by rw [h5]; decide
          exact ret 0 () _ _ _ _ _ _ rfl ⟨(hT1.symm.trans ((gsY_X11_hasBracket_1_q0 c2).trans h5)), (Or.inr rfl)⟩ hP hD hS dX11_hasBracket_40 (Nat.le_refl _) (Nat.le_refl _)
      · skip
        have zc2 : ¬ ((v 10).toInt ≤ l2_1.toInt) := zMn rfl rfl c2
        have rg6 := fb_rng l2_1
        have rg7 := fb_rng (v 10)
        refine lv_iload_n hx hb dX11_hasBracket_12 rfl (lv_at hl 1 rfl) ?_
        refine lv_if_ne (tgt := 27) hx hb dX11_hasBracket_13 rfl (fun c8 => ?_) (fun c8 => ?_)
        · skip
          have zc8 : ¬ (l1_1.toInt = 0) := zEn rfl tc_0 c8
          refine lv_iconst (v := 1) hx hb dX11_hasBracket_27 rfl ?_
          refine lv_goto (tgt := 32) hx hb dX11_hasBracket_28 rfl ?_
          refine lv_istore_n (lv' := [(1, .int 1), (2, .int l2_1), (0, .ref y0)]) hx hb dX11_hasBracket_32 rfl hl (Nat.le_of_ble_eq_true rfl) rfl (fun ls hl => ?_)
          obtain ⟨t9, et9⟩ : ∃ y : Int32, y = l2_1 + 1 := ⟨_, rfl⟩
          have zt9 : t9.toInt = l2_1.toInt + 1 := (congrArg Int32.toInt et9).trans (add_i rfl tc_1 (om_41 hr2_1) (om_397 b10_v zc2))
          refine lv_iinc (v := t9) (lv' := [(2, .int t9), (1, .int 1), (0, .ref y0)]) hx hb dX11_hasBracket_33 hl (k := 1) rfl et9.symm (Nat.le_of_ble_eq_true rfl) rfl (fun ls hl => ?_)
          refine lv_goto (tgt := 4) hx hb dX11_hasBracket_36 rfl ?_
          have rg10 := fb_rng t9
          exact ih1 1 t9 ((gsY_X11_hasBracket_1_q1 c2 c8 et9).symm.trans hT1) ⟨by decide, by decide⟩ ⟨show (0 : Int) ≤ t9.toInt from om_43 hr2_1 zt9, show t9.toInt ≤ (2147483647 : Int) from om_44 rg10⟩ (by show HBx (1 : Int32).toInt (v 10).toInt (f 6); first | exact fun h => absurd h (by decide) | exact fun _ => hHB (by omega) | exact fun _ => ⟨_, by omega, i_eq hO (by omega)⟩) (show (2147483647 - t9.toInt).toNat < n1 from om_33 hm1 zt9 rg10) _ _ _ hP hD hS (lv_sub hl [0, 1, 2] rfl)
        · skip
          have zc8 : l1_1.toInt = 0 := zEp rfl tc_0 c8
          refine lv_aload_n hx hb dX11_hasBracket_16 rfl (lv_at hl 2 rfl) ?_
          refine va_get (D := (dC, dI)) (ci := 11) (v := .ref (r 15)) (C := RX11) (T := TX11) (N := 79) hx hb hts inB_11 hown hE.1 hP 0 rfl rfl 15 (Nat.le_of_ble_eq_true rfl) (hts _ k_1335) (fun _ h9 => h9) rfl dX11_hasBracket_17 ?_
          refine lv_iload_n hx hb dX11_hasBracket_20 rfl (lv_at hl 0 rfl) ?_
          refine ldI hx hb hE hP 7 rfl (vpI (k := 160) rfl (show 0 ≤ l2_1.toInt from om_39 hr2_1) (show l2_1.toInt < 160 from om_398 b10_v zc2)) rfl rfl dX11_hasBracket_21 ?_
          refine lv_topi (fun t11 et11 => ?_)
          have hO : (f 6) l2_1.toInt.toNat = t11 := by rw [et11]; rfl
          refine lv_bipush (v := 20) hx hb dX11_hasBracket_22 rfl ?_
          refine lv_icmp_ne (tgt := 31) hx hb dX11_hasBracket_24 rfl (fun c12 => ?_) (fun c12 => ?_)
          · skip
            have zc12 : ¬ (t11.toInt = 20) := zEn rfl tc_20 c12
            refine lv_iconst (v := 0) hx hb dX11_hasBracket_31 rfl ?_
            refine lv_istore_n (lv' := [(1, .int 0), (2, .int l2_1), (0, .ref y0)]) hx hb dX11_hasBracket_32 rfl hl (Nat.le_of_ble_eq_true rfl) rfl (fun ls hl => ?_)
            obtain ⟨t13, et13⟩ : ∃ y : Int32, y = l2_1 + 1 := ⟨_, rfl⟩
            have zt13 : t13.toInt = l2_1.toInt + 1 := (congrArg Int32.toInt et13).trans (add_i rfl tc_1 (om_41 hr2_1) (om_397 b10_v zc2))
            refine lv_iinc (v := t13) (lv' := [(2, .int t13), (1, .int 0), (0, .ref y0)]) hx hb dX11_hasBracket_33 hl (k := 1) rfl et13.symm (Nat.le_of_ble_eq_true rfl) rfl (fun ls hl => ?_)
            refine lv_goto (tgt := 4) hx hb dX11_hasBracket_36 rfl ?_
            have rg14 := fb_rng t13
            exact ih1 0 t13 ((gsY_X11_hasBracket_1_q2 c2 c8 et11 c12 et13).symm.trans hT1) ⟨by decide, by decide⟩ ⟨show (0 : Int) ≤ t13.toInt from om_43 hr2_1 zt13, show t13.toInt ≤ (2147483647 : Int) from om_44 rg14⟩ (by show HBx (0 : Int32).toInt (v 10).toInt (f 6); first | exact fun h => absurd h (by decide) | exact fun _ => hHB (by omega) | exact fun _ => ⟨_, by omega, i_eq hO (by omega)⟩) (show (2147483647 - t13.toInt).toNat < n1 from om_33 hm1 zt13 rg14) _ _ _ hP hD hS (lv_sub hl [0, 1, 2] rfl)
          · skip
            have zc12 : t11.toInt = 20 := zEp rfl tc_20 c12
            refine lv_iconst (v := 1) hx hb dX11_hasBracket_27 rfl ?_
            refine lv_goto (tgt := 32) hx hb dX11_hasBracket_28 rfl ?_
            refine lv_istore_n (lv' := [(1, .int 1), (2, .int l2_1), (0, .ref y0)]) hx hb dX11_hasBracket_32 rfl hl (Nat.le_of_ble_eq_true rfl) rfl (fun ls hl => ?_)
            obtain ⟨t15, et15⟩ : ∃ y : Int32, y = l2_1 + 1 := ⟨_, rfl⟩
            have zt15 : t15.toInt = l2_1.toInt + 1 := (congrArg Int32.toInt et15).trans (add_i rfl tc_1 (om_41 hr2_1) (om_397 b10_v zc2))
            refine lv_iinc (v := t15) (lv' := [(2, .int t15), (1, .int 1), (0, .ref y0)]) hx hb dX11_hasBracket_33 hl (k := 1) rfl et15.symm (Nat.le_of_ble_eq_true rfl) rfl (fun ls hl => ?_)
            refine lv_goto (tgt := 4) hx hb dX11_hasBracket_36 rfl ?_
            have rg16 := fb_rng t15
            exact ih1 1 t15 ((gsY_X11_hasBracket_1_q3 c2 c8 et11 c12 et15).symm.trans hT1) ⟨by decide, by decide⟩ ⟨show (0 : Int) ≤ t15.toInt from om_43 hr2_1 zt15, show t15.toInt ≤ (2147483647 : Int) from om_44 rg16⟩ (by show HBx (1 : Int32).toInt (v 10).toInt (f 6); first | exact fun h => absurd h (by decide) | exact fun _ => hHB (by omega) | exact fun _ => ⟨_, by omega, i_eq hO (by omega)⟩) (show (2147483647 - t15.toInt).toNat < n1 from om_33 hm1 zt15 rg16) _ _ _ hP hD hS (lv_sub hl [0, 1, 2] rfl)
  exact lp1 (4294967296 + NF) 0 0 gsY_X11_hasBracket_1_q4.symm ⟨by decide, by decide⟩ ⟨by decide, by decide⟩ (by show HBx (0 : Int32).toInt (v 10).toInt (f 6); exact fun h => absurd h (by decide)) (show (2147483647 - (0 : Int32).toInt).toNat < 4294967296 + NF from om_38 tc_0) _ _ _ hP hD hS (lv_sub hl [0, 1, 2] rfl)
set_option maxHeartbeats 4000000 in
set_option maxRecDepth 100000 in
theorem sY_X11_sign_1 (NF : Nat) (l : Launch) (dC : Nat → ClassId) (dI : Nat → Nat → Nat) (cy : Nat → ClassId) (y0 : Nat) (r : Nat → Nat)  (v : Nat → Int32) (f : Nat → Nat → Int32) (w : Int64) (g : Nat → Int64) (hIv : YI v) (hCf : YC f) (hRf : progOK (f 4) (f 5) (v 9).toInt.toNat)  : ctI l (dC, dI) cy yX11_sign cX11_sign 1 .int 2 82 0 0 Unit [.ref y0] (YW cy y0 r v f w g) (fun r u => gsY_X11_sign_1 NF v f w g = r ∧ (r.toInt = 0 ∨ 37 ≤ r.toInt) ∧ ((0 : Int) ≤ r.toInt ∧ r.toInt ≤ 124)) (fun u => YW cy y0 r v f w g) := by
  refine ctI_of (by decide) (Nat.le_of_ble_eq_true rfl) (fun p e s m below meth c A ls Q hx hb hml hts hown hE hP hD hA hl ret => ?_)
  have hown : s.vm.findClass RX11 = some m.cls := hown
  have hS : va_S A s.heap s.heap [] := va_S.rf
  have hl : lv_has ls 1 [(0, .ref y0)] := hl
  refine lv_aload_n hx hb dX11_sign_0 rfl (lv_at hl 0 rfl) ?_
  refine lv_ldc2 (v := 6385252) hx hb hown (hts _ k_1638) dX11_sign_1 ?_
  refine cbVi (n := 1) (rest := []) hx hb hml hown hts hE hP hD hS hA (sY_X11_isWord_1 NF l dC dI cy y0 r 6385252 v f w g hIv hCf hRf ) k_1601 k_1603 k_45 k_114 k_1604 hd_yX11_isWord ⟨Nat.le_of_ble_eq_true rfl, Nat.le_of_ble_eq_true rfl⟩ 0 11 rfl rfl (rfl) hl.1 rfl (Nat.le_of_ble_eq_true rfl) dX11_sign_4 (fun r1 u H locs hw hP hD hS => ?_)
  obtain ⟨hG2, hw⟩ := hw
  rcases hw with ⟨g3, g3_0⟩ | ⟨g3⟩
  · skip
    subst g3
    refine lv_if_eq (tgt := 13) hx hb dX11_sign_7 rfl (fun c0 => absurd c0 (by decide)) (fun _ => ?_)
    refine lv_bipush (v := 38) hx hb dX11_sign_10 rfl ?_
    exact ret 38 () _ _ _ _ _ _ rfl ⟨(gsY_X11_sign_1_q0 hG2), (show (38 : Int32).toInt = 0 ∨ 37 ≤ (38 : Int32).toInt from om_399 tc_38), ⟨by decide, by decide⟩⟩ hP hD hS dX11_sign_12 (Nat.le_refl _) (Nat.le_refl _)
  · skip
    subst g3
    refine lv_if_eq (tgt := 13) hx hb dX11_sign_7 rfl (fun _ => ?_) (fun c0 => absurd (by decide) c0)
    refine lv_aload_n hx hb dX11_sign_13 rfl (lv_at hl 0 rfl) ?_
    refine lv_ldc2 (v := 28530) hx hb hown (hts _ k_1639) dX11_sign_14 ?_
    refine cbVi (n := 1) (rest := []) hx hb hml hown hts hE hP hD hS hA (sY_X11_isWord_1 NF l dC dI cy y0 r 28530 v f w g hIv hCf hRf ) k_1601 k_1603 k_45 k_114 k_1604 hd_yX11_isWord ⟨Nat.le_of_ble_eq_true rfl, Nat.le_of_ble_eq_true rfl⟩ 0 11 rfl rfl (rfl) hl.1 rfl (Nat.le_of_ble_eq_true rfl) dX11_sign_17 (fun r4 u H locs hw hP hD hS => ?_)
    obtain ⟨hG5, hw⟩ := hw
    rcases hw with ⟨g6, g6_0⟩ | ⟨g6⟩
    · skip
      subst g6
      refine lv_if_eq (tgt := 26) hx hb dX11_sign_20 rfl (fun c0 => absurd c0 (by decide)) (fun _ => ?_)
      refine lv_bipush (v := 124) hx hb dX11_sign_23 rfl ?_
      exact ret 124 () _ _ _ _ _ _ rfl ⟨(gsY_X11_sign_1_q1 hG2 hG5), (show (124 : Int32).toInt = 0 ∨ 37 ≤ (124 : Int32).toInt from om_400 tc_124), ⟨by decide, by decide⟩⟩ hP hD hS dX11_sign_25 (Nat.le_refl _) (Nat.le_refl _)
    · skip
      subst g6
      refine lv_if_eq (tgt := 26) hx hb dX11_sign_20 rfl (fun _ => ?_) (fun c0 => absurd (by decide) c0)
      refine lv_aload_n hx hb dX11_sign_26 rfl (lv_at hl 0 rfl) ?_
      refine va_get (D := (dC, dI)) (ci := 11) (v := .int (v 5)) (C := RX11) (T := TX11) (N := 79) hx hb hts inB_11 hown hE.1 hP 0 rfl rfl 6 (Nat.le_of_ble_eq_true rfl) (hts _ k_1326) (fun _ h9 => h9) rfl dX11_sign_27 ?_
      refine lv_bipush (v := 60) hx hb dX11_sign_30 rfl ?_
      refine lv_icmp_eq (tgt := 98) hx hb dX11_sign_32 rfl (fun c7 => ?_) (fun c7 => ?_)
      · skip
        have zc7 : (v 5).toInt = 60 := zEp rfl tc_60 c7
        refine lv_aload_n hx hb dX11_sign_98 rfl (lv_at hl 0 rfl) ?_
        refine va_get (D := (dC, dI)) (ci := 11) (v := .int (v 5)) (C := RX11) (T := TX11) (N := 79) hx hb hts inB_11 hown hE.1 hP 0 rfl rfl 6 (Nat.le_of_ble_eq_true rfl) (hts _ k_1326) (fun _ h9 => h9) rfl dX11_sign_99 ?_
        refine lv_goto (tgt := 106) hx hb dX11_sign_102 rfl ?_
        exact ret (v 5) () _ _ _ _ _ _ rfl ⟨(gsY_X11_sign_1_q2 hG2 hG5 c7), (show (v 5).toInt = 0 ∨ 37 ≤ (v 5).toInt from om_403 zc7), ⟨show (0 : Int) ≤ (v 5).toInt from om_401 zc7, show (v 5).toInt ≤ 124 from om_402 zc7⟩⟩ hP hD hS dX11_sign_106 (Nat.le_refl _) (Nat.le_refl _)
      · skip
        refine lv_aload_n hx hb dX11_sign_35 rfl (lv_at hl 0 rfl) ?_
        refine va_get (D := (dC, dI)) (ci := 11) (v := .int (v 5)) (C := RX11) (T := TX11) (N := 79) hx hb hts inB_11 hown hE.1 hP 0 rfl rfl 6 (Nat.le_of_ble_eq_true rfl) (hts _ k_1326) (fun _ h9 => h9) rfl dX11_sign_36 ?_
        refine lv_bipush (v := 62) hx hb dX11_sign_39 rfl ?_
        refine lv_icmp_eq (tgt := 98) hx hb dX11_sign_41 rfl (fun c8 => ?_) (fun c8 => ?_)
        · skip
          have zc8 : (v 5).toInt = 62 := zEp rfl tc_62 c8
          refine lv_aload_n hx hb dX11_sign_98 rfl (lv_at hl 0 rfl) ?_
          refine va_get (D := (dC, dI)) (ci := 11) (v := .int (v 5)) (C := RX11) (T := TX11) (N := 79) hx hb hts inB_11 hown hE.1 hP 0 rfl rfl 6 (Nat.le_of_ble_eq_true rfl) (hts _ k_1326) (fun _ h9 => h9) rfl dX11_sign_99 ?_
          refine lv_goto (tgt := 106) hx hb dX11_sign_102 rfl ?_
          exact ret (v 5) () _ _ _ _ _ _ rfl ⟨(gsY_X11_sign_1_q3 hG2 hG5 c7 c8), (show (v 5).toInt = 0 ∨ 37 ≤ (v 5).toInt from om_406 zc8), ⟨show (0 : Int) ≤ (v 5).toInt from om_404 zc8, show (v 5).toInt ≤ 124 from om_405 zc8⟩⟩ hP hD hS dX11_sign_106 (Nat.le_refl _) (Nat.le_refl _)
        · skip
          refine lv_aload_n hx hb dX11_sign_44 rfl (lv_at hl 0 rfl) ?_
          refine va_get (D := (dC, dI)) (ci := 11) (v := .int (v 5)) (C := RX11) (T := TX11) (N := 79) hx hb hts inB_11 hown hE.1 hP 0 rfl rfl 6 (Nat.le_of_ble_eq_true rfl) (hts _ k_1326) (fun _ h9 => h9) rfl dX11_sign_45 ?_
          refine lv_bipush (v := 61) hx hb dX11_sign_48 rfl ?_
          refine lv_icmp_eq (tgt := 98) hx hb dX11_sign_50 rfl (fun c9 => ?_) (fun c9 => ?_)
          · skip
            have zc9 : (v 5).toInt = 61 := zEp rfl tc_61 c9
            refine lv_aload_n hx hb dX11_sign_98 rfl (lv_at hl 0 rfl) ?_
            refine va_get (D := (dC, dI)) (ci := 11) (v := .int (v 5)) (C := RX11) (T := TX11) (N := 79) hx hb hts inB_11 hown hE.1 hP 0 rfl rfl 6 (Nat.le_of_ble_eq_true rfl) (hts _ k_1326) (fun _ h9 => h9) rfl dX11_sign_99 ?_
            refine lv_goto (tgt := 106) hx hb dX11_sign_102 rfl ?_
            exact ret (v 5) () _ _ _ _ _ _ rfl ⟨(gsY_X11_sign_1_q4 hG2 hG5 c7 c8 c9), (show (v 5).toInt = 0 ∨ 37 ≤ (v 5).toInt from om_409 zc9), ⟨show (0 : Int) ≤ (v 5).toInt from om_407 zc9, show (v 5).toInt ≤ 124 from om_408 zc9⟩⟩ hP hD hS dX11_sign_106 (Nat.le_refl _) (Nat.le_refl _)
          · skip
            refine lv_aload_n hx hb dX11_sign_53 rfl (lv_at hl 0 rfl) ?_
            refine va_get (D := (dC, dI)) (ci := 11) (v := .int (v 5)) (C := RX11) (T := TX11) (N := 79) hx hb hts inB_11 hown hE.1 hP 0 rfl rfl 6 (Nat.le_of_ble_eq_true rfl) (hts _ k_1326) (fun _ h9 => h9) rfl dX11_sign_54 ?_
            refine lv_bipush (v := 43) hx hb dX11_sign_57 rfl ?_
            refine lv_icmp_eq (tgt := 98) hx hb dX11_sign_59 rfl (fun c10 => ?_) (fun c10 => ?_)
            · skip
              have zc10 : (v 5).toInt = 43 := zEp rfl tc_43 c10
              refine lv_aload_n hx hb dX11_sign_98 rfl (lv_at hl 0 rfl) ?_
              refine va_get (D := (dC, dI)) (ci := 11) (v := .int (v 5)) (C := RX11) (T := TX11) (N := 79) hx hb hts inB_11 hown hE.1 hP 0 rfl rfl 6 (Nat.le_of_ble_eq_true rfl) (hts _ k_1326) (fun _ h9 => h9) rfl dX11_sign_99 ?_
              refine lv_goto (tgt := 106) hx hb dX11_sign_102 rfl ?_
              exact ret (v 5) () _ _ _ _ _ _ rfl ⟨(gsY_X11_sign_1_q5 hG2 hG5 c7 c8 c9 c10), (show (v 5).toInt = 0 ∨ 37 ≤ (v 5).toInt from om_412 zc10), ⟨show (0 : Int) ≤ (v 5).toInt from om_410 zc10, show (v 5).toInt ≤ 124 from om_411 zc10⟩⟩ hP hD hS dX11_sign_106 (Nat.le_refl _) (Nat.le_refl _)
            · skip
              refine lv_aload_n hx hb dX11_sign_62 rfl (lv_at hl 0 rfl) ?_
              refine va_get (D := (dC, dI)) (ci := 11) (v := .int (v 5)) (C := RX11) (T := TX11) (N := 79) hx hb hts inB_11 hown hE.1 hP 0 rfl rfl 6 (Nat.le_of_ble_eq_true rfl) (hts _ k_1326) (fun _ h9 => h9) rfl dX11_sign_63 ?_
              refine lv_bipush (v := 45) hx hb dX11_sign_66 rfl ?_
              refine lv_icmp_eq (tgt := 98) hx hb dX11_sign_68 rfl (fun c11 => ?_) (fun c11 => ?_)
              · skip
                have zc11 : (v 5).toInt = 45 := zEp rfl tc_45 c11
                refine lv_aload_n hx hb dX11_sign_98 rfl (lv_at hl 0 rfl) ?_
                refine va_get (D := (dC, dI)) (ci := 11) (v := .int (v 5)) (C := RX11) (T := TX11) (N := 79) hx hb hts inB_11 hown hE.1 hP 0 rfl rfl 6 (Nat.le_of_ble_eq_true rfl) (hts _ k_1326) (fun _ h9 => h9) rfl dX11_sign_99 ?_
                refine lv_goto (tgt := 106) hx hb dX11_sign_102 rfl ?_
                exact ret (v 5) () _ _ _ _ _ _ rfl ⟨(gsY_X11_sign_1_q6 hG2 hG5 c7 c8 c9 c10 c11), (show (v 5).toInt = 0 ∨ 37 ≤ (v 5).toInt from om_415 zc11), ⟨show (0 : Int) ≤ (v 5).toInt from om_413 zc11, show (v 5).toInt ≤ 124 from om_414 zc11⟩⟩ hP hD hS dX11_sign_106 (Nat.le_refl _) (Nat.le_refl _)
              · skip
                refine lv_aload_n hx hb dX11_sign_71 rfl (lv_at hl 0 rfl) ?_
                refine va_get (D := (dC, dI)) (ci := 11) (v := .int (v 5)) (C := RX11) (T := TX11) (N := 79) hx hb hts inB_11 hown hE.1 hP 0 rfl rfl 6 (Nat.le_of_ble_eq_true rfl) (hts _ k_1326) (fun _ h9 => h9) rfl dX11_sign_72 ?_
                refine lv_bipush (v := 42) hx hb dX11_sign_75 rfl ?_
                refine lv_icmp_eq (tgt := 98) hx hb dX11_sign_77 rfl (fun c12 => ?_) (fun c12 => ?_)
                · skip
                  have zc12 : (v 5).toInt = 42 := zEp rfl tc_42 c12
                  refine lv_aload_n hx hb dX11_sign_98 rfl (lv_at hl 0 rfl) ?_
                  refine va_get (D := (dC, dI)) (ci := 11) (v := .int (v 5)) (C := RX11) (T := TX11) (N := 79) hx hb hts inB_11 hown hE.1 hP 0 rfl rfl 6 (Nat.le_of_ble_eq_true rfl) (hts _ k_1326) (fun _ h9 => h9) rfl dX11_sign_99 ?_
                  refine lv_goto (tgt := 106) hx hb dX11_sign_102 rfl ?_
                  exact ret (v 5) () _ _ _ _ _ _ rfl ⟨(gsY_X11_sign_1_q7 hG2 hG5 c7 c8 c9 c10 c11 c12), (show (v 5).toInt = 0 ∨ 37 ≤ (v 5).toInt from om_418 zc12), ⟨show (0 : Int) ≤ (v 5).toInt from om_416 zc12, show (v 5).toInt ≤ 124 from om_417 zc12⟩⟩ hP hD hS dX11_sign_106 (Nat.le_refl _) (Nat.le_refl _)
                · skip
                  refine lv_aload_n hx hb dX11_sign_80 rfl (lv_at hl 0 rfl) ?_
                  refine va_get (D := (dC, dI)) (ci := 11) (v := .int (v 5)) (C := RX11) (T := TX11) (N := 79) hx hb hts inB_11 hown hE.1 hP 0 rfl rfl 6 (Nat.le_of_ble_eq_true rfl) (hts _ k_1326) (fun _ h9 => h9) rfl dX11_sign_81 ?_
                  refine lv_bipush (v := 47) hx hb dX11_sign_84 rfl ?_
                  refine lv_icmp_eq (tgt := 98) hx hb dX11_sign_86 rfl (fun c13 => ?_) (fun c13 => ?_)
                  · skip
                    have zc13 : (v 5).toInt = 47 := zEp rfl tc_47 c13
                    refine lv_aload_n hx hb dX11_sign_98 rfl (lv_at hl 0 rfl) ?_
                    refine va_get (D := (dC, dI)) (ci := 11) (v := .int (v 5)) (C := RX11) (T := TX11) (N := 79) hx hb hts inB_11 hown hE.1 hP 0 rfl rfl 6 (Nat.le_of_ble_eq_true rfl) (hts _ k_1326) (fun _ h9 => h9) rfl dX11_sign_99 ?_
                    refine lv_goto (tgt := 106) hx hb dX11_sign_102 rfl ?_
                    exact ret (v 5) () _ _ _ _ _ _ rfl ⟨(gsY_X11_sign_1_q8 hG2 hG5 c7 c8 c9 c10 c11 c12 c13), (show (v 5).toInt = 0 ∨ 37 ≤ (v 5).toInt from om_421 zc13), ⟨show (0 : Int) ≤ (v 5).toInt from om_419 zc13, show (v 5).toInt ≤ 124 from om_420 zc13⟩⟩ hP hD hS dX11_sign_106 (Nat.le_refl _) (Nat.le_refl _)
                  · skip
                    refine lv_aload_n hx hb dX11_sign_89 rfl (lv_at hl 0 rfl) ?_
                    refine va_get (D := (dC, dI)) (ci := 11) (v := .int (v 5)) (C := RX11) (T := TX11) (N := 79) hx hb hts inB_11 hown hE.1 hP 0 rfl rfl 6 (Nat.le_of_ble_eq_true rfl) (hts _ k_1326) (fun _ h9 => h9) rfl dX11_sign_90 ?_
                    refine lv_bipush (v := 37) hx hb dX11_sign_93 rfl ?_
                    refine lv_icmp_ne (tgt := 105) hx hb dX11_sign_95 rfl (fun c14 => ?_) (fun c14 => ?_)
                    · skip
                      refine lv_iconst (v := 0) hx hb dX11_sign_105 rfl ?_
                      exact ret 0 () _ _ _ _ _ _ rfl ⟨(gsY_X11_sign_1_q9 hG2 hG5 c7 c8 c9 c10 c11 c12 c13 c14), (show (0 : Int32).toInt = 0 ∨ 37 ≤ (0 : Int32).toInt from om_422 tc_0), ⟨by decide, by decide⟩⟩ hP hD hS dX11_sign_106 (Nat.le_refl _) (Nat.le_refl _)
                    · skip
                      have zc14 : (v 5).toInt = 37 := zEp rfl tc_37 c14
                      refine lv_aload_n hx hb dX11_sign_98 rfl (lv_at hl 0 rfl) ?_
                      refine va_get (D := (dC, dI)) (ci := 11) (v := .int (v 5)) (C := RX11) (T := TX11) (N := 79) hx hb hts inB_11 hown hE.1 hP 0 rfl rfl 6 (Nat.le_of_ble_eq_true rfl) (hts _ k_1326) (fun _ h9 => h9) rfl dX11_sign_99 ?_
                      refine lv_goto (tgt := 106) hx hb dX11_sign_102 rfl ?_
                      exact ret (v 5) () _ _ _ _ _ _ rfl ⟨(gsY_X11_sign_1_q10 hG2 hG5 c7 c8 c9 c10 c11 c12 c13 c14), (show (v 5).toInt = 0 ∨ 37 ≤ (v 5).toInt from om_425 zc14), ⟨show (0 : Int) ≤ (v 5).toInt from om_423 zc14, show (v 5).toInt ≤ 124 from om_424 zc14⟩⟩ hP hD hS dX11_sign_106 (Nat.le_refl _) (Nat.le_refl _)
set_option maxHeartbeats 4000000 in
set_option maxRecDepth 100000 in
theorem sY_X11_hasRelation_1 (NF : Nat) (l : Launch) (dC : Nat → ClassId) (dI : Nat → Nat → Nat) (cy : Nat → ClassId) (y0 : Nat) (r : Nat → Nat)  (v : Nat → Int32) (f : Nat → Nat → Int32) (w : Int64) (g : Nat → Int64) (hIv : YI v) (hCf : YC f) (hRf : progOK (f 4) (f 5) (v 9).toInt.toNat)  : ctI l (dC, dI) cy yX11_hasRelation cX11_hasRelation 2 .boolean 2 80 0 0 Unit [.ref y0] (YW cy y0 r v f w g) (fun r u => gsY_X11_hasRelation_1 NF v f w g = r ∧ ((r = 1) ∨ (r = 0))) (fun u => YW cy y0 r v f w g) := by
  refine ctI_of (by decide) (Nat.le_of_ble_eq_true rfl) (fun p e s m below meth c A ls Q hx hb hml hts hown hE hP hD hA hl ret => ?_)
  have hown : s.vm.findClass RX11 = some m.cls := hown
  have hS : va_S A s.heap s.heap [] := va_S.rf
  have hl : lv_has ls 2 [(0, .ref y0)] := hl
  refine lv_aload_n hx hb dX11_hasRelation_0 rfl (lv_at hl 0 rfl) ?_
  refine va_get (D := (dC, dI)) (ci := 11) (v := .int (v 10)) (C := RX11) (T := TX11) (N := 79) hx hb hts inB_11 hown hE.1 hP 0 rfl rfl 19 (Nat.le_of_ble_eq_true rfl) (hts _ k_1339) (fun _ h9 => h9) rfl dX11_hasRelation_1 ?_
  have b10_v : 0 ≤ (v 10).toInt ∧ (v 10).toInt ≤ 160 := Yb_10 hIv.1
  refine lv_iconst (v := 1) hx hb dX11_hasRelation_4 rfl ?_
  refine lv_isub hx hb dX11_hasRelation_5 ?_
  refine lv_topi (fun t1 et1 => ?_)
  have zt1 : t1.toInt = (v 10).toInt - 1 := (congrArg Int32.toInt et1).trans (sub_i rfl tc_1 (om_361 b10_v) (om_362 b10_v))
  refine lv_istore_n (lv' := [(1, .int t1), (0, .ref y0)]) hx hb dX11_hasRelation_6 rfl hl (Nat.le_of_ble_eq_true rfl) rfl (fun ls hl => ?_)
  have lp3 : ∀ (n3 : Nat) (l1_3 : Int32), gsY_X11_hasRelation_1_L3 NF v f w g n3 l1_3 = (gsY_X11_hasRelation_1 NF v f w g) → ((-2147483648 : Int) ≤ l1_3.toInt ∧ l1_3.toInt ≤ 159) → (l1_3.toInt + 2147483648).toNat < n3 → ∀ (H : Heap) (locs : List Loc) (ls : Array Slot), va_P (dC, dI) vwCl (YW cy y0 r v f w g) H → va_D A (YW cy y0 r v f w g) → va_S A s.heap H locs → lv_has ls 2 [(1, .int l1_3), (0, .ref y0)] → W p l e { frames := 2, cells := 0, slots := 0, locals := 80 } s m ([.ref y0] : List Value).toArray below meth c H locs 0 0 Q (F0 m 7 ls []) := by
    intro n3
    induction n3 with
    | zero => intro l1_3 hT3 hr1_3 hm; exact absurd hm (Nat.not_lt_zero _)
    | succ n3 ih3 =>
      intro l1_3 hT3 hr1_3 hm3 H locs ls hP hD hS hl
      refine lv_iload_n hx hb dX11_hasRelation_7 rfl (lv_at hl 0 rfl) ?_
      refine lv_if_lt (tgt := 41) hx hb dX11_hasRelation_8 rfl (fun c4 => ?_) (fun c4 => ?_)
      · skip
        have zc4 : l1_3.toInt < 0 := zLp rfl tc_0 c4
        refine lv_iload_n hx hb dX11_hasRelation_41 rfl (lv_at hl 0 rfl) ?_
        refine lv_if_lt (tgt := 73) hx hb dX11_hasRelation_42 rfl (fun c5 => ?_) (fun c5 => ?_)
        · skip
          refine lv_iconst (v := 0) hx hb dX11_hasRelation_73 rfl ?_
          exact ret 0 () _ _ _ _ _ _ rfl ⟨(hT3.symm.trans (gsY_X11_hasRelation_1_q0 c4 c5)), (Or.inr rfl)⟩ hP hD hS dX11_hasRelation_74 (Nat.le_refl _) (Nat.le_refl _)
        · skip
          have zc5 : ¬ (l1_3.toInt < 0) := zLn rfl tc_0 c5
          refine lv_aload_n hx hb dX11_hasRelation_45 rfl (lv_at hl 1 rfl) ?_
          refine va_get (D := (dC, dI)) (ci := 11) (v := .ref (r 15)) (C := RX11) (T := TX11) (N := 79) hx hb hts inB_11 hown hE.1 hP 0 rfl rfl 15 (Nat.le_of_ble_eq_true rfl) (hts _ k_1335) (fun _ h9 => h9) rfl dX11_hasRelation_46 ?_
          refine lv_iload_n hx hb dX11_hasRelation_49 rfl (lv_at hl 0 rfl) ?_
          refine ldI hx hb hE hP 7 rfl (vpI (k := 160) rfl (show 0 ≤ l1_3.toInt from om_14 zc5) (show l1_3.toInt < 160 from om_426 zc4)) rfl rfl dX11_hasRelation_50 ?_
          refine lv_topi (fun t6 et6 => ?_)
          refine lv_bipush (v := 20) hx hb dX11_hasRelation_51 rfl ?_
          refine lv_icmp_eq (tgt := 73) hx hb dX11_hasRelation_53 rfl (fun c7 => ?_) (fun c7 => ?_)
          · skip
            refine lv_iconst (v := 0) hx hb dX11_hasRelation_73 rfl ?_
            exact ret 0 () _ _ _ _ _ _ rfl ⟨(hT3.symm.trans (gsY_X11_hasRelation_1_q1 c4 c5 et6 c7)), (Or.inr rfl)⟩ hP hD hS dX11_hasRelation_74 (Nat.le_refl _) (Nat.le_refl _)
          · skip
            refine lv_aload_n hx hb dX11_hasRelation_56 rfl (lv_at hl 1 rfl) ?_
            refine va_get (D := (dC, dI)) (ci := 11) (v := .ref (r 15)) (C := RX11) (T := TX11) (N := 79) hx hb hts inB_11 hown hE.1 hP 0 rfl rfl 15 (Nat.le_of_ble_eq_true rfl) (hts _ k_1335) (fun _ h9 => h9) rfl dX11_hasRelation_57 ?_
            refine lv_iload_n hx hb dX11_hasRelation_60 rfl (lv_at hl 0 rfl) ?_
            refine ldI hx hb hE hP 7 rfl (vpI (k := 160) rfl (show 0 ≤ l1_3.toInt from om_14 zc5) (show l1_3.toInt < 160 from om_426 zc4)) rfl rfl dX11_hasRelation_61 ?_
            refine tI (y := t6) et6.symm ?_
            refine cbSi (n := 1) (rest := []) hx hb hml hown hts hE hP hD hS hA (sY_X11_tight_1 NF l dC dI cy y0 r t6 v f w g hIv hCf hRf ) k_1677 k_1678 k_114 k_1679 he_yX11_tight ⟨Nat.le_of_ble_eq_true rfl, Nat.le_of_ble_eq_true rfl⟩ (rfl) hl.1 rfl (Nat.le_of_ble_eq_true rfl) dX11_hasRelation_62 (fun r8 u H locs hw hP hD hS => ?_)
            obtain ⟨hG9, hw⟩ := hw
            refine lv_iconst (v := 4) hx hb dX11_hasRelation_65 rfl ?_
            refine lv_icmp_ne (tgt := 73) hx hb dX11_hasRelation_66 rfl (fun c10 => ?_) (fun c10 => ?_)
            · skip
              refine lv_iconst (v := 0) hx hb dX11_hasRelation_73 rfl ?_
              exact ret 0 () _ _ _ _ _ _ rfl ⟨(hT3.symm.trans (gsY_X11_hasRelation_1_q2 c4 c5 et6 c7 hG9.symm c10)), (Or.inr rfl)⟩ hP hD hS dX11_hasRelation_74 (Nat.le_refl _) (Nat.le_refl _)
            · skip
              refine lv_iconst (v := 1) hx hb dX11_hasRelation_69 rfl ?_
              refine lv_goto (tgt := 74) hx hb dX11_hasRelation_70 rfl ?_
              exact ret 1 () _ _ _ _ _ _ rfl ⟨(hT3.symm.trans (gsY_X11_hasRelation_1_q3 c4 c5 et6 c7 hG9.symm c10)), (Or.inl rfl)⟩ hP hD hS dX11_hasRelation_74 (Nat.le_refl _) (Nat.le_refl _)
      · skip
        have zc4 : ¬ (l1_3.toInt < 0) := zLn rfl tc_0 c4
        refine lv_aload_n hx hb dX11_hasRelation_11 rfl (lv_at hl 1 rfl) ?_
        refine va_get (D := (dC, dI)) (ci := 11) (v := .ref (r 15)) (C := RX11) (T := TX11) (N := 79) hx hb hts inB_11 hown hE.1 hP 0 rfl rfl 15 (Nat.le_of_ble_eq_true rfl) (hts _ k_1335) (fun _ h9 => h9) rfl dX11_hasRelation_12 ?_
        refine lv_iload_n hx hb dX11_hasRelation_15 rfl (lv_at hl 0 rfl) ?_
        refine ldI hx hb hE hP 7 rfl (vpI (k := 160) rfl (show 0 ≤ l1_3.toInt from om_14 zc4) (show l1_3.toInt < 160 from om_427 hr1_3)) rfl rfl dX11_hasRelation_16 ?_
        refine lv_topi (fun t11 et11 => ?_)
        refine lv_bipush (v := 20) hx hb dX11_hasRelation_17 rfl ?_
        refine lv_icmp_eq (tgt := 41) hx hb dX11_hasRelation_19 rfl (fun c12 => ?_) (fun c12 => ?_)
        · skip
          refine lv_iload_n hx hb dX11_hasRelation_41 rfl (lv_at hl 0 rfl) ?_
          refine lv_if_lt (tgt := 73) hx hb dX11_hasRelation_42 rfl (fun c13 => ?_) (fun c13 => ?_)
          · skip
            refine lv_iconst (v := 0) hx hb dX11_hasRelation_73 rfl ?_
            exact ret 0 () _ _ _ _ _ _ rfl ⟨(hT3.symm.trans (gsY_X11_hasRelation_1_q4 c4 et11 c12 c13)), (Or.inr rfl)⟩ hP hD hS dX11_hasRelation_74 (Nat.le_refl _) (Nat.le_refl _)
          · skip
            refine lv_aload_n hx hb dX11_hasRelation_45 rfl (lv_at hl 1 rfl) ?_
            refine va_get (D := (dC, dI)) (ci := 11) (v := .ref (r 15)) (C := RX11) (T := TX11) (N := 79) hx hb hts inB_11 hown hE.1 hP 0 rfl rfl 15 (Nat.le_of_ble_eq_true rfl) (hts _ k_1335) (fun _ h9 => h9) rfl dX11_hasRelation_46 ?_
            refine lv_iload_n hx hb dX11_hasRelation_49 rfl (lv_at hl 0 rfl) ?_
            refine ldI hx hb hE hP 7 rfl (vpI (k := 160) rfl (show 0 ≤ l1_3.toInt from om_14 zc4) (show l1_3.toInt < 160 from om_427 hr1_3)) rfl rfl dX11_hasRelation_50 ?_
            refine tI (y := t11) et11.symm ?_
            refine lv_bipush (v := 20) hx hb dX11_hasRelation_51 rfl ?_
            refine lv_icmp_eq (tgt := 73) hx hb dX11_hasRelation_53 rfl (fun c14 => ?_) (fun c14 => ?_)
            · skip
              refine lv_iconst (v := 0) hx hb dX11_hasRelation_73 rfl ?_
              exact ret 0 () _ _ _ _ _ _ rfl ⟨(hT3.symm.trans (gsY_X11_hasRelation_1_q5 c4 et11 c12 c13 c14)), (Or.inr rfl)⟩ hP hD hS dX11_hasRelation_74 (Nat.le_refl _) (Nat.le_refl _)
            · skip
              refine lv_aload_n hx hb dX11_hasRelation_56 rfl (lv_at hl 1 rfl) ?_
              refine va_get (D := (dC, dI)) (ci := 11) (v := .ref (r 15)) (C := RX11) (T := TX11) (N := 79) hx hb hts inB_11 hown hE.1 hP 0 rfl rfl 15 (Nat.le_of_ble_eq_true rfl) (hts _ k_1335) (fun _ h9 => h9) rfl dX11_hasRelation_57 ?_
              refine lv_iload_n hx hb dX11_hasRelation_60 rfl (lv_at hl 0 rfl) ?_
              refine ldI hx hb hE hP 7 rfl (vpI (k := 160) rfl (show 0 ≤ l1_3.toInt from om_14 zc4) (show l1_3.toInt < 160 from om_427 hr1_3)) rfl rfl dX11_hasRelation_61 ?_
              refine tI (y := t11) et11.symm ?_
              refine cbSi (n := 1) (rest := []) hx hb hml hown hts hE hP hD hS hA (sY_X11_tight_1 NF l dC dI cy y0 r t11 v f w g hIv hCf hRf ) k_1677 k_1678 k_114 k_1679 he_yX11_tight ⟨Nat.le_of_ble_eq_true rfl, Nat.le_of_ble_eq_true rfl⟩ (rfl) hl.1 rfl (Nat.le_of_ble_eq_true rfl) dX11_hasRelation_62 (fun r15 u H locs hw hP hD hS => ?_)
              obtain ⟨hG16, hw⟩ := hw
              refine lv_iconst (v := 4) hx hb dX11_hasRelation_65 rfl ?_
              refine lv_icmp_ne (tgt := 73) hx hb dX11_hasRelation_66 rfl (fun c17 => ?_) (fun c17 => ?_)
              · skip
                refine lv_iconst (v := 0) hx hb dX11_hasRelation_73 rfl ?_
                exact ret 0 () _ _ _ _ _ _ rfl ⟨(hT3.symm.trans (gsY_X11_hasRelation_1_q6 c4 et11 c12 c13 c14 hG16.symm c17)), (Or.inr rfl)⟩ hP hD hS dX11_hasRelation_74 (Nat.le_refl _) (Nat.le_refl _)
              · skip
                refine lv_iconst (v := 1) hx hb dX11_hasRelation_69 rfl ?_
                refine lv_goto (tgt := 74) hx hb dX11_hasRelation_70 rfl ?_
                exact ret 1 () _ _ _ _ _ _ rfl ⟨(hT3.symm.trans (gsY_X11_hasRelation_1_q7 c4 et11 c12 c13 c14 hG16.symm c17)), (Or.inl rfl)⟩ hP hD hS dX11_hasRelation_74 (Nat.le_refl _) (Nat.le_refl _)
        · skip
          refine lv_aload_n hx hb dX11_hasRelation_22 rfl (lv_at hl 1 rfl) ?_
          refine va_get (D := (dC, dI)) (ci := 11) (v := .ref (r 15)) (C := RX11) (T := TX11) (N := 79) hx hb hts inB_11 hown hE.1 hP 0 rfl rfl 15 (Nat.le_of_ble_eq_true rfl) (hts _ k_1335) (fun _ h9 => h9) rfl dX11_hasRelation_23 ?_
          refine lv_iload_n hx hb dX11_hasRelation_26 rfl (lv_at hl 0 rfl) ?_
          refine ldI hx hb hE hP 7 rfl (vpI (k := 160) rfl (show 0 ≤ l1_3.toInt from om_14 zc4) (show l1_3.toInt < 160 from om_427 hr1_3)) rfl rfl dX11_hasRelation_27 ?_
          refine tI (y := t11) et11.symm ?_
          refine cbSi (n := 1) (rest := []) hx hb hml hown hts hE hP hD hS hA (sY_X11_tight_1 NF l dC dI cy y0 r t11 v f w g hIv hCf hRf ) k_1677 k_1678 k_114 k_1679 he_yX11_tight ⟨Nat.le_of_ble_eq_true rfl, Nat.le_of_ble_eq_true rfl⟩ (rfl) hl.1 rfl (Nat.le_of_ble_eq_true rfl) dX11_hasRelation_28 (fun r18 u H locs hw hP hD hS => ?_)
          obtain ⟨hG19, hw⟩ := hw
          refine lv_iconst (v := 4) hx hb dX11_hasRelation_31 rfl ?_
          refine lv_icmp_le (tgt := 41) hx hb dX11_hasRelation_32 rfl (fun c20 => ?_) (fun c20 => ?_)
          · skip
            refine lv_iload_n hx hb dX11_hasRelation_41 rfl (lv_at hl 0 rfl) ?_
            refine lv_if_lt (tgt := 73) hx hb dX11_hasRelation_42 rfl (fun c21 => ?_) (fun c21 => ?_)
            · skip
              refine lv_iconst (v := 0) hx hb dX11_hasRelation_73 rfl ?_
              exact ret 0 () _ _ _ _ _ _ rfl ⟨(hT3.symm.trans (gsY_X11_hasRelation_1_q8 c4 et11 c12 hG19.symm c20 c21)), (Or.inr rfl)⟩ hP hD hS dX11_hasRelation_74 (Nat.le_refl _) (Nat.le_refl _)
            · skip
              refine lv_aload_n hx hb dX11_hasRelation_45 rfl (lv_at hl 1 rfl) ?_
              refine va_get (D := (dC, dI)) (ci := 11) (v := .ref (r 15)) (C := RX11) (T := TX11) (N := 79) hx hb hts inB_11 hown hE.1 hP 0 rfl rfl 15 (Nat.le_of_ble_eq_true rfl) (hts _ k_1335) (fun _ h9 => h9) rfl dX11_hasRelation_46 ?_
              refine lv_iload_n hx hb dX11_hasRelation_49 rfl (lv_at hl 0 rfl) ?_
              refine ldI hx hb hE hP 7 rfl (vpI (k := 160) rfl (show 0 ≤ l1_3.toInt from om_14 zc4) (show l1_3.toInt < 160 from om_427 hr1_3)) rfl rfl dX11_hasRelation_50 ?_
              refine tI (y := t11) et11.symm ?_
              refine lv_bipush (v := 20) hx hb dX11_hasRelation_51 rfl ?_
              refine lv_icmp_eq (tgt := 73) hx hb dX11_hasRelation_53 rfl (fun c22 => ?_) (fun c22 => ?_)
              · skip
                refine lv_iconst (v := 0) hx hb dX11_hasRelation_73 rfl ?_
                exact ret 0 () _ _ _ _ _ _ rfl ⟨(hT3.symm.trans (gsY_X11_hasRelation_1_q9 c4 et11 c12 hG19.symm c20 c21 c22)), (Or.inr rfl)⟩ hP hD hS dX11_hasRelation_74 (Nat.le_refl _) (Nat.le_refl _)
              · skip
                refine lv_aload_n hx hb dX11_hasRelation_56 rfl (lv_at hl 1 rfl) ?_
                refine va_get (D := (dC, dI)) (ci := 11) (v := .ref (r 15)) (C := RX11) (T := TX11) (N := 79) hx hb hts inB_11 hown hE.1 hP 0 rfl rfl 15 (Nat.le_of_ble_eq_true rfl) (hts _ k_1335) (fun _ h9 => h9) rfl dX11_hasRelation_57 ?_
                refine lv_iload_n hx hb dX11_hasRelation_60 rfl (lv_at hl 0 rfl) ?_
                refine ldI hx hb hE hP 7 rfl (vpI (k := 160) rfl (show 0 ≤ l1_3.toInt from om_14 zc4) (show l1_3.toInt < 160 from om_427 hr1_3)) rfl rfl dX11_hasRelation_61 ?_
                refine tI (y := t11) et11.symm ?_
                refine cbSi (n := 1) (rest := []) hx hb hml hown hts hE hP hD hS hA (sY_X11_tight_1 NF l dC dI cy y0 r t11 v f w g hIv hCf hRf ) k_1677 k_1678 k_114 k_1679 he_yX11_tight ⟨Nat.le_of_ble_eq_true rfl, Nat.le_of_ble_eq_true rfl⟩ (rfl) hl.1 rfl (Nat.le_of_ble_eq_true rfl) dX11_hasRelation_62 (fun r23 u H locs hw hP hD hS => ?_)
                obtain ⟨hG24, hw⟩ := hw
                refine lv_iconst (v := 4) hx hb dX11_hasRelation_65 rfl ?_
                refine lv_icmp_ne (tgt := 73) hx hb dX11_hasRelation_66 rfl (fun c25 => ?_) (fun c25 => ?_)
                · skip
                  refine lv_iconst (v := 0) hx hb dX11_hasRelation_73 rfl ?_
                  exact ret 0 () _ _ _ _ _ _ rfl ⟨(hT3.symm.trans (gsY_X11_hasRelation_1_q10 c4 et11 c12 hG19.symm c20 c21 c22 hG24.symm c25)), (Or.inr rfl)⟩ hP hD hS dX11_hasRelation_74 (Nat.le_refl _) (Nat.le_refl _)
                · skip
                  refine lv_iconst (v := 1) hx hb dX11_hasRelation_69 rfl ?_
                  refine lv_goto (tgt := 74) hx hb dX11_hasRelation_70 rfl ?_
                  exact ret 1 () _ _ _ _ _ _ rfl ⟨(hT3.symm.trans (gsY_X11_hasRelation_1_q11 c4 et11 c12 hG19.symm c20 c21 c22 hG24.symm c25)), (Or.inl rfl)⟩ hP hD hS dX11_hasRelation_74 (Nat.le_refl _) (Nat.le_refl _)
          · skip
            obtain ⟨t26, et26⟩ : ∃ y : Int32, y = l1_3 + (-1) := ⟨_, rfl⟩
            have zt26 : t26.toInt = l1_3.toInt + (-1) := (congrArg Int32.toInt et26).trans (add_i rfl tc_m1 (om_226 zc4) (om_428 hr1_3))
            refine lv_iinc (v := t26) (lv' := [(1, .int t26), (0, .ref y0)]) hx hb dX11_hasRelation_35 hl (k := 0) rfl et26.symm (Nat.le_of_ble_eq_true rfl) rfl (fun ls hl => ?_)
            refine lv_goto (tgt := 7) hx hb dX11_hasRelation_38 rfl ?_
            have rg28 := fb_rng t26
            exact ih3 t26 ((gsY_X11_hasRelation_1_q12 c4 et11 c12 hG19.symm c20 et26).symm.trans hT3) ⟨show (-2147483648 : Int) ≤ t26.toInt from om_10 rg28, show t26.toInt ≤ (159 : Int) from om_429 hr1_3 zt26⟩ (show (t26.toInt + 2147483648).toNat < n3 from om_229 hm3 zt26 rg28) _ _ _ hP hD hS (lv_sub hl [0, 1] rfl)
  have rg29 := fb_rng t1
  exact lp3 (4294967296 + NF) t1 (gsY_X11_hasRelation_1_q13 et1).symm ⟨show (-2147483648 : Int) ≤ t1.toInt from om_10 rg29, show t1.toInt ≤ (159 : Int) from om_430 b10_v zt1⟩ (show (t1.toInt + 2147483648).toNat < 4294967296 + NF from om_431 rg29) _ _ _ hP hD hS (lv_sub hl [0, 1] rfl)
set_option maxHeartbeats 4000000 in
set_option maxRecDepth 100000 in
theorem sY_X11_formula_1 (NF : Nat) (l : Launch) (dC : Nat → ClassId) (dI : Nat → Nat → Nat) (cy : Nat → ClassId) (y0 : Nat) (r : Nat → Nat)  (v : Nat → Int32) (f : Nat → Nat → Int32) (w : Int64) (g : Nat → Int64) (hIv : YI v) (hCf : YC f) (hRf : progOK (f 4) (f 5) (v 9).toInt.toNat)  : ctV l (dC, dI) cy yX11_formula cX11_formula 3 5 146 0 0 ((Nat → Int32) × (Nat → Nat → Int32) × (Int64) × (Nat → Int64)) [.ref y0] (YW cy y0 r v f w g) (fun u => gsY_X11_formula_1 NF v f w g = u ∧ KV [1, 2, 3, 5, 6, 7, 8, 10, 11, 13, 14, 15] u.1 v ∧ KF [2, 3, 6] u.2.1 f ∧ YI u.1 ∧ YC u.2.1 ∧ progOK (u.2.1 4) (u.2.1 5) (u.1 9).toInt.toNat ∧ u.1 0 = v 0 ∧ u.1 4 = v 4 ∧ u.1 9 = v 9 ∧ u.1 17 = v 17 ∧ u.1 18 = v 18 ∧ u.1 24 = v 24 ∧ u.1 25 = v 25 ∧ u.1 35 = v 35 ∧ u.1 36 = v 36 ∧ u.1 38 = v 38 ∧ u.1 39 = v 39 ∧ (GR (v 3).toInt (v 5).toInt (u.1 3).toInt (u.1 5).toInt) ∧ (IM0 (u.1 1).toInt (progOK (u.2.1 2) (u.2.1 3) ((u.1 8).toInt).toNat))) (fun u => YW cy y0 r u.1 u.2.1 u.2.2.1 u.2.2.2) := by
  refine ctV_of (by decide) (Nat.le_of_ble_eq_true rfl) (fun p e s m below meth c A ls Q hx hb hml hts hown hnm hE hP hD hA hl ret => ?_)
  have hUv : (v 35).toInt + (v 36).toInt ≤ 40 := hIv.2
  have hM_v : KV [1, 2, 3, 5, 6, 7, 8, 10, 11, 13, 14, 15] v v := fun _ _ => rfl
  have hA_f : KF [2, 3, 6] f f := fun _ _ => rfl
  have b1_v : (0 : Int) ≤ (v 1).toInt ∧ (v 1).toInt ≤ 4 := Yb_1 hIv.1
  have b3_v : (0 : Int) ≤ (v 3).toInt ∧ (v 3).toInt ≤ 1600 := Yb_3 hIv.1
  have b8_v : (0 : Int) ≤ (v 8).toInt ∧ (v 8).toInt ≤ 320 := Yb_8 hIv.1
  have b10_v : (0 : Int) ≤ (v 10).toInt ∧ (v 10).toInt ≤ 160 := Yb_10 hIv.1
  have b13_v : (0 : Int) ≤ (v 13).toInt ∧ (v 13).toInt ≤ 31 := Yb_13 hIv.1
  have b14_v : (0 : Int) ≤ (v 14).toInt ∧ (v 14).toInt ≤ 8 := Yb_14 hIv.1
  have hGR : GR (v 3).toInt (v 5).toInt (v 3).toInt (v 5).toInt := GR.refl _ _
  have hown : s.vm.findClass RX11 = some m.cls := hown
  have hS : va_S A s.heap s.heap [] := va_S.rf
  have hl : lv_has ls 3 [(0, .ref y0)] := hl
  refine lv_aload_n hx hb dX11_formula_0 rfl (lv_at hl 0 rfl) ?_
  refine cbVv (n := 0) (rest := []) hx hb hml hown hts hE hP hD hS hA (sY_X11_token_1 NF l dC dI cy y0 r  v f w g hIv hCf hRf ) k_1579 k_1581 k_42 k_114 k_1582 hd_yX11_token ⟨Nat.le_of_ble_eq_true rfl, Nat.le_of_ble_eq_true rfl⟩ 0 11 rfl rfl (rfl) hl.1 rfl (Nat.le_of_ble_eq_true rfl) dX11_formula_1 (fun u H locs hw hP hD hS => ?_)
  obtain ⟨hG1, hw⟩ := hw
  obtain ⟨v2, f3, w4, g5⟩ := u
  obtain ⟨kV_v2, kF_f3, hIv2, hCf3, hRf3, hk0_v2, hk1_v2, hk2_v2, hk4_v2, hk8_v2, hk9_v2, hk10_v2, hk13_v2, hk14_v2, hk15_v2, hk17_v2, hk18_v2, hk24_v2, hk25_v2, hk35_v2, hk36_v2, hk38_v2, hk39_v2, pv6, pv7, kq8, kq9, kq10⟩ := hw
  have hM_v2 : KV [1, 2, 3, 5, 6, 7, 8, 10, 11, 13, 14, 15] v2 v := KV.tr kV_v2 hM_v (by decide +kernel)
  have hA_f3 : KF [2, 3, 6] f3 f := KF.tr kF_f3 hA_f rfl
  have hP : va_P (dC, dI) vwCl (YW cy y0 r v2 f3 w4 g5) H := hP
  have hD : va_D A (YW cy y0 r v2 f3 w4 g5) := hD
  have b3_v2 : 0 ≤ (v2 3).toInt ∧ (v2 3).toInt ≤ 1600 := Yb_3 hIv2.1
  have pv6 : (v 3).toInt ≤ (v2 3).toInt := pv6
  have pv7 : (v2 5).toInt = (v 5).toInt ∨ (v 3).toInt < (v2 3).toInt ∨ ¬ (v2 5).toInt = 59 := pv7
  have hs2_f3 : f3 2 = (f 2) := kq8
  have hs3_f3 : f3 3 = (f 3) := kq9
  have hs6_f3 : f3 6 = (f 6) := kq10
  have hUv2 : (v2 35).toInt + (v2 36).toInt ≤ 40 := hIv2.2
  have hq0_v2 : v2 0 = (v 0) := hk0_v2
  have hq1_v2 : v2 1 = (v 1) := hk1_v2
  have zq1_v2 := congrArg Int32.toInt hq1_v2
  have hq4_v2 : v2 4 = (v 4) := hk4_v2
  have hq8_v2 : v2 8 = (v 8) := hk8_v2
  have zq8_v2 := congrArg Int32.toInt hq8_v2
  have hq9_v2 : v2 9 = (v 9) := hk9_v2
  have hq10_v2 : v2 10 = (v 10) := hk10_v2
  have zq10_v2 := congrArg Int32.toInt hq10_v2
  have hq13_v2 : v2 13 = (v 13) := hk13_v2
  have zq13_v2 := congrArg Int32.toInt hq13_v2
  have hq14_v2 : v2 14 = (v 14) := hk14_v2
  have zq14_v2 := congrArg Int32.toInt hq14_v2
  have hq17_v2 : v2 17 = (v 17) := hk17_v2
  have hq18_v2 : v2 18 = (v 18) := hk18_v2
  have hq24_v2 : v2 24 = (v 24) := hk24_v2
  have hq25_v2 : v2 25 = (v 25) := hk25_v2
  have hq35_v2 : v2 35 = (v 35) := hk35_v2
  have hq36_v2 : v2 36 = (v 36) := hk36_v2
  have hq38_v2 : v2 38 = (v 38) := hk38_v2
  have hq39_v2 : v2 39 = (v 39) := hk39_v2
  have hGR : GR (v 3).toInt (v 5).toInt (v2 3).toInt (v2 5).toInt := GR.tr hGR (show GR (v 3).toInt (v 5).toInt (v2 3).toInt (v2 5).toInt from ⟨pv6, pv7⟩) (by first | with_reducible rfl | with_reducible assumption | rfl | omega) (by first | with_reducible rfl | with_reducible assumption | rfl | omega)
  clear pv7
  refine lv_aload_n hx hb dX11_formula_4 rfl (lv_at hl 0 rfl) ?_
  refine lv_iconst (v := 1) hx hb dX11_formula_5 rfl ?_
  refine va_put (D := (dC, dI)) (ci := 11) (v := .int 1) (ty := tyX11 24) (C := RX11) (T := TX11) (N := 79) hx hb hts inB_11 tyX11 tyX11_ok nmX11 hown hE.1 hP hD hS 0 rfl rfl 24 (Nat.le_of_ble_eq_true rfl) (hts _ k_1344) (fun _ h9 => h9) rfl (tyX11_ok 24 (Nat.le_of_ble_eq_true rfl)) rfl rfl (Nat.le_of_ble_eq_true rfl) dX11_formula_6 (fun H locs hP hD hS => ?_)
  have hP : va_P (dC, dI) vwCl (YW cy y0 r (upd v2 15 1) f3 w4 g5) H := hP
  have hD : va_D A (YW cy y0 r (upd v2 15 1) f3 w4 g5) := hD
  refine lv_aload_n hx hb dX11_formula_9 rfl (lv_at hl 0 rfl) ?_
  refine lv_iconst (v := 0) hx hb dX11_formula_10 rfl ?_
  refine va_put (D := (dC, dI)) (ci := 11) (v := .int 0) (ty := tyX11 17) (C := RX11) (T := TX11) (N := 79) hx hb hts inB_11 tyX11 tyX11_ok nmX11 hown hE.1 hP hD hS 0 rfl rfl 17 (Nat.le_of_ble_eq_true rfl) (hts _ k_1337) (fun _ h9 => h9) rfl (tyX11_ok 17 (Nat.le_of_ble_eq_true rfl)) rfl rfl (Nat.le_of_ble_eq_true rfl) dX11_formula_11 (fun H locs hP hD hS => ?_)
  have hP : va_P (dC, dI) vwCl (YW cy y0 r (upd (upd v2 15 1) 8 0) f3 w4 g5) H := hP
  have hD : va_D A (YW cy y0 r (upd (upd v2 15 1) 8 0) f3 w4 g5) := hD
  refine lv_aload_n hx hb dX11_formula_14 rfl (lv_at hl 0 rfl) ?_
  refine lv_iconst (v := 0) hx hb dX11_formula_15 rfl ?_
  refine va_put (D := (dC, dI)) (ci := 11) (v := .int 0) (ty := tyX11 19) (C := RX11) (T := TX11) (N := 79) hx hb hts inB_11 tyX11 tyX11_ok nmX11 hown hE.1 hP hD hS 0 rfl rfl 19 (Nat.le_of_ble_eq_true rfl) (hts _ k_1339) (fun _ h9 => h9) rfl (tyX11_ok 19 (Nat.le_of_ble_eq_true rfl)) rfl rfl (Nat.le_of_ble_eq_true rfl) dX11_formula_16 (fun H locs hP hD hS => ?_)
  have hP : va_P (dC, dI) vwCl (YW cy y0 r (upd (upd (upd v2 15 1) 8 0) 10 0) f3 w4 g5) H := hP
  have hD : va_D A (YW cy y0 r (upd (upd (upd v2 15 1) 8 0) 10 0) f3 w4 g5) := hD
  refine lv_aload_n hx hb dX11_formula_19 rfl (lv_at hl 0 rfl) ?_
  refine lv_iconst (v := 0) hx hb dX11_formula_20 rfl ?_
  refine va_put (D := (dC, dI)) (ci := 11) (v := .int 0) (ty := tyX11 23) (C := RX11) (T := TX11) (N := 79) hx hb hts inB_11 tyX11 tyX11_ok nmX11 hown hE.1 hP hD hS 0 rfl rfl 23 (Nat.le_of_ble_eq_true rfl) (hts _ k_1343) (fun _ h9 => h9) rfl (tyX11_ok 23 (Nat.le_of_ble_eq_true rfl)) rfl rfl (Nat.le_of_ble_eq_true rfl) dX11_formula_21 (fun H locs hP hD hS => ?_)
  have hP : va_P (dC, dI) vwCl (YW cy y0 r (upd (upd (upd (upd v2 15 1) 8 0) 10 0) 14 0) f3 w4 g5) H := hP
  have hD : va_D A (YW cy y0 r (upd (upd (upd (upd v2 15 1) 8 0) 10 0) 14 0) f3 w4 g5) := hD
  refine lv_aload_n hx hb dX11_formula_24 rfl (lv_at hl 0 rfl) ?_
  refine lv_iconst (v := 0) hx hb dX11_formula_25 rfl ?_
  refine va_put (D := (dC, dI)) (ci := 11) (v := .int 0) (ty := tyX11 22) (C := RX11) (T := TX11) (N := 79) hx hb hts inB_11 tyX11 tyX11_ok nmX11 hown hE.1 hP hD hS 0 rfl rfl 22 (Nat.le_of_ble_eq_true rfl) (hts _ k_1342) (fun _ h9 => h9) rfl (tyX11_ok 22 (Nat.le_of_ble_eq_true rfl)) rfl rfl (Nat.le_of_ble_eq_true rfl) dX11_formula_26 (fun H locs hP hD hS => ?_)
  have hP : va_P (dC, dI) vwCl (YW cy y0 r (upd (upd (upd (upd (upd v2 15 1) 8 0) 10 0) 14 0) 13 0) f3 w4 g5) H := hP
  have hD : va_D A (YW cy y0 r (upd (upd (upd (upd (upd v2 15 1) 8 0) 10 0) 14 0) 13 0) f3 w4 g5) := hD
  refine lv_aload_n hx hb dX11_formula_29 rfl (lv_at hl 0 rfl) ?_
  refine cbVv (n := 0) (rest := []) hx hb hml hown hts hE hP hD hS hA (sY_X11_unit_1 NF l dC dI cy y0 r  (upd (upd (upd (upd (upd v2 15 1) 8 0) 10 0) 14 0) 13 0) f3 w4 g5 ⟨(Yu_13 (x := 0) (Yu_14 (x := 0) (Yu_10 (x := 0) (Yu_8 (x := 0) (Yu_15 (x := 1) hIv2.1 (by decide) (by decide)) (by decide) (by decide)) (by decide) (by decide)) (by decide) (by decide)) (by decide) (by decide)), hIv2.2⟩ hCf3 hRf3 (by have qc0 : (0 : Int32).toInt = 0 := (by decide); have qc1 : (1 : Int32).toInt = 1 := (by decide); show (0 : Int32).toInt + (0 : Int32).toInt ≤ 10 * (0 : Int32).toInt + 1; omega) (by have qc0 : (0 : Int32).toInt = 0 := (by decide); have qc1 : (1 : Int32).toInt = 1 := (by decide); show (0 : Int32).toInt ≤ (0 : Int32).toInt + (0 : Int32).toInt + 1; omega) (by have qc0 : (0 : Int32).toInt = 0 := (by decide); have qc1 : (1 : Int32).toInt = 1 := (by decide); show (0 : Int32).toInt ≤ 30; omega) (by have qc0 : (0 : Int32).toInt = 0 := (by decide); have qc1 : (1 : Int32).toInt = 1 := (by decide); show (0 : Int32).toInt ≤ 7; omega) (by have q0 : (0 : Int32).toInt = 0 := (by decide); have q1 : (1 : Int32).toInt = 1 := (by decide); show FI 0 (0 : Int32).toInt (0 : Int32).toInt (0 : Int32).toInt (f3 6) (f3 2) (f3 3); rw [hs6_f3, hs2_f3, hs3_f3]; exact FI.zero (by decide) (by decide) (by decide))) k_1669 k_1671 k_57 k_114 k_1672 hd_yX11_unit ⟨Nat.le_of_ble_eq_true rfl, Nat.le_of_ble_eq_true rfl⟩ 0 11 rfl rfl (rfl) hl.1 rfl (Nat.le_of_ble_eq_true rfl) dX11_formula_30 (fun u H locs hw hP hD hS => ?_)
  obtain ⟨hG11, hw⟩ := hw
  obtain ⟨v12, f13, w14, g15⟩ := u
  obtain ⟨kV_v12, kF_f13, hIv12, hCf13, hRf13, hk0_v12, hk4_v12, hk9_v12, hk15_v12, hk17_v12, hk18_v12, hk24_v12, hk25_v12, hk35_v12, hk36_v12, hk38_v12, hk39_v12, pg16, pg17, pg18, pg19⟩ := hw
  have hM_v12 : KV [1, 2, 3, 5, 6, 7, 8, 10, 11, 13, 14, 15] v12 v := KV.tr kV_v12 (KV.up (j := 13) (x := 0) (KV.up (j := 14) (x := 0) (KV.up (j := 10) (x := 0) (KV.up (j := 8) (x := 0) (KV.up (j := 15) (x := 1) hM_v2 (by decide +kernel)) (by decide +kernel)) (by decide +kernel)) (by decide +kernel)) (by decide +kernel)) (by decide +kernel)
  have hA_f13 : KF [2, 3, 6] f13 f := KF.tr kF_f13 hA_f3 rfl
  have hP : va_P (dC, dI) vwCl (YW cy y0 r v12 f13 w14 g15) H := hP
  have hD : va_D A (YW cy y0 r v12 f13 w14 g15) := hD
  have b3_v12 : 0 ≤ (v12 3).toInt ∧ (v12 3).toInt ≤ 1600 := Yb_3 hIv12.1
  have b1_v12 : 0 ≤ (v12 1).toInt ∧ (v12 1).toInt ≤ 4 := Yb_1 hIv12.1
  have b10_v12 : 0 ≤ (v12 10).toInt ∧ (v12 10).toInt ≤ 160 := Yb_10 hIv12.1
  have b14_v12 : 0 ≤ (v12 14).toInt ∧ (v12 14).toInt ≤ 8 := Yb_14 hIv12.1
  have b8_v12 : 0 ≤ (v12 8).toInt ∧ (v12 8).toInt ≤ 320 := Yb_8 hIv12.1
  have b13_v12 : 0 ≤ (v12 13).toInt ∧ (v12 13).toInt ≤ 31 := Yb_13 hIv12.1
  have pg16 : GR (v2 3).toInt (v2 5).toInt (v12 3).toInt (v12 5).toInt := pg16
  have pg17 : IM0 (v12 1).toInt (FI 1 (v12 10).toInt (v12 14).toInt (v12 8).toInt (f13 6) (f13 2) (f13 3)) := pg17
  have pg18 : NB (v12 1).toInt (v12 8).toInt (v12 10).toInt (v12 13).toInt (v12 14).toInt := pg18
  have pg19 : UG (v12 1).toInt (0 : Int32).toInt (v12 13).toInt := pg19
  have hUv12 : (v12 35).toInt + (v12 36).toInt ≤ 40 := hIv12.2
  have hq0_v12 : v12 0 = (v 0) := hk0_v12.trans hq0_v2
  have hq4_v12 : v12 4 = (v 4) := hk4_v12.trans hq4_v2
  have hq9_v12 : v12 9 = (v 9) := hk9_v12.trans hq9_v2
  have hq15_v12 : v12 15 = 1 := hk15_v12
  have hq17_v12 : v12 17 = (v 17) := hk17_v12.trans hq17_v2
  have hq18_v12 : v12 18 = (v 18) := hk18_v12.trans hq18_v2
  have hq24_v12 : v12 24 = (v 24) := hk24_v12.trans hq24_v2
  have hq25_v12 : v12 25 = (v 25) := hk25_v12.trans hq25_v2
  have hq35_v12 : v12 35 = (v 35) := hk35_v12.trans hq35_v2
  have hq36_v12 : v12 36 = (v 36) := hk36_v12.trans hq36_v2
  have hq38_v12 : v12 38 = (v 38) := hk38_v12.trans hq38_v2
  have hq39_v12 : v12 39 = (v 39) := hk39_v12.trans hq39_v2
  have hGR : GR (v 3).toInt (v 5).toInt (v12 3).toInt (v12 5).toInt := GR.tr hGR (show GR (v2 3).toInt (v2 5).toInt (v12 3).toInt (v12 5).toInt from pg16) (by first | with_reducible rfl | with_reducible assumption | rfl | omega) (by first | with_reducible rfl | with_reducible assumption | rfl | omega)
  have hFJ := pg17
  have hNB := pg18
  refine lv_iconst (v := 1) hx hb dX11_formula_33 rfl ?_
  refine lv_istore_n (lv' := [(1, .int 1), (0, .ref y0)]) hx hb dX11_formula_34 rfl hl (Nat.le_of_ble_eq_true rfl) rfl (fun ls hl => ?_)
  have lp20 : ∀ (n20 : Nat) (l1_20 : Int32) (v20 : Nat → Int32) (f20 : Nat → Nat → Int32) (w20 : Int64) (g20 : Nat → Int64), YI v20 → YC f20 → progOK (f20 4) (f20 5) (v20 9).toInt.toNat → v20 0 = (v 0) → v20 4 = (v 4) → v20 9 = (v 9) → v20 15 = 1 → v20 17 = (v 17) → v20 18 = (v 18) → v20 24 = (v 24) → v20 25 = (v 25) → v20 35 = (v 35) → v20 36 = (v 36) → v20 38 = (v 38) → v20 39 = (v 39) → gsY_X11_formula_1_L20 NF n20 l1_20 v20 f20 w20 g20 = (gsY_X11_formula_1 NF v f w g) → ((0 : Int) ≤ l1_20.toInt ∧ l1_20.toInt ≤ 1) → (IM0 (v20 1).toInt (FI 1 (v20 10).toInt (v20 14).toInt (v20 8).toInt (f20 6) (f20 2) (f20 3))) → (NB (v20 1).toInt (v20 8).toInt (v20 10).toInt (v20 13).toInt (v20 14).toInt) → (GR (v 3).toInt (v 5).toInt (v20 3).toInt (v20 5).toInt) → KV [1, 2, 3, 5, 6, 7, 8, 10, 11, 13, 14, 15] v20 v → KF [2, 3, 6] f20 f → (1 + 100 * (31 - (v20 13).toInt) + 2 * (v20 10).toInt + l1_20.toInt - 100000 * (v20 1).toInt).toNat < n20 → ∀ (H : Heap) (locs : List Loc) (ls : Array Slot), va_P (dC, dI) vwCl (YW cy y0 r v20 f20 w20 g20) H → va_D A (YW cy y0 r v20 f20 w20 g20) → va_S A s.heap H locs → lv_has ls 3 [(1, .int l1_20), (0, .ref y0)] → W p l e { frames := 5, cells := 0, slots := 0, locals := 146 } s m ([.ref y0] : List Value).toArray below meth c H locs 0 0 Q (F0 m 35 ls []) := by
    intro n20
    induction n20 with
    | zero => intro l1_20 v20 f20 w20 g20 hIv20 hCf20 hRf20 hq0_v20 hq4_v20 hq9_v20 hq15_v20 hq17_v20 hq18_v20 hq24_v20 hq25_v20 hq35_v20 hq36_v20 hq38_v20 hq39_v20 hT20 hr1_20 hx0_20 hx1_20 hx2_20 hM_v20 hA_f20 hm; exact absurd hm (Nat.not_lt_zero _)
    | succ n20 ih20 =>
      intro l1_20 v20 f20 w20 g20 hIv20 hCf20 hRf20 hq0_v20 hq4_v20 hq9_v20 hq15_v20 hq17_v20 hq18_v20 hq24_v20 hq25_v20 hq35_v20 hq36_v20 hq38_v20 hq39_v20 hT20 hr1_20 hx0_20 hx1_20 hx2_20 hM_v20 hA_f20 hm20 H locs ls hP hD hS hl
      clear b13_v12 b8_v12 b14_v12 b10_v12 b1_v12 b3_v12 zq14_v2 zq13_v2 zq10_v2 zq8_v2 zq1_v2 pv7 pv6 b3_v2
      have hUv20 : (v20 35).toInt + (v20 36).toInt ≤ 40 := hIv20.2
      have b1_v20 : 0 ≤ (v20 1).toInt ∧ (v20 1).toInt ≤ 4 := Yb_1 hIv20.1
      have b10_v20 : 0 ≤ (v20 10).toInt ∧ (v20 10).toInt ≤ 160 := Yb_10 hIv20.1
      have b14_v20 : 0 ≤ (v20 14).toInt ∧ (v20 14).toInt ≤ 8 := Yb_14 hIv20.1
      have b8_v20 : 0 ≤ (v20 8).toInt ∧ (v20 8).toInt ≤ 320 := Yb_8 hIv20.1
      have b13_v20 : 0 ≤ (v20 13).toInt ∧ (v20 13).toInt ≤ 31 := Yb_13 hIv20.1
      have b3_v20 : 0 ≤ (v20 3).toInt ∧ (v20 3).toInt ≤ 1600 := Yb_3 hIv20.1
      have hFJ := hx0_20
      have hNB := hx1_20
      have hGR := hx2_20
      refine lv_iload_n hx hb dX11_formula_35 rfl (lv_at hl 0 rfl) ?_
      have jp162 : ∀ (H : Heap) (locs : List Loc) (ls : Array Slot), gsY_X11_formula_1_J21 NF f20 g20 v20 w20 = (gsY_X11_formula_1 NF v f w g) → va_P (dC, dI) vwCl (YW cy y0 r v20 f20 w20 g20) H → va_D A (YW cy y0 r v20 f20 w20 g20) → va_S A s.heap H locs → lv_has ls 3 [(1, .int l1_20), (0, .ref y0)] → W p l e { frames := 5, cells := 0, slots := 0, locals := 146 } s m ([.ref y0] : List Value).toArray below meth c H locs 0 0 Q (F0 m 162 ls []) := by
        intro H locs ls hT21 hP hD hS hl
        have jp181 : ∀ (H : Heap) (locs : List Loc) (ls : Array Slot), gsY_X11_formula_1_J22 NF f20 g20 v20 w20 = (gsY_X11_formula_1 NF v f w g) → va_P (dC, dI) vwCl (YW cy y0 r v20 f20 w20 g20) H → va_D A (YW cy y0 r v20 f20 w20 g20) → va_S A s.heap H locs → lv_has ls 3 [(1, .int l1_20), (0, .ref y0)] → W p l e { frames := 5, cells := 0, slots := 0, locals := 146 } s m ([.ref y0] : List Value).toArray below meth c H locs 0 0 Q (F0 m 181 ls []) := by
          intro H locs ls hT22 hP hD hS hl
          refine lv_aload_n hx hb dX11_formula_181 rfl (lv_at hl 1 rfl) ?_
          refine va_get (D := (dC, dI)) (ci := 11) (v := .int (v20 1)) (C := RX11) (T := TX11) (N := 79) hx hb hts inB_11 hown hE.1 hP 0 rfl rfl 2 (Nat.le_of_ble_eq_true rfl) (hts _ k_1322) (fun _ h9 => h9) rfl dX11_formula_182 ?_
          refine lv_if_ne (tgt := 193) hx hb dX11_formula_185 rfl (fun c23 => ?_) (fun c23 => ?_)
          · skip
            have zc23 : ¬ ((v20 1).toInt = 0) := zEn rfl tc_0 c23
            exact ret (v20, f20, w20, g20) _ _ _ _ _ _ ⟨(hT22.symm.trans (gsY_X11_formula_1_q0 c23)), hM_v20, hA_f20, hIv20, hCf20, hRf20, hq0_v20, hq4_v20, hq9_v20, hq17_v20, hq18_v20, hq24_v20, hq25_v20, hq35_v20, hq36_v20, hq38_v20, hq39_v20, (by show GR (v 3).toInt (v 5).toInt (v20 3).toInt (v20 5).toInt; exact GR.cast hGR (by first | with_reducible rfl | with_reducible assumption | rfl | omega) (by first | with_reducible rfl | with_reducible assumption | rfl | omega)), (by show IM0 (v20 1).toInt (progOK (f20 2) (f20 3) ((v20 8).toInt).toNat); intro hz9; exfalso; omega)⟩ hP hD hS dX11_formula_193 (Nat.le_refl _) (Nat.le_refl _)
          · skip
            have zc23 : (v20 1).toInt = 0 := zEp rfl tc_0 c23
            obtain ⟨hn1, hn2, hn3, hn4⟩ := hNB (by omega)
            refine lv_aload_n hx hb dX11_formula_188 rfl (lv_at hl 1 rfl) ?_
            refine lv_iconst (v := 0) hx hb dX11_formula_189 rfl ?_
            refine cbVv (n := 1) (rest := []) hx hb hml hown hts hE hP hD hS hA (sY_X11_close_1 NF l dC dI cy y0 r 0 v20 f20 w20 g20 hIv20 hCf20 hRf20 ⟨by decide, by decide⟩ (by have q1 : (0 : Int32).toInt = 0 := (by decide); show (v20 8).toInt + (v20 10).toInt ≤ 310; omega) (by show FI 1 (v20 10).toInt (v20 14).toInt (v20 8).toInt (f20 6) (f20 2) (f20 3); exact FI.cast (hFJ (by omega)) (by first | with_reducible rfl | with_reducible assumption | rfl | omega) (by first | with_reducible rfl | with_reducible assumption | rfl | omega) (by first | with_reducible rfl | with_reducible assumption | rfl | omega))) k_1708 k_1710 k_66 k_114 k_1711 hd_yX11_close ⟨Nat.le_of_ble_eq_true rfl, Nat.le_of_ble_eq_true rfl⟩ 0 11 rfl rfl (rfl) hl.1 rfl (Nat.le_of_ble_eq_true rfl) dX11_formula_190 (fun u H locs hw hP hD hS => ?_)
            obtain ⟨hG24, hw⟩ := hw
            obtain ⟨v25, f26, w27, g28⟩ := u
            obtain ⟨kV_v25, kF_f26, hIv25, hCf26, hRf26, hk0_v25, hk1_v25, hk2_v25, hk3_v25, hk4_v25, hk5_v25, hk9_v25, hk13_v25, hk15_v25, hk17_v25, hk18_v25, hk24_v25, hk25_v25, hk35_v25, hk36_v25, hk38_v25, hk39_v25, pv29, pv30, pv31, pv32, pg33, pg34, pg35, kq36⟩ := hw
            have hM_v25 : KV [1, 2, 3, 5, 6, 7, 8, 10, 11, 13, 14, 15] v25 v := KV.tr kV_v25 hM_v20 (by decide +kernel)
            have hA_f26 : KF [2, 3, 6] f26 f := KF.tr kF_f26 hA_f20 rfl
            have hP : va_P (dC, dI) vwCl (YW cy y0 r v25 f26 w27 g28) H := hP
            have hD : va_D A (YW cy y0 r v25 f26 w27 g28) := hD
            have b8_v25 : 0 ≤ (v25 8).toInt ∧ (v25 8).toInt ≤ 320 := Yb_8 hIv25.1
            have b10_v25 : 0 ≤ (v25 10).toInt ∧ (v25 10).toInt ≤ 160 := Yb_10 hIv25.1
            have b14_v25 : 0 ≤ (v25 14).toInt ∧ (v25 14).toInt ≤ 8 := Yb_14 hIv25.1
            have pv29 : (v25 8).toInt + (v25 10).toInt = (v20 8).toInt + (v20 10).toInt := pv29
            have pv30 : (v25 10).toInt - (v25 14).toInt ≤ (v20 10).toInt - (v20 14).toInt := pv30
            have pv31 : (v25 10).toInt ≤ (v20 10).toInt := pv31
            have pv32 : (v25 14).toInt ≤ (v20 14).toInt := pv32
            have pg33 : FI 1 (v25 10).toInt (v25 14).toInt (v25 8).toInt (f26 6) (f26 2) (f26 3) := pg33
            have pg34 : ∀ k, k < ((v20 10).toInt).toNat → (f20 6) k = 20 → k < ((v25 10).toInt).toNat := pg34
            have pg35 : 0 < (0 : Int32).toInt ∨ (v25 10).toInt = 0 ∨ (f26 6) ((v25 10).toInt - 1).toNat = 20 := pg35
            have hs6_f26 : f26 6 = (f20 6) := kq36
            rw [hs6_f26] at pg33
            rw [hs6_f26] at pg35
            have hUv25 : (v25 35).toInt + (v25 36).toInt ≤ 40 := hIv25.2
            have hq1_v25 : v25 1 = (v20 1) := hk1_v25
            have zq1_v25 := congrArg Int32.toInt hq1_v25
            have hq3_v25 : v25 3 = (v20 3) := hk3_v25
            have zq3_v25 := congrArg Int32.toInt hq3_v25
            have hq5_v25 : v25 5 = (v20 5) := hk5_v25
            have zq5_v25 := congrArg Int32.toInt hq5_v25
            have hq13_v25 : v25 13 = (v20 13) := hk13_v25
            have zq13_v25 := congrArg Int32.toInt hq13_v25
            have hFK := pg33
            clear pg35
            exact ret (v25, f26, w27, g28) _ _ _ _ _ _ ⟨(hT22.symm.trans (gsY_X11_formula_1_q1 c23 hG24)), hM_v25, hA_f26, hIv25, hCf26, hRf26, (hk0_v25.trans hq0_v20), (hk4_v25.trans hq4_v20), (hk9_v25.trans hq9_v20), (hk17_v25.trans hq17_v20), (hk18_v25.trans hq18_v20), (hk24_v25.trans hq24_v20), (hk25_v25.trans hq25_v20), (hk35_v25.trans hq35_v20), (hk36_v25.trans hq36_v20), (hk38_v25.trans hq38_v20), (hk39_v25.trans hq39_v20), (by show GR (v 3).toInt (v 5).toInt (v25 3).toInt (v25 5).toInt; exact GR.cast hGR (by first | with_reducible rfl | with_reducible assumption | rfl | omega) (by first | with_reducible rfl | with_reducible assumption | rfl | omega)), (by show IM0 (v25 1).toInt (progOK (f26 2) (f26 3) ((v25 8).toInt).toNat); intro hz9; exact FI.prog hFK (by omega))⟩ hP hD hS dX11_formula_193 (Nat.le_refl _) (Nat.le_refl _)
        revert jp181
        intro jp181
        refine lv_aload_n hx hb dX11_formula_162 rfl (lv_at hl 1 rfl) ?_
        refine va_get (D := (dC, dI)) (ci := 11) (v := .int (v20 1)) (C := RX11) (T := TX11) (N := 79) hx hb hts inB_11 hown hE.1 hP 0 rfl rfl 2 (Nat.le_of_ble_eq_true rfl) (hts _ k_1322) (fun _ h9 => h9) rfl dX11_formula_163 ?_
        refine lv_if_ne (tgt := 181) hx hb dX11_formula_166 rfl (fun c37 => ?_) (fun c37 => ?_)
        · skip
          exact jp181 _ _ _ ((gsY_X11_formula_1_q2 c37).symm.trans hT21) hP hD hS hl
        · skip
          have zc37 : (v20 1).toInt = 0 := zEp rfl tc_0 c37
          refine lv_aload_n hx hb dX11_formula_169 rfl (lv_at hl 1 rfl) ?_
          refine cbVi (n := 0) (rest := []) hx hb hml hown hts hE hP hD hS hA (sY_X11_hasBracket_1 NF l dC dI cy y0 r  v20 f20 w20 g20 hIv20 hCf20 hRf20 ) k_1704 k_1706 k_65 k_114 k_1707 hd_yX11_hasBracket ⟨Nat.le_of_ble_eq_true rfl, Nat.le_of_ble_eq_true rfl⟩ 0 11 rfl rfl (rfl) hl.1 rfl (Nat.le_of_ble_eq_true rfl) dX11_formula_170 (fun r38 u H locs hw hP hD hS => ?_)
          obtain ⟨hG39, hw⟩ := hw
          rcases hw with ⟨g40, g40_0⟩ | ⟨g40⟩
          · skip
            subst g40
            have hBr := g40_0
            refine lv_if_eq (tgt := 181) hx hb dX11_formula_173 rfl (fun c0 => absurd c0 (by decide)) (fun _ => ?_)
            refine lv_aload_n hx hb dX11_formula_176 rfl (lv_at hl 1 rfl) ?_
            refine lv_iconst (v := 2) hx hb dX11_formula_177 rfl ?_
            refine cbVv (n := 1) (rest := []) hx hb hml hown hts hE hP hD hS hA (sY_X11_wrong_1 NF l dC dI cy y0 r 2 v20 f20 w20 g20 hIv20 hCf20 hRf20 ⟨by decide, by decide⟩) k_1641 k_1643 k_50 k_114 k_1644 hd_yX11_wrong ⟨Nat.le_of_ble_eq_true rfl, Nat.le_of_ble_eq_true rfl⟩ 0 11 rfl rfl (rfl) hl.1 rfl (Nat.le_of_ble_eq_true rfl) dX11_formula_178 (fun u H locs hw hP hD hS => ?_)
            obtain ⟨hG41, hw⟩ := hw
            obtain ⟨v42, f43, w44, g45⟩ := u
            obtain ⟨kV_v42, kF_f43, hIv42, hCf43, hRf43, hk0_v42, hk3_v42, hk4_v42, hk5_v42, hk8_v42, hk9_v42, hk10_v42, hk13_v42, hk14_v42, hk15_v42, hk17_v42, hk18_v42, hk24_v42, hk25_v42, hk35_v42, hk36_v42, hk38_v42, hk39_v42, pv46, pv47, pv48, kq49, kq50, kq51⟩ := hw
            have hM_v42 : KV [1, 2, 3, 5, 6, 7, 8, 10, 11, 13, 14, 15] v42 v := KV.tr kV_v42 hM_v20 (by decide +kernel)
            have hA_f43 : KF [2, 3, 6] f43 f := KF.tr kF_f43 hA_f20 rfl
            have hP : va_P (dC, dI) vwCl (YW cy y0 r v42 f43 w44 g45) H := hP
            have hD : va_D A (YW cy y0 r v42 f43 w44 g45) := hD
            have b3_v42 : 0 ≤ (v42 3).toInt ∧ (v42 3).toInt ≤ 1600 := Yb_3 hIv42.1
            have b1_v42 : 0 ≤ (v42 1).toInt ∧ (v42 1).toInt ≤ 4 := Yb_1 hIv42.1
            have pv46 : (v20 3).toInt ≤ (v42 3).toInt := pv46
            have pv47 : (v42 5).toInt = (v20 5).toInt ∨ (v20 3).toInt < (v42 3).toInt ∨ ¬ (v42 5).toInt = 59 := pv47
            have pv48 : 0 < (v42 1).toInt := pv48
            have hs2_f43 : f43 2 = (f20 2) := kq49
            have hs3_f43 : f43 3 = (f20 3) := kq50
            have hs6_f43 : f43 6 = (f20 6) := kq51
            have hUv42 : (v42 35).toInt + (v42 36).toInt ≤ 40 := hIv42.2
            have hq3_v42 : v42 3 = (v20 3) := hk3_v42
            have zq3_v42 := congrArg Int32.toInt hq3_v42
            have hq5_v42 : v42 5 = (v20 5) := hk5_v42
            have zq5_v42 := congrArg Int32.toInt hq5_v42
            have hq8_v42 : v42 8 = (v20 8) := hk8_v42
            have zq8_v42 := congrArg Int32.toInt hq8_v42
            have hq10_v42 : v42 10 = (v20 10) := hk10_v42
            have zq10_v42 := congrArg Int32.toInt hq10_v42
            have hq13_v42 : v42 13 = (v20 13) := hk13_v42
            have zq13_v42 := congrArg Int32.toInt hq13_v42
            have hq14_v42 : v42 14 = (v20 14) := hk14_v42
            have zq14_v42 := congrArg Int32.toInt hq14_v42
            have hGR : GR (v 3).toInt (v 5).toInt (v42 3).toInt (v42 5).toInt := GR.tr hGR (show GR (v20 3).toInt (v20 5).toInt (v42 3).toInt (v42 5).toInt from ⟨pv46, pv47⟩) (by first | with_reducible rfl | with_reducible assumption | rfl | omega) (by first | with_reducible rfl | with_reducible assumption | rfl | omega)
            clear pv47
            refine lv_aload_n hx hb dX11_formula_181 rfl (lv_at hl 1 rfl) ?_
            refine va_get (D := (dC, dI)) (ci := 11) (v := .int (v42 1)) (C := RX11) (T := TX11) (N := 79) hx hb hts inB_11 hown hE.1 hP 0 rfl rfl 2 (Nat.le_of_ble_eq_true rfl) (hts _ k_1322) (fun _ h9 => h9) rfl dX11_formula_182 ?_
            have b1_v42 : 0 ≤ (v42 1).toInt ∧ (v42 1).toInt ≤ 4 := Yb_1 hIv42.1
            refine lv_if_ne (tgt := 193) hx hb dX11_formula_185 rfl (fun c52 => ?_) (fun c52 => ?_)
            · skip
              have zc52 : ¬ ((v42 1).toInt = 0) := zEn rfl tc_0 c52
              exact ret (v42, f43, w44, g45) _ _ _ _ _ _ ⟨(hT21.symm.trans (gsY_X11_formula_1_q3 c37 hG39 hG41 c52)), hM_v42, hA_f43, hIv42, hCf43, hRf43, (hk0_v42.trans hq0_v20), (hk4_v42.trans hq4_v20), (hk9_v42.trans hq9_v20), (hk17_v42.trans hq17_v20), (hk18_v42.trans hq18_v20), (hk24_v42.trans hq24_v20), (hk25_v42.trans hq25_v20), (hk35_v42.trans hq35_v20), (hk36_v42.trans hq36_v20), (hk38_v42.trans hq38_v20), (hk39_v42.trans hq39_v20), (by show GR (v 3).toInt (v 5).toInt (v42 3).toInt (v42 5).toInt; exact GR.cast hGR (by first | with_reducible rfl | with_reducible assumption | rfl | omega) (by first | with_reducible rfl | with_reducible assumption | rfl | omega)), (by show IM0 (v42 1).toInt (progOK (f43 2) (f43 3) ((v42 8).toInt).toNat); rw [hs2_f43, hs3_f43]; intro hz9; exfalso; omega)⟩ hP hD hS dX11_formula_193 (Nat.le_refl _) (Nat.le_refl _)
            · skip
              have zc52 : (v42 1).toInt = 0 := zEp rfl tc_0 c52
              obtain ⟨hn1, hn2, hn3, hn4⟩ := hNB (by omega)
              refine lv_aload_n hx hb dX11_formula_188 rfl (lv_at hl 1 rfl) ?_
              refine lv_iconst (v := 0) hx hb dX11_formula_189 rfl ?_
              refine cbVv (n := 1) (rest := []) hx hb hml hown hts hE hP hD hS hA (sY_X11_close_1 NF l dC dI cy y0 r 0 v42 f43 w44 g45 hIv42 hCf43 hRf43 ⟨by decide, by decide⟩ (by have q1 : (0 : Int32).toInt = 0 := (by decide); show (v42 8).toInt + (v42 10).toInt ≤ 310; omega) (by show FI 1 (v42 10).toInt (v42 14).toInt (v42 8).toInt (f43 6) (f43 2) (f43 3); rw [hs6_f43, hs2_f43, hs3_f43]; exact FI.cast (hFJ (by omega)) (by first | with_reducible rfl | with_reducible assumption | rfl | omega) (by first | with_reducible rfl | with_reducible assumption | rfl | omega) (by first | with_reducible rfl | with_reducible assumption | rfl | omega))) k_1708 k_1710 k_66 k_114 k_1711 hd_yX11_close ⟨Nat.le_of_ble_eq_true rfl, Nat.le_of_ble_eq_true rfl⟩ 0 11 rfl rfl (rfl) hl.1 rfl (Nat.le_of_ble_eq_true rfl) dX11_formula_190 (fun u H locs hw hP hD hS => ?_)
              obtain ⟨hG53, hw⟩ := hw
              obtain ⟨v54, f55, w56, g57⟩ := u
              obtain ⟨kV_v54, kF_f55, hIv54, hCf55, hRf55, hk0_v54, hk1_v54, hk2_v54, hk3_v54, hk4_v54, hk5_v54, hk9_v54, hk13_v54, hk15_v54, hk17_v54, hk18_v54, hk24_v54, hk25_v54, hk35_v54, hk36_v54, hk38_v54, hk39_v54, pv58, pv59, pv60, pv61, pg62, pg63, pg64, kq65⟩ := hw
              have hM_v54 : KV [1, 2, 3, 5, 6, 7, 8, 10, 11, 13, 14, 15] v54 v := KV.tr kV_v54 hM_v42 (by decide +kernel)
              have hA_f55 : KF [2, 3, 6] f55 f := KF.tr kF_f55 hA_f43 rfl
              have hP : va_P (dC, dI) vwCl (YW cy y0 r v54 f55 w56 g57) H := hP
              have hD : va_D A (YW cy y0 r v54 f55 w56 g57) := hD
              have b8_v54 : 0 ≤ (v54 8).toInt ∧ (v54 8).toInt ≤ 320 := Yb_8 hIv54.1
              have b10_v54 : 0 ≤ (v54 10).toInt ∧ (v54 10).toInt ≤ 160 := Yb_10 hIv54.1
              have b14_v54 : 0 ≤ (v54 14).toInt ∧ (v54 14).toInt ≤ 8 := Yb_14 hIv54.1
              have pv58 : (v54 8).toInt + (v54 10).toInt = (v42 8).toInt + (v42 10).toInt := pv58
              have pv59 : (v54 10).toInt - (v54 14).toInt ≤ (v42 10).toInt - (v42 14).toInt := pv59
              have pv60 : (v54 10).toInt ≤ (v42 10).toInt := pv60
              have pv61 : (v54 14).toInt ≤ (v42 14).toInt := pv61
              have pg62 : FI 1 (v54 10).toInt (v54 14).toInt (v54 8).toInt (f55 6) (f55 2) (f55 3) := pg62
              have pg63 : ∀ k, k < ((v42 10).toInt).toNat → (f43 6) k = 20 → k < ((v54 10).toInt).toNat := pg63
              rw [hs6_f43] at pg63
              have pg64 : 0 < (0 : Int32).toInt ∨ (v54 10).toInt = 0 ∨ (f55 6) ((v54 10).toInt - 1).toNat = 20 := pg64
              have hs6_f55 : f55 6 = (f20 6) := kq65.trans hs6_f43
              rw [hs6_f55] at pg62
              rw [hs6_f55] at pg64
              have hUv54 : (v54 35).toInt + (v54 36).toInt ≤ 40 := hIv54.2
              have hq1_v54 : v54 1 = (v42 1) := hk1_v54
              have zq1_v54 := congrArg Int32.toInt hq1_v54
              have hq3_v54 : v54 3 = (v20 3) := hk3_v54.trans hq3_v42
              have zq3_v54 := congrArg Int32.toInt hq3_v54
              have hq5_v54 : v54 5 = (v20 5) := hk5_v54.trans hq5_v42
              have zq5_v54 := congrArg Int32.toInt hq5_v54
              have hq13_v54 : v54 13 = (v20 13) := hk13_v54.trans hq13_v42
              have zq13_v54 := congrArg Int32.toInt hq13_v54
              have hFK := pg62
              clear pg64
              exact ret (v54, f55, w56, g57) _ _ _ _ _ _ ⟨(hT21.symm.trans (gsY_X11_formula_1_q4 c37 hG39 hG41 c52 hG53)), hM_v54, hA_f55, hIv54, hCf55, hRf55, (hk0_v54.trans (hk0_v42.trans hq0_v20)), (hk4_v54.trans (hk4_v42.trans hq4_v20)), (hk9_v54.trans (hk9_v42.trans hq9_v20)), (hk17_v54.trans (hk17_v42.trans hq17_v20)), (hk18_v54.trans (hk18_v42.trans hq18_v20)), (hk24_v54.trans (hk24_v42.trans hq24_v20)), (hk25_v54.trans (hk25_v42.trans hq25_v20)), (hk35_v54.trans (hk35_v42.trans hq35_v20)), (hk36_v54.trans (hk36_v42.trans hq36_v20)), (hk38_v54.trans (hk38_v42.trans hq38_v20)), (hk39_v54.trans (hk39_v42.trans hq39_v20)), (by show GR (v 3).toInt (v 5).toInt (v54 3).toInt (v54 5).toInt; exact GR.cast hGR (by first | with_reducible rfl | with_reducible assumption | rfl | omega) (by first | with_reducible rfl | with_reducible assumption | rfl | omega)), (by show IM0 (v54 1).toInt (progOK (f55 2) (f55 3) ((v54 8).toInt).toNat); intro hz9; exact FI.prog hFK (by omega))⟩ hP hD hS dX11_formula_193 (Nat.le_refl _) (Nat.le_refl _)
          · skip
            subst g40
            refine lv_if_eq (tgt := 181) hx hb dX11_formula_173 rfl (fun _ => ?_) (fun c0 => absurd (by decide) c0)
            exact jp181 _ _ _ ((gsY_X11_formula_1_q5 c37 hG39).symm.trans hT21) hP hD hS hl
      revert jp162
      intro jp162
      refine lv_if_eq (tgt := 162) hx hb dX11_formula_36 rfl (fun c66 => ?_) (fun c66 => ?_)
      · skip
        exact jp162 _ _ _ ((gsY_X11_formula_1_q6 c66).symm.trans hT20) hP hD hS hl
      · skip
        have zc66 : ¬ (l1_20.toInt = 0) := zEn rfl tc_0 c66
        refine lv_aload_n hx hb dX11_formula_39 rfl (lv_at hl 1 rfl) ?_
        refine va_get (D := (dC, dI)) (ci := 11) (v := .int (v20 1)) (C := RX11) (T := TX11) (N := 79) hx hb hts inB_11 hown hE.1 hP 0 rfl rfl 2 (Nat.le_of_ble_eq_true rfl) (hts _ k_1322) (fun _ h9 => h9) rfl dX11_formula_40 ?_
        refine lv_if_ne (tgt := 162) hx hb dX11_formula_43 rfl (fun c67 => ?_) (fun c67 => ?_)
        · skip
          exact jp162 _ _ _ ((gsY_X11_formula_1_q7 c66 c67).symm.trans hT20) hP hD hS hl
        · skip
          have zc67 : (v20 1).toInt = 0 := zEp rfl tc_0 c67
          obtain ⟨hn1, hn2, hn3, hn4⟩ := hNB (by omega)
          refine lv_aload_n hx hb dX11_formula_46 rfl (lv_at hl 1 rfl) ?_
          refine cbVi (n := 0) (rest := []) hx hb hml hown hts hE hP hD hS hA (sY_X11_sign_1 NF l dC dI cy y0 r  v20 f20 w20 g20 hIv20 hCf20 hRf20 ) k_1700 k_1702 k_64 k_114 k_1703 hd_yX11_sign ⟨Nat.le_of_ble_eq_true rfl, Nat.le_of_ble_eq_true rfl⟩ 0 11 rfl rfl (rfl) hl.1 rfl (Nat.le_of_ble_eq_true rfl) dX11_formula_47 (fun r68 u H locs hw hP hD hS => ?_)
          obtain ⟨hG69, hw⟩ := hw
          obtain ⟨pp70, hw⟩ := hw
          have pp70 : r68.toInt = 0 ∨ 37 ≤ r68.toInt := pp70
          have hSG : SG r68.toInt := pp70
          clear pp70
          have pw_r68 : (0 : Int) ≤ r68.toInt ∧ r68.toInt ≤ 124 := hw
          refine lv_istore_n (lv' := [(2, .int r68), (1, .int l1_20), (0, .ref y0)]) hx hb dX11_formula_50 rfl hl (Nat.le_of_ble_eq_true rfl) rfl (fun ls hl => ?_)
          have jp157 : ∀ (H : Heap) (locs : List Loc) (ls : Array Slot), gsY_X11_formula_1_J71 NF f20 g20 v20 w20 (fun z0 z1 z2 z3 z4 => gsY_X11_formula_1_L20 NF n20 z0 z1 z2 z3 z4) = (gsY_X11_formula_1 NF v f w g) → va_P (dC, dI) vwCl (YW cy y0 r v20 f20 w20 g20) H → va_D A (YW cy y0 r v20 f20 w20 g20) → va_S A s.heap H locs → lv_has ls 3 [(2, .int r68), (1, .int l1_20), (0, .ref y0)] → W p l e { frames := 5, cells := 0, slots := 0, locals := 146 } s m ([.ref y0] : List Value).toArray below meth c H locs 0 0 Q (F0 m 157 ls []) := by
            intro H locs ls hT71 hP hD hS hl
            refine lv_iconst (v := 0) hx hb dX11_formula_157 rfl ?_
            refine lv_istore_n (lv' := [(1, .int 0), (2, .int r68), (0, .ref y0)]) hx hb dX11_formula_158 rfl hl (Nat.le_of_ble_eq_true rfl) rfl (fun ls hl => ?_)
            refine lv_goto (tgt := 35) hx hb dX11_formula_159 rfl ?_
            exact ih20 0 v20 f20 w20 g20 hIv20 hCf20 hRf20 hq0_v20 hq4_v20 hq9_v20 hq15_v20 hq17_v20 hq18_v20 hq24_v20 hq25_v20 hq35_v20 hq36_v20 hq38_v20 hq39_v20 (gsY_X11_formula_1_q8.symm.trans hT71) ⟨by decide, by decide⟩ (by show IM0 (v20 1).toInt (FI 1 (v20 10).toInt (v20 14).toInt (v20 8).toInt (f20 6) (f20 2) (f20 3)); intro hz9; exact FI.cast (hFJ (by omega)) (by first | with_reducible rfl | with_reducible assumption | rfl | omega) (by first | with_reducible rfl | with_reducible assumption | rfl | omega) (by first | with_reducible rfl | with_reducible assumption | rfl | omega)) (by show NB (v20 1).toInt (v20 8).toInt (v20 10).toInt (v20 13).toInt (v20 14).toInt; exact NB.mk (by omega) (by omega) (by omega) (by omega)) (by show GR (v 3).toInt (v 5).toInt (v20 3).toInt (v20 5).toInt; exact GR.cast hGR (by first | with_reducible rfl | with_reducible assumption | rfl | omega) (by first | with_reducible rfl | with_reducible assumption | rfl | omega)) hM_v20 hA_f20 (show (1 + 100 * (31 - (v20 13).toInt) + 2 * (v20 10).toInt + (0 : Int32).toInt - 100000 * (v20 1).toInt).toNat < n20 from om_432 hr1_20 hm20 b10_v20 b13_v20 zc66 zc67 tc_0) _ _ _ hP hD hS (lv_sub hl [0, 2] rfl)
          revert jp157
          intro jp157
          have jp99 : ∀ (H : Heap) (locs : List Loc) (ls : Array Slot), gsY_X11_formula_1_J72 NF f20 g20 l1_20 v20 w20 r68 (fun z0 z1 z2 z3 z4 => gsY_X11_formula_1_L20 NF n20 z0 z1 z2 z3 z4) = (gsY_X11_formula_1 NF v f w g) → va_P (dC, dI) vwCl (YW cy y0 r v20 f20 w20 g20) H → va_D A (YW cy y0 r v20 f20 w20 g20) → va_S A s.heap H locs → lv_has ls 3 [(2, .int r68), (1, .int l1_20), (0, .ref y0)] → W p l e { frames := 5, cells := 0, slots := 0, locals := 146 } s m ([.ref y0] : List Value).toArray below meth c H locs 0 0 Q (F0 m 99 ls []) := by
            intro H locs ls hT72 hP hD hS hl
            refine lv_iload_n hx hb dX11_formula_99 rfl (lv_at hl 0 rfl) ?_
            refine lv_if_eq (tgt := 157) hx hb dX11_formula_100 rfl (fun c73 => ?_) (fun c73 => ?_)
            · skip
              exact jp157 _ _ _ ((gsY_X11_formula_1_q9 c73).symm.trans hT72) hP hD hS hl
            · skip
              have zc73 : ¬ (r68.toInt = 0) := zEn rfl tc_0 c73
              have jp118 : ∀ (H : Heap) (locs : List Loc) (ls : Array Slot), gsY_X11_formula_1_J74 NF f20 g20 l1_20 v20 w20 r68 (fun z0 z1 z2 z3 z4 => gsY_X11_formula_1_L20 NF n20 z0 z1 z2 z3 z4) = (gsY_X11_formula_1 NF v f w g) → va_P (dC, dI) vwCl (YW cy y0 r v20 f20 w20 g20) H → va_D A (YW cy y0 r v20 f20 w20 g20) → va_S A s.heap H locs → lv_has ls 3 [(2, .int r68), (1, .int l1_20), (0, .ref y0)] → W p l e { frames := 5, cells := 0, slots := 0, locals := 146 } s m ([.ref y0] : List Value).toArray below meth c H locs 0 0 Q (F0 m 118 ls []) := by
                intro H locs ls hT74 hP hD hS hl
                refine lv_aload_n hx hb dX11_formula_118 rfl (lv_at hl 2 rfl) ?_
                refine lv_iload_n hx hb dX11_formula_119 rfl (lv_at hl 0 rfl) ?_
                refine cbSi (n := 1) (rest := [.ref y0]) hx hb hml hown hts hE hP hD hS hA (sY_X11_tight_1 NF l dC dI cy y0 r r68 v20 f20 w20 g20 hIv20 hCf20 hRf20 ) k_1677 k_1678 k_114 k_1679 he_yX11_tight ⟨Nat.le_of_ble_eq_true rfl, Nat.le_of_ble_eq_true rfl⟩ (rfl) hl.1 rfl (Nat.le_of_ble_eq_true rfl) dX11_formula_120 (fun r75 u H locs hw hP hD hS => ?_)
                obtain ⟨hG76, hw⟩ := hw
                have pw_r75 : (1 : Int) ≤ r75.toInt ∧ r75.toInt ≤ 6 := hw
                refine cbVv (n := 1) (rest := []) hx hb hml hown hts hE hP hD hS hA (sY_X11_close_1 NF l dC dI cy y0 r r75 v20 f20 w20 g20 hIv20 hCf20 hRf20 ⟨show (0 : Int) ≤ r75.toInt from om_433 pw_r75, show r75.toInt ≤ (6 : Int) from om_434 pw_r75⟩ (by show (v20 8).toInt + (v20 10).toInt ≤ 310; omega) (by show FI 1 (v20 10).toInt (v20 14).toInt (v20 8).toInt (f20 6) (f20 2) (f20 3); exact FI.cast (hFJ (by omega)) (by first | with_reducible rfl | with_reducible assumption | rfl | omega) (by first | with_reducible rfl | with_reducible assumption | rfl | omega) (by first | with_reducible rfl | with_reducible assumption | rfl | omega))) k_1708 k_1710 k_66 k_114 k_1711 hd_yX11_close ⟨Nat.le_of_ble_eq_true rfl, Nat.le_of_ble_eq_true rfl⟩ 0 11 rfl rfl (rfl) hl.1 rfl (Nat.le_of_ble_eq_true rfl) dX11_formula_123 (fun u H locs hw hP hD hS => ?_)
                obtain ⟨hG77, hw⟩ := hw
                obtain ⟨v78, f79, w80, g81⟩ := u
                obtain ⟨kV_v78, kF_f79, hIv78, hCf79, hRf79, hk0_v78, hk1_v78, hk2_v78, hk3_v78, hk4_v78, hk5_v78, hk9_v78, hk13_v78, hk15_v78, hk17_v78, hk18_v78, hk24_v78, hk25_v78, hk35_v78, hk36_v78, hk38_v78, hk39_v78, pv82, pv83, pv84, pv85, pg86, pg87, pg88, kq89⟩ := hw
                have hM_v78 : KV [1, 2, 3, 5, 6, 7, 8, 10, 11, 13, 14, 15] v78 v := KV.tr kV_v78 hM_v20 (by decide +kernel)
                have hA_f79 : KF [2, 3, 6] f79 f := KF.tr kF_f79 hA_f20 rfl
                have hP : va_P (dC, dI) vwCl (YW cy y0 r v78 f79 w80 g81) H := hP
                have hD : va_D A (YW cy y0 r v78 f79 w80 g81) := hD
                have b8_v78 : 0 ≤ (v78 8).toInt ∧ (v78 8).toInt ≤ 320 := Yb_8 hIv78.1
                have b10_v78 : 0 ≤ (v78 10).toInt ∧ (v78 10).toInt ≤ 160 := Yb_10 hIv78.1
                have b14_v78 : 0 ≤ (v78 14).toInt ∧ (v78 14).toInt ≤ 8 := Yb_14 hIv78.1
                have pv82 : (v78 8).toInt + (v78 10).toInt = (v20 8).toInt + (v20 10).toInt := pv82
                have pv83 : (v78 10).toInt - (v78 14).toInt ≤ (v20 10).toInt - (v20 14).toInt := pv83
                have pv84 : (v78 10).toInt ≤ (v20 10).toInt := pv84
                have pv85 : (v78 14).toInt ≤ (v20 14).toInt := pv85
                have pg86 : FI 1 (v78 10).toInt (v78 14).toInt (v78 8).toInt (f79 6) (f79 2) (f79 3) := pg86
                have pg87 : ∀ k, k < ((v20 10).toInt).toNat → (f20 6) k = 20 → k < ((v78 10).toInt).toNat := pg87
                have pg88 : 0 < r75.toInt ∨ (v78 10).toInt = 0 ∨ (f79 6) ((v78 10).toInt - 1).toNat = 20 := pg88
                have hs6_f79 : f79 6 = (f20 6) := kq89
                rw [hs6_f79] at pg86
                rw [hs6_f79] at pg88
                have hUv78 : (v78 35).toInt + (v78 36).toInt ≤ 40 := hIv78.2
                have hq0_v78 : v78 0 = (v 0) := hk0_v78.trans hq0_v20
                have hq1_v78 : v78 1 = (v20 1) := hk1_v78
                have zq1_v78 := congrArg Int32.toInt hq1_v78
                have hq3_v78 : v78 3 = (v20 3) := hk3_v78
                have zq3_v78 := congrArg Int32.toInt hq3_v78
                have hq4_v78 : v78 4 = (v 4) := hk4_v78.trans hq4_v20
                have hq5_v78 : v78 5 = (v20 5) := hk5_v78
                have zq5_v78 := congrArg Int32.toInt hq5_v78
                have hq9_v78 : v78 9 = (v 9) := hk9_v78.trans hq9_v20
                have hq13_v78 : v78 13 = (v20 13) := hk13_v78
                have zq13_v78 := congrArg Int32.toInt hq13_v78
                have hq15_v78 : v78 15 = 1 := hk15_v78.trans hq15_v20
                have hq17_v78 : v78 17 = (v 17) := hk17_v78.trans hq17_v20
                have hq18_v78 : v78 18 = (v 18) := hk18_v78.trans hq18_v20
                have hq24_v78 : v78 24 = (v 24) := hk24_v78.trans hq24_v20
                have hq25_v78 : v78 25 = (v 25) := hk25_v78.trans hq25_v20
                have hq35_v78 : v78 35 = (v 35) := hk35_v78.trans hq35_v20
                have hq36_v78 : v78 36 = (v 36) := hk36_v78.trans hq36_v20
                have hq38_v78 : v78 38 = (v 38) := hk38_v78.trans hq38_v20
                have hq39_v78 : v78 39 = (v 39) := hk39_v78.trans hq39_v20
                have hFK := pg86
                clear pg88
                refine lv_aload_n hx hb dX11_formula_126 rfl (lv_at hl 2 rfl) ?_
                refine va_get (D := (dC, dI)) (ci := 11) (v := .ref (r 15)) (C := RX11) (T := TX11) (N := 79) hx hb hts inB_11 hown hE.1 hP 0 rfl rfl 15 (Nat.le_of_ble_eq_true rfl) (hts _ k_1335) (fun _ h9 => h9) rfl dX11_formula_127 ?_
                refine lv_aload_n hx hb dX11_formula_130 rfl (lv_at hl 2 rfl) ?_
                refine va_get (D := (dC, dI)) (ci := 11) (v := .int (v78 10)) (C := RX11) (T := TX11) (N := 79) hx hb hts inB_11 hown hE.1 hP 0 rfl rfl 19 (Nat.le_of_ble_eq_true rfl) (hts _ k_1339) (fun _ h9 => h9) rfl dX11_formula_131 ?_
                have b10_v78 : 0 ≤ (v78 10).toInt ∧ (v78 10).toInt ≤ 160 := Yb_10 hIv78.1
                refine lv_iload_n hx hb dX11_formula_134 rfl (lv_at hl 0 rfl) ?_
                refine stI hx hb hE hP hD hS 7 rfl (vpI (k := 160) rfl (show 0 ≤ (v78 10).toInt from om_350 b10_v78) (show (v78 10).toInt < 160 by omega)) rfl dX11_formula_135 (fun H locs hP hD hS => ?_)
                obtain ⟨f90, ef90, hP, hD⟩ : ∃ fz9, fz9 = upd2 f79 6 (upd (f79 6) (v78 10).toNatClampNeg r68) ∧ va_P (dC, dI) vwCl (YW cy y0 r v78 fz9 w80 g81) H ∧ va_D A (YW cy y0 r v78 fz9 w80 g81) := ⟨_, rfl, hP, hD⟩
                have hCf90 : YC f90 := by rw [ef90]; exact hCf79
                have hRf90 : progOK (f90 4) (f90 5) (v78 9).toInt.toNat := by rw [ef90]; exact hRf79
                have hs2_f90 : f90 2 = (f79 2) := by rw [ef90]; exact rfl
                have hs3_f90 : f90 3 = (f79 3) := by rw [ef90]; exact rfl
                have hs6_f90 : f90 6 = (upd (f20 6) ((v78 10).toInt.toNat) r68) := by rw [ef90]; show upd (f79 6) ((v78 10).toInt.toNat) r68 = _; rw [hs6_f79]
                have hA_f90 : KF [2, 3, 6] f90 f := by rw [ef90]; exact KF.up hA_f79 rfl
                refine lv_aload_n hx hb dX11_formula_136 rfl (lv_at hl 2 rfl) ?_
                refine lv_dup hx hb dX11_formula_137 rfl ?_
                refine va_get (D := (dC, dI)) (ci := 11) (v := .int (v78 10)) (C := RX11) (T := TX11) (N := 79) hx hb hts inB_11 hown hE.1 hP 0 rfl rfl 19 (Nat.le_of_ble_eq_true rfl) (hts _ k_1339) (fun _ h9 => h9) rfl dX11_formula_138 ?_
                refine lv_iconst (v := 1) hx hb dX11_formula_141 rfl ?_
                refine lv_iadd hx hb dX11_formula_142 ?_
                refine lv_topi (fun t91 et91 => ?_)
                have rg92 := fb_rng (v78 10)
                have zt91 : t91.toInt = (v78 10).toInt + 1 := (congrArg Int32.toInt et91).trans (add_i rfl tc_1 (om_352 b10_v78) (om_435 b10_v78))
                refine va_put (D := (dC, dI)) (ci := 11) (v := .int t91) (ty := tyX11 19) (C := RX11) (T := TX11) (N := 79) hx hb hts inB_11 tyX11 tyX11_ok nmX11 hown hE.1 hP hD hS 0 rfl rfl 19 (Nat.le_of_ble_eq_true rfl) (hts _ k_1339) (fun _ h9 => h9) rfl (tyX11_ok 19 (Nat.le_of_ble_eq_true rfl)) rfl rfl (Nat.le_of_ble_eq_true rfl) dX11_formula_143 (fun H locs hP hD hS => ?_)
                have hP : va_P (dC, dI) vwCl (YW cy y0 r (upd v78 10 t91) f90 w80 g81) H := hP
                have hD : va_D A (YW cy y0 r (upd v78 10 t91) f90 w80 g81) := hD
                refine lv_aload_n hx hb dX11_formula_146 rfl (lv_at hl 2 rfl) ?_
                refine cbVv (n := 0) (rest := []) hx hb hml hown hts hE hP hD hS hA (sY_X11_token_1 NF l dC dI cy y0 r  (upd v78 10 t91) f90 w80 g81 ⟨(Yu_10 (x := t91) hIv78.1 (show (0 : Int) ≤ t91.toInt from om_356 b10_v78 zt91) (show t91.toInt ≤ (160 : Int) by omega)), hIv78.2⟩ hCf90 hRf90 ) k_1579 k_1581 k_42 k_114 k_1582 hd_yX11_token ⟨Nat.le_of_ble_eq_true rfl, Nat.le_of_ble_eq_true rfl⟩ 0 11 rfl rfl (rfl) hl.1 rfl (Nat.le_of_ble_eq_true rfl) dX11_formula_147 (fun u H locs hw hP hD hS => ?_)
                obtain ⟨hG93, hw⟩ := hw
                obtain ⟨v94, f95, w96, g97⟩ := u
                obtain ⟨kV_v94, kF_f95, hIv94, hCf95, hRf95, hk0_v94, hk1_v94, hk2_v94, hk4_v94, hk8_v94, hk9_v94, hk10_v94, hk13_v94, hk14_v94, hk15_v94, hk17_v94, hk18_v94, hk24_v94, hk25_v94, hk35_v94, hk36_v94, hk38_v94, hk39_v94, pv98, pv99, kq100, kq101, kq102⟩ := hw
                have hM_v94 : KV [1, 2, 3, 5, 6, 7, 8, 10, 11, 13, 14, 15] v94 v := KV.tr kV_v94 (KV.up (j := 10) (x := t91) hM_v78 (by decide +kernel)) (by decide +kernel)
                have hA_f95 : KF [2, 3, 6] f95 f := KF.tr kF_f95 hA_f90 rfl
                have hP : va_P (dC, dI) vwCl (YW cy y0 r v94 f95 w96 g97) H := hP
                have hD : va_D A (YW cy y0 r v94 f95 w96 g97) := hD
                have b3_v94 : 0 ≤ (v94 3).toInt ∧ (v94 3).toInt ≤ 1600 := Yb_3 hIv94.1
                have pv98 : (v78 3).toInt ≤ (v94 3).toInt := pv98
                have pv99 : (v94 5).toInt = (v78 5).toInt ∨ (v78 3).toInt < (v94 3).toInt ∨ ¬ (v94 5).toInt = 59 := pv99
                have hs2_f95 : f95 2 = (f79 2) := kq100.trans hs2_f90
                have hs3_f95 : f95 3 = (f79 3) := kq101.trans hs3_f90
                have hs6_f95 : f95 6 = (upd (f20 6) ((v78 10).toInt.toNat) r68) := kq102.trans hs6_f90
                have hUv94 : (v94 35).toInt + (v94 36).toInt ≤ 40 := hIv94.2
                have hq0_v94 : v94 0 = (v 0) := hk0_v94.trans hq0_v78
                have hq1_v94 : v94 1 = (v20 1) := hk1_v94.trans hq1_v78
                have zq1_v94 := congrArg Int32.toInt hq1_v94
                have hq4_v94 : v94 4 = (v 4) := hk4_v94.trans hq4_v78
                have hq8_v94 : v94 8 = (v78 8) := hk8_v94
                have zq8_v94 := congrArg Int32.toInt hq8_v94
                have hq9_v94 : v94 9 = (v 9) := hk9_v94.trans hq9_v78
                have hq10_v94 : v94 10 = t91 := hk10_v94
                have zq10_v94 := congrArg Int32.toInt hq10_v94
                have hq13_v94 : v94 13 = (v20 13) := hk13_v94.trans hq13_v78
                have zq13_v94 := congrArg Int32.toInt hq13_v94
                have hq14_v94 : v94 14 = (v78 14) := hk14_v94
                have zq14_v94 := congrArg Int32.toInt hq14_v94
                have hq15_v94 : v94 15 = 1 := hk15_v94.trans hq15_v78
                have hq17_v94 : v94 17 = (v 17) := hk17_v94.trans hq17_v78
                have hq18_v94 : v94 18 = (v 18) := hk18_v94.trans hq18_v78
                have hq24_v94 : v94 24 = (v 24) := hk24_v94.trans hq24_v78
                have hq25_v94 : v94 25 = (v 25) := hk25_v94.trans hq25_v78
                have hq35_v94 : v94 35 = (v 35) := hk35_v94.trans hq35_v78
                have hq36_v94 : v94 36 = (v 36) := hk36_v94.trans hq36_v78
                have hq38_v94 : v94 38 = (v 38) := hk38_v94.trans hq38_v78
                have hq39_v94 : v94 39 = (v 39) := hk39_v94.trans hq39_v78
                have hGR : GR (v 3).toInt (v 5).toInt (v94 3).toInt (v94 5).toInt := GR.tr hGR (show GR (v78 3).toInt (v78 5).toInt (v94 3).toInt (v94 5).toInt from ⟨pv98, pv99⟩) (by first | with_reducible rfl | with_reducible assumption | rfl | omega) (by first | with_reducible rfl | with_reducible assumption | rfl | omega)
                clear pv99
                refine lv_aload_n hx hb dX11_formula_150 rfl (lv_at hl 2 rfl) ?_
                refine cbVv (n := 0) (rest := []) hx hb hml hown hts hE hP hD hS hA (sY_X11_unit_1 NF l dC dI cy y0 r  v94 f95 w96 g97 hIv94 hCf95 hRf95 (by show (v94 8).toInt + (v94 10).toInt ≤ 10 * (v94 13).toInt + 1; omega) (by show (v94 10).toInt ≤ (v94 14).toInt + (v94 13).toInt + 1; omega) (by show (v94 13).toInt ≤ 30; omega) (by show (v94 14).toInt ≤ 7; omega) (by show FI 0 (v94 10).toInt (v94 14).toInt (v94 8).toInt (f95 6) (f95 2) (f95 3); rw [hs6_f95, hs2_f95, hs3_f95]; exact FI.sign hFK rfl (by omega) (hSG.n20 (by first | assumption | omega)) (hSG.n21 (by first | assumption | omega)) (by first | with_reducible rfl | with_reducible assumption | rfl | omega) (by first | with_reducible rfl | with_reducible assumption | rfl | omega) (by first | with_reducible rfl | with_reducible assumption | rfl | omega))) k_1669 k_1671 k_57 k_114 k_1672 hd_yX11_unit ⟨Nat.le_of_ble_eq_true rfl, Nat.le_of_ble_eq_true rfl⟩ 0 11 rfl rfl (rfl) hl.1 rfl (Nat.le_of_ble_eq_true rfl) dX11_formula_151 (fun u H locs hw hP hD hS => ?_)
                obtain ⟨hG103, hw⟩ := hw
                obtain ⟨v104, f105, w106, g107⟩ := u
                obtain ⟨kV_v104, kF_f105, hIv104, hCf105, hRf105, hk0_v104, hk4_v104, hk9_v104, hk15_v104, hk17_v104, hk18_v104, hk24_v104, hk25_v104, hk35_v104, hk36_v104, hk38_v104, hk39_v104, pg108, pg109, pg110, pg111⟩ := hw
                have hM_v104 : KV [1, 2, 3, 5, 6, 7, 8, 10, 11, 13, 14, 15] v104 v := KV.tr kV_v104 hM_v94 (by decide +kernel)
                have hA_f105 : KF [2, 3, 6] f105 f := KF.tr kF_f105 hA_f95 rfl
                have hP : va_P (dC, dI) vwCl (YW cy y0 r v104 f105 w106 g107) H := hP
                have hD : va_D A (YW cy y0 r v104 f105 w106 g107) := hD
                have b3_v104 : 0 ≤ (v104 3).toInt ∧ (v104 3).toInt ≤ 1600 := Yb_3 hIv104.1
                have b1_v104 : 0 ≤ (v104 1).toInt ∧ (v104 1).toInt ≤ 4 := Yb_1 hIv104.1
                have b10_v104 : 0 ≤ (v104 10).toInt ∧ (v104 10).toInt ≤ 160 := Yb_10 hIv104.1
                have b14_v104 : 0 ≤ (v104 14).toInt ∧ (v104 14).toInt ≤ 8 := Yb_14 hIv104.1
                have b8_v104 : 0 ≤ (v104 8).toInt ∧ (v104 8).toInt ≤ 320 := Yb_8 hIv104.1
                have b13_v104 : 0 ≤ (v104 13).toInt ∧ (v104 13).toInt ≤ 31 := Yb_13 hIv104.1
                have pg108 : GR (v94 3).toInt (v94 5).toInt (v104 3).toInt (v104 5).toInt := pg108
                have pg109 : IM0 (v104 1).toInt (FI 1 (v104 10).toInt (v104 14).toInt (v104 8).toInt (f105 6) (f105 2) (f105 3)) := pg109
                have pg110 : NB (v104 1).toInt (v104 8).toInt (v104 10).toInt (v104 13).toInt (v104 14).toInt := pg110
                have pg111 : UG (v104 1).toInt (v94 13).toInt (v104 13).toInt := pg111
                have hUv104 : (v104 35).toInt + (v104 36).toInt ≤ 40 := hIv104.2
                have hq0_v104 : v104 0 = (v 0) := hk0_v104.trans hq0_v94
                have hq4_v104 : v104 4 = (v 4) := hk4_v104.trans hq4_v94
                have hq9_v104 : v104 9 = (v 9) := hk9_v104.trans hq9_v94
                have hq15_v104 : v104 15 = 1 := hk15_v104.trans hq15_v94
                have hq17_v104 : v104 17 = (v 17) := hk17_v104.trans hq17_v94
                have hq18_v104 : v104 18 = (v 18) := hk18_v104.trans hq18_v94
                have hq24_v104 : v104 24 = (v 24) := hk24_v104.trans hq24_v94
                have hq25_v104 : v104 25 = (v 25) := hk25_v104.trans hq25_v94
                have hq35_v104 : v104 35 = (v 35) := hk35_v104.trans hq35_v94
                have hq36_v104 : v104 36 = (v 36) := hk36_v104.trans hq36_v94
                have hq38_v104 : v104 38 = (v 38) := hk38_v104.trans hq38_v94
                have hq39_v104 : v104 39 = (v 39) := hk39_v104.trans hq39_v94
                have hGR : GR (v 3).toInt (v 5).toInt (v104 3).toInt (v104 5).toInt := GR.tr hGR (show GR (v94 3).toInt (v94 5).toInt (v104 3).toInt (v104 5).toInt from pg108) (by first | with_reducible rfl | with_reducible assumption | rfl | omega) (by first | with_reducible rfl | with_reducible assumption | rfl | omega)
                have hFJ := pg109
                have hNB := pg110
                have hug := UG.or pg111 pg110 (by omega)
                refine lv_goto (tgt := 159) hx hb dX11_formula_154 rfl ?_
                refine lv_goto (tgt := 35) hx hb dX11_formula_159 rfl ?_
                have rg112 := fb_rng l1_20
                exact ih20 l1_20 v104 f105 w106 g107 hIv104 hCf105 hRf105 hq0_v104 hq4_v104 hq9_v104 hq15_v104 hq17_v104 hq18_v104 hq24_v104 hq25_v104 hq35_v104 hq36_v104 hq38_v104 hq39_v104 ((gsY_X11_formula_1_q10 hG76.symm hG77 ef90 et91 hG93 hG103).symm.trans hT74) ⟨show (0 : Int) ≤ l1_20.toInt from om_367 hr1_20, show l1_20.toInt ≤ (1 : Int) from om_368 hr1_20⟩ (by show IM0 (v104 1).toInt (FI 1 (v104 10).toInt (v104 14).toInt (v104 8).toInt (f105 6) (f105 2) (f105 3)); intro hz9; exact FI.cast (hFJ (by omega)) (by first | with_reducible rfl | with_reducible assumption | rfl | omega) (by first | with_reducible rfl | with_reducible assumption | rfl | omega) (by first | with_reducible rfl | with_reducible assumption | rfl | omega)) (by show NB (v104 1).toInt (v104 8).toInt (v104 10).toInt (v104 13).toInt (v104 14).toInt; exact NB.cast hNB (by first | with_reducible rfl | with_reducible assumption | rfl | omega) (by first | with_reducible rfl | with_reducible assumption | rfl | omega) (by first | with_reducible rfl | with_reducible assumption | rfl | omega) (by first | with_reducible rfl | with_reducible assumption | rfl | omega) (by first | with_reducible rfl | with_reducible assumption | rfl | omega)) (by show GR (v 3).toInt (v 5).toInt (v104 3).toInt (v104 5).toInt; exact GR.cast hGR (by first | with_reducible rfl | with_reducible assumption | rfl | omega) (by first | with_reducible rfl | with_reducible assumption | rfl | omega)) hM_v104 hA_f105 (by show (1 + 100 * (31 - (v104 13).toInt) + 2 * (v104 10).toInt + l1_20.toInt - 100000 * (v104 1).toInt).toNat < n20; exact msF (by omega) hug (by omega) (by omega) (by omega) (by omega) (by omega) (by omega)) _ _ _ hP hD hS (lv_sub hl [1, 2] rfl)
              revert jp118
              intro jp118
              refine lv_iload_n hx hb dX11_formula_103 rfl (lv_at hl 0 rfl) ?_
              refine cbSi (n := 1) (rest := []) hx hb hml hown hts hE hP hD hS hA (sY_X11_tight_1 NF l dC dI cy y0 r r68 v20 f20 w20 g20 hIv20 hCf20 hRf20 ) k_1677 k_1678 k_114 k_1679 he_yX11_tight ⟨Nat.le_of_ble_eq_true rfl, Nat.le_of_ble_eq_true rfl⟩ (rfl) hl.1 rfl (Nat.le_of_ble_eq_true rfl) dX11_formula_104 (fun r113 u H locs hw hP hD hS => ?_)
              obtain ⟨hG114, hw⟩ := hw
              refine lv_iconst (v := 4) hx hb dX11_formula_107 rfl ?_
              refine lv_icmp_ne (tgt := 118) hx hb dX11_formula_108 rfl (fun c115 => ?_) (fun c115 => ?_)
              · skip
                exact jp118 _ _ _ ((gsY_X11_formula_1_q11 c73 hG114.symm c115).symm.trans hT72) hP hD hS hl
              · skip
                refine lv_aload_n hx hb dX11_formula_111 rfl (lv_at hl 2 rfl) ?_
                refine cbVi (n := 0) (rest := []) hx hb hml hown hts hE hP hD hS hA (sY_X11_hasRelation_1 NF l dC dI cy y0 r  v20 f20 w20 g20 hIv20 hCf20 hRf20 ) k_1712 k_1714 k_67 k_114 k_1715 hd_yX11_hasRelation ⟨Nat.le_of_ble_eq_true rfl, Nat.le_of_ble_eq_true rfl⟩ 0 11 rfl rfl (rfl) hl.1 rfl (Nat.le_of_ble_eq_true rfl) dX11_formula_112 (fun r116 u H locs hw hP hD hS => ?_)
                obtain ⟨hG117, hw⟩ := hw
                rcases hw with ⟨g118⟩ | ⟨g118⟩
                · skip
                  subst g118
                  refine lv_if_ne (tgt := 157) hx hb dX11_formula_115 rfl (fun _ => ?_) (fun c0 => absurd c0 (by decide))
                  exact jp157 _ _ _ ((gsY_X11_formula_1_q12 c73 hG114.symm c115 hG117).symm.trans hT72) hP hD hS hl
                · skip
                  subst g118
                  refine lv_if_ne (tgt := 157) hx hb dX11_formula_115 rfl (fun c0 => absurd (by decide) c0) (fun _ => ?_)
                  exact jp118 _ _ _ ((gsY_X11_formula_1_q13 c73 hG114.symm c115 hG117).symm.trans hT72) hP hD hS hl
          revert jp99
          intro jp99
          refine lv_aload_n hx hb dX11_formula_51 rfl (lv_at hl 2 rfl) ?_
          refine va_get (D := (dC, dI)) (ci := 11) (v := .int (v20 5)) (C := RX11) (T := TX11) (N := 79) hx hb hts inB_11 hown hE.1 hP 0 rfl rfl 6 (Nat.le_of_ble_eq_true rfl) (hts _ k_1326) (fun _ h9 => h9) rfl dX11_formula_52 ?_
          refine lv_bipush (v := 41) hx hb dX11_formula_55 rfl ?_
          refine lv_icmp_ne (tgt := 99) hx hb dX11_formula_57 rfl (fun c119 => ?_) (fun c119 => ?_)
          · skip
            exact jp99 _ _ _ ((gsY_X11_formula_1_q14 c66 c67 hG69.symm c119).symm.trans hT20) hP hD hS hl
          · skip
            have zc119 : (v20 5).toInt = 41 := zEp rfl tc_41 c119
            refine lv_aload_n hx hb dX11_formula_60 rfl (lv_at hl 2 rfl) ?_
            refine cbVi (n := 0) (rest := []) hx hb hml hown hts hE hP hD hS hA (sY_X11_hasBracket_1 NF l dC dI cy y0 r  v20 f20 w20 g20 hIv20 hCf20 hRf20 ) k_1704 k_1706 k_65 k_114 k_1707 hd_yX11_hasBracket ⟨Nat.le_of_ble_eq_true rfl, Nat.le_of_ble_eq_true rfl⟩ 0 11 rfl rfl (rfl) hl.1 rfl (Nat.le_of_ble_eq_true rfl) dX11_formula_61 (fun r120 u H locs hw hP hD hS => ?_)
            obtain ⟨hG121, hw⟩ := hw
            rcases hw with ⟨g122, g122_0⟩ | ⟨g122⟩
            · skip
              subst g122
              have hBr := g122_0
              refine lv_if_eq (tgt := 99) hx hb dX11_formula_64 rfl (fun c0 => absurd c0 (by decide)) (fun _ => ?_)
              refine lv_aload_n hx hb dX11_formula_67 rfl (lv_at hl 2 rfl) ?_
              refine lv_iconst (v := 0) hx hb dX11_formula_68 rfl ?_
              refine cbVv (n := 1) (rest := []) hx hb hml hown hts hE hP hD hS hA (sY_X11_close_1 NF l dC dI cy y0 r 0 v20 f20 w20 g20 hIv20 hCf20 hRf20 ⟨by decide, by decide⟩ (by have q1 : (0 : Int32).toInt = 0 := (by decide); show (v20 8).toInt + (v20 10).toInt ≤ 310; omega) (by show FI 1 (v20 10).toInt (v20 14).toInt (v20 8).toInt (f20 6) (f20 2) (f20 3); exact FI.cast (hFJ (by omega)) (by first | with_reducible rfl | with_reducible assumption | rfl | omega) (by first | with_reducible rfl | with_reducible assumption | rfl | omega) (by first | with_reducible rfl | with_reducible assumption | rfl | omega))) k_1708 k_1710 k_66 k_114 k_1711 hd_yX11_close ⟨Nat.le_of_ble_eq_true rfl, Nat.le_of_ble_eq_true rfl⟩ 0 11 rfl rfl (rfl) hl.1 rfl (Nat.le_of_ble_eq_true rfl) dX11_formula_69 (fun u H locs hw hP hD hS => ?_)
              obtain ⟨hG123, hw⟩ := hw
              obtain ⟨v124, f125, w126, g127⟩ := u
              obtain ⟨kV_v124, kF_f125, hIv124, hCf125, hRf125, hk0_v124, hk1_v124, hk2_v124, hk3_v124, hk4_v124, hk5_v124, hk9_v124, hk13_v124, hk15_v124, hk17_v124, hk18_v124, hk24_v124, hk25_v124, hk35_v124, hk36_v124, hk38_v124, hk39_v124, pv128, pv129, pv130, pv131, pg132, pg133, pg134, kq135⟩ := hw
              have hM_v124 : KV [1, 2, 3, 5, 6, 7, 8, 10, 11, 13, 14, 15] v124 v := KV.tr kV_v124 hM_v20 (by decide +kernel)
              have hA_f125 : KF [2, 3, 6] f125 f := KF.tr kF_f125 hA_f20 rfl
              have hP : va_P (dC, dI) vwCl (YW cy y0 r v124 f125 w126 g127) H := hP
              have hD : va_D A (YW cy y0 r v124 f125 w126 g127) := hD
              have b8_v124 : 0 ≤ (v124 8).toInt ∧ (v124 8).toInt ≤ 320 := Yb_8 hIv124.1
              have b10_v124 : 0 ≤ (v124 10).toInt ∧ (v124 10).toInt ≤ 160 := Yb_10 hIv124.1
              have b14_v124 : 0 ≤ (v124 14).toInt ∧ (v124 14).toInt ≤ 8 := Yb_14 hIv124.1
              have pv128 : (v124 8).toInt + (v124 10).toInt = (v20 8).toInt + (v20 10).toInt := pv128
              have pv129 : (v124 10).toInt - (v124 14).toInt ≤ (v20 10).toInt - (v20 14).toInt := pv129
              have pv130 : (v124 10).toInt ≤ (v20 10).toInt := pv130
              have pv131 : (v124 14).toInt ≤ (v20 14).toInt := pv131
              have pg132 : FI 1 (v124 10).toInt (v124 14).toInt (v124 8).toInt (f125 6) (f125 2) (f125 3) := pg132
              have pg133 : ∀ k, k < ((v20 10).toInt).toNat → (f20 6) k = 20 → k < ((v124 10).toInt).toNat := pg133
              have pg134 : 0 < (0 : Int32).toInt ∨ (v124 10).toInt = 0 ∨ (f125 6) ((v124 10).toInt - 1).toNat = 20 := pg134
              have hs6_f125 : f125 6 = (f20 6) := kq135
              rw [hs6_f125] at pg132
              rw [hs6_f125] at pg134
              have hUv124 : (v124 35).toInt + (v124 36).toInt ≤ 40 := hIv124.2
              have hq0_v124 : v124 0 = (v 0) := hk0_v124.trans hq0_v20
              have hq1_v124 : v124 1 = (v20 1) := hk1_v124
              have zq1_v124 := congrArg Int32.toInt hq1_v124
              have hq3_v124 : v124 3 = (v20 3) := hk3_v124
              have zq3_v124 := congrArg Int32.toInt hq3_v124
              have hq4_v124 : v124 4 = (v 4) := hk4_v124.trans hq4_v20
              have hq5_v124 : v124 5 = (v20 5) := hk5_v124
              have zq5_v124 := congrArg Int32.toInt hq5_v124
              have hq9_v124 : v124 9 = (v 9) := hk9_v124.trans hq9_v20
              have hq13_v124 : v124 13 = (v20 13) := hk13_v124
              have zq13_v124 := congrArg Int32.toInt hq13_v124
              have hq15_v124 : v124 15 = 1 := hk15_v124.trans hq15_v20
              have hq17_v124 : v124 17 = (v 17) := hk17_v124.trans hq17_v20
              have hq18_v124 : v124 18 = (v 18) := hk18_v124.trans hq18_v20
              have hq24_v124 : v124 24 = (v 24) := hk24_v124.trans hq24_v20
              have hq25_v124 : v124 25 = (v 25) := hk25_v124.trans hq25_v20
              have hq35_v124 : v124 35 = (v 35) := hk35_v124.trans hq35_v20
              have hq36_v124 : v124 36 = (v 36) := hk36_v124.trans hq36_v20
              have hq38_v124 : v124 38 = (v 38) := hk38_v124.trans hq38_v20
              have hq39_v124 : v124 39 = (v 39) := hk39_v124.trans hq39_v20
              have hop : 1 ≤ (v124 10).toInt := by obtain ⟨k9, h91, h92⟩ := hBr; have := pg133 k9 h91 h92; omega
              have htp : (f20 6) ((v124 10).toInt - 1).toNat = 20 := by rcases pg134 with h9 | h9 | h9; exact absurd h9 (by decide); omega; exact h9
              have hFK : FI 1 ((v124 10).toInt - 1) ((v124 14).toInt - 1) (v124 8).toInt (f20 6) (f125 2) (f125 3) := FI.pop pg132 htp (by omega)
              have hdp : 0 ≤ (v124 14).toInt - 1 := FI.nn hFK
              clear pg134
              refine lv_aload_n hx hb dX11_formula_72 rfl (lv_at hl 2 rfl) ?_
              refine lv_dup hx hb dX11_formula_73 rfl ?_
              refine va_get (D := (dC, dI)) (ci := 11) (v := .int (v124 10)) (C := RX11) (T := TX11) (N := 79) hx hb hts inB_11 hown hE.1 hP 0 rfl rfl 19 (Nat.le_of_ble_eq_true rfl) (hts _ k_1339) (fun _ h9 => h9) rfl dX11_formula_74 ?_
              have b10_v124 : 0 ≤ (v124 10).toInt ∧ (v124 10).toInt ≤ 160 := Yb_10 hIv124.1
              refine lv_iconst (v := 1) hx hb dX11_formula_77 rfl ?_
              refine lv_isub hx hb dX11_formula_78 ?_
              refine lv_topi (fun t136 et136 => ?_)
              have rg137 := fb_rng (v124 10)
              have zt136 : t136.toInt = (v124 10).toInt - 1 := (congrArg Int32.toInt et136).trans (sub_i rfl tc_1 (om_436 hop) (om_362 b10_v124))
              refine va_put (D := (dC, dI)) (ci := 11) (v := .int t136) (ty := tyX11 19) (C := RX11) (T := TX11) (N := 79) hx hb hts inB_11 tyX11 tyX11_ok nmX11 hown hE.1 hP hD hS 0 rfl rfl 19 (Nat.le_of_ble_eq_true rfl) (hts _ k_1339) (fun _ h9 => h9) rfl (tyX11_ok 19 (Nat.le_of_ble_eq_true rfl)) rfl rfl (Nat.le_of_ble_eq_true rfl) dX11_formula_79 (fun H locs hP hD hS => ?_)
              have hP : va_P (dC, dI) vwCl (YW cy y0 r (upd v124 10 t136) f125 w126 g127) H := hP
              have hD : va_D A (YW cy y0 r (upd v124 10 t136) f125 w126 g127) := hD
              refine lv_aload_n hx hb dX11_formula_82 rfl (lv_at hl 2 rfl) ?_
              refine lv_dup hx hb dX11_formula_83 rfl ?_
              refine va_get (D := (dC, dI)) (ci := 11) (v := .int (v124 14)) (C := RX11) (T := TX11) (N := 79) hx hb hts inB_11 hown hE.1 hP 0 rfl rfl 23 (Nat.le_of_ble_eq_true rfl) (hts _ k_1343) (fun _ h9 => h9) rfl dX11_formula_84 ?_
              have b14_v124 : 0 ≤ (v124 14).toInt ∧ (v124 14).toInt ≤ 8 := Yb_14 hIv124.1
              refine lv_iconst (v := 1) hx hb dX11_formula_87 rfl ?_
              refine lv_isub hx hb dX11_formula_88 ?_
              refine lv_topi (fun t138 et138 => ?_)
              have rg139 := fb_rng (v124 14)
              have zt138 : t138.toInt = (v124 14).toInt - 1 := (congrArg Int32.toInt et138).trans (sub_i rfl tc_1 (om_437 hdp) (om_390 b14_v124))
              refine va_put (D := (dC, dI)) (ci := 11) (v := .int t138) (ty := tyX11 23) (C := RX11) (T := TX11) (N := 79) hx hb hts inB_11 tyX11 tyX11_ok nmX11 hown hE.1 hP hD hS 0 rfl rfl 23 (Nat.le_of_ble_eq_true rfl) (hts _ k_1343) (fun _ h9 => h9) rfl (tyX11_ok 23 (Nat.le_of_ble_eq_true rfl)) rfl rfl (Nat.le_of_ble_eq_true rfl) dX11_formula_89 (fun H locs hP hD hS => ?_)
              have hP : va_P (dC, dI) vwCl (YW cy y0 r (upd (upd v124 10 t136) 14 t138) f125 w126 g127) H := hP
              have hD : va_D A (YW cy y0 r (upd (upd v124 10 t136) 14 t138) f125 w126 g127) := hD
              refine lv_aload_n hx hb dX11_formula_92 rfl (lv_at hl 2 rfl) ?_
              refine cbVv (n := 0) (rest := []) hx hb hml hown hts hE hP hD hS hA (sY_X11_token_1 NF l dC dI cy y0 r  (upd (upd v124 10 t136) 14 t138) f125 w126 g127 ⟨(Yu_14 (x := t138) (Yu_10 (x := t136) hIv124.1 (show (0 : Int) ≤ t136.toInt from om_438 hop zt136) (show t136.toInt ≤ (160 : Int) from om_382 b10_v124 zt136)) (show (0 : Int) ≤ t138.toInt from om_439 hdp zt138) (show t138.toInt ≤ (8 : Int) from om_391 b14_v124 zt138)), hIv124.2⟩ hCf125 hRf125 ) k_1579 k_1581 k_42 k_114 k_1582 hd_yX11_token ⟨Nat.le_of_ble_eq_true rfl, Nat.le_of_ble_eq_true rfl⟩ 0 11 rfl rfl (rfl) hl.1 rfl (Nat.le_of_ble_eq_true rfl) dX11_formula_93 (fun u H locs hw hP hD hS => ?_)
              obtain ⟨hG140, hw⟩ := hw
              obtain ⟨v141, f142, w143, g144⟩ := u
              obtain ⟨kV_v141, kF_f142, hIv141, hCf142, hRf142, hk0_v141, hk1_v141, hk2_v141, hk4_v141, hk8_v141, hk9_v141, hk10_v141, hk13_v141, hk14_v141, hk15_v141, hk17_v141, hk18_v141, hk24_v141, hk25_v141, hk35_v141, hk36_v141, hk38_v141, hk39_v141, pv145, pv146, kq147, kq148, kq149⟩ := hw
              have hM_v141 : KV [1, 2, 3, 5, 6, 7, 8, 10, 11, 13, 14, 15] v141 v := KV.tr kV_v141 (KV.up (j := 14) (x := t138) (KV.up (j := 10) (x := t136) hM_v124 (by decide +kernel)) (by decide +kernel)) (by decide +kernel)
              have hA_f142 : KF [2, 3, 6] f142 f := KF.tr kF_f142 hA_f125 rfl
              have hP : va_P (dC, dI) vwCl (YW cy y0 r v141 f142 w143 g144) H := hP
              have hD : va_D A (YW cy y0 r v141 f142 w143 g144) := hD
              have b3_v141 : 0 ≤ (v141 3).toInt ∧ (v141 3).toInt ≤ 1600 := Yb_3 hIv141.1
              have pv145 : (v124 3).toInt ≤ (v141 3).toInt := pv145
              have pv146 : (v141 5).toInt = (v124 5).toInt ∨ (v124 3).toInt < (v141 3).toInt ∨ ¬ (v141 5).toInt = 59 := pv146
              have hs2_f142 : f142 2 = (f125 2) := kq147
              have hs3_f142 : f142 3 = (f125 3) := kq148
              have hs6_f142 : f142 6 = (f20 6) := kq149.trans hs6_f125
              have hUv141 : (v141 35).toInt + (v141 36).toInt ≤ 40 := hIv141.2
              have hq0_v141 : v141 0 = (v 0) := hk0_v141.trans hq0_v124
              have hq1_v141 : v141 1 = (v20 1) := hk1_v141.trans hq1_v124
              have zq1_v141 := congrArg Int32.toInt hq1_v141
              have hq4_v141 : v141 4 = (v 4) := hk4_v141.trans hq4_v124
              have hq8_v141 : v141 8 = (v124 8) := hk8_v141
              have zq8_v141 := congrArg Int32.toInt hq8_v141
              have hq9_v141 : v141 9 = (v 9) := hk9_v141.trans hq9_v124
              have hq10_v141 : v141 10 = t136 := hk10_v141
              have zq10_v141 := congrArg Int32.toInt hq10_v141
              have hq13_v141 : v141 13 = (v20 13) := hk13_v141.trans hq13_v124
              have zq13_v141 := congrArg Int32.toInt hq13_v141
              have hq14_v141 : v141 14 = t138 := hk14_v141
              have zq14_v141 := congrArg Int32.toInt hq14_v141
              have hq15_v141 : v141 15 = 1 := hk15_v141.trans hq15_v124
              have hq17_v141 : v141 17 = (v 17) := hk17_v141.trans hq17_v124
              have hq18_v141 : v141 18 = (v 18) := hk18_v141.trans hq18_v124
              have hq24_v141 : v141 24 = (v 24) := hk24_v141.trans hq24_v124
              have hq25_v141 : v141 25 = (v 25) := hk25_v141.trans hq25_v124
              have hq35_v141 : v141 35 = (v 35) := hk35_v141.trans hq35_v124
              have hq36_v141 : v141 36 = (v 36) := hk36_v141.trans hq36_v124
              have hq38_v141 : v141 38 = (v 38) := hk38_v141.trans hq38_v124
              have hq39_v141 : v141 39 = (v 39) := hk39_v141.trans hq39_v124
              have hGR : GR (v 3).toInt (v 5).toInt (v141 3).toInt (v141 5).toInt := GR.tr hGR (show GR (v124 3).toInt (v124 5).toInt (v141 3).toInt (v141 5).toInt from ⟨pv145, pv146⟩) (by first | with_reducible rfl | with_reducible assumption | rfl | omega) (by first | with_reducible rfl | with_reducible assumption | rfl | omega)
              clear pv146
              refine lv_goto (tgt := 159) hx hb dX11_formula_96 rfl ?_
              refine lv_goto (tgt := 35) hx hb dX11_formula_159 rfl ?_
              have rg150 := fb_rng l1_20
              exact ih20 l1_20 v141 f142 w143 g144 hIv141 hCf142 hRf142 hq0_v141 hq4_v141 hq9_v141 hq15_v141 hq17_v141 hq18_v141 hq24_v141 hq25_v141 hq35_v141 hq36_v141 hq38_v141 hq39_v141 ((gsY_X11_formula_1_q15 c66 c67 hG69.symm c119 hG121 hG123 et136 et138 hG140).symm.trans hT20) ⟨show (0 : Int) ≤ l1_20.toInt from om_367 hr1_20, show l1_20.toInt ≤ (1 : Int) from om_368 hr1_20⟩ (by show IM0 (v141 1).toInt (FI 1 (v141 10).toInt (v141 14).toInt (v141 8).toInt (f142 6) (f142 2) (f142 3)); rw [hs6_f142, hs2_f142, hs3_f142]; intro hz9; exact FI.cast hFK (by first | with_reducible rfl | with_reducible assumption | rfl | omega) (by first | with_reducible rfl | with_reducible assumption | rfl | omega) (by first | with_reducible rfl | with_reducible assumption | rfl | omega)) (by show NB (v141 1).toInt (v141 8).toInt (v141 10).toInt (v141 13).toInt (v141 14).toInt; exact NB.mk (by omega) (by omega) (by omega) (by omega)) (by show GR (v 3).toInt (v 5).toInt (v141 3).toInt (v141 5).toInt; exact GR.cast hGR (by first | with_reducible rfl | with_reducible assumption | rfl | omega) (by first | with_reducible rfl | with_reducible assumption | rfl | omega)) hM_v141 hA_f142 (show (1 + 100 * (31 - (v141 13).toInt) + 2 * (v141 10).toInt + l1_20.toInt - 100000 * (v141 1).toInt).toNat < n20 from om_440 hr1_20 hm20 b10_v20 b13_v20 zc67 pv130 zt136 zq1_v141 zq10_v141 zq13_v141) _ _ _ hP hD hS (lv_sub hl [1, 2] rfl)
            · skip
              subst g122
              refine lv_if_eq (tgt := 99) hx hb dX11_formula_64 rfl (fun _ => ?_) (fun c0 => absurd (by decide) c0)
              exact jp99 _ _ _ ((gsY_X11_formula_1_q16 c66 c67 hG69.symm c119 hG121).symm.trans hT20) hP hD hS hl
  exact lp20 (4294967296 + NF) 1 v12 f13 w14 g15 hIv12 hCf13 hRf13 hq0_v12 hq4_v12 hq9_v12 hq15_v12 hq17_v12 hq18_v12 hq24_v12 hq25_v12 hq35_v12 hq36_v12 hq38_v12 hq39_v12 (gsY_X11_formula_1_q17 hG1 hG11).symm ⟨by decide, by decide⟩ (by show IM0 (v12 1).toInt (FI 1 (v12 10).toInt (v12 14).toInt (v12 8).toInt (f13 6) (f13 2) (f13 3)); intro hz9; exact FI.cast (hFJ (by omega)) (by first | with_reducible rfl | with_reducible assumption | rfl | omega) (by first | with_reducible rfl | with_reducible assumption | rfl | omega) (by first | with_reducible rfl | with_reducible assumption | rfl | omega)) (by show NB (v12 1).toInt (v12 8).toInt (v12 10).toInt (v12 13).toInt (v12 14).toInt; exact NB.cast hNB (by first | with_reducible rfl | with_reducible assumption | rfl | omega) (by first | with_reducible rfl | with_reducible assumption | rfl | omega) (by first | with_reducible rfl | with_reducible assumption | rfl | omega) (by first | with_reducible rfl | with_reducible assumption | rfl | omega) (by first | with_reducible rfl | with_reducible assumption | rfl | omega)) (by show GR (v 3).toInt (v 5).toInt (v12 3).toInt (v12 5).toInt; exact GR.cast hGR (by first | with_reducible rfl | with_reducible assumption | rfl | omega) (by first | with_reducible rfl | with_reducible assumption | rfl | omega)) hM_v12 hA_f13 (show (1 + 100 * (31 - (v12 13).toInt) + 2 * (v12 10).toInt + (1 : Int32).toInt - 100000 * (v12 1).toInt).toNat < 4294967296 + NF from om_441 b1_v12 b10_v12 b13_v12 tc_1) _ _ _ hP hD hS (lv_sub hl [0, 1] rfl)
set_option maxHeartbeats 4000000 in
set_option maxRecDepth 100000 in
theorem sY_X11_isOwn_1 (NF : Nat) (l : Launch) (dC : Nat → ClassId) (dI : Nat → Nat → Nat) (cy : Nat → ClassId) (y0 : Nat) (r : Nat → Nat)  (v : Nat → Int32) (f : Nat → Nat → Int32) (w : Int64) (g : Nat → Int64) (hIv : YI v) (hCf : YC f) (hRf : progOK (f 4) (f 5) (v 9).toInt.toNat)  : ctI l (dC, dI) cy yX11_isOwn cX11_isOwn 1 .boolean 1 60 0 0 Unit [.ref y0] (YW cy y0 r v f w g) (fun r u => gsY_X11_isOwn_1 NF v f w g = r ∧ ((r = 1) ∨ (r = 0))) (fun u => YW cy y0 r v f w g) := by
  refine ctI_of (by decide) (Nat.le_of_ble_eq_true rfl) (fun p e s m below meth c A ls Q hx hb hml hts hown hE hP hD hA hl ret => ?_)
  have hown : s.vm.findClass RX11 = some m.cls := hown
  have hS : va_S A s.heap s.heap [] := va_S.rf
  have hl : lv_has ls 1 [(0, .ref y0)] := hl
  refine lv_aload_n hx hb dX11_isOwn_0 rfl (lv_at hl 0 rfl) ?_
  refine va_get (D := (dC, dI)) (ci := 11) (v := .long w) (C := RX11) (T := TX11) (N := 79) hx hb hts inB_11 hown hE.1 hP 0 rfl rfl 9 (Nat.le_of_ble_eq_true rfl) (hts _ k_1329) (fun _ h9 => h9) rfl dX11_isOwn_1 ?_
  refine lv_ldc2 (v := 7168366) hx hb hown (hts _ k_1600) dX11_isOwn_4 ?_
  refine W.lcmp hx hb dX11_isOwn_7 ?_
  refine lv_topi (fun t1 et1 => ?_)
  refine lv_if_eq (tgt := 231) hx hb dX11_isOwn_8 rfl (fun c2 => ?_) (fun c2 => ?_)
  · skip
    refine lv_iconst (v := 1) hx hb dX11_isOwn_231 rfl ?_
    refine lv_goto (tgt := 236) hx hb dX11_isOwn_232 rfl ?_
    exact ret 1 () _ _ _ _ _ _ rfl ⟨(gsY_X11_isOwn_1_q0 et1 c2), (Or.inl rfl)⟩ hP hD hS dX11_isOwn_236 (Nat.le_refl _) (Nat.le_refl _)
  · skip
    refine lv_aload_n hx hb dX11_isOwn_11 rfl (lv_at hl 0 rfl) ?_
    refine va_get (D := (dC, dI)) (ci := 11) (v := .long w) (C := RX11) (T := TX11) (N := 79) hx hb hts inB_11 hown hE.1 hP 0 rfl rfl 9 (Nat.le_of_ble_eq_true rfl) (hts _ k_1329) (fun _ h9 => h9) rfl dX11_isOwn_12 ?_
    refine lv_ldc2 (v := 1952541804) hx hb hown (hts _ k_1621) dX11_isOwn_15 ?_
    refine W.lcmp hx hb dX11_isOwn_18 ?_
    refine lv_topi (fun t3 et3 => ?_)
    refine lv_if_eq (tgt := 231) hx hb dX11_isOwn_19 rfl (fun c4 => ?_) (fun c4 => ?_)
    · skip
      refine lv_iconst (v := 1) hx hb dX11_isOwn_231 rfl ?_
      refine lv_goto (tgt := 236) hx hb dX11_isOwn_232 rfl ?_
      exact ret 1 () _ _ _ _ _ _ rfl ⟨(gsY_X11_isOwn_1_q1 et1 c2 et3 c4), (Or.inl rfl)⟩ hP hD hS dX11_isOwn_236 (Nat.le_refl _) (Nat.le_refl _)
    · skip
      refine lv_aload_n hx hb dX11_isOwn_22 rfl (lv_at hl 0 rfl) ?_
      refine va_get (D := (dC, dI)) (ci := 11) (v := .long w) (C := RX11) (T := TX11) (N := 79) hx hb hts inB_11 hown hE.1 hP 0 rfl rfl 9 (Nat.le_of_ble_eq_true rfl) (hts _ k_1329) (fun _ h9 => h9) rfl dX11_isOwn_23 ?_
      refine lv_ldc2 (v := 2003395685) hx hb hown (hts _ k_1622) dX11_isOwn_26 ?_
      refine W.lcmp hx hb dX11_isOwn_29 ?_
      refine lv_topi (fun t5 et5 => ?_)
      refine lv_if_eq (tgt := 231) hx hb dX11_isOwn_30 rfl (fun c6 => ?_) (fun c6 => ?_)
      · skip
        refine lv_iconst (v := 1) hx hb dX11_isOwn_231 rfl ?_
        refine lv_goto (tgt := 236) hx hb dX11_isOwn_232 rfl ?_
        exact ret 1 () _ _ _ _ _ _ rfl ⟨(gsY_X11_isOwn_1_q2 et1 c2 et3 c4 et5 c6), (Or.inl rfl)⟩ hP hD hS dX11_isOwn_236 (Nat.le_refl _) (Nat.le_refl _)
      · skip
        refine lv_aload_n hx hb dX11_isOwn_33 rfl (lv_at hl 0 rfl) ?_
        refine va_get (D := (dC, dI)) (ci := 11) (v := .long w) (C := RX11) (T := TX11) (N := 79) hx hb hts inB_11 hown hE.1 hP 0 rfl rfl 9 (Nat.le_of_ble_eq_true rfl) (hts _ k_1329) (fun _ h9 => h9) rfl dX11_isOwn_34 ?_
        refine lv_ldc2 (v := 444301539187) hx hb hown (hts _ k_1623) dX11_isOwn_37 ?_
        refine W.lcmp hx hb dX11_isOwn_40 ?_
        refine lv_topi (fun t7 et7 => ?_)
        refine lv_if_eq (tgt := 231) hx hb dX11_isOwn_41 rfl (fun c8 => ?_) (fun c8 => ?_)
        · skip
          refine lv_iconst (v := 1) hx hb dX11_isOwn_231 rfl ?_
          refine lv_goto (tgt := 236) hx hb dX11_isOwn_232 rfl ?_
          exact ret 1 () _ _ _ _ _ _ rfl ⟨(gsY_X11_isOwn_1_q3 et1 c2 et3 c4 et5 c6 et7 c8), (Or.inl rfl)⟩ hP hD hS dX11_isOwn_236 (Nat.le_refl _) (Nat.le_refl _)
        · skip
          refine lv_aload_n hx hb dX11_isOwn_44 rfl (lv_at hl 0 rfl) ?_
          refine va_get (D := (dC, dI)) (ci := 11) (v := .long w) (C := RX11) (T := TX11) (N := 79) hx hb hts inB_11 hown hE.1 hP 0 rfl rfl 9 (Nat.le_of_ble_eq_true rfl) (hts _ k_1329) (fun _ h9 => h9) rfl dX11_isOwn_45 ?_
          refine lv_ldc2 (v := 1668243828) hx hb hown (hts _ k_1624) dX11_isOwn_48 ?_
          refine W.lcmp hx hb dX11_isOwn_51 ?_
          refine lv_topi (fun t9 et9 => ?_)
          refine lv_if_eq (tgt := 231) hx hb dX11_isOwn_52 rfl (fun c10 => ?_) (fun c10 => ?_)
          · skip
            refine lv_iconst (v := 1) hx hb dX11_isOwn_231 rfl ?_
            refine lv_goto (tgt := 236) hx hb dX11_isOwn_232 rfl ?_
            exact ret 1 () _ _ _ _ _ _ rfl ⟨(gsY_X11_isOwn_1_q4 et1 c2 et3 c4 et5 c6 et7 c8 et9 c10), (Or.inl rfl)⟩ hP hD hS dX11_isOwn_236 (Nat.le_refl _) (Nat.le_refl _)
          · skip
            refine lv_aload_n hx hb dX11_isOwn_55 rfl (lv_at hl 0 rfl) ?_
            refine va_get (D := (dC, dI)) (ci := 11) (v := .long w) (C := RX11) (T := TX11) (N := 79) hx hb hts inB_11 hown hE.1 hP 0 rfl rfl 9 (Nat.le_of_ble_eq_true rfl) (hts _ k_1329) (fun _ h9 => h9) rfl dX11_isOwn_56 ?_
            refine lv_ldc2 (v := 1936023917) hx hb hown (hts _ k_1625) dX11_isOwn_59 ?_
            refine W.lcmp hx hb dX11_isOwn_62 ?_
            refine lv_topi (fun t11 et11 => ?_)
            refine lv_if_eq (tgt := 231) hx hb dX11_isOwn_63 rfl (fun c12 => ?_) (fun c12 => ?_)
            · skip
              refine lv_iconst (v := 1) hx hb dX11_isOwn_231 rfl ?_
              refine lv_goto (tgt := 236) hx hb dX11_isOwn_232 rfl ?_
              exact ret 1 () _ _ _ _ _ _ rfl ⟨(gsY_X11_isOwn_1_q5 et1 c2 et3 c4 et5 c6 et7 c8 et9 c10 et11 c12), (Or.inl rfl)⟩ hP hD hS dX11_isOwn_236 (Nat.le_refl _) (Nat.le_refl _)
            · skip
              refine lv_aload_n hx hb dX11_isOwn_66 rfl (lv_at hl 0 rfl) ?_
              refine va_get (D := (dC, dI)) (ci := 11) (v := .long w) (C := RX11) (T := TX11) (N := 79) hx hb hts inB_11 hown hE.1 hP 0 rfl rfl 9 (Nat.le_of_ble_eq_true rfl) (hts _ k_1329) (fun _ h9 => h9) rfl dX11_isOwn_67 ?_
              refine lv_ldc2 (v := 2003792494) hx hb hown (hts _ k_1626) dX11_isOwn_70 ?_
              refine W.lcmp hx hb dX11_isOwn_73 ?_
              refine lv_topi (fun t13 et13 => ?_)
              refine lv_if_eq (tgt := 231) hx hb dX11_isOwn_74 rfl (fun c14 => ?_) (fun c14 => ?_)
              · skip
                refine lv_iconst (v := 1) hx hb dX11_isOwn_231 rfl ?_
                refine lv_goto (tgt := 236) hx hb dX11_isOwn_232 rfl ?_
                exact ret 1 () _ _ _ _ _ _ rfl ⟨(gsY_X11_isOwn_1_q6 et1 c2 et3 c4 et5 c6 et7 c8 et9 c10 et11 c12 et13 c14), (Or.inl rfl)⟩ hP hD hS dX11_isOwn_236 (Nat.le_refl _) (Nat.le_refl _)
              · skip
                refine lv_aload_n hx hb dX11_isOwn_77 rfl (lv_at hl 0 rfl) ?_
                refine va_get (D := (dC, dI)) (ci := 11) (v := .long w) (C := RX11) (T := TX11) (N := 79) hx hb hts inB_11 hown hE.1 hP 0 rfl rfl 9 (Nat.le_of_ble_eq_true rfl) (hts _ k_1329) (fun _ h9 => h9) rfl dX11_isOwn_78 ?_
                refine lv_ldc2 (v := 6909036) hx hb hown (hts _ k_1627) dX11_isOwn_81 ?_
                refine W.lcmp hx hb dX11_isOwn_84 ?_
                refine lv_topi (fun t15 et15 => ?_)
                refine lv_if_eq (tgt := 231) hx hb dX11_isOwn_85 rfl (fun c16 => ?_) (fun c16 => ?_)
                · skip
                  refine lv_iconst (v := 1) hx hb dX11_isOwn_231 rfl ?_
                  refine lv_goto (tgt := 236) hx hb dX11_isOwn_232 rfl ?_
                  exact ret 1 () _ _ _ _ _ _ rfl ⟨(gsY_X11_isOwn_1_q7 et1 c2 et3 c4 et5 c6 et7 c8 et9 c10 et11 c12 et13 c14 et15 c16), (Or.inl rfl)⟩ hP hD hS dX11_isOwn_236 (Nat.le_refl _) (Nat.le_refl _)
                · skip
                  refine lv_aload_n hx hb dX11_isOwn_88 rfl (lv_at hl 0 rfl) ?_
                  refine va_get (D := (dC, dI)) (ci := 11) (v := .long w) (C := RX11) (T := TX11) (N := 79) hx hb hts inB_11 hown hE.1 hP 0 rfl rfl 9 (Nat.le_of_ble_eq_true rfl) (hts _ k_1329) (fun _ h9 => h9) rfl dX11_isOwn_89 ?_
                  refine lv_ldc2 (v := 1700885369) hx hb hown (hts _ k_1628) dX11_isOwn_92 ?_
                  refine W.lcmp hx hb dX11_isOwn_95 ?_
                  refine lv_topi (fun t17 et17 => ?_)
                  refine lv_if_eq (tgt := 231) hx hb dX11_isOwn_96 rfl (fun c18 => ?_) (fun c18 => ?_)
                  · skip
                    refine lv_iconst (v := 1) hx hb dX11_isOwn_231 rfl ?_
                    refine lv_goto (tgt := 236) hx hb dX11_isOwn_232 rfl ?_
                    exact ret 1 () _ _ _ _ _ _ rfl ⟨(gsY_X11_isOwn_1_q8 et1 c2 et3 c4 et5 c6 et7 c8 et9 c10 et11 c12 et13 c14 et15 c16 et17 c18), (Or.inl rfl)⟩ hP hD hS dX11_isOwn_236 (Nat.le_refl _) (Nat.le_refl _)
                  · skip
                    refine lv_aload_n hx hb dX11_isOwn_99 rfl (lv_at hl 0 rfl) ?_
                    refine va_get (D := (dC, dI)) (ci := 11) (v := .long w) (C := RX11) (T := TX11) (N := 79) hx hb hts inB_11 hown hE.1 hP 0 rfl rfl 9 (Nat.le_of_ble_eq_true rfl) (hts _ k_1329) (fun _ h9 => h9) rfl dX11_isOwn_100 ?_
                    refine lv_ldc2 (v := 1651469428) hx hb hown (hts _ k_1629) dX11_isOwn_103 ?_
                    refine W.lcmp hx hb dX11_isOwn_106 ?_
                    refine lv_topi (fun t19 et19 => ?_)
                    refine lv_if_eq (tgt := 231) hx hb dX11_isOwn_107 rfl (fun c20 => ?_) (fun c20 => ?_)
                    · skip
                      refine lv_iconst (v := 1) hx hb dX11_isOwn_231 rfl ?_
                      refine lv_goto (tgt := 236) hx hb dX11_isOwn_232 rfl ?_
                      exact ret 1 () _ _ _ _ _ _ rfl ⟨(gsY_X11_isOwn_1_q9 et1 c2 et3 c4 et5 c6 et7 c8 et9 c10 et11 c12 et13 c14 et15 c16 et17 c18 et19 c20), (Or.inl rfl)⟩ hP hD hS dX11_isOwn_236 (Nat.le_refl _) (Nat.le_refl _)
                    · skip
                      refine lv_aload_n hx hb dX11_isOwn_110 rfl (lv_at hl 0 rfl) ?_
                      refine va_get (D := (dC, dI)) (ci := 11) (v := .long w) (C := RX11) (T := TX11) (N := 79) hx hb hts inB_11 hown hE.1 hP 0 rfl rfl 9 (Nat.le_of_ble_eq_true rfl) (hts _ k_1329) (fun _ h9 => h9) rfl dX11_isOwn_111 ?_
                      refine lv_ldc2 (v := 1818848101) hx hb hown (hts _ k_1630) dX11_isOwn_114 ?_
                      refine W.lcmp hx hb dX11_isOwn_117 ?_
                      refine lv_topi (fun t21 et21 => ?_)
                      refine lv_if_eq (tgt := 231) hx hb dX11_isOwn_118 rfl (fun c22 => ?_) (fun c22 => ?_)
                      · skip
                        refine lv_iconst (v := 1) hx hb dX11_isOwn_231 rfl ?_
                        refine lv_goto (tgt := 236) hx hb dX11_isOwn_232 rfl ?_
                        exact ret 1 () _ _ _ _ _ _ rfl ⟨(gsY_X11_isOwn_1_q10 et1 c2 et3 c4 et5 c6 et7 c8 et9 c10 et11 c12 et13 c14 et15 c16 et17 c18 et19 c20 et21 c22), (Or.inl rfl)⟩ hP hD hS dX11_isOwn_236 (Nat.le_refl _) (Nat.le_refl _)
                      · skip
                        refine lv_aload_n hx hb dX11_isOwn_121 rfl (lv_at hl 0 rfl) ?_
                        refine va_get (D := (dC, dI)) (ci := 11) (v := .long w) (C := RX11) (T := TX11) (N := 79) hx hb hts inB_11 hown hE.1 hP 0 rfl rfl 9 (Nat.le_of_ble_eq_true rfl) (hts _ k_1329) (fun _ h9 => h9) rfl dX11_isOwn_122 ?_
                        refine lv_ldc2 (v := 1918986606) hx hb hown (hts _ k_1631) dX11_isOwn_125 ?_
                        refine W.lcmp hx hb dX11_isOwn_128 ?_
                        refine lv_topi (fun t23 et23 => ?_)
                        refine lv_if_eq (tgt := 231) hx hb dX11_isOwn_129 rfl (fun c24 => ?_) (fun c24 => ?_)
                        · skip
                          refine lv_iconst (v := 1) hx hb dX11_isOwn_231 rfl ?_
                          refine lv_goto (tgt := 236) hx hb dX11_isOwn_232 rfl ?_
                          exact ret 1 () _ _ _ _ _ _ rfl ⟨(gsY_X11_isOwn_1_q11 et1 c2 et3 c4 et5 c6 et7 c8 et9 c10 et11 c12 et13 c14 et15 c16 et17 c18 et19 c20 et21 c22 et23 c24), (Or.inl rfl)⟩ hP hD hS dX11_isOwn_236 (Nat.le_refl _) (Nat.le_refl _)
                        · skip
                          refine lv_aload_n hx hb dX11_isOwn_132 rfl (lv_at hl 0 rfl) ?_
                          refine va_get (D := (dC, dI)) (ci := 11) (v := .long w) (C := RX11) (T := TX11) (N := 79) hx hb hts inB_11 hown hE.1 hP 0 rfl rfl 9 (Nat.le_of_ble_eq_true rfl) (hts _ k_1329) (fun _ h9 => h9) rfl dX11_isOwn_133 ?_
                          refine lv_ldc2 (v := 1685217655) hx hb hown (hts _ k_1632) dX11_isOwn_136 ?_
                          refine W.lcmp hx hb dX11_isOwn_139 ?_
                          refine lv_topi (fun t25 et25 => ?_)
                          refine lv_if_eq (tgt := 231) hx hb dX11_isOwn_140 rfl (fun c26 => ?_) (fun c26 => ?_)
                          · skip
                            refine lv_iconst (v := 1) hx hb dX11_isOwn_231 rfl ?_
                            refine lv_goto (tgt := 236) hx hb dX11_isOwn_232 rfl ?_
                            exact ret 1 () _ _ _ _ _ _ rfl ⟨(gsY_X11_isOwn_1_q12 et1 c2 et3 c4 et5 c6 et7 c8 et9 c10 et11 c12 et13 c14 et15 c16 et17 c18 et19 c20 et21 c22 et23 c24 et25 c26), (Or.inl rfl)⟩ hP hD hS dX11_isOwn_236 (Nat.le_refl _) (Nat.le_refl _)
                          · skip
                            refine lv_aload_n hx hb dX11_isOwn_143 rfl (lv_at hl 0 rfl) ?_
                            refine va_get (D := (dC, dI)) (ci := 11) (v := .long w) (C := RX11) (T := TX11) (N := 79) hx hb hts inB_11 hown hE.1 hP 0 rfl rfl 9 (Nat.le_of_ble_eq_true rfl) (hts _ k_1329) (fun _ h9 => h9) rfl dX11_isOwn_144 ?_
                            refine lv_ldc2 (v := 499984590964) hx hb hown (hts _ k_1633) dX11_isOwn_147 ?_
                            refine W.lcmp hx hb dX11_isOwn_150 ?_
                            refine lv_topi (fun t27 et27 => ?_)
                            refine lv_if_eq (tgt := 231) hx hb dX11_isOwn_151 rfl (fun c28 => ?_) (fun c28 => ?_)
                            · skip
                              refine lv_iconst (v := 1) hx hb dX11_isOwn_231 rfl ?_
                              refine lv_goto (tgt := 236) hx hb dX11_isOwn_232 rfl ?_
                              exact ret 1 () _ _ _ _ _ _ rfl ⟨(gsY_X11_isOwn_1_q13 et1 c2 et3 c4 et5 c6 et7 c8 et9 c10 et11 c12 et13 c14 et15 c16 et17 c18 et19 c20 et21 c22 et23 c24 et25 c26 et27 c28), (Or.inl rfl)⟩ hP hD hS dX11_isOwn_236 (Nat.le_refl _) (Nat.le_refl _)
                            · skip
                              refine lv_aload_n hx hb dX11_isOwn_154 rfl (lv_at hl 0 rfl) ?_
                              refine va_get (D := (dC, dI)) (ci := 11) (v := .long w) (C := RX11) (T := TX11) (N := 79) hx hb hts inB_11 hown hE.1 hP 0 rfl rfl 9 (Nat.le_of_ble_eq_true rfl) (hts _ k_1329) (fun _ h9 => h9) rfl dX11_isOwn_155 ?_
                              refine lv_ldc2 (v := 465726042981) hx hb hown (hts _ k_1634) dX11_isOwn_158 ?_
                              refine W.lcmp hx hb dX11_isOwn_161 ?_
                              refine lv_topi (fun t29 et29 => ?_)
                              refine lv_if_eq (tgt := 231) hx hb dX11_isOwn_162 rfl (fun c30 => ?_) (fun c30 => ?_)
                              · skip
                                refine lv_iconst (v := 1) hx hb dX11_isOwn_231 rfl ?_
                                refine lv_goto (tgt := 236) hx hb dX11_isOwn_232 rfl ?_
                                exact ret 1 () _ _ _ _ _ _ rfl ⟨(gsY_X11_isOwn_1_q14 et1 c2 et3 c4 et5 c6 et7 c8 et9 c10 et11 c12 et13 c14 et15 c16 et17 c18 et19 c20 et21 c22 et23 c24 et25 c26 et27 c28 et29 c30), (Or.inl rfl)⟩ hP hD hS dX11_isOwn_236 (Nat.le_refl _) (Nat.le_refl _)
                              · skip
                                refine lv_aload_n hx hb dX11_isOwn_165 rfl (lv_at hl 0 rfl) ?_
                                refine va_get (D := (dC, dI)) (ci := 11) (v := .long w) (C := RX11) (T := TX11) (N := 79) hx hb hts inB_11 hown hE.1 hP 0 rfl rfl 9 (Nat.le_of_ble_eq_true rfl) (hts _ k_1329) (fun _ h9 => h9) rfl dX11_isOwn_166 ?_
                                refine lv_ldc2 (v := 495673373300) hx hb hown (hts _ k_1635) dX11_isOwn_169 ?_
                                refine W.lcmp hx hb dX11_isOwn_172 ?_
                                refine lv_topi (fun t31 et31 => ?_)
                                refine lv_if_eq (tgt := 231) hx hb dX11_isOwn_173 rfl (fun c32 => ?_) (fun c32 => ?_)
                                · skip
                                  refine lv_iconst (v := 1) hx hb dX11_isOwn_231 rfl ?_
                                  refine lv_goto (tgt := 236) hx hb dX11_isOwn_232 rfl ?_
                                  exact ret 1 () _ _ _ _ _ _ rfl ⟨(gsY_X11_isOwn_1_q15 et1 c2 et3 c4 et5 c6 et7 c8 et9 c10 et11 c12 et13 c14 et15 c16 et17 c18 et19 c20 et21 c22 et23 c24 et25 c26 et27 c28 et29 c30 et31 c32), (Or.inl rfl)⟩ hP hD hS dX11_isOwn_236 (Nat.le_refl _) (Nat.le_refl _)
                                · skip
                                  refine lv_aload_n hx hb dX11_isOwn_176 rfl (lv_at hl 0 rfl) ?_
                                  refine va_get (D := (dC, dI)) (ci := 11) (v := .long w) (C := RX11) (T := TX11) (N := 79) hx hb hts inB_11 hown hE.1 hP 0 rfl rfl 9 (Nat.le_of_ble_eq_true rfl) (hts _ k_1329) (fun _ h9 => h9) rfl dX11_isOwn_177 ?_
                                  refine lv_ldc2 (v := 1819242087) hx hb hown (hts _ k_1636) dX11_isOwn_180 ?_
                                  refine W.lcmp hx hb dX11_isOwn_183 ?_
                                  refine lv_topi (fun t33 et33 => ?_)
                                  refine lv_if_eq (tgt := 231) hx hb dX11_isOwn_184 rfl (fun c34 => ?_) (fun c34 => ?_)
                                  · skip
                                    refine lv_iconst (v := 1) hx hb dX11_isOwn_231 rfl ?_
                                    refine lv_goto (tgt := 236) hx hb dX11_isOwn_232 rfl ?_
                                    exact ret 1 () _ _ _ _ _ _ rfl ⟨(gsY_X11_isOwn_1_q16 et1 c2 et3 c4 et5 c6 et7 c8 et9 c10 et11 c12 et13 c14 et15 c16 et17 c18 et19 c20 et21 c22 et23 c24 et25 c26 et27 c28 et29 c30 et31 c32 et33 c34), (Or.inl rfl)⟩ hP hD hS dX11_isOwn_236 (Nat.le_refl _) (Nat.le_refl _)
                                  · skip
                                    refine lv_aload_n hx hb dX11_isOwn_187 rfl (lv_at hl 0 rfl) ?_
                                    refine va_get (D := (dC, dI)) (ci := 11) (v := .long w) (C := RX11) (T := TX11) (N := 79) hx hb hts inB_11 hown hE.1 hP 0 rfl rfl 9 (Nat.le_of_ble_eq_true rfl) (hts _ k_1329) (fun _ h9 => h9) rfl dX11_isOwn_188 ?_
                                    refine lv_ldc2 (v := 6578553) hx hb hown (hts _ k_1637) dX11_isOwn_191 ?_
                                    refine W.lcmp hx hb dX11_isOwn_194 ?_
                                    refine lv_topi (fun t35 et35 => ?_)
                                    refine lv_if_eq (tgt := 231) hx hb dX11_isOwn_195 rfl (fun c36 => ?_) (fun c36 => ?_)
                                    · skip
                                      refine lv_iconst (v := 1) hx hb dX11_isOwn_231 rfl ?_
                                      refine lv_goto (tgt := 236) hx hb dX11_isOwn_232 rfl ?_
                                      exact ret 1 () _ _ _ _ _ _ rfl ⟨(gsY_X11_isOwn_1_q17 et1 c2 et3 c4 et5 c6 et7 c8 et9 c10 et11 c12 et13 c14 et15 c16 et17 c18 et19 c20 et21 c22 et23 c24 et25 c26 et27 c28 et29 c30 et31 c32 et33 c34 et35 c36), (Or.inl rfl)⟩ hP hD hS dX11_isOwn_236 (Nat.le_refl _) (Nat.le_refl _)
                                    · skip
                                      refine lv_aload_n hx hb dX11_isOwn_198 rfl (lv_at hl 0 rfl) ?_
                                      refine va_get (D := (dC, dI)) (ci := 11) (v := .long w) (C := RX11) (T := TX11) (N := 79) hx hb hts inB_11 hown hE.1 hP 0 rfl rfl 9 (Nat.le_of_ble_eq_true rfl) (hts _ k_1329) (fun _ h9 => h9) rfl dX11_isOwn_199 ?_
                                      refine lv_ldc2 (v := 6385252) hx hb hown (hts _ k_1638) dX11_isOwn_202 ?_
                                      refine W.lcmp hx hb dX11_isOwn_205 ?_
                                      refine lv_topi (fun t37 et37 => ?_)
                                      refine lv_if_eq (tgt := 231) hx hb dX11_isOwn_206 rfl (fun c38 => ?_) (fun c38 => ?_)
                                      · skip
                                        refine lv_iconst (v := 1) hx hb dX11_isOwn_231 rfl ?_
                                        refine lv_goto (tgt := 236) hx hb dX11_isOwn_232 rfl ?_
                                        exact ret 1 () _ _ _ _ _ _ rfl ⟨(gsY_X11_isOwn_1_q18 et1 c2 et3 c4 et5 c6 et7 c8 et9 c10 et11 c12 et13 c14 et15 c16 et17 c18 et19 c20 et21 c22 et23 c24 et25 c26 et27 c28 et29 c30 et31 c32 et33 c34 et35 c36 et37 c38), (Or.inl rfl)⟩ hP hD hS dX11_isOwn_236 (Nat.le_refl _) (Nat.le_refl _)
                                      · skip
                                        refine lv_aload_n hx hb dX11_isOwn_209 rfl (lv_at hl 0 rfl) ?_
                                        refine va_get (D := (dC, dI)) (ci := 11) (v := .long w) (C := RX11) (T := TX11) (N := 79) hx hb hts inB_11 hown hE.1 hP 0 rfl rfl 9 (Nat.le_of_ble_eq_true rfl) (hts _ k_1329) (fun _ h9 => h9) rfl dX11_isOwn_210 ?_
                                        refine lv_ldc2 (v := 28530) hx hb hown (hts _ k_1639) dX11_isOwn_213 ?_
                                        refine W.lcmp hx hb dX11_isOwn_216 ?_
                                        refine lv_topi (fun t39 et39 => ?_)
                                        refine lv_if_eq (tgt := 231) hx hb dX11_isOwn_217 rfl (fun c40 => ?_) (fun c40 => ?_)
                                        · skip
                                          refine lv_iconst (v := 1) hx hb dX11_isOwn_231 rfl ?_
                                          refine lv_goto (tgt := 236) hx hb dX11_isOwn_232 rfl ?_
                                          exact ret 1 () _ _ _ _ _ _ rfl ⟨(gsY_X11_isOwn_1_q19 et1 c2 et3 c4 et5 c6 et7 c8 et9 c10 et11 c12 et13 c14 et15 c16 et17 c18 et19 c20 et21 c22 et23 c24 et25 c26 et27 c28 et29 c30 et31 c32 et33 c34 et35 c36 et37 c38 et39 c40), (Or.inl rfl)⟩ hP hD hS dX11_isOwn_236 (Nat.le_refl _) (Nat.le_refl _)
                                        · skip
                                          refine lv_aload_n hx hb dX11_isOwn_220 rfl (lv_at hl 0 rfl) ?_
                                          refine va_get (D := (dC, dI)) (ci := 11) (v := .long w) (C := RX11) (T := TX11) (N := 79) hx hb hts inB_11 hown hE.1 hP 0 rfl rfl 9 (Nat.le_of_ble_eq_true rfl) (hts _ k_1329) (fun _ h9 => h9) rfl dX11_isOwn_221 ?_
                                          refine lv_ldc2 (v := 7237492) hx hb hown (hts _ k_1640) dX11_isOwn_224 ?_
                                          refine W.lcmp hx hb dX11_isOwn_227 ?_
                                          refine lv_topi (fun t41 et41 => ?_)
                                          refine lv_if_ne (tgt := 235) hx hb dX11_isOwn_228 rfl (fun c42 => ?_) (fun c42 => ?_)
                                          · skip
                                            refine lv_iconst (v := 0) hx hb dX11_isOwn_235 rfl ?_
                                            exact ret 0 () _ _ _ _ _ _ rfl ⟨(gsY_X11_isOwn_1_q20 et1 c2 et3 c4 et5 c6 et7 c8 et9 c10 et11 c12 et13 c14 et15 c16 et17 c18 et19 c20 et21 c22 et23 c24 et25 c26 et27 c28 et29 c30 et31 c32 et33 c34 et35 c36 et37 c38 et39 c40 et41 c42), (Or.inr rfl)⟩ hP hD hS dX11_isOwn_236 (Nat.le_refl _) (Nat.le_refl _)
                                          · skip
                                            refine lv_iconst (v := 1) hx hb dX11_isOwn_231 rfl ?_
                                            refine lv_goto (tgt := 236) hx hb dX11_isOwn_232 rfl ?_
                                            exact ret 1 () _ _ _ _ _ _ rfl ⟨(gsY_X11_isOwn_1_q21 et1 c2 et3 c4 et5 c6 et7 c8 et9 c10 et11 c12 et13 c14 et15 c16 et17 c18 et19 c20 et21 c22 et23 c24 et25 c26 et27 c28 et29 c30 et31 c32 et33 c34 et35 c36 et37 c38 et39 c40 et41 c42), (Or.inl rfl)⟩ hP hD hS dX11_isOwn_236 (Nat.le_refl _) (Nat.le_refl _)
set_option maxHeartbeats 4000000 in
set_option maxRecDepth 100000 in
theorem sY_X11_isName_1 (NF : Nat) (l : Launch) (dC : Nat → ClassId) (dI : Nat → Nat → Nat) (cy : Nat → ClassId) (y0 : Nat) (r : Nat → Nat)  (v : Nat → Int32) (f : Nat → Nat → Int32) (w : Int64) (g : Nat → Int64) (hIv : YI v) (hCf : YC f) (hRf : progOK (f 4) (f 5) (v 9).toInt.toNat)  : ctI l (dC, dI) cy yX11_isName cX11_isName 1 .boolean 2 80 0 0 Unit [.ref y0] (YW cy y0 r v f w g) (fun r u => gsY_X11_isName_1 NF v f w g = r ∧ ((r = 1) ∨ (r = 0))) (fun u => YW cy y0 r v f w g) := by
  refine ctI_of (by decide) (Nat.le_of_ble_eq_true rfl) (fun p e s m below meth c A ls Q hx hb hml hts hown hE hP hD hA hl ret => ?_)
  have hown : s.vm.findClass RX11 = some m.cls := hown
  have hS : va_S A s.heap s.heap [] := va_S.rf
  have hl : lv_has ls 1 [(0, .ref y0)] := hl
  refine lv_aload_n hx hb dX11_isName_0 rfl (lv_at hl 0 rfl) ?_
  refine va_get (D := (dC, dI)) (ci := 11) (v := .int (v 5)) (C := RX11) (T := TX11) (N := 79) hx hb hts inB_11 hown hE.1 hP 0 rfl rfl 6 (Nat.le_of_ble_eq_true rfl) (hts _ k_1326) (fun _ h9 => h9) rfl dX11_isName_1 ?_
  refine lv_iconst (v := 1) hx hb dX11_isName_4 rfl ?_
  refine lv_icmp_ne (tgt := 19) hx hb dX11_isName_5 rfl (fun c1 => ?_) (fun c1 => ?_)
  · skip
    refine lv_iconst (v := 0) hx hb dX11_isName_19 rfl ?_
    exact ret 0 () _ _ _ _ _ _ rfl ⟨(gsY_X11_isName_1_q0 c1), (Or.inr rfl)⟩ hP hD hS dX11_isName_20 (Nat.le_refl _) (Nat.le_refl _)
  · skip
    refine lv_aload_n hx hb dX11_isName_8 rfl (lv_at hl 0 rfl) ?_
    refine cbVi (n := 0) (rest := []) hx hb hml hown hts hE hP hD hS hA (sY_X11_isOwn_1 NF l dC dI cy y0 r  v f w g hIv hCf hRf ) k_1617 k_1619 k_49 k_114 k_1620 hd_yX11_isOwn ⟨Nat.le_of_ble_eq_true rfl, Nat.le_of_ble_eq_true rfl⟩ 0 11 rfl rfl (rfl) hl.1 rfl (Nat.le_of_ble_eq_true rfl) dX11_isName_9 (fun r2 u H locs hw hP hD hS => ?_)
    obtain ⟨hG3, hw⟩ := hw
    rcases hw with ⟨g4⟩ | ⟨g4⟩
    · skip
      subst g4
      refine lv_if_ne (tgt := 19) hx hb dX11_isName_12 rfl (fun _ => ?_) (fun c0 => absurd c0 (by decide))
      refine lv_iconst (v := 0) hx hb dX11_isName_19 rfl ?_
      exact ret 0 () _ _ _ _ _ _ rfl ⟨(gsY_X11_isName_1_q1 c1 hG3), (Or.inr rfl)⟩ hP hD hS dX11_isName_20 (Nat.le_refl _) (Nat.le_refl _)
    · skip
      subst g4
      refine lv_if_ne (tgt := 19) hx hb dX11_isName_12 rfl (fun c0 => absurd (by decide) c0) (fun _ => ?_)
      refine lv_iconst (v := 1) hx hb dX11_isName_15 rfl ?_
      refine lv_goto (tgt := 20) hx hb dX11_isName_16 rfl ?_
      exact ret 1 () _ _ _ _ _ _ rfl ⟨(gsY_X11_isName_1_q2 c1 hG3), (Or.inl rfl)⟩ hP hD hS dX11_isName_20 (Nat.le_refl _) (Nat.le_refl _)
set_option maxHeartbeats 4000000 in
set_option maxRecDepth 100000 in
theorem sY_X11_newName_1 (NF : Nat) (l : Launch) (dC : Nat → ClassId) (dI : Nat → Nat → Nat) (cy : Nat → ClassId) (y0 : Nat) (r : Nat → Nat) (p1 : Int32) (p2 : Int32) (v : Nat → Int32) (f : Nat → Nat → Int32) (w : Int64) (g : Nat → Int64) (hIv : YI v) (hCf : YC f) (hRf : progOK (f 4) (f 5) (v 9).toInt.toNat) (hp1 : (0 : Int) ≤ p1.toInt ∧ p1.toInt ≤ 6) (hp2 : (0 : Int) ≤ p2.toInt ∧ p2.toInt ≤ 5) : ctV l (dC, dI) cy yX11_newName cX11_newName 4 3 103 0 0 ((Nat → Int32) × (Nat → Nat → Int32) × (Int64) × (Nat → Int64)) [.ref y0, .int p1, .int p2] (YW cy y0 r v f w g) (fun u => gsY_X11_newName_1 NF p1 p2 v f w g = u ∧ KV [1, 2, 3, 5, 6, 7] u.1 v ∧ KF [] u.2.1 f ∧ YI u.1 ∧ YC u.2.1 ∧ progOK (u.2.1 4) (u.2.1 5) (u.1 9).toInt.toNat ∧ u.1 0 = v 0 ∧ u.1 4 = v 4 ∧ u.1 8 = v 8 ∧ u.1 9 = v 9 ∧ u.1 10 = v 10 ∧ u.1 13 = v 13 ∧ u.1 14 = v 14 ∧ u.1 15 = v 15 ∧ u.1 17 = v 17 ∧ u.1 18 = v 18 ∧ u.1 24 = v 24 ∧ u.1 25 = v 25 ∧ u.1 35 = v 35 ∧ u.1 36 = v 36 ∧ u.1 38 = v 38 ∧ u.1 39 = v 39 ∧ ((v 3).toInt ≤ (u.1 3).toInt) ∧ ((u.1 5).toInt = (v 5).toInt ∨ (v 3).toInt < (u.1 3).toInt ∨ ¬ (u.1 5).toInt = 59) ∧ u.2.1 2 = f 2 ∧ u.2.1 3 = f 3 ∧ u.2.1 6 = f 6) (fun u => YW cy y0 r u.1 u.2.1 u.2.2.1 u.2.2.2) := by
  refine ctV_of (by decide) (Nat.le_of_ble_eq_true rfl) (fun p e s m below meth c A ls Q hx hb hml hts hown hnm hE hP hD hA hl ret => ?_)
  have hUv : (v 35).toInt + (v 36).toInt ≤ 40 := hIv.2
  have hM_v : KV [1, 2, 3, 5, 6, 7] v v := fun _ _ => rfl
  have hA_f : KF [] f f := fun _ _ => rfl
  have b0_v : (0 : Int) ≤ (v 0).toInt ∧ (v 0).toInt ≤ 1600 := Yb_0 hIv.1
  have b1_v : (0 : Int) ≤ (v 1).toInt ∧ (v 1).toInt ≤ 4 := Yb_1 hIv.1
  have b8_v : (0 : Int) ≤ (v 8).toInt ∧ (v 8).toInt ≤ 320 := Yb_8 hIv.1
  have b10_v : (0 : Int) ≤ (v 10).toInt ∧ (v 10).toInt ≤ 160 := Yb_10 hIv.1
  have b13_v : (0 : Int) ≤ (v 13).toInt ∧ (v 13).toInt ≤ 31 := Yb_13 hIv.1
  have b14_v : (0 : Int) ≤ (v 14).toInt ∧ (v 14).toInt ≤ 8 := Yb_14 hIv.1
  have b15_v : (0 : Int) ≤ (v 15).toInt ∧ (v 15).toInt ≤ 1 := Yb_15 hIv.1
  have b17_v : (0 : Int) ≤ (v 17).toInt ∧ (v 17).toInt ≤ 6 := Yb_17 hIv.1
  have b18_v : (0 : Int) ≤ (v 18).toInt ∧ (v 18).toInt ≤ 6 := Yb_18 hIv.1
  have hGR : GR (v 3).toInt (v 5).toInt (v 3).toInt (v 5).toInt := GR.refl _ _
  have hown : s.vm.findClass RX11 = some m.cls := hown
  have hS : va_S A s.heap s.heap [] := va_S.rf
  have hl : lv_has ls 4 [(0, .ref y0), (1, .int p1), (2, .int p2)] := hl
  refine lv_aload_n hx hb dX11_newName_0 rfl (lv_at hl 0 rfl) ?_
  refine cbVv (n := 0) (rest := []) hx hb hml hown hts hE hP hD hS hA (sY_X11_token_1 NF l dC dI cy y0 r  v f w g hIv hCf hRf ) k_1579 k_1581 k_42 k_114 k_1582 hd_yX11_token ⟨Nat.le_of_ble_eq_true rfl, Nat.le_of_ble_eq_true rfl⟩ 0 11 rfl rfl (rfl) hl.1 rfl (Nat.le_of_ble_eq_true rfl) dX11_newName_1 (fun u H locs hw hP hD hS => ?_)
  obtain ⟨hG1, hw⟩ := hw
  obtain ⟨v2, f3, w4, g5⟩ := u
  obtain ⟨kV_v2, kF_f3, hIv2, hCf3, hRf3, hk0_v2, hk1_v2, hk2_v2, hk4_v2, hk8_v2, hk9_v2, hk10_v2, hk13_v2, hk14_v2, hk15_v2, hk17_v2, hk18_v2, hk24_v2, hk25_v2, hk35_v2, hk36_v2, hk38_v2, hk39_v2, pv6, pv7, kq8, kq9, kq10⟩ := hw
  have hM_v2 : KV [1, 2, 3, 5, 6, 7] v2 v := KV.tr kV_v2 hM_v rfl
  have hA_f3 : KF [] f3 f := KF.tr kF_f3 hA_f rfl
  have hP : va_P (dC, dI) vwCl (YW cy y0 r v2 f3 w4 g5) H := hP
  have hD : va_D A (YW cy y0 r v2 f3 w4 g5) := hD
  have b3_v2 : 0 ≤ (v2 3).toInt ∧ (v2 3).toInt ≤ 1600 := Yb_3 hIv2.1
  have pv6 : (v 3).toInt ≤ (v2 3).toInt := pv6
  have pv7 : (v2 5).toInt = (v 5).toInt ∨ (v 3).toInt < (v2 3).toInt ∨ ¬ (v2 5).toInt = 59 := pv7
  have hs2_f3 : f3 2 = (f 2) := kq8
  have hs3_f3 : f3 3 = (f 3) := kq9
  have hs6_f3 : f3 6 = (f 6) := kq10
  have hUv2 : (v2 35).toInt + (v2 36).toInt ≤ 40 := hIv2.2
  have hq0_v2 : v2 0 = (v 0) := hk0_v2
  have zq0_v2 := congrArg Int32.toInt hq0_v2
  have hq1_v2 : v2 1 = (v 1) := hk1_v2
  have zq1_v2 := congrArg Int32.toInt hq1_v2
  have hq4_v2 : v2 4 = (v 4) := hk4_v2
  have hq8_v2 : v2 8 = (v 8) := hk8_v2
  have zq8_v2 := congrArg Int32.toInt hq8_v2
  have hq9_v2 : v2 9 = (v 9) := hk9_v2
  have zq9_v2 := congrArg Int32.toInt hq9_v2
  have hq10_v2 : v2 10 = (v 10) := hk10_v2
  have zq10_v2 := congrArg Int32.toInt hq10_v2
  have hq13_v2 : v2 13 = (v 13) := hk13_v2
  have zq13_v2 := congrArg Int32.toInt hq13_v2
  have hq14_v2 : v2 14 = (v 14) := hk14_v2
  have zq14_v2 := congrArg Int32.toInt hq14_v2
  have hq15_v2 : v2 15 = (v 15) := hk15_v2
  have zq15_v2 := congrArg Int32.toInt hq15_v2
  have hq17_v2 : v2 17 = (v 17) := hk17_v2
  have zq17_v2 := congrArg Int32.toInt hq17_v2
  have hq18_v2 : v2 18 = (v 18) := hk18_v2
  have zq18_v2 := congrArg Int32.toInt hq18_v2
  have hq24_v2 : v2 24 = (v 24) := hk24_v2
  have hq25_v2 : v2 25 = (v 25) := hk25_v2
  have hq35_v2 : v2 35 = (v 35) := hk35_v2
  have hq36_v2 : v2 36 = (v 36) := hk36_v2
  have hq38_v2 : v2 38 = (v 38) := hk38_v2
  have hq39_v2 : v2 39 = (v 39) := hk39_v2
  have hGR : GR (v 3).toInt (v 5).toInt (v2 3).toInt (v2 5).toInt := GR.tr hGR (show GR (v 3).toInt (v 5).toInt (v2 3).toInt (v2 5).toInt from ⟨pv6, pv7⟩) (by first | with_reducible rfl | with_reducible assumption | rfl | omega) (by first | with_reducible rfl | with_reducible assumption | rfl | omega)
  clear pv7
  refine lv_aload_n hx hb dX11_newName_4 rfl (lv_at hl 0 rfl) ?_
  refine cbVi (n := 0) (rest := []) hx hb hml hown hts hE hP hD hS hA (sY_X11_isName_1 NF l dC dI cy y0 r  v2 f3 w4 g5 hIv2 hCf3 hRf3 ) k_1613 k_1615 k_48 k_114 k_1616 hd_yX11_isName ⟨Nat.le_of_ble_eq_true rfl, Nat.le_of_ble_eq_true rfl⟩ 0 11 rfl rfl (rfl) hl.1 rfl (Nat.le_of_ble_eq_true rfl) dX11_newName_5 (fun r11 u H locs hw hP hD hS => ?_)
  obtain ⟨hG12, hw⟩ := hw
  rcases hw with ⟨g13⟩ | ⟨g13⟩
  · skip
    subst g13
    refine lv_if_ne (tgt := 16) hx hb dX11_newName_8 rfl (fun _ => ?_) (fun c0 => absurd c0 (by decide))
    refine lv_iconst (v := 0) hx hb dX11_newName_16 rfl ?_
    refine lv_istore_n (lv' := [(3, .int 0), (0, .ref y0), (1, .int p1), (2, .int p2)]) hx hb dX11_newName_17 rfl hl (Nat.le_of_ble_eq_true rfl) rfl (fun ls hl => ?_)
    have lp14 : ∀ (n14 : Nat) (l3_14 : Int32) (v14 : Nat → Int32) (f14 : Nat → Nat → Int32) (w14 : Int64) (g14 : Nat → Int64), YI v14 → YC f14 → progOK (f14 4) (f14 5) (v14 9).toInt.toNat → v14 0 = (v 0) → v14 3 = (v2 3) → v14 4 = (v 4) → v14 5 = (v2 5) → v14 8 = (v 8) → v14 9 = (v 9) → v14 10 = (v 10) → v14 13 = (v 13) → v14 14 = (v 14) → v14 15 = (v 15) → v14 17 = (v 17) → v14 18 = (v 18) → v14 24 = (v 24) → v14 25 = (v 25) → v14 35 = (v 35) → v14 36 = (v 36) → v14 38 = (v 38) → v14 39 = (v 39) → gsY_X11_newName_1_L14 NF p1 p2 n14 l3_14 v14 f14 w14 g14 = (gsY_X11_newName_1 NF p1 p2 v f w g) → ((0 : Int) ≤ l3_14.toInt ∧ l3_14.toInt ≤ 2147483647) → (GR (v 3).toInt (v 5).toInt (v14 3).toInt (v14 5).toInt) → KV [1, 2, 3, 5, 6, 7] v14 v → KF [] f14 f → f14 2 = (f 2) → f14 3 = (f 3) → f14 6 = (f 6) → (2147483647 - l3_14.toInt).toNat < n14 → ∀ (H : Heap) (locs : List Loc) (ls : Array Slot), va_P (dC, dI) vwCl (YW cy y0 r v14 f14 w14 g14) H → va_D A (YW cy y0 r v14 f14 w14 g14) → va_S A s.heap H locs → lv_has ls 4 [(3, .int l3_14), (0, .ref y0), (1, .int p1), (2, .int p2)] → W p l e { frames := 3, cells := 0, slots := 0, locals := 103 } s m ([.ref y0, .int p1, .int p2] : List Value).toArray below meth c H locs 0 0 Q (F0 m 18 ls []) := by
      intro n14
      induction n14 with
      | zero => intro l3_14 v14 f14 w14 g14 hIv14 hCf14 hRf14 hq0_v14 hq3_v14 hq4_v14 hq5_v14 hq8_v14 hq9_v14 hq10_v14 hq13_v14 hq14_v14 hq15_v14 hq17_v14 hq18_v14 hq24_v14 hq25_v14 hq35_v14 hq36_v14 hq38_v14 hq39_v14 hT14 hr3_14 hx0_14 hM_v14 hA_f14 hs2_f14 hs3_f14 hs6_f14 hm; exact absurd hm (Nat.not_lt_zero _)
      | succ n14 ih14 =>
        intro l3_14 v14 f14 w14 g14 hIv14 hCf14 hRf14 hq0_v14 hq3_v14 hq4_v14 hq5_v14 hq8_v14 hq9_v14 hq10_v14 hq13_v14 hq14_v14 hq15_v14 hq17_v14 hq18_v14 hq24_v14 hq25_v14 hq35_v14 hq36_v14 hq38_v14 hq39_v14 hT14 hr3_14 hx0_14 hM_v14 hA_f14 hs2_f14 hs3_f14 hs6_f14 hm14 H locs ls hP hD hS hl
        have hUv14 : (v14 35).toInt + (v14 36).toInt ≤ 40 := hIv14.2
        have zq0_v14 := congrArg Int32.toInt hq0_v14
        try clear zq0_v2
        have zq3_v14 := congrArg Int32.toInt hq3_v14
        have zq5_v14 := congrArg Int32.toInt hq5_v14
        have zq8_v14 := congrArg Int32.toInt hq8_v14
        try clear zq8_v2
        have zq9_v14 := congrArg Int32.toInt hq9_v14
        try clear zq9_v2
        have zq10_v14 := congrArg Int32.toInt hq10_v14
        try clear zq10_v2
        have zq13_v14 := congrArg Int32.toInt hq13_v14
        try clear zq13_v2
        have zq14_v14 := congrArg Int32.toInt hq14_v14
        try clear zq14_v2
        have zq15_v14 := congrArg Int32.toInt hq15_v14
        try clear zq15_v2
        have zq17_v14 := congrArg Int32.toInt hq17_v14
        try clear zq17_v2
        have zq18_v14 := congrArg Int32.toInt hq18_v14
        try clear zq18_v2
        have b3_v14 : 0 ≤ (v14 3).toInt ∧ (v14 3).toInt ≤ 1600 := Yb_3 hIv14.1
        have b3_v2 : 0 ≤ (v2 3).toInt ∧ (v2 3).toInt ≤ 1600 := Yb_3 hIv2.1
        have hGR := hx0_14
        refine lv_iload_n hx hb dX11_newName_18 rfl (lv_at hl 0 rfl) ?_
        refine lv_iload_n hx hb dX11_newName_19 rfl (lv_at hl 3 rfl) ?_
        refine lv_icmp_ge (tgt := 57) hx hb dX11_newName_20 rfl (fun c15 => ?_) (fun c15 => ?_)
        · skip
          have zc15 : p2.toInt ≤ l3_14.toInt := zMp rfl rfl c15
          have rg16 := fb_rng l3_14
          have rg17 := fb_rng p2
          refine lv_aload_n hx hb dX11_newName_57 rfl (lv_at hl 1 rfl) ?_
          refine va_get (D := (dC, dI)) (ci := 11) (v := .int (v14 1)) (C := RX11) (T := TX11) (N := 79) hx hb hts inB_11 hown hE.1 hP 0 rfl rfl 2 (Nat.le_of_ble_eq_true rfl) (hts _ k_1322) (fun _ h9 => h9) rfl dX11_newName_58 ?_
          have b1_v14 : 0 ≤ (v14 1).toInt ∧ (v14 1).toInt ≤ 4 := Yb_1 hIv14.1
          refine lv_if_le (tgt := 65) hx hb dX11_newName_61 rfl (fun c18 => ?_) (fun c18 => ?_)
          · skip
            have zc18 : (v14 1).toInt ≤ 0 := zMp rfl tc_0 c18
            refine lv_aload_n hx hb dX11_newName_65 rfl (lv_at hl 1 rfl) ?_
            refine va_get (D := (dC, dI)) (ci := 11) (v := .ref (r 10)) (C := RX11) (T := TX11) (N := 79) hx hb hts inB_11 hown hE.1 hP 0 rfl rfl 10 (Nat.le_of_ble_eq_true rfl) (hts _ k_1330) (fun _ h9 => h9) rfl dX11_newName_66 ?_
            refine lv_iload_n hx hb dX11_newName_69 rfl (lv_at hl 2 rfl) ?_
            refine lv_iload_n hx hb dX11_newName_70 rfl (lv_at hl 3 rfl) ?_
            refine lv_iadd hx hb dX11_newName_71 ?_
            refine lv_topi (fun t19 et19 => ?_)
            have rg20 := fb_rng p1
            have zt19 : t19.toInt = p1.toInt + p2.toInt := (congrArg Int32.toInt et19).trans (add_i rfl rfl (om_442 hp1 hp2) (om_443 hp1 hp2))
            refine lv_aload_n hx hb dX11_newName_72 rfl (lv_at hl 1 rfl) ?_
            refine va_get (D := (dC, dI)) (ci := 11) (v := .long w14) (C := RX11) (T := TX11) (N := 79) hx hb hts inB_11 hown hE.1 hP 0 rfl rfl 9 (Nat.le_of_ble_eq_true rfl) (hts _ k_1329) (fun _ h9 => h9) rfl dX11_newName_73 ?_
            refine va_last hx hb hE.1 hP hD hS 2 2 rfl rfl (vpI (k := 12) rfl (show 0 ≤ t19.toInt from om_444 hp1 hp2 zt19) (show t19.toInt < 12 from om_445 hp1 hp2 zt19)) dX11_newName_76 (fun H locs hP hD hS => ?_)
            obtain ⟨g21, eg21, hP, hD⟩ : ∃ fz9, fz9 = vp_updL g14 (t19).toNatClampNeg w14 ∧ va_P (dC, dI) vwCl (YW cy y0 r v14 f14 w14 fz9) H ∧ va_D A (YW cy y0 r v14 f14 w14 fz9) := ⟨_, rfl, hP, hD⟩
            refine lv_aload_n hx hb dX11_newName_77 rfl (lv_at hl 1 rfl) ?_
            refine cbVv (n := 0) (rest := []) hx hb hml hown hts hE hP hD hS hA (sY_X11_token_1 NF l dC dI cy y0 r  v14 f14 w14 g21 hIv14 hCf14 hRf14 ) k_1579 k_1581 k_42 k_114 k_1582 hd_yX11_token ⟨Nat.le_of_ble_eq_true rfl, Nat.le_of_ble_eq_true rfl⟩ 0 11 rfl rfl (rfl) hl.1 rfl (Nat.le_of_ble_eq_true rfl) dX11_newName_78 (fun u H locs hw hP hD hS => ?_)
            obtain ⟨hG22, hw⟩ := hw
            obtain ⟨v23, f24, w25, g26⟩ := u
            obtain ⟨kV_v23, kF_f24, hIv23, hCf24, hRf24, hk0_v23, hk1_v23, hk2_v23, hk4_v23, hk8_v23, hk9_v23, hk10_v23, hk13_v23, hk14_v23, hk15_v23, hk17_v23, hk18_v23, hk24_v23, hk25_v23, hk35_v23, hk36_v23, hk38_v23, hk39_v23, pv27, pv28, kq29, kq30, kq31⟩ := hw
            have hM_v23 : KV [1, 2, 3, 5, 6, 7] v23 v := KV.tr kV_v23 hM_v14 rfl
            have hA_f24 : KF [] f24 f := KF.tr kF_f24 hA_f14 rfl
            have hP : va_P (dC, dI) vwCl (YW cy y0 r v23 f24 w25 g26) H := hP
            have hD : va_D A (YW cy y0 r v23 f24 w25 g26) := hD
            have b3_v23 : 0 ≤ (v23 3).toInt ∧ (v23 3).toInt ≤ 1600 := Yb_3 hIv23.1
            have pv27 : (v14 3).toInt ≤ (v23 3).toInt := pv27
            have pv28 : (v23 5).toInt = (v14 5).toInt ∨ (v14 3).toInt < (v23 3).toInt ∨ ¬ (v23 5).toInt = 59 := pv28
            have hs2_f24 : f24 2 = (f 2) := kq29.trans hs2_f14
            have hs3_f24 : f24 3 = (f 3) := kq30.trans hs3_f14
            have hs6_f24 : f24 6 = (f 6) := kq31.trans hs6_f14
            have hUv23 : (v23 35).toInt + (v23 36).toInt ≤ 40 := hIv23.2
            have hq0_v23 : v23 0 = (v 0) := hk0_v23.trans hq0_v14
            have zq0_v23 := congrArg Int32.toInt hq0_v23
            try clear zq0_v14
            have hq1_v23 : v23 1 = (v14 1) := hk1_v23
            have zq1_v23 := congrArg Int32.toInt hq1_v23
            try clear zq1_v2
            have hq8_v23 : v23 8 = (v 8) := hk8_v23.trans hq8_v14
            have zq8_v23 := congrArg Int32.toInt hq8_v23
            try clear zq8_v14
            have hq9_v23 : v23 9 = (v 9) := hk9_v23.trans hq9_v14
            have zq9_v23 := congrArg Int32.toInt hq9_v23
            try clear zq9_v14
            have hq10_v23 : v23 10 = (v 10) := hk10_v23.trans hq10_v14
            have zq10_v23 := congrArg Int32.toInt hq10_v23
            try clear zq10_v14
            have hq13_v23 : v23 13 = (v 13) := hk13_v23.trans hq13_v14
            have zq13_v23 := congrArg Int32.toInt hq13_v23
            try clear zq13_v14
            have hq14_v23 : v23 14 = (v 14) := hk14_v23.trans hq14_v14
            have zq14_v23 := congrArg Int32.toInt hq14_v23
            try clear zq14_v14
            have hq15_v23 : v23 15 = (v 15) := hk15_v23.trans hq15_v14
            have zq15_v23 := congrArg Int32.toInt hq15_v23
            try clear zq15_v14
            have hq17_v23 : v23 17 = (v 17) := hk17_v23.trans hq17_v14
            have zq17_v23 := congrArg Int32.toInt hq17_v23
            try clear zq17_v14
            have hq18_v23 : v23 18 = (v 18) := hk18_v23.trans hq18_v14
            have zq18_v23 := congrArg Int32.toInt hq18_v23
            try clear zq18_v14
            have hGR : GR (v 3).toInt (v 5).toInt (v23 3).toInt (v23 5).toInt := GR.tr hGR (show GR (v14 3).toInt (v14 5).toInt (v23 3).toInt (v23 5).toInt from ⟨pv27, pv28⟩) (by first | with_reducible rfl | with_reducible assumption | rfl | omega) (by first | with_reducible rfl | with_reducible assumption | rfl | omega)
            clear pv28
            exact ret (v23, f24, w25, g26) _ _ _ _ _ _ ⟨(hT14.symm.trans (gsY_X11_newName_1_q0 c15 c18 et19 eg21 hG22)), hM_v23, hA_f24, hIv23, hCf24, hRf24, (hk0_v23.trans hq0_v14), (hk4_v23.trans hq4_v14), (hk8_v23.trans hq8_v14), (hk9_v23.trans hq9_v14), (hk10_v23.trans hq10_v14), (hk13_v23.trans hq13_v14), (hk14_v23.trans hq14_v14), (hk15_v23.trans hq15_v14), (hk17_v23.trans hq17_v14), (hk18_v23.trans hq18_v14), (hk24_v23.trans hq24_v14), (hk25_v23.trans hq25_v14), (hk35_v23.trans hq35_v14), (hk36_v23.trans hq36_v14), (hk38_v23.trans hq38_v14), (hk39_v23.trans hq39_v14), (by show (v 3).toInt ≤ (v23 3).toInt; exact (GR.cast hGR (by first | with_reducible rfl | with_reducible assumption | rfl | omega) (by first | with_reducible rfl | with_reducible assumption | rfl | omega)).1), (by show (v23 5).toInt = (v 5).toInt ∨ (v 3).toInt < (v23 3).toInt ∨ ¬ (v23 5).toInt = 59; exact (GR.cast hGR (by first | with_reducible rfl | with_reducible assumption | rfl | omega) (by first | with_reducible rfl | with_reducible assumption | rfl | omega)).2), hs2_f24, hs3_f24, hs6_f24⟩ hP hD hS dX11_newName_81 (Nat.le_refl _) (Nat.le_refl _)
          · skip
            have zc18 : ¬ ((v14 1).toInt ≤ 0) := zMn rfl tc_0 c18
            exact ret (v14, f14, w14, g14) _ _ _ _ _ _ ⟨(hT14.symm.trans (gsY_X11_newName_1_q1 c15 c18)), hM_v14, hA_f14, hIv14, hCf14, hRf14, hq0_v14, hq4_v14, hq8_v14, hq9_v14, hq10_v14, hq13_v14, hq14_v14, hq15_v14, hq17_v14, hq18_v14, hq24_v14, hq25_v14, hq35_v14, hq36_v14, hq38_v14, hq39_v14, (by show (v 3).toInt ≤ (v14 3).toInt; exact (GR.cast hGR (by first | with_reducible rfl | with_reducible assumption | rfl | omega) (by first | with_reducible rfl | with_reducible assumption | rfl | omega)).1), (by show (v14 5).toInt = (v 5).toInt ∨ (v 3).toInt < (v14 3).toInt ∨ ¬ (v14 5).toInt = 59; exact (GR.cast hGR (by first | with_reducible rfl | with_reducible assumption | rfl | omega) (by first | with_reducible rfl | with_reducible assumption | rfl | omega)).2), hs2_f14, hs3_f14, hs6_f14⟩ hP hD hS dX11_newName_64 (Nat.le_refl _) (Nat.le_refl _)
        · skip
          have zc15 : ¬ (p2.toInt ≤ l3_14.toInt) := zMn rfl rfl c15
          have rg32 := fb_rng l3_14
          have rg33 := fb_rng p2
          refine lv_aload_n hx hb dX11_newName_23 rfl (lv_at hl 1 rfl) ?_
          refine va_get (D := (dC, dI)) (ci := 11) (v := .int (v14 1)) (C := RX11) (T := TX11) (N := 79) hx hb hts inB_11 hown hE.1 hP 0 rfl rfl 2 (Nat.le_of_ble_eq_true rfl) (hts _ k_1322) (fun _ h9 => h9) rfl dX11_newName_24 ?_
          have b1_v14 : 0 ≤ (v14 1).toInt ∧ (v14 1).toInt ≤ 4 := Yb_1 hIv14.1
          refine lv_if_ne (tgt := 57) hx hb dX11_newName_27 rfl (fun c34 => ?_) (fun c34 => ?_)
          · skip
            have zc34 : ¬ ((v14 1).toInt = 0) := zEn rfl tc_0 c34
            refine lv_aload_n hx hb dX11_newName_57 rfl (lv_at hl 1 rfl) ?_
            refine va_get (D := (dC, dI)) (ci := 11) (v := .int (v14 1)) (C := RX11) (T := TX11) (N := 79) hx hb hts inB_11 hown hE.1 hP 0 rfl rfl 2 (Nat.le_of_ble_eq_true rfl) (hts _ k_1322) (fun _ h9 => h9) rfl dX11_newName_58 ?_
            refine lv_if_le (tgt := 65) hx hb dX11_newName_61 rfl (fun c35 => ?_) (fun c35 => ?_)
            · skip
              have zc35 : (v14 1).toInt ≤ 0 := zMp rfl tc_0 c35
              refine lv_aload_n hx hb dX11_newName_65 rfl (lv_at hl 1 rfl) ?_
              refine va_get (D := (dC, dI)) (ci := 11) (v := .ref (r 10)) (C := RX11) (T := TX11) (N := 79) hx hb hts inB_11 hown hE.1 hP 0 rfl rfl 10 (Nat.le_of_ble_eq_true rfl) (hts _ k_1330) (fun _ h9 => h9) rfl dX11_newName_66 ?_
              refine lv_iload_n hx hb dX11_newName_69 rfl (lv_at hl 2 rfl) ?_
              refine lv_iload_n hx hb dX11_newName_70 rfl (lv_at hl 3 rfl) ?_
              refine lv_iadd hx hb dX11_newName_71 ?_
              refine lv_topi (fun t36 et36 => ?_)
              have rg37 := fb_rng p1
              have zt36 : t36.toInt = p1.toInt + p2.toInt := (congrArg Int32.toInt et36).trans (add_i rfl rfl (om_442 hp1 hp2) (om_443 hp1 hp2))
              refine lv_aload_n hx hb dX11_newName_72 rfl (lv_at hl 1 rfl) ?_
              refine va_get (D := (dC, dI)) (ci := 11) (v := .long w14) (C := RX11) (T := TX11) (N := 79) hx hb hts inB_11 hown hE.1 hP 0 rfl rfl 9 (Nat.le_of_ble_eq_true rfl) (hts _ k_1329) (fun _ h9 => h9) rfl dX11_newName_73 ?_
              refine va_last hx hb hE.1 hP hD hS 2 2 rfl rfl (vpI (k := 12) rfl (show 0 ≤ t36.toInt from om_444 hp1 hp2 zt36) (show t36.toInt < 12 from om_445 hp1 hp2 zt36)) dX11_newName_76 (fun H locs hP hD hS => ?_)
              obtain ⟨g38, eg38, hP, hD⟩ : ∃ fz9, fz9 = vp_updL g14 (t36).toNatClampNeg w14 ∧ va_P (dC, dI) vwCl (YW cy y0 r v14 f14 w14 fz9) H ∧ va_D A (YW cy y0 r v14 f14 w14 fz9) := ⟨_, rfl, hP, hD⟩
              refine lv_aload_n hx hb dX11_newName_77 rfl (lv_at hl 1 rfl) ?_
              refine cbVv (n := 0) (rest := []) hx hb hml hown hts hE hP hD hS hA (sY_X11_token_1 NF l dC dI cy y0 r  v14 f14 w14 g38 hIv14 hCf14 hRf14 ) k_1579 k_1581 k_42 k_114 k_1582 hd_yX11_token ⟨Nat.le_of_ble_eq_true rfl, Nat.le_of_ble_eq_true rfl⟩ 0 11 rfl rfl (rfl) hl.1 rfl (Nat.le_of_ble_eq_true rfl) dX11_newName_78 (fun u H locs hw hP hD hS => ?_)
              obtain ⟨hG39, hw⟩ := hw
              obtain ⟨v40, f41, w42, g43⟩ := u
              obtain ⟨kV_v40, kF_f41, hIv40, hCf41, hRf41, hk0_v40, hk1_v40, hk2_v40, hk4_v40, hk8_v40, hk9_v40, hk10_v40, hk13_v40, hk14_v40, hk15_v40, hk17_v40, hk18_v40, hk24_v40, hk25_v40, hk35_v40, hk36_v40, hk38_v40, hk39_v40, pv44, pv45, kq46, kq47, kq48⟩ := hw
              have hM_v40 : KV [1, 2, 3, 5, 6, 7] v40 v := KV.tr kV_v40 hM_v14 rfl
              have hA_f41 : KF [] f41 f := KF.tr kF_f41 hA_f14 rfl
              have hP : va_P (dC, dI) vwCl (YW cy y0 r v40 f41 w42 g43) H := hP
              have hD : va_D A (YW cy y0 r v40 f41 w42 g43) := hD
              have b3_v40 : 0 ≤ (v40 3).toInt ∧ (v40 3).toInt ≤ 1600 := Yb_3 hIv40.1
              have pv44 : (v14 3).toInt ≤ (v40 3).toInt := pv44
              have pv45 : (v40 5).toInt = (v14 5).toInt ∨ (v14 3).toInt < (v40 3).toInt ∨ ¬ (v40 5).toInt = 59 := pv45
              have hs2_f41 : f41 2 = (f 2) := kq46.trans hs2_f14
              have hs3_f41 : f41 3 = (f 3) := kq47.trans hs3_f14
              have hs6_f41 : f41 6 = (f 6) := kq48.trans hs6_f14
              have hUv40 : (v40 35).toInt + (v40 36).toInt ≤ 40 := hIv40.2
              have hq0_v40 : v40 0 = (v 0) := hk0_v40.trans hq0_v14
              have zq0_v40 := congrArg Int32.toInt hq0_v40
              try clear zq0_v14
              have hq1_v40 : v40 1 = (v14 1) := hk1_v40
              have zq1_v40 := congrArg Int32.toInt hq1_v40
              try clear zq1_v2
              have hq8_v40 : v40 8 = (v 8) := hk8_v40.trans hq8_v14
              have zq8_v40 := congrArg Int32.toInt hq8_v40
              try clear zq8_v14
              have hq9_v40 : v40 9 = (v 9) := hk9_v40.trans hq9_v14
              have zq9_v40 := congrArg Int32.toInt hq9_v40
              try clear zq9_v14
              have hq10_v40 : v40 10 = (v 10) := hk10_v40.trans hq10_v14
              have zq10_v40 := congrArg Int32.toInt hq10_v40
              try clear zq10_v14
              have hq13_v40 : v40 13 = (v 13) := hk13_v40.trans hq13_v14
              have zq13_v40 := congrArg Int32.toInt hq13_v40
              try clear zq13_v14
              have hq14_v40 : v40 14 = (v 14) := hk14_v40.trans hq14_v14
              have zq14_v40 := congrArg Int32.toInt hq14_v40
              try clear zq14_v14
              have hq15_v40 : v40 15 = (v 15) := hk15_v40.trans hq15_v14
              have zq15_v40 := congrArg Int32.toInt hq15_v40
              try clear zq15_v14
              have hq17_v40 : v40 17 = (v 17) := hk17_v40.trans hq17_v14
              have zq17_v40 := congrArg Int32.toInt hq17_v40
              try clear zq17_v14
              have hq18_v40 : v40 18 = (v 18) := hk18_v40.trans hq18_v14
              have zq18_v40 := congrArg Int32.toInt hq18_v40
              try clear zq18_v14
              have hGR : GR (v 3).toInt (v 5).toInt (v40 3).toInt (v40 5).toInt := GR.tr hGR (show GR (v14 3).toInt (v14 5).toInt (v40 3).toInt (v40 5).toInt from ⟨pv44, pv45⟩) (by first | with_reducible rfl | with_reducible assumption | rfl | omega) (by first | with_reducible rfl | with_reducible assumption | rfl | omega)
              clear pv45
              exact ret (v40, f41, w42, g43) _ _ _ _ _ _ ⟨(hT14.symm.trans (gsY_X11_newName_1_q2 c15 c34 c35 et36 eg38 hG39)), hM_v40, hA_f41, hIv40, hCf41, hRf41, (hk0_v40.trans hq0_v14), (hk4_v40.trans hq4_v14), (hk8_v40.trans hq8_v14), (hk9_v40.trans hq9_v14), (hk10_v40.trans hq10_v14), (hk13_v40.trans hq13_v14), (hk14_v40.trans hq14_v14), (hk15_v40.trans hq15_v14), (hk17_v40.trans hq17_v14), (hk18_v40.trans hq18_v14), (hk24_v40.trans hq24_v14), (hk25_v40.trans hq25_v14), (hk35_v40.trans hq35_v14), (hk36_v40.trans hq36_v14), (hk38_v40.trans hq38_v14), (hk39_v40.trans hq39_v14), (by show (v 3).toInt ≤ (v40 3).toInt; exact (GR.cast hGR (by first | with_reducible rfl | with_reducible assumption | rfl | omega) (by first | with_reducible rfl | with_reducible assumption | rfl | omega)).1), (by show (v40 5).toInt = (v 5).toInt ∨ (v 3).toInt < (v40 3).toInt ∨ ¬ (v40 5).toInt = 59; exact (GR.cast hGR (by first | with_reducible rfl | with_reducible assumption | rfl | omega) (by first | with_reducible rfl | with_reducible assumption | rfl | omega)).2), hs2_f41, hs3_f41, hs6_f41⟩ hP hD hS dX11_newName_81 (Nat.le_refl _) (Nat.le_refl _)
            · skip
              have zc35 : ¬ ((v14 1).toInt ≤ 0) := zMn rfl tc_0 c35
              exact ret (v14, f14, w14, g14) _ _ _ _ _ _ ⟨(hT14.symm.trans (gsY_X11_newName_1_q3 c15 c34 c35)), hM_v14, hA_f14, hIv14, hCf14, hRf14, hq0_v14, hq4_v14, hq8_v14, hq9_v14, hq10_v14, hq13_v14, hq14_v14, hq15_v14, hq17_v14, hq18_v14, hq24_v14, hq25_v14, hq35_v14, hq36_v14, hq38_v14, hq39_v14, (by show (v 3).toInt ≤ (v14 3).toInt; exact (GR.cast hGR (by first | with_reducible rfl | with_reducible assumption | rfl | omega) (by first | with_reducible rfl | with_reducible assumption | rfl | omega)).1), (by show (v14 5).toInt = (v 5).toInt ∨ (v 3).toInt < (v14 3).toInt ∨ ¬ (v14 5).toInt = 59; exact (GR.cast hGR (by first | with_reducible rfl | with_reducible assumption | rfl | omega) (by first | with_reducible rfl | with_reducible assumption | rfl | omega)).2), hs2_f14, hs3_f14, hs6_f14⟩ hP hD hS dX11_newName_64 (Nat.le_refl _) (Nat.le_refl _)
          · skip
            have zc34 : (v14 1).toInt = 0 := zEp rfl tc_0 c34
            refine lv_aload_n hx hb dX11_newName_30 rfl (lv_at hl 1 rfl) ?_
            refine va_get (D := (dC, dI)) (ci := 11) (v := .ref (r 10)) (C := RX11) (T := TX11) (N := 79) hx hb hts inB_11 hown hE.1 hP 0 rfl rfl 10 (Nat.le_of_ble_eq_true rfl) (hts _ k_1330) (fun _ h9 => h9) rfl dX11_newName_31 ?_
            refine lv_iload_n hx hb dX11_newName_34 rfl (lv_at hl 2 rfl) ?_
            refine lv_iload_n hx hb dX11_newName_35 rfl (lv_at hl 0 rfl) ?_
            refine lv_iadd hx hb dX11_newName_36 ?_
            refine lv_topi (fun t49 et49 => ?_)
            have rg50 := fb_rng p1
            have zt49 : t49.toInt = p1.toInt + l3_14.toInt := (congrArg Int32.toInt et49).trans (add_i rfl rfl (om_446 hp1 hr3_14) (om_447 hp1 hp2 zc15))
            refine va_lald hx hb hE.1 hP 2 2 rfl rfl (vpI (k := 12) rfl (show 0 ≤ t49.toInt from om_448 hp1 hr3_14 zt49) (show t49.toInt < 12 from om_449 hp1 hp2 zc15 zt49)) dX11_newName_37 ?_
            refine lv_topl (fun j51 ej51 => ?_)
            refine lv_aload_n hx hb dX11_newName_38 rfl (lv_at hl 1 rfl) ?_
            refine va_get (D := (dC, dI)) (ci := 11) (v := .long w14) (C := RX11) (T := TX11) (N := 79) hx hb hts inB_11 hown hE.1 hP 0 rfl rfl 9 (Nat.le_of_ble_eq_true rfl) (hts _ k_1329) (fun _ h9 => h9) rfl dX11_newName_39 ?_
            refine W.lcmp hx hb dX11_newName_42 ?_
            refine lv_topi (fun t52 et52 => ?_)
            refine lv_if_ne (tgt := 51) hx hb dX11_newName_43 rfl (fun c53 => ?_) (fun c53 => ?_)
            · skip
              have zc53 : ¬ (t52.toInt = 0) := zEn rfl tc_0 c53
              obtain ⟨t54, et54⟩ : ∃ y : Int32, y = l3_14 + 1 := ⟨_, rfl⟩
              have zt54 : t54.toInt = l3_14.toInt + 1 := (congrArg Int32.toInt et54).trans (add_i rfl tc_1 (om_41 hr3_14) (om_450 hp2 zc15))
              refine lv_iinc (v := t54) (lv' := [(3, .int t54), (0, .ref y0), (1, .int p1), (2, .int p2)]) hx hb dX11_newName_51 hl (k := 0) rfl et54.symm (Nat.le_of_ble_eq_true rfl) rfl (fun ls hl => ?_)
              refine lv_goto (tgt := 18) hx hb dX11_newName_54 rfl ?_
              have rg55 := fb_rng t54
              exact ih14 t54 v14 f14 w14 g14 hIv14 hCf14 hRf14 hq0_v14 hq3_v14 hq4_v14 hq5_v14 hq8_v14 hq9_v14 hq10_v14 hq13_v14 hq14_v14 hq15_v14 hq17_v14 hq18_v14 hq24_v14 hq25_v14 hq35_v14 hq36_v14 hq38_v14 hq39_v14 ((gsY_X11_newName_1_q4 c15 c34 et49 ej51 et52 c53 et54).symm.trans hT14) ⟨show (0 : Int) ≤ t54.toInt from om_43 hr3_14 zt54, show t54.toInt ≤ (2147483647 : Int) from om_44 rg55⟩ (by show GR (v 3).toInt (v 5).toInt (v14 3).toInt (v14 5).toInt; exact GR.cast hGR (by first | with_reducible rfl | with_reducible assumption | rfl | omega) (by first | with_reducible rfl | with_reducible assumption | rfl | omega)) hM_v14 hA_f14 hs2_f14 hs3_f14 hs6_f14 (show (2147483647 - t54.toInt).toNat < n14 from om_33 hm14 zt54 rg55) _ _ _ hP hD hS (lv_sub hl [0, 1, 2, 3] rfl)
            · skip
              have zc53 : t52.toInt = 0 := zEp rfl tc_0 c53
              refine lv_aload_n hx hb dX11_newName_46 rfl (lv_at hl 1 rfl) ?_
              refine lv_iconst (v := 3) hx hb dX11_newName_47 rfl ?_
              refine cbVv (n := 1) (rest := []) hx hb hml hown hts hE hP hD hS hA (sY_X11_wrong_1 NF l dC dI cy y0 r 3 v14 f14 w14 g14 hIv14 hCf14 hRf14 ⟨by decide, by decide⟩) k_1641 k_1643 k_50 k_114 k_1644 hd_yX11_wrong ⟨Nat.le_of_ble_eq_true rfl, Nat.le_of_ble_eq_true rfl⟩ 0 11 rfl rfl (rfl) hl.1 rfl (Nat.le_of_ble_eq_true rfl) dX11_newName_48 (fun u H locs hw hP hD hS => ?_)
              obtain ⟨hG56, hw⟩ := hw
              obtain ⟨v57, f58, w59, g60⟩ := u
              obtain ⟨kV_v57, kF_f58, hIv57, hCf58, hRf58, hk0_v57, hk3_v57, hk4_v57, hk5_v57, hk8_v57, hk9_v57, hk10_v57, hk13_v57, hk14_v57, hk15_v57, hk17_v57, hk18_v57, hk24_v57, hk25_v57, hk35_v57, hk36_v57, hk38_v57, hk39_v57, pv61, pv62, pv63, kq64, kq65, kq66⟩ := hw
              have hM_v57 : KV [1, 2, 3, 5, 6, 7] v57 v := KV.tr kV_v57 hM_v14 rfl
              have hA_f58 : KF [] f58 f := KF.tr kF_f58 hA_f14 rfl
              have hP : va_P (dC, dI) vwCl (YW cy y0 r v57 f58 w59 g60) H := hP
              have hD : va_D A (YW cy y0 r v57 f58 w59 g60) := hD
              have b3_v57 : 0 ≤ (v57 3).toInt ∧ (v57 3).toInt ≤ 1600 := Yb_3 hIv57.1
              have b1_v57 : 0 ≤ (v57 1).toInt ∧ (v57 1).toInt ≤ 4 := Yb_1 hIv57.1
              have pv61 : (v14 3).toInt ≤ (v57 3).toInt := pv61
              have pv62 : (v57 5).toInt = (v14 5).toInt ∨ (v14 3).toInt < (v57 3).toInt ∨ ¬ (v57 5).toInt = 59 := pv62
              have pv63 : 0 < (v57 1).toInt := pv63
              have hs2_f58 : f58 2 = (f 2) := kq64.trans hs2_f14
              have hs3_f58 : f58 3 = (f 3) := kq65.trans hs3_f14
              have hs6_f58 : f58 6 = (f 6) := kq66.trans hs6_f14
              have hUv57 : (v57 35).toInt + (v57 36).toInt ≤ 40 := hIv57.2
              have hq0_v57 : v57 0 = (v 0) := hk0_v57.trans hq0_v14
              have zq0_v57 := congrArg Int32.toInt hq0_v57
              try clear zq0_v14
              have hq3_v57 : v57 3 = (v2 3) := hk3_v57.trans hq3_v14
              have zq3_v57 := congrArg Int32.toInt hq3_v57
              try clear zq3_v14
              have hq4_v57 : v57 4 = (v 4) := hk4_v57.trans hq4_v14
              have hq5_v57 : v57 5 = (v2 5) := hk5_v57.trans hq5_v14
              have zq5_v57 := congrArg Int32.toInt hq5_v57
              try clear zq5_v14
              have hq8_v57 : v57 8 = (v 8) := hk8_v57.trans hq8_v14
              have zq8_v57 := congrArg Int32.toInt hq8_v57
              try clear zq8_v14
              have hq9_v57 : v57 9 = (v 9) := hk9_v57.trans hq9_v14
              have zq9_v57 := congrArg Int32.toInt hq9_v57
              try clear zq9_v14
              have hq10_v57 : v57 10 = (v 10) := hk10_v57.trans hq10_v14
              have zq10_v57 := congrArg Int32.toInt hq10_v57
              try clear zq10_v14
              have hq13_v57 : v57 13 = (v 13) := hk13_v57.trans hq13_v14
              have zq13_v57 := congrArg Int32.toInt hq13_v57
              try clear zq13_v14
              have hq14_v57 : v57 14 = (v 14) := hk14_v57.trans hq14_v14
              have zq14_v57 := congrArg Int32.toInt hq14_v57
              try clear zq14_v14
              have hq15_v57 : v57 15 = (v 15) := hk15_v57.trans hq15_v14
              have zq15_v57 := congrArg Int32.toInt hq15_v57
              try clear zq15_v14
              have hq17_v57 : v57 17 = (v 17) := hk17_v57.trans hq17_v14
              have zq17_v57 := congrArg Int32.toInt hq17_v57
              try clear zq17_v14
              have hq18_v57 : v57 18 = (v 18) := hk18_v57.trans hq18_v14
              have zq18_v57 := congrArg Int32.toInt hq18_v57
              try clear zq18_v14
              have hq24_v57 : v57 24 = (v 24) := hk24_v57.trans hq24_v14
              have hq25_v57 : v57 25 = (v 25) := hk25_v57.trans hq25_v14
              have hq35_v57 : v57 35 = (v 35) := hk35_v57.trans hq35_v14
              have hq36_v57 : v57 36 = (v 36) := hk36_v57.trans hq36_v14
              have hq38_v57 : v57 38 = (v 38) := hk38_v57.trans hq38_v14
              have hq39_v57 : v57 39 = (v 39) := hk39_v57.trans hq39_v14
              have hGR : GR (v 3).toInt (v 5).toInt (v57 3).toInt (v57 5).toInt := GR.tr hGR (show GR (v14 3).toInt (v14 5).toInt (v57 3).toInt (v57 5).toInt from ⟨pv61, pv62⟩) (by first | with_reducible rfl | with_reducible assumption | rfl | omega) (by first | with_reducible rfl | with_reducible assumption | rfl | omega)
              clear pv62
              obtain ⟨t67, et67⟩ : ∃ y : Int32, y = l3_14 + 1 := ⟨_, rfl⟩
              have zt67 : t67.toInt = l3_14.toInt + 1 := (congrArg Int32.toInt et67).trans (add_i rfl tc_1 (om_41 hr3_14) (om_450 hp2 zc15))
              refine lv_iinc (v := t67) (lv' := [(3, .int t67), (0, .ref y0), (1, .int p1), (2, .int p2)]) hx hb dX11_newName_51 hl (k := 0) rfl et67.symm (Nat.le_of_ble_eq_true rfl) rfl (fun ls hl => ?_)
              refine lv_goto (tgt := 18) hx hb dX11_newName_54 rfl ?_
              have rg68 := fb_rng t67
              exact ih14 t67 v57 f58 w59 g60 hIv57 hCf58 hRf58 hq0_v57 hq3_v57 hq4_v57 hq5_v57 hq8_v57 hq9_v57 hq10_v57 hq13_v57 hq14_v57 hq15_v57 hq17_v57 hq18_v57 hq24_v57 hq25_v57 hq35_v57 hq36_v57 hq38_v57 hq39_v57 ((gsY_X11_newName_1_q5 c15 c34 et49 ej51 et52 c53 hG56 et67).symm.trans hT14) ⟨show (0 : Int) ≤ t67.toInt from om_43 hr3_14 zt67, show t67.toInt ≤ (2147483647 : Int) from om_44 rg68⟩ (by show GR (v 3).toInt (v 5).toInt (v57 3).toInt (v57 5).toInt; exact GR.cast hGR (by first | with_reducible rfl | with_reducible assumption | rfl | omega) (by first | with_reducible rfl | with_reducible assumption | rfl | omega)) hM_v57 hA_f58 hs2_f58 hs3_f58 hs6_f58 (show (2147483647 - t67.toInt).toNat < n14 from om_33 hm14 zt67 rg68) _ _ _ hP hD hS (lv_sub hl [0, 1, 2, 3] rfl)
    exact lp14 (4294967296 + NF) 0 v2 f3 w4 g5 hIv2 hCf3 hRf3 hq0_v2 rfl hq4_v2 rfl hq8_v2 hq9_v2 hq10_v2 hq13_v2 hq14_v2 hq15_v2 hq17_v2 hq18_v2 hq24_v2 hq25_v2 hq35_v2 hq36_v2 hq38_v2 hq39_v2 (gsY_X11_newName_1_q6 hG1 hG12).symm ⟨by decide, by decide⟩ (by show GR (v 3).toInt (v 5).toInt (v2 3).toInt (v2 5).toInt; exact GR.cast hGR (by first | with_reducible rfl | with_reducible assumption | rfl | omega) (by first | with_reducible rfl | with_reducible assumption | rfl | omega)) hM_v2 hA_f3 hs2_f3 hs3_f3 hs6_f3 (show (2147483647 - (0 : Int32).toInt).toNat < 4294967296 + NF from om_38 tc_0) _ _ _ hP hD hS (lv_sub hl [0, 1, 2, 3] rfl)
  · skip
    subst g13
    refine lv_if_ne (tgt := 16) hx hb dX11_newName_8 rfl (fun c0 => absurd (by decide) c0) (fun _ => ?_)
    refine lv_aload_n hx hb dX11_newName_11 rfl (lv_at hl 0 rfl) ?_
    refine lv_iconst (v := 2) hx hb dX11_newName_12 rfl ?_
    refine cbVv (n := 1) (rest := []) hx hb hml hown hts hE hP hD hS hA (sY_X11_wrong_1 NF l dC dI cy y0 r 2 v2 f3 w4 g5 hIv2 hCf3 hRf3 ⟨by decide, by decide⟩) k_1641 k_1643 k_50 k_114 k_1644 hd_yX11_wrong ⟨Nat.le_of_ble_eq_true rfl, Nat.le_of_ble_eq_true rfl⟩ 0 11 rfl rfl (rfl) hl.1 rfl (Nat.le_of_ble_eq_true rfl) dX11_newName_13 (fun u H locs hw hP hD hS => ?_)
    obtain ⟨hG69, hw⟩ := hw
    obtain ⟨v70, f71, w72, g73⟩ := u
    obtain ⟨kV_v70, kF_f71, hIv70, hCf71, hRf71, hk0_v70, hk3_v70, hk4_v70, hk5_v70, hk8_v70, hk9_v70, hk10_v70, hk13_v70, hk14_v70, hk15_v70, hk17_v70, hk18_v70, hk24_v70, hk25_v70, hk35_v70, hk36_v70, hk38_v70, hk39_v70, pv74, pv75, pv76, kq77, kq78, kq79⟩ := hw
    have hM_v70 : KV [1, 2, 3, 5, 6, 7] v70 v := KV.tr kV_v70 hM_v2 rfl
    have hA_f71 : KF [] f71 f := KF.tr kF_f71 hA_f3 rfl
    have hP : va_P (dC, dI) vwCl (YW cy y0 r v70 f71 w72 g73) H := hP
    have hD : va_D A (YW cy y0 r v70 f71 w72 g73) := hD
    have b3_v70 : 0 ≤ (v70 3).toInt ∧ (v70 3).toInt ≤ 1600 := Yb_3 hIv70.1
    have b1_v70 : 0 ≤ (v70 1).toInt ∧ (v70 1).toInt ≤ 4 := Yb_1 hIv70.1
    have pv74 : (v2 3).toInt ≤ (v70 3).toInt := pv74
    have pv75 : (v70 5).toInt = (v2 5).toInt ∨ (v2 3).toInt < (v70 3).toInt ∨ ¬ (v70 5).toInt = 59 := pv75
    have pv76 : 0 < (v70 1).toInt := pv76
    have hs2_f71 : f71 2 = (f 2) := kq77.trans hs2_f3
    have hs3_f71 : f71 3 = (f 3) := kq78.trans hs3_f3
    have hs6_f71 : f71 6 = (f 6) := kq79.trans hs6_f3
    have hUv70 : (v70 35).toInt + (v70 36).toInt ≤ 40 := hIv70.2
    have hq0_v70 : v70 0 = (v 0) := hk0_v70.trans hq0_v2
    have zq0_v70 := congrArg Int32.toInt hq0_v70
    try clear zq0_v2
    have hq3_v70 : v70 3 = (v2 3) := hk3_v70
    have zq3_v70 := congrArg Int32.toInt hq3_v70
    have hq4_v70 : v70 4 = (v 4) := hk4_v70.trans hq4_v2
    have hq5_v70 : v70 5 = (v2 5) := hk5_v70
    have zq5_v70 := congrArg Int32.toInt hq5_v70
    have hq8_v70 : v70 8 = (v 8) := hk8_v70.trans hq8_v2
    have zq8_v70 := congrArg Int32.toInt hq8_v70
    try clear zq8_v2
    have hq9_v70 : v70 9 = (v 9) := hk9_v70.trans hq9_v2
    have zq9_v70 := congrArg Int32.toInt hq9_v70
    try clear zq9_v2
    have hq10_v70 : v70 10 = (v 10) := hk10_v70.trans hq10_v2
    have zq10_v70 := congrArg Int32.toInt hq10_v70
    try clear zq10_v2
    have hq13_v70 : v70 13 = (v 13) := hk13_v70.trans hq13_v2
    have zq13_v70 := congrArg Int32.toInt hq13_v70
    try clear zq13_v2
    have hq14_v70 : v70 14 = (v 14) := hk14_v70.trans hq14_v2
    have zq14_v70 := congrArg Int32.toInt hq14_v70
    try clear zq14_v2
    have hq15_v70 : v70 15 = (v 15) := hk15_v70.trans hq15_v2
    have zq15_v70 := congrArg Int32.toInt hq15_v70
    try clear zq15_v2
    have hq17_v70 : v70 17 = (v 17) := hk17_v70.trans hq17_v2
    have zq17_v70 := congrArg Int32.toInt hq17_v70
    try clear zq17_v2
    have hq18_v70 : v70 18 = (v 18) := hk18_v70.trans hq18_v2
    have zq18_v70 := congrArg Int32.toInt hq18_v70
    try clear zq18_v2
    have hq24_v70 : v70 24 = (v 24) := hk24_v70.trans hq24_v2
    have hq25_v70 : v70 25 = (v 25) := hk25_v70.trans hq25_v2
    have hq35_v70 : v70 35 = (v 35) := hk35_v70.trans hq35_v2
    have hq36_v70 : v70 36 = (v 36) := hk36_v70.trans hq36_v2
    have hq38_v70 : v70 38 = (v 38) := hk38_v70.trans hq38_v2
    have hq39_v70 : v70 39 = (v 39) := hk39_v70.trans hq39_v2
    have hGR : GR (v 3).toInt (v 5).toInt (v70 3).toInt (v70 5).toInt := GR.tr hGR (show GR (v2 3).toInt (v2 5).toInt (v70 3).toInt (v70 5).toInt from ⟨pv74, pv75⟩) (by first | with_reducible rfl | with_reducible assumption | rfl | omega) (by first | with_reducible rfl | with_reducible assumption | rfl | omega)
    clear pv75
    refine lv_iconst (v := 0) hx hb dX11_newName_16 rfl ?_
    refine lv_istore_n (lv' := [(3, .int 0), (0, .ref y0), (1, .int p1), (2, .int p2)]) hx hb dX11_newName_17 rfl hl (Nat.le_of_ble_eq_true rfl) rfl (fun ls hl => ?_)
    have lp80 : ∀ (n80 : Nat) (l3_80 : Int32) (v80 : Nat → Int32) (f80 : Nat → Nat → Int32) (w80 : Int64) (g80 : Nat → Int64), YI v80 → YC f80 → progOK (f80 4) (f80 5) (v80 9).toInt.toNat → v80 0 = (v 0) → v80 3 = (v2 3) → v80 4 = (v 4) → v80 5 = (v2 5) → v80 8 = (v 8) → v80 9 = (v 9) → v80 10 = (v 10) → v80 13 = (v 13) → v80 14 = (v 14) → v80 15 = (v 15) → v80 17 = (v 17) → v80 18 = (v 18) → v80 24 = (v 24) → v80 25 = (v 25) → v80 35 = (v 35) → v80 36 = (v 36) → v80 38 = (v 38) → v80 39 = (v 39) → gsY_X11_newName_1_L80 NF p1 p2 n80 l3_80 v80 f80 w80 g80 = (gsY_X11_newName_1 NF p1 p2 v f w g) → ((0 : Int) ≤ l3_80.toInt ∧ l3_80.toInt ≤ 2147483647) → (GR (v 3).toInt (v 5).toInt (v80 3).toInt (v80 5).toInt) → KV [1, 2, 3, 5, 6, 7] v80 v → KF [] f80 f → f80 2 = (f 2) → f80 3 = (f 3) → f80 6 = (f 6) → (2147483647 - l3_80.toInt).toNat < n80 → ∀ (H : Heap) (locs : List Loc) (ls : Array Slot), va_P (dC, dI) vwCl (YW cy y0 r v80 f80 w80 g80) H → va_D A (YW cy y0 r v80 f80 w80 g80) → va_S A s.heap H locs → lv_has ls 4 [(3, .int l3_80), (0, .ref y0), (1, .int p1), (2, .int p2)] → W p l e { frames := 3, cells := 0, slots := 0, locals := 103 } s m ([.ref y0, .int p1, .int p2] : List Value).toArray below meth c H locs 0 0 Q (F0 m 18 ls []) := by
      intro n80
      induction n80 with
      | zero => intro l3_80 v80 f80 w80 g80 hIv80 hCf80 hRf80 hq0_v80 hq3_v80 hq4_v80 hq5_v80 hq8_v80 hq9_v80 hq10_v80 hq13_v80 hq14_v80 hq15_v80 hq17_v80 hq18_v80 hq24_v80 hq25_v80 hq35_v80 hq36_v80 hq38_v80 hq39_v80 hT80 hr3_80 hx0_80 hM_v80 hA_f80 hs2_f80 hs3_f80 hs6_f80 hm; exact absurd hm (Nat.not_lt_zero _)
      | succ n80 ih80 =>
        intro l3_80 v80 f80 w80 g80 hIv80 hCf80 hRf80 hq0_v80 hq3_v80 hq4_v80 hq5_v80 hq8_v80 hq9_v80 hq10_v80 hq13_v80 hq14_v80 hq15_v80 hq17_v80 hq18_v80 hq24_v80 hq25_v80 hq35_v80 hq36_v80 hq38_v80 hq39_v80 hT80 hr3_80 hx0_80 hM_v80 hA_f80 hs2_f80 hs3_f80 hs6_f80 hm80 H locs ls hP hD hS hl
        have hUv80 : (v80 35).toInt + (v80 36).toInt ≤ 40 := hIv80.2
        have zq0_v80 := congrArg Int32.toInt hq0_v80
        try clear zq0_v70
        have zq3_v80 := congrArg Int32.toInt hq3_v80
        try clear zq3_v70
        have zq5_v80 := congrArg Int32.toInt hq5_v80
        try clear zq5_v70
        have zq8_v80 := congrArg Int32.toInt hq8_v80
        try clear zq8_v70
        have zq9_v80 := congrArg Int32.toInt hq9_v80
        try clear zq9_v70
        have zq10_v80 := congrArg Int32.toInt hq10_v80
        try clear zq10_v70
        have zq13_v80 := congrArg Int32.toInt hq13_v80
        try clear zq13_v70
        have zq14_v80 := congrArg Int32.toInt hq14_v80
        try clear zq14_v70
        have zq15_v80 := congrArg Int32.toInt hq15_v80
        try clear zq15_v70
        have zq17_v80 := congrArg Int32.toInt hq17_v80
        try clear zq17_v70
        have zq18_v80 := congrArg Int32.toInt hq18_v80
        try clear zq18_v70
        have b3_v80 : 0 ≤ (v80 3).toInt ∧ (v80 3).toInt ≤ 1600 := Yb_3 hIv80.1
        have b3_v2 : 0 ≤ (v2 3).toInt ∧ (v2 3).toInt ≤ 1600 := Yb_3 hIv2.1
        have hGR := hx0_80
        refine lv_iload_n hx hb dX11_newName_18 rfl (lv_at hl 0 rfl) ?_
        refine lv_iload_n hx hb dX11_newName_19 rfl (lv_at hl 3 rfl) ?_
        refine lv_icmp_ge (tgt := 57) hx hb dX11_newName_20 rfl (fun c81 => ?_) (fun c81 => ?_)
        · skip
          have zc81 : p2.toInt ≤ l3_80.toInt := zMp rfl rfl c81
          have rg82 := fb_rng l3_80
          have rg83 := fb_rng p2
          refine lv_aload_n hx hb dX11_newName_57 rfl (lv_at hl 1 rfl) ?_
          refine va_get (D := (dC, dI)) (ci := 11) (v := .int (v80 1)) (C := RX11) (T := TX11) (N := 79) hx hb hts inB_11 hown hE.1 hP 0 rfl rfl 2 (Nat.le_of_ble_eq_true rfl) (hts _ k_1322) (fun _ h9 => h9) rfl dX11_newName_58 ?_
          have b1_v80 : 0 ≤ (v80 1).toInt ∧ (v80 1).toInt ≤ 4 := Yb_1 hIv80.1
          refine lv_if_le (tgt := 65) hx hb dX11_newName_61 rfl (fun c84 => ?_) (fun c84 => ?_)
          · skip
            have zc84 : (v80 1).toInt ≤ 0 := zMp rfl tc_0 c84
            refine lv_aload_n hx hb dX11_newName_65 rfl (lv_at hl 1 rfl) ?_
            refine va_get (D := (dC, dI)) (ci := 11) (v := .ref (r 10)) (C := RX11) (T := TX11) (N := 79) hx hb hts inB_11 hown hE.1 hP 0 rfl rfl 10 (Nat.le_of_ble_eq_true rfl) (hts _ k_1330) (fun _ h9 => h9) rfl dX11_newName_66 ?_
            refine lv_iload_n hx hb dX11_newName_69 rfl (lv_at hl 2 rfl) ?_
            refine lv_iload_n hx hb dX11_newName_70 rfl (lv_at hl 3 rfl) ?_
            refine lv_iadd hx hb dX11_newName_71 ?_
            refine lv_topi (fun t85 et85 => ?_)
            have rg86 := fb_rng p1
            have zt85 : t85.toInt = p1.toInt + p2.toInt := (congrArg Int32.toInt et85).trans (add_i rfl rfl (om_442 hp1 hp2) (om_443 hp1 hp2))
            refine lv_aload_n hx hb dX11_newName_72 rfl (lv_at hl 1 rfl) ?_
            refine va_get (D := (dC, dI)) (ci := 11) (v := .long w80) (C := RX11) (T := TX11) (N := 79) hx hb hts inB_11 hown hE.1 hP 0 rfl rfl 9 (Nat.le_of_ble_eq_true rfl) (hts _ k_1329) (fun _ h9 => h9) rfl dX11_newName_73 ?_
            refine va_last hx hb hE.1 hP hD hS 2 2 rfl rfl (vpI (k := 12) rfl (show 0 ≤ t85.toInt from om_444 hp1 hp2 zt85) (show t85.toInt < 12 from om_445 hp1 hp2 zt85)) dX11_newName_76 (fun H locs hP hD hS => ?_)
            obtain ⟨g87, eg87, hP, hD⟩ : ∃ fz9, fz9 = vp_updL g80 (t85).toNatClampNeg w80 ∧ va_P (dC, dI) vwCl (YW cy y0 r v80 f80 w80 fz9) H ∧ va_D A (YW cy y0 r v80 f80 w80 fz9) := ⟨_, rfl, hP, hD⟩
            refine lv_aload_n hx hb dX11_newName_77 rfl (lv_at hl 1 rfl) ?_
            refine cbVv (n := 0) (rest := []) hx hb hml hown hts hE hP hD hS hA (sY_X11_token_1 NF l dC dI cy y0 r  v80 f80 w80 g87 hIv80 hCf80 hRf80 ) k_1579 k_1581 k_42 k_114 k_1582 hd_yX11_token ⟨Nat.le_of_ble_eq_true rfl, Nat.le_of_ble_eq_true rfl⟩ 0 11 rfl rfl (rfl) hl.1 rfl (Nat.le_of_ble_eq_true rfl) dX11_newName_78 (fun u H locs hw hP hD hS => ?_)
            obtain ⟨hG88, hw⟩ := hw
            obtain ⟨v89, f90, w91, g92⟩ := u
            obtain ⟨kV_v89, kF_f90, hIv89, hCf90, hRf90, hk0_v89, hk1_v89, hk2_v89, hk4_v89, hk8_v89, hk9_v89, hk10_v89, hk13_v89, hk14_v89, hk15_v89, hk17_v89, hk18_v89, hk24_v89, hk25_v89, hk35_v89, hk36_v89, hk38_v89, hk39_v89, pv93, pv94, kq95, kq96, kq97⟩ := hw
            have hM_v89 : KV [1, 2, 3, 5, 6, 7] v89 v := KV.tr kV_v89 hM_v80 rfl
            have hA_f90 : KF [] f90 f := KF.tr kF_f90 hA_f80 rfl
            have hP : va_P (dC, dI) vwCl (YW cy y0 r v89 f90 w91 g92) H := hP
            have hD : va_D A (YW cy y0 r v89 f90 w91 g92) := hD
            have b3_v89 : 0 ≤ (v89 3).toInt ∧ (v89 3).toInt ≤ 1600 := Yb_3 hIv89.1
            have pv93 : (v80 3).toInt ≤ (v89 3).toInt := pv93
            have pv94 : (v89 5).toInt = (v80 5).toInt ∨ (v80 3).toInt < (v89 3).toInt ∨ ¬ (v89 5).toInt = 59 := pv94
            have hs2_f90 : f90 2 = (f 2) := kq95.trans hs2_f80
            have hs3_f90 : f90 3 = (f 3) := kq96.trans hs3_f80
            have hs6_f90 : f90 6 = (f 6) := kq97.trans hs6_f80
            have hUv89 : (v89 35).toInt + (v89 36).toInt ≤ 40 := hIv89.2
            have hq0_v89 : v89 0 = (v 0) := hk0_v89.trans hq0_v80
            have zq0_v89 := congrArg Int32.toInt hq0_v89
            try clear zq0_v80
            have hq1_v89 : v89 1 = (v80 1) := hk1_v89
            have zq1_v89 := congrArg Int32.toInt hq1_v89
            try clear zq1_v2
            have hq8_v89 : v89 8 = (v 8) := hk8_v89.trans hq8_v80
            have zq8_v89 := congrArg Int32.toInt hq8_v89
            try clear zq8_v80
            have hq9_v89 : v89 9 = (v 9) := hk9_v89.trans hq9_v80
            have zq9_v89 := congrArg Int32.toInt hq9_v89
            try clear zq9_v80
            have hq10_v89 : v89 10 = (v 10) := hk10_v89.trans hq10_v80
            have zq10_v89 := congrArg Int32.toInt hq10_v89
            try clear zq10_v80
            have hq13_v89 : v89 13 = (v 13) := hk13_v89.trans hq13_v80
            have zq13_v89 := congrArg Int32.toInt hq13_v89
            try clear zq13_v80
            have hq14_v89 : v89 14 = (v 14) := hk14_v89.trans hq14_v80
            have zq14_v89 := congrArg Int32.toInt hq14_v89
            try clear zq14_v80
            have hq15_v89 : v89 15 = (v 15) := hk15_v89.trans hq15_v80
            have zq15_v89 := congrArg Int32.toInt hq15_v89
            try clear zq15_v80
            have hq17_v89 : v89 17 = (v 17) := hk17_v89.trans hq17_v80
            have zq17_v89 := congrArg Int32.toInt hq17_v89
            try clear zq17_v80
            have hq18_v89 : v89 18 = (v 18) := hk18_v89.trans hq18_v80
            have zq18_v89 := congrArg Int32.toInt hq18_v89
            try clear zq18_v80
            have hGR : GR (v 3).toInt (v 5).toInt (v89 3).toInt (v89 5).toInt := GR.tr hGR (show GR (v80 3).toInt (v80 5).toInt (v89 3).toInt (v89 5).toInt from ⟨pv93, pv94⟩) (by first | with_reducible rfl | with_reducible assumption | rfl | omega) (by first | with_reducible rfl | with_reducible assumption | rfl | omega)
            clear pv94
            exact ret (v89, f90, w91, g92) _ _ _ _ _ _ ⟨(hT80.symm.trans (gsY_X11_newName_1_q7 c81 c84 et85 eg87 hG88)), hM_v89, hA_f90, hIv89, hCf90, hRf90, (hk0_v89.trans hq0_v80), (hk4_v89.trans hq4_v80), (hk8_v89.trans hq8_v80), (hk9_v89.trans hq9_v80), (hk10_v89.trans hq10_v80), (hk13_v89.trans hq13_v80), (hk14_v89.trans hq14_v80), (hk15_v89.trans hq15_v80), (hk17_v89.trans hq17_v80), (hk18_v89.trans hq18_v80), (hk24_v89.trans hq24_v80), (hk25_v89.trans hq25_v80), (hk35_v89.trans hq35_v80), (hk36_v89.trans hq36_v80), (hk38_v89.trans hq38_v80), (hk39_v89.trans hq39_v80), (by show (v 3).toInt ≤ (v89 3).toInt; exact (GR.cast hGR (by first | with_reducible rfl | with_reducible assumption | rfl | omega) (by first | with_reducible rfl | with_reducible assumption | rfl | omega)).1), (by show (v89 5).toInt = (v 5).toInt ∨ (v 3).toInt < (v89 3).toInt ∨ ¬ (v89 5).toInt = 59; exact (GR.cast hGR (by first | with_reducible rfl | with_reducible assumption | rfl | omega) (by first | with_reducible rfl | with_reducible assumption | rfl | omega)).2), hs2_f90, hs3_f90, hs6_f90⟩ hP hD hS dX11_newName_81 (Nat.le_refl _) (Nat.le_refl _)
          · skip
            have zc84 : ¬ ((v80 1).toInt ≤ 0) := zMn rfl tc_0 c84
            exact ret (v80, f80, w80, g80) _ _ _ _ _ _ ⟨(hT80.symm.trans (gsY_X11_newName_1_q8 c81 c84)), hM_v80, hA_f80, hIv80, hCf80, hRf80, hq0_v80, hq4_v80, hq8_v80, hq9_v80, hq10_v80, hq13_v80, hq14_v80, hq15_v80, hq17_v80, hq18_v80, hq24_v80, hq25_v80, hq35_v80, hq36_v80, hq38_v80, hq39_v80, (by show (v 3).toInt ≤ (v80 3).toInt; exact (GR.cast hGR (by first | with_reducible rfl | with_reducible assumption | rfl | omega) (by first | with_reducible rfl | with_reducible assumption | rfl | omega)).1), (by show (v80 5).toInt = (v 5).toInt ∨ (v 3).toInt < (v80 3).toInt ∨ ¬ (v80 5).toInt = 59; exact (GR.cast hGR (by first | with_reducible rfl | with_reducible assumption | rfl | omega) (by first | with_reducible rfl | with_reducible assumption | rfl | omega)).2), hs2_f80, hs3_f80, hs6_f80⟩ hP hD hS dX11_newName_64 (Nat.le_refl _) (Nat.le_refl _)
        · skip
          have zc81 : ¬ (p2.toInt ≤ l3_80.toInt) := zMn rfl rfl c81
          have rg98 := fb_rng l3_80
          have rg99 := fb_rng p2
          refine lv_aload_n hx hb dX11_newName_23 rfl (lv_at hl 1 rfl) ?_
          refine va_get (D := (dC, dI)) (ci := 11) (v := .int (v80 1)) (C := RX11) (T := TX11) (N := 79) hx hb hts inB_11 hown hE.1 hP 0 rfl rfl 2 (Nat.le_of_ble_eq_true rfl) (hts _ k_1322) (fun _ h9 => h9) rfl dX11_newName_24 ?_
          have b1_v80 : 0 ≤ (v80 1).toInt ∧ (v80 1).toInt ≤ 4 := Yb_1 hIv80.1
          refine lv_if_ne (tgt := 57) hx hb dX11_newName_27 rfl (fun c100 => ?_) (fun c100 => ?_)
          · skip
            have zc100 : ¬ ((v80 1).toInt = 0) := zEn rfl tc_0 c100
            refine lv_aload_n hx hb dX11_newName_57 rfl (lv_at hl 1 rfl) ?_
            refine va_get (D := (dC, dI)) (ci := 11) (v := .int (v80 1)) (C := RX11) (T := TX11) (N := 79) hx hb hts inB_11 hown hE.1 hP 0 rfl rfl 2 (Nat.le_of_ble_eq_true rfl) (hts _ k_1322) (fun _ h9 => h9) rfl dX11_newName_58 ?_
            refine lv_if_le (tgt := 65) hx hb dX11_newName_61 rfl (fun c101 => ?_) (fun c101 => ?_)
            · skip
              have zc101 : (v80 1).toInt ≤ 0 := zMp rfl tc_0 c101
              refine lv_aload_n hx hb dX11_newName_65 rfl (lv_at hl 1 rfl) ?_
              refine va_get (D := (dC, dI)) (ci := 11) (v := .ref (r 10)) (C := RX11) (T := TX11) (N := 79) hx hb hts inB_11 hown hE.1 hP 0 rfl rfl 10 (Nat.le_of_ble_eq_true rfl) (hts _ k_1330) (fun _ h9 => h9) rfl dX11_newName_66 ?_
              refine lv_iload_n hx hb dX11_newName_69 rfl (lv_at hl 2 rfl) ?_
              refine lv_iload_n hx hb dX11_newName_70 rfl (lv_at hl 3 rfl) ?_
              refine lv_iadd hx hb dX11_newName_71 ?_
              refine lv_topi (fun t102 et102 => ?_)
              have rg103 := fb_rng p1
              have zt102 : t102.toInt = p1.toInt + p2.toInt := (congrArg Int32.toInt et102).trans (add_i rfl rfl (om_442 hp1 hp2) (om_443 hp1 hp2))
              refine lv_aload_n hx hb dX11_newName_72 rfl (lv_at hl 1 rfl) ?_
              refine va_get (D := (dC, dI)) (ci := 11) (v := .long w80) (C := RX11) (T := TX11) (N := 79) hx hb hts inB_11 hown hE.1 hP 0 rfl rfl 9 (Nat.le_of_ble_eq_true rfl) (hts _ k_1329) (fun _ h9 => h9) rfl dX11_newName_73 ?_
              refine va_last hx hb hE.1 hP hD hS 2 2 rfl rfl (vpI (k := 12) rfl (show 0 ≤ t102.toInt from om_444 hp1 hp2 zt102) (show t102.toInt < 12 from om_445 hp1 hp2 zt102)) dX11_newName_76 (fun H locs hP hD hS => ?_)
              obtain ⟨g104, eg104, hP, hD⟩ : ∃ fz9, fz9 = vp_updL g80 (t102).toNatClampNeg w80 ∧ va_P (dC, dI) vwCl (YW cy y0 r v80 f80 w80 fz9) H ∧ va_D A (YW cy y0 r v80 f80 w80 fz9) := ⟨_, rfl, hP, hD⟩
              refine lv_aload_n hx hb dX11_newName_77 rfl (lv_at hl 1 rfl) ?_
              refine cbVv (n := 0) (rest := []) hx hb hml hown hts hE hP hD hS hA (sY_X11_token_1 NF l dC dI cy y0 r  v80 f80 w80 g104 hIv80 hCf80 hRf80 ) k_1579 k_1581 k_42 k_114 k_1582 hd_yX11_token ⟨Nat.le_of_ble_eq_true rfl, Nat.le_of_ble_eq_true rfl⟩ 0 11 rfl rfl (rfl) hl.1 rfl (Nat.le_of_ble_eq_true rfl) dX11_newName_78 (fun u H locs hw hP hD hS => ?_)
              obtain ⟨hG105, hw⟩ := hw
              obtain ⟨v106, f107, w108, g109⟩ := u
              obtain ⟨kV_v106, kF_f107, hIv106, hCf107, hRf107, hk0_v106, hk1_v106, hk2_v106, hk4_v106, hk8_v106, hk9_v106, hk10_v106, hk13_v106, hk14_v106, hk15_v106, hk17_v106, hk18_v106, hk24_v106, hk25_v106, hk35_v106, hk36_v106, hk38_v106, hk39_v106, pv110, pv111, kq112, kq113, kq114⟩ := hw
              have hM_v106 : KV [1, 2, 3, 5, 6, 7] v106 v := KV.tr kV_v106 hM_v80 rfl
              have hA_f107 : KF [] f107 f := KF.tr kF_f107 hA_f80 rfl
              have hP : va_P (dC, dI) vwCl (YW cy y0 r v106 f107 w108 g109) H := hP
              have hD : va_D A (YW cy y0 r v106 f107 w108 g109) := hD
              have b3_v106 : 0 ≤ (v106 3).toInt ∧ (v106 3).toInt ≤ 1600 := Yb_3 hIv106.1
              have pv110 : (v80 3).toInt ≤ (v106 3).toInt := pv110
              have pv111 : (v106 5).toInt = (v80 5).toInt ∨ (v80 3).toInt < (v106 3).toInt ∨ ¬ (v106 5).toInt = 59 := pv111
              have hs2_f107 : f107 2 = (f 2) := kq112.trans hs2_f80
              have hs3_f107 : f107 3 = (f 3) := kq113.trans hs3_f80
              have hs6_f107 : f107 6 = (f 6) := kq114.trans hs6_f80
              have hUv106 : (v106 35).toInt + (v106 36).toInt ≤ 40 := hIv106.2
              have hq0_v106 : v106 0 = (v 0) := hk0_v106.trans hq0_v80
              have zq0_v106 := congrArg Int32.toInt hq0_v106
              try clear zq0_v80
              have hq1_v106 : v106 1 = (v80 1) := hk1_v106
              have zq1_v106 := congrArg Int32.toInt hq1_v106
              try clear zq1_v2
              have hq8_v106 : v106 8 = (v 8) := hk8_v106.trans hq8_v80
              have zq8_v106 := congrArg Int32.toInt hq8_v106
              try clear zq8_v80
              have hq9_v106 : v106 9 = (v 9) := hk9_v106.trans hq9_v80
              have zq9_v106 := congrArg Int32.toInt hq9_v106
              try clear zq9_v80
              have hq10_v106 : v106 10 = (v 10) := hk10_v106.trans hq10_v80
              have zq10_v106 := congrArg Int32.toInt hq10_v106
              try clear zq10_v80
              have hq13_v106 : v106 13 = (v 13) := hk13_v106.trans hq13_v80
              have zq13_v106 := congrArg Int32.toInt hq13_v106
              try clear zq13_v80
              have hq14_v106 : v106 14 = (v 14) := hk14_v106.trans hq14_v80
              have zq14_v106 := congrArg Int32.toInt hq14_v106
              try clear zq14_v80
              have hq15_v106 : v106 15 = (v 15) := hk15_v106.trans hq15_v80
              have zq15_v106 := congrArg Int32.toInt hq15_v106
              try clear zq15_v80
              have hq17_v106 : v106 17 = (v 17) := hk17_v106.trans hq17_v80
              have zq17_v106 := congrArg Int32.toInt hq17_v106
              try clear zq17_v80
              have hq18_v106 : v106 18 = (v 18) := hk18_v106.trans hq18_v80
              have zq18_v106 := congrArg Int32.toInt hq18_v106
              try clear zq18_v80
              have hGR : GR (v 3).toInt (v 5).toInt (v106 3).toInt (v106 5).toInt := GR.tr hGR (show GR (v80 3).toInt (v80 5).toInt (v106 3).toInt (v106 5).toInt from ⟨pv110, pv111⟩) (by first | with_reducible rfl | with_reducible assumption | rfl | omega) (by first | with_reducible rfl | with_reducible assumption | rfl | omega)
              clear pv111
              exact ret (v106, f107, w108, g109) _ _ _ _ _ _ ⟨(hT80.symm.trans (gsY_X11_newName_1_q9 c81 c100 c101 et102 eg104 hG105)), hM_v106, hA_f107, hIv106, hCf107, hRf107, (hk0_v106.trans hq0_v80), (hk4_v106.trans hq4_v80), (hk8_v106.trans hq8_v80), (hk9_v106.trans hq9_v80), (hk10_v106.trans hq10_v80), (hk13_v106.trans hq13_v80), (hk14_v106.trans hq14_v80), (hk15_v106.trans hq15_v80), (hk17_v106.trans hq17_v80), (hk18_v106.trans hq18_v80), (hk24_v106.trans hq24_v80), (hk25_v106.trans hq25_v80), (hk35_v106.trans hq35_v80), (hk36_v106.trans hq36_v80), (hk38_v106.trans hq38_v80), (hk39_v106.trans hq39_v80), (by show (v 3).toInt ≤ (v106 3).toInt; exact (GR.cast hGR (by first | with_reducible rfl | with_reducible assumption | rfl | omega) (by first | with_reducible rfl | with_reducible assumption | rfl | omega)).1), (by show (v106 5).toInt = (v 5).toInt ∨ (v 3).toInt < (v106 3).toInt ∨ ¬ (v106 5).toInt = 59; exact (GR.cast hGR (by first | with_reducible rfl | with_reducible assumption | rfl | omega) (by first | with_reducible rfl | with_reducible assumption | rfl | omega)).2), hs2_f107, hs3_f107, hs6_f107⟩ hP hD hS dX11_newName_81 (Nat.le_refl _) (Nat.le_refl _)
            · skip
              have zc101 : ¬ ((v80 1).toInt ≤ 0) := zMn rfl tc_0 c101
              exact ret (v80, f80, w80, g80) _ _ _ _ _ _ ⟨(hT80.symm.trans (gsY_X11_newName_1_q10 c81 c100 c101)), hM_v80, hA_f80, hIv80, hCf80, hRf80, hq0_v80, hq4_v80, hq8_v80, hq9_v80, hq10_v80, hq13_v80, hq14_v80, hq15_v80, hq17_v80, hq18_v80, hq24_v80, hq25_v80, hq35_v80, hq36_v80, hq38_v80, hq39_v80, (by show (v 3).toInt ≤ (v80 3).toInt; exact (GR.cast hGR (by first | with_reducible rfl | with_reducible assumption | rfl | omega) (by first | with_reducible rfl | with_reducible assumption | rfl | omega)).1), (by show (v80 5).toInt = (v 5).toInt ∨ (v 3).toInt < (v80 3).toInt ∨ ¬ (v80 5).toInt = 59; exact (GR.cast hGR (by first | with_reducible rfl | with_reducible assumption | rfl | omega) (by first | with_reducible rfl | with_reducible assumption | rfl | omega)).2), hs2_f80, hs3_f80, hs6_f80⟩ hP hD hS dX11_newName_64 (Nat.le_refl _) (Nat.le_refl _)
          · skip
            have zc100 : (v80 1).toInt = 0 := zEp rfl tc_0 c100
            refine lv_aload_n hx hb dX11_newName_30 rfl (lv_at hl 1 rfl) ?_
            refine va_get (D := (dC, dI)) (ci := 11) (v := .ref (r 10)) (C := RX11) (T := TX11) (N := 79) hx hb hts inB_11 hown hE.1 hP 0 rfl rfl 10 (Nat.le_of_ble_eq_true rfl) (hts _ k_1330) (fun _ h9 => h9) rfl dX11_newName_31 ?_
            refine lv_iload_n hx hb dX11_newName_34 rfl (lv_at hl 2 rfl) ?_
            refine lv_iload_n hx hb dX11_newName_35 rfl (lv_at hl 0 rfl) ?_
            refine lv_iadd hx hb dX11_newName_36 ?_
            refine lv_topi (fun t115 et115 => ?_)
            have rg116 := fb_rng p1
            have zt115 : t115.toInt = p1.toInt + l3_80.toInt := (congrArg Int32.toInt et115).trans (add_i rfl rfl (om_446 hp1 hr3_80) (om_447 hp1 hp2 zc81))
            refine va_lald hx hb hE.1 hP 2 2 rfl rfl (vpI (k := 12) rfl (show 0 ≤ t115.toInt from om_448 hp1 hr3_80 zt115) (show t115.toInt < 12 from om_449 hp1 hp2 zc81 zt115)) dX11_newName_37 ?_
            refine lv_topl (fun j117 ej117 => ?_)
            refine lv_aload_n hx hb dX11_newName_38 rfl (lv_at hl 1 rfl) ?_
            refine va_get (D := (dC, dI)) (ci := 11) (v := .long w80) (C := RX11) (T := TX11) (N := 79) hx hb hts inB_11 hown hE.1 hP 0 rfl rfl 9 (Nat.le_of_ble_eq_true rfl) (hts _ k_1329) (fun _ h9 => h9) rfl dX11_newName_39 ?_
            refine W.lcmp hx hb dX11_newName_42 ?_
            refine lv_topi (fun t118 et118 => ?_)
            refine lv_if_ne (tgt := 51) hx hb dX11_newName_43 rfl (fun c119 => ?_) (fun c119 => ?_)
            · skip
              have zc119 : ¬ (t118.toInt = 0) := zEn rfl tc_0 c119
              obtain ⟨t120, et120⟩ : ∃ y : Int32, y = l3_80 + 1 := ⟨_, rfl⟩
              have zt120 : t120.toInt = l3_80.toInt + 1 := (congrArg Int32.toInt et120).trans (add_i rfl tc_1 (om_41 hr3_80) (om_450 hp2 zc81))
              refine lv_iinc (v := t120) (lv' := [(3, .int t120), (0, .ref y0), (1, .int p1), (2, .int p2)]) hx hb dX11_newName_51 hl (k := 0) rfl et120.symm (Nat.le_of_ble_eq_true rfl) rfl (fun ls hl => ?_)
              refine lv_goto (tgt := 18) hx hb dX11_newName_54 rfl ?_
              have rg121 := fb_rng t120
              exact ih80 t120 v80 f80 w80 g80 hIv80 hCf80 hRf80 hq0_v80 hq3_v80 hq4_v80 hq5_v80 hq8_v80 hq9_v80 hq10_v80 hq13_v80 hq14_v80 hq15_v80 hq17_v80 hq18_v80 hq24_v80 hq25_v80 hq35_v80 hq36_v80 hq38_v80 hq39_v80 ((gsY_X11_newName_1_q11 c81 c100 et115 ej117 et118 c119 et120).symm.trans hT80) ⟨show (0 : Int) ≤ t120.toInt from om_43 hr3_80 zt120, show t120.toInt ≤ (2147483647 : Int) from om_44 rg121⟩ (by show GR (v 3).toInt (v 5).toInt (v80 3).toInt (v80 5).toInt; exact GR.cast hGR (by first | with_reducible rfl | with_reducible assumption | rfl | omega) (by first | with_reducible rfl | with_reducible assumption | rfl | omega)) hM_v80 hA_f80 hs2_f80 hs3_f80 hs6_f80 (show (2147483647 - t120.toInt).toNat < n80 from om_33 hm80 zt120 rg121) _ _ _ hP hD hS (lv_sub hl [0, 1, 2, 3] rfl)
            · skip
              have zc119 : t118.toInt = 0 := zEp rfl tc_0 c119
              refine lv_aload_n hx hb dX11_newName_46 rfl (lv_at hl 1 rfl) ?_
              refine lv_iconst (v := 3) hx hb dX11_newName_47 rfl ?_
              refine cbVv (n := 1) (rest := []) hx hb hml hown hts hE hP hD hS hA (sY_X11_wrong_1 NF l dC dI cy y0 r 3 v80 f80 w80 g80 hIv80 hCf80 hRf80 ⟨by decide, by decide⟩) k_1641 k_1643 k_50 k_114 k_1644 hd_yX11_wrong ⟨Nat.le_of_ble_eq_true rfl, Nat.le_of_ble_eq_true rfl⟩ 0 11 rfl rfl (rfl) hl.1 rfl (Nat.le_of_ble_eq_true rfl) dX11_newName_48 (fun u H locs hw hP hD hS => ?_)
              obtain ⟨hG122, hw⟩ := hw
              obtain ⟨v123, f124, w125, g126⟩ := u
              obtain ⟨kV_v123, kF_f124, hIv123, hCf124, hRf124, hk0_v123, hk3_v123, hk4_v123, hk5_v123, hk8_v123, hk9_v123, hk10_v123, hk13_v123, hk14_v123, hk15_v123, hk17_v123, hk18_v123, hk24_v123, hk25_v123, hk35_v123, hk36_v123, hk38_v123, hk39_v123, pv127, pv128, pv129, kq130, kq131, kq132⟩ := hw
              have hM_v123 : KV [1, 2, 3, 5, 6, 7] v123 v := KV.tr kV_v123 hM_v80 rfl
              have hA_f124 : KF [] f124 f := KF.tr kF_f124 hA_f80 rfl
              have hP : va_P (dC, dI) vwCl (YW cy y0 r v123 f124 w125 g126) H := hP
              have hD : va_D A (YW cy y0 r v123 f124 w125 g126) := hD
              have b3_v123 : 0 ≤ (v123 3).toInt ∧ (v123 3).toInt ≤ 1600 := Yb_3 hIv123.1
              have b1_v123 : 0 ≤ (v123 1).toInt ∧ (v123 1).toInt ≤ 4 := Yb_1 hIv123.1
              have pv127 : (v80 3).toInt ≤ (v123 3).toInt := pv127
              have pv128 : (v123 5).toInt = (v80 5).toInt ∨ (v80 3).toInt < (v123 3).toInt ∨ ¬ (v123 5).toInt = 59 := pv128
              have pv129 : 0 < (v123 1).toInt := pv129
              have hs2_f124 : f124 2 = (f 2) := kq130.trans hs2_f80
              have hs3_f124 : f124 3 = (f 3) := kq131.trans hs3_f80
              have hs6_f124 : f124 6 = (f 6) := kq132.trans hs6_f80
              have hUv123 : (v123 35).toInt + (v123 36).toInt ≤ 40 := hIv123.2
              have hq0_v123 : v123 0 = (v 0) := hk0_v123.trans hq0_v80
              have zq0_v123 := congrArg Int32.toInt hq0_v123
              try clear zq0_v80
              have hq3_v123 : v123 3 = (v2 3) := hk3_v123.trans hq3_v80
              have zq3_v123 := congrArg Int32.toInt hq3_v123
              try clear zq3_v80
              have hq4_v123 : v123 4 = (v 4) := hk4_v123.trans hq4_v80
              have hq5_v123 : v123 5 = (v2 5) := hk5_v123.trans hq5_v80
              have zq5_v123 := congrArg Int32.toInt hq5_v123
              try clear zq5_v80
              have hq8_v123 : v123 8 = (v 8) := hk8_v123.trans hq8_v80
              have zq8_v123 := congrArg Int32.toInt hq8_v123
              try clear zq8_v80
              have hq9_v123 : v123 9 = (v 9) := hk9_v123.trans hq9_v80
              have zq9_v123 := congrArg Int32.toInt hq9_v123
              try clear zq9_v80
              have hq10_v123 : v123 10 = (v 10) := hk10_v123.trans hq10_v80
              have zq10_v123 := congrArg Int32.toInt hq10_v123
              try clear zq10_v80
              have hq13_v123 : v123 13 = (v 13) := hk13_v123.trans hq13_v80
              have zq13_v123 := congrArg Int32.toInt hq13_v123
              try clear zq13_v80
              have hq14_v123 : v123 14 = (v 14) := hk14_v123.trans hq14_v80
              have zq14_v123 := congrArg Int32.toInt hq14_v123
              try clear zq14_v80
              have hq15_v123 : v123 15 = (v 15) := hk15_v123.trans hq15_v80
              have zq15_v123 := congrArg Int32.toInt hq15_v123
              try clear zq15_v80
              have hq17_v123 : v123 17 = (v 17) := hk17_v123.trans hq17_v80
              have zq17_v123 := congrArg Int32.toInt hq17_v123
              try clear zq17_v80
              have hq18_v123 : v123 18 = (v 18) := hk18_v123.trans hq18_v80
              have zq18_v123 := congrArg Int32.toInt hq18_v123
              try clear zq18_v80
              have hq24_v123 : v123 24 = (v 24) := hk24_v123.trans hq24_v80
              have hq25_v123 : v123 25 = (v 25) := hk25_v123.trans hq25_v80
              have hq35_v123 : v123 35 = (v 35) := hk35_v123.trans hq35_v80
              have hq36_v123 : v123 36 = (v 36) := hk36_v123.trans hq36_v80
              have hq38_v123 : v123 38 = (v 38) := hk38_v123.trans hq38_v80
              have hq39_v123 : v123 39 = (v 39) := hk39_v123.trans hq39_v80
              have hGR : GR (v 3).toInt (v 5).toInt (v123 3).toInt (v123 5).toInt := GR.tr hGR (show GR (v80 3).toInt (v80 5).toInt (v123 3).toInt (v123 5).toInt from ⟨pv127, pv128⟩) (by first | with_reducible rfl | with_reducible assumption | rfl | omega) (by first | with_reducible rfl | with_reducible assumption | rfl | omega)
              clear pv128
              obtain ⟨t133, et133⟩ : ∃ y : Int32, y = l3_80 + 1 := ⟨_, rfl⟩
              have zt133 : t133.toInt = l3_80.toInt + 1 := (congrArg Int32.toInt et133).trans (add_i rfl tc_1 (om_41 hr3_80) (om_450 hp2 zc81))
              refine lv_iinc (v := t133) (lv' := [(3, .int t133), (0, .ref y0), (1, .int p1), (2, .int p2)]) hx hb dX11_newName_51 hl (k := 0) rfl et133.symm (Nat.le_of_ble_eq_true rfl) rfl (fun ls hl => ?_)
              refine lv_goto (tgt := 18) hx hb dX11_newName_54 rfl ?_
              have rg134 := fb_rng t133
              exact ih80 t133 v123 f124 w125 g126 hIv123 hCf124 hRf124 hq0_v123 hq3_v123 hq4_v123 hq5_v123 hq8_v123 hq9_v123 hq10_v123 hq13_v123 hq14_v123 hq15_v123 hq17_v123 hq18_v123 hq24_v123 hq25_v123 hq35_v123 hq36_v123 hq38_v123 hq39_v123 ((gsY_X11_newName_1_q12 c81 c100 et115 ej117 et118 c119 hG122 et133).symm.trans hT80) ⟨show (0 : Int) ≤ t133.toInt from om_43 hr3_80 zt133, show t133.toInt ≤ (2147483647 : Int) from om_44 rg134⟩ (by show GR (v 3).toInt (v 5).toInt (v123 3).toInt (v123 5).toInt; exact GR.cast hGR (by first | with_reducible rfl | with_reducible assumption | rfl | omega) (by first | with_reducible rfl | with_reducible assumption | rfl | omega)) hM_v123 hA_f124 hs2_f124 hs3_f124 hs6_f124 (show (2147483647 - t133.toInt).toNat < n80 from om_33 hm80 zt133 rg134) _ _ _ hP hD hS (lv_sub hl [0, 1, 2, 3] rfl)
    exact lp80 (4294967296 + NF) 0 v70 f71 w72 g73 hIv70 hCf71 hRf71 hq0_v70 hq3_v70 hq4_v70 hq5_v70 hq8_v70 hq9_v70 hq10_v70 hq13_v70 hq14_v70 hq15_v70 hq17_v70 hq18_v70 hq24_v70 hq25_v70 hq35_v70 hq36_v70 hq38_v70 hq39_v70 (gsY_X11_newName_1_q13 hG1 hG12 hG69).symm ⟨by decide, by decide⟩ (by show GR (v 3).toInt (v 5).toInt (v70 3).toInt (v70 5).toInt; exact GR.cast hGR (by first | with_reducible rfl | with_reducible assumption | rfl | omega) (by first | with_reducible rfl | with_reducible assumption | rfl | omega)) hM_v70 hA_f71 hs2_f71 hs3_f71 hs6_f71 (show (2147483647 - (0 : Int32).toInt).toNat < 4294967296 + NF from om_38 tc_0) _ _ _ hP hD hS (lv_sub hl [0, 1, 2, 3] rfl)
set_option maxHeartbeats 4000000 in
set_option maxRecDepth 100000 in
theorem sY_X11_option_1 (NF : Nat) (l : Launch) (dC : Nat → ClassId) (dI : Nat → Nat → Nat) (cy : Nat → ClassId) (y0 : Nat) (r : Nat → Nat) (j1 : Int64) (p2 : Int32) (v : Nat → Int32) (f : Nat → Nat → Int32) (w : Int64) (g : Nat → Int64) (hIv : YI v) (hCf : YC f) (hRf : progOK (f 4) (f 5) (v 9).toInt.toNat)  : ctI l (dC, dI) cy yX11_option cX11_option 4 .int 5 149 0 0 ((Nat → Int32) × (Nat → Nat → Int32) × (Int64) × (Nat → Int64)) [.ref y0, .long j1, .int p2] (YW cy y0 r v f w g) (fun r u => gsY_X11_option_1 NF j1 p2 v f w g = (r, u) ∧ KV [1, 2, 3, 5, 6, 7] u.1 v ∧ KF [] u.2.1 f ∧ YI u.1 ∧ YC u.2.1 ∧ progOK (u.2.1 4) (u.2.1 5) (u.1 9).toInt.toNat ∧ u.1 0 = v 0 ∧ u.1 4 = v 4 ∧ u.1 8 = v 8 ∧ u.1 9 = v 9 ∧ u.1 10 = v 10 ∧ u.1 13 = v 13 ∧ u.1 14 = v 14 ∧ u.1 15 = v 15 ∧ u.1 17 = v 17 ∧ u.1 18 = v 18 ∧ u.1 24 = v 24 ∧ u.1 25 = v 25 ∧ u.1 35 = v 35 ∧ u.1 36 = v 36 ∧ u.1 38 = v 38 ∧ u.1 39 = v 39 ∧ ((v 3).toInt ≤ (u.1 3).toInt) ∧ ((u.1 5).toInt = (v 5).toInt ∨ (v 3).toInt < (u.1 3).toInt ∨ ¬ (u.1 5).toInt = 59) ∧ u.2.1 2 = f 2 ∧ u.2.1 3 = f 3 ∧ u.2.1 6 = f 6) (fun u => YW cy y0 r u.1 u.2.1 u.2.2.1 u.2.2.2) := by
  refine ctI_of (by decide) (Nat.le_of_ble_eq_true rfl) (fun p e s m below meth c A ls Q hx hb hml hts hown hE hP hD hA hl ret => ?_)
  have hUv : (v 35).toInt + (v 36).toInt ≤ 40 := hIv.2
  have hM_v : KV [1, 2, 3, 5, 6, 7] v v := fun _ _ => rfl
  have hA_f : KF [] f f := fun _ _ => rfl
  have b0_v : (0 : Int) ≤ (v 0).toInt ∧ (v 0).toInt ≤ 1600 := Yb_0 hIv.1
  have b1_v : (0 : Int) ≤ (v 1).toInt ∧ (v 1).toInt ≤ 4 := Yb_1 hIv.1
  have b8_v : (0 : Int) ≤ (v 8).toInt ∧ (v 8).toInt ≤ 320 := Yb_8 hIv.1
  have b10_v : (0 : Int) ≤ (v 10).toInt ∧ (v 10).toInt ≤ 160 := Yb_10 hIv.1
  have b13_v : (0 : Int) ≤ (v 13).toInt ∧ (v 13).toInt ≤ 31 := Yb_13 hIv.1
  have b14_v : (0 : Int) ≤ (v 14).toInt ∧ (v 14).toInt ≤ 8 := Yb_14 hIv.1
  have b15_v : (0 : Int) ≤ (v 15).toInt ∧ (v 15).toInt ≤ 1 := Yb_15 hIv.1
  have b17_v : (0 : Int) ≤ (v 17).toInt ∧ (v 17).toInt ≤ 6 := Yb_17 hIv.1
  have b18_v : (0 : Int) ≤ (v 18).toInt ∧ (v 18).toInt ≤ 6 := Yb_18 hIv.1
  have hGR : GR (v 3).toInt (v 5).toInt (v 3).toInt (v 5).toInt := GR.refl _ _
  have hown : s.vm.findClass RX11 = some m.cls := hown
  have hS : va_S A s.heap s.heap [] := va_S.rf
  have hl : lv_has ls 4 [(0, .ref y0), (1, .long j1), (3, .int p2)] := hl
  refine lv_aload_n hx hb dX11_option_0 rfl (lv_at hl 0 rfl) ?_
  refine va_get (D := (dC, dI)) (ci := 11) (v := .int (v 1)) (C := RX11) (T := TX11) (N := 79) hx hb hts inB_11 hown hE.1 hP 0 rfl rfl 2 (Nat.le_of_ble_eq_true rfl) (hts _ k_1322) (fun _ h9 => h9) rfl dX11_option_1 ?_
  have b1_v : 0 ≤ (v 1).toInt ∧ (v 1).toInt ≤ 4 := Yb_1 hIv.1
  refine lv_if_ne (tgt := 24) hx hb dX11_option_4 rfl (fun c1 => ?_) (fun c1 => ?_)
  · skip
    have zc1 : ¬ ((v 1).toInt = 0) := zEn rfl tc_0 c1
    refine lv_iconst (v := 0) hx hb dX11_option_24 rfl ?_
    exact ret 0 (v, f, w, g) _ _ _ _ _ _ rfl ⟨(gsY_X11_option_1_q0 c1), hM_v, hA_f, hIv, hCf, hRf, rfl, rfl, rfl, rfl, rfl, rfl, rfl, rfl, rfl, rfl, rfl, rfl, rfl, rfl, rfl, rfl, (by show (v 3).toInt ≤ (v 3).toInt; exact (GR.cast hGR (by first | with_reducible rfl | with_reducible assumption | rfl | omega) (by first | with_reducible rfl | with_reducible assumption | rfl | omega)).1), (by show (v 5).toInt = (v 5).toInt ∨ (v 3).toInt < (v 3).toInt ∨ ¬ (v 5).toInt = 59; exact (GR.cast hGR (by first | with_reducible rfl | with_reducible assumption | rfl | omega) (by first | with_reducible rfl | with_reducible assumption | rfl | omega)).2), rfl, rfl, rfl⟩ hP hD hS dX11_option_25 (Nat.le_refl _) (Nat.le_refl _)
  · skip
    have zc1 : (v 1).toInt = 0 := zEp rfl tc_0 c1
    refine lv_aload_n hx hb dX11_option_7 rfl (lv_at hl 0 rfl) ?_
    refine lv_lload_n hx hb dX11_option_8 rfl (lv_at hl 1 rfl) ?_
    refine cbVi (n := 1) (rest := []) hx hb hml hown hts hE hP hD hS hA (sY_X11_isWord_1 NF l dC dI cy y0 r j1 v f w g hIv hCf hRf ) k_1601 k_1603 k_45 k_114 k_1604 hd_yX11_isWord ⟨Nat.le_of_ble_eq_true rfl, Nat.le_of_ble_eq_true rfl⟩ 0 11 rfl rfl (rfl) hl.1 rfl (Nat.le_of_ble_eq_true rfl) dX11_option_9 (fun r2 u H locs hw hP hD hS => ?_)
    obtain ⟨hG3, hw⟩ := hw
    rcases hw with ⟨g4, g4_0⟩ | ⟨g4⟩
    · skip
      subst g4
      refine lv_if_eq (tgt := 24) hx hb dX11_option_12 rfl (fun c0 => absurd c0 (by decide)) (fun _ => ?_)
      refine lv_aload_n hx hb dX11_option_15 rfl (lv_at hl 0 rfl) ?_
      refine lv_lload_n hx hb dX11_option_16 rfl (lv_at hl 1 rfl) ?_
      refine lv_iload_n hx hb dX11_option_17 rfl (lv_at hl 2 rfl) ?_
      refine cbVi (n := 2) (rest := []) hx hb hml hown hts hE hP hD hS hA (sY_X11_told_1 NF l dC dI cy y0 r j1 p2 v f w g hIv hCf hRf ) k_1645 k_1647 k_51 k_114 k_1648 hd_yX11_told ⟨Nat.le_of_ble_eq_true rfl, Nat.le_of_ble_eq_true rfl⟩ 0 11 rfl rfl (rfl) hl.1 rfl (Nat.le_of_ble_eq_true rfl) dX11_option_18 (fun r5 u H locs hw hP hD hS => ?_)
      obtain ⟨hG6, hw⟩ := hw
      obtain ⟨v7, f8, w9, g10⟩ := u
      obtain ⟨kV_v7, kF_f8, hIv7, hCf8, hRf8, hk0_v7, hk4_v7, hk8_v7, hk9_v7, hk10_v7, hk13_v7, hk14_v7, hk15_v7, hk17_v7, hk18_v7, hk24_v7, hk25_v7, hk35_v7, hk36_v7, hk38_v7, hk39_v7, pv11, pv12, kq13, kq14, kq15⟩ := hw
      have hM_v7 : KV [1, 2, 3, 5, 6, 7] v7 v := KV.tr kV_v7 hM_v rfl
      have hA_f8 : KF [] f8 f := KF.tr kF_f8 hA_f rfl
      have hP : va_P (dC, dI) vwCl (YW cy y0 r v7 f8 w9 g10) H := hP
      have hD : va_D A (YW cy y0 r v7 f8 w9 g10) := hD
      have b3_v7 : 0 ≤ (v7 3).toInt ∧ (v7 3).toInt ≤ 1600 := Yb_3 hIv7.1
      have pv11 : (v 3).toInt ≤ (v7 3).toInt := pv11
      have pv12 : (v7 5).toInt = (v 5).toInt ∨ (v 3).toInt < (v7 3).toInt ∨ ¬ (v7 5).toInt = 59 := pv12
      have hs2_f8 : f8 2 = (f 2) := kq13
      have hs3_f8 : f8 3 = (f 3) := kq14
      have hs6_f8 : f8 6 = (f 6) := kq15
      have hUv7 : (v7 35).toInt + (v7 36).toInt ≤ 40 := hIv7.2
      have hq0_v7 : v7 0 = (v 0) := hk0_v7
      have zq0_v7 := congrArg Int32.toInt hq0_v7
      have hq8_v7 : v7 8 = (v 8) := hk8_v7
      have zq8_v7 := congrArg Int32.toInt hq8_v7
      have hq9_v7 : v7 9 = (v 9) := hk9_v7
      have zq9_v7 := congrArg Int32.toInt hq9_v7
      have hq10_v7 : v7 10 = (v 10) := hk10_v7
      have zq10_v7 := congrArg Int32.toInt hq10_v7
      have hq13_v7 : v7 13 = (v 13) := hk13_v7
      have zq13_v7 := congrArg Int32.toInt hq13_v7
      have hq14_v7 : v7 14 = (v 14) := hk14_v7
      have zq14_v7 := congrArg Int32.toInt hq14_v7
      have hq15_v7 : v7 15 = (v 15) := hk15_v7
      have zq15_v7 := congrArg Int32.toInt hq15_v7
      have hq17_v7 : v7 17 = (v 17) := hk17_v7
      have zq17_v7 := congrArg Int32.toInt hq17_v7
      have hq18_v7 : v7 18 = (v 18) := hk18_v7
      have zq18_v7 := congrArg Int32.toInt hq18_v7
      have hGR : GR (v 3).toInt (v 5).toInt (v7 3).toInt (v7 5).toInt := GR.tr hGR (show GR (v 3).toInt (v 5).toInt (v7 3).toInt (v7 5).toInt from ⟨pv11, pv12⟩) (by first | with_reducible rfl | with_reducible assumption | rfl | omega) (by first | with_reducible rfl | with_reducible assumption | rfl | omega)
      clear pv12
      refine lv_goto (tgt := 25) hx hb dX11_option_21 rfl ?_
      exact ret r5 (v7, f8, w9, g10) _ _ _ _ _ _ rfl ⟨(gsY_X11_option_1_q1 c1 hG3 hG6), hM_v7, hA_f8, hIv7, hCf8, hRf8, hk0_v7, hk4_v7, hk8_v7, hk9_v7, hk10_v7, hk13_v7, hk14_v7, hk15_v7, hk17_v7, hk18_v7, hk24_v7, hk25_v7, hk35_v7, hk36_v7, hk38_v7, hk39_v7, (by show (v 3).toInt ≤ (v7 3).toInt; exact (GR.cast hGR (by first | with_reducible rfl | with_reducible assumption | rfl | omega) (by first | with_reducible rfl | with_reducible assumption | rfl | omega)).1), (by show (v7 5).toInt = (v 5).toInt ∨ (v 3).toInt < (v7 3).toInt ∨ ¬ (v7 5).toInt = 59; exact (GR.cast hGR (by first | with_reducible rfl | with_reducible assumption | rfl | omega) (by first | with_reducible rfl | with_reducible assumption | rfl | omega)).2), hs2_f8, hs3_f8, hs6_f8⟩ hP hD hS dX11_option_25 (Nat.le_refl _) (Nat.le_refl _)
    · skip
      subst g4
      refine lv_if_eq (tgt := 24) hx hb dX11_option_12 rfl (fun _ => ?_) (fun c0 => absurd (by decide) c0)
      refine lv_iconst (v := 0) hx hb dX11_option_24 rfl ?_
      exact ret 0 (v, f, w, g) _ _ _ _ _ _ rfl ⟨(gsY_X11_option_1_q2 c1 hG3), hM_v, hA_f, hIv, hCf, hRf, rfl, rfl, rfl, rfl, rfl, rfl, rfl, rfl, rfl, rfl, rfl, rfl, rfl, rfl, rfl, rfl, (by show (v 3).toInt ≤ (v 3).toInt; exact (GR.cast hGR (by first | with_reducible rfl | with_reducible assumption | rfl | omega) (by first | with_reducible rfl | with_reducible assumption | rfl | omega)).1), (by show (v 5).toInt = (v 5).toInt ∨ (v 3).toInt < (v 3).toInt ∨ ¬ (v 5).toInt = 59; exact (GR.cast hGR (by first | with_reducible rfl | with_reducible assumption | rfl | omega) (by first | with_reducible rfl | with_reducible assumption | rfl | omega)).2), rfl, rfl, rfl⟩ hP hD hS dX11_option_25 (Nat.le_refl _) (Nat.le_refl _)
set_option maxHeartbeats 4000000 in
set_option maxRecDepth 100000 in
theorem sY_X11_readCoat_1 (NF : Nat) (l : Launch) (dC : Nat → ClassId) (dI : Nat → Nat → Nat) (cy : Nat → ClassId) (y0 : Nat) (r : Nat → Nat)  (v : Nat → Int32) (f : Nat → Nat → Int32) (w : Int64) (g : Nat → Int64) (hIv : YI v) (hCf : YC f) (hRf : progOK (f 4) (f 5) (v 9).toInt.toNat)  (hf0 : (v 18).toInt ≤ 5) : ctV l (dC, dI) cy yX11_readCoat cX11_readCoat 1 6 172 0 0 ((Nat → Int32) × (Nat → Nat → Int32) × (Int64) × (Nat → Int64)) [.ref y0] (YW cy y0 r v f w g) (fun u => gsY_X11_readCoat_1 NF v f w g = u ∧ KV [1, 2, 3, 5, 6, 7, 18] u.1 v ∧ KF [12, 13, 14, 15] u.2.1 f ∧ YI u.1 ∧ YC u.2.1 ∧ progOK (u.2.1 4) (u.2.1 5) (u.1 9).toInt.toNat ∧ u.1 0 = v 0 ∧ u.1 4 = v 4 ∧ u.1 8 = v 8 ∧ u.1 9 = v 9 ∧ u.1 10 = v 10 ∧ u.1 13 = v 13 ∧ u.1 14 = v 14 ∧ u.1 15 = v 15 ∧ u.1 17 = v 17 ∧ u.1 24 = v 24 ∧ u.1 25 = v 25 ∧ u.1 35 = v 35 ∧ u.1 36 = v 36 ∧ u.1 38 = v 38 ∧ u.1 39 = v 39 ∧ ((v 3).toInt ≤ (u.1 3).toInt) ∧ ((u.1 5).toInt = (v 5).toInt ∨ (v 3).toInt < (u.1 3).toInt ∨ ¬ (u.1 5).toInt = 59) ∧ u.2.1 2 = f 2 ∧ u.2.1 3 = f 3 ∧ u.2.1 6 = f 6) (fun u => YW cy y0 r u.1 u.2.1 u.2.2.1 u.2.2.2) := by
  refine ctV_of (by decide) (Nat.le_of_ble_eq_true rfl) (fun p e s m below meth c A ls Q hx hb hml hts hown hnm hE hP hD hA hl ret => ?_)
  have hUv : (v 35).toInt + (v 36).toInt ≤ 40 := hIv.2
  have hM_v : KV [1, 2, 3, 5, 6, 7, 18] v v := fun _ _ => rfl
  have hA_f : KF [12, 13, 14, 15] f f := fun _ _ => rfl
  have b0_v : (0 : Int) ≤ (v 0).toInt ∧ (v 0).toInt ≤ 1600 := Yb_0 hIv.1
  have b1_v : (0 : Int) ≤ (v 1).toInt ∧ (v 1).toInt ≤ 4 := Yb_1 hIv.1
  have b8_v : (0 : Int) ≤ (v 8).toInt ∧ (v 8).toInt ≤ 320 := Yb_8 hIv.1
  have b10_v : (0 : Int) ≤ (v 10).toInt ∧ (v 10).toInt ≤ 160 := Yb_10 hIv.1
  have b13_v : (0 : Int) ≤ (v 13).toInt ∧ (v 13).toInt ≤ 31 := Yb_13 hIv.1
  have b14_v : (0 : Int) ≤ (v 14).toInt ∧ (v 14).toInt ≤ 8 := Yb_14 hIv.1
  have b15_v : (0 : Int) ≤ (v 15).toInt ∧ (v 15).toInt ≤ 1 := Yb_15 hIv.1
  have b17_v : (0 : Int) ≤ (v 17).toInt ∧ (v 17).toInt ≤ 6 := Yb_17 hIv.1
  have b18_v : (0 : Int) ≤ (v 18).toInt ∧ (v 18).toInt ≤ 6 := Yb_18 hIv.1
  have hGR : GR (v 3).toInt (v 5).toInt (v 3).toInt (v 5).toInt := GR.refl _ _
  have hown : s.vm.findClass RX11 = some m.cls := hown
  have hS : va_S A s.heap s.heap [] := va_S.rf
  have hl : lv_has ls 1 [(0, .ref y0)] := hl
  refine lv_aload_n hx hb dX11_readCoat_0 rfl (lv_at hl 0 rfl) ?_
  refine lv_bipush (v := 6) hx hb dX11_readCoat_1 rfl ?_
  refine lv_aload_n hx hb dX11_readCoat_3 rfl (lv_at hl 0 rfl) ?_
  refine va_get (D := (dC, dI)) (ci := 11) (v := .int (v 18)) (C := RX11) (T := TX11) (N := 79) hx hb hts inB_11 hown hE.1 hP 0 rfl rfl 42 (Nat.le_of_ble_eq_true rfl) (hts _ k_1362) (fun _ h9 => h9) rfl dX11_readCoat_4 ?_
  have b18_v : 0 ≤ (v 18).toInt ∧ (v 18).toInt ≤ 6 := Yb_18 hIv.1
  refine cbVv (n := 2) (rest := []) hx hb hml hown hts hE hP hD hS hA (sY_X11_newName_1 NF l dC dI cy y0 r 6 (v 18) v f w g hIv hCf hRf ⟨by decide, by decide⟩ ⟨show (0 : Int) ≤ (v 18).toInt from om_98 b18_v, show (v 18).toInt ≤ (5 : Int) from om_451 hf0⟩) k_1609 k_1611 k_47 k_114 k_1612 hd_yX11_newName ⟨Nat.le_of_ble_eq_true rfl, Nat.le_of_ble_eq_true rfl⟩ 0 11 rfl rfl (rfl) hl.1 rfl (Nat.le_of_ble_eq_true rfl) dX11_readCoat_7 (fun u H locs hw hP hD hS => ?_)
  obtain ⟨hG1, hw⟩ := hw
  obtain ⟨v2, f3, w4, g5⟩ := u
  obtain ⟨kV_v2, kF_f3, hIv2, hCf3, hRf3, hk0_v2, hk4_v2, hk8_v2, hk9_v2, hk10_v2, hk13_v2, hk14_v2, hk15_v2, hk17_v2, hk18_v2, hk24_v2, hk25_v2, hk35_v2, hk36_v2, hk38_v2, hk39_v2, pv6, pv7, kq8, kq9, kq10⟩ := hw
  have hM_v2 : KV [1, 2, 3, 5, 6, 7, 18] v2 v := KV.tr kV_v2 hM_v rfl
  have hA_f3 : KF [12, 13, 14, 15] f3 f := KF.tr kF_f3 hA_f rfl
  have hP : va_P (dC, dI) vwCl (YW cy y0 r v2 f3 w4 g5) H := hP
  have hD : va_D A (YW cy y0 r v2 f3 w4 g5) := hD
  have b3_v2 : 0 ≤ (v2 3).toInt ∧ (v2 3).toInt ≤ 1600 := Yb_3 hIv2.1
  have pv6 : (v 3).toInt ≤ (v2 3).toInt := pv6
  have pv7 : (v2 5).toInt = (v 5).toInt ∨ (v 3).toInt < (v2 3).toInt ∨ ¬ (v2 5).toInt = 59 := pv7
  have hs2_f3 : f3 2 = (f 2) := kq8
  have hs3_f3 : f3 3 = (f 3) := kq9
  have hs6_f3 : f3 6 = (f 6) := kq10
  have hUv2 : (v2 35).toInt + (v2 36).toInt ≤ 40 := hIv2.2
  have hq0_v2 : v2 0 = (v 0) := hk0_v2
  have zq0_v2 := congrArg Int32.toInt hq0_v2
  have hq8_v2 : v2 8 = (v 8) := hk8_v2
  have zq8_v2 := congrArg Int32.toInt hq8_v2
  have hq9_v2 : v2 9 = (v 9) := hk9_v2
  have zq9_v2 := congrArg Int32.toInt hq9_v2
  have hq10_v2 : v2 10 = (v 10) := hk10_v2
  have zq10_v2 := congrArg Int32.toInt hq10_v2
  have hq13_v2 : v2 13 = (v 13) := hk13_v2
  have zq13_v2 := congrArg Int32.toInt hq13_v2
  have hq14_v2 : v2 14 = (v 14) := hk14_v2
  have zq14_v2 := congrArg Int32.toInt hq14_v2
  have hq15_v2 : v2 15 = (v 15) := hk15_v2
  have zq15_v2 := congrArg Int32.toInt hq15_v2
  have hq17_v2 : v2 17 = (v 17) := hk17_v2
  have zq17_v2 := congrArg Int32.toInt hq17_v2
  have hq18_v2 : v2 18 = (v 18) := hk18_v2
  have zq18_v2 := congrArg Int32.toInt hq18_v2
  have hGR : GR (v 3).toInt (v 5).toInt (v2 3).toInt (v2 5).toInt := GR.tr hGR (show GR (v 3).toInt (v 5).toInt (v2 3).toInt (v2 5).toInt from ⟨pv6, pv7⟩) (by first | with_reducible rfl | with_reducible assumption | rfl | omega) (by first | with_reducible rfl | with_reducible assumption | rfl | omega)
  clear pv7
  refine lv_aload_n hx hb dX11_readCoat_10 rfl (lv_at hl 0 rfl) ?_
  refine va_get (D := (dC, dI)) (ci := 11) (v := .ref (r 30)) (C := RX11) (T := TX11) (N := 79) hx hb hts inB_11 hown hE.1 hP 0 rfl rfl 30 (Nat.le_of_ble_eq_true rfl) (hts _ k_1350) (fun _ h9 => h9) rfl dX11_readCoat_11 ?_
  refine lv_aload_n hx hb dX11_readCoat_14 rfl (lv_at hl 0 rfl) ?_
  refine va_get (D := (dC, dI)) (ci := 11) (v := .int (v2 18)) (C := RX11) (T := TX11) (N := 79) hx hb hts inB_11 hown hE.1 hP 0 rfl rfl 42 (Nat.le_of_ble_eq_true rfl) (hts _ k_1362) (fun _ h9 => h9) rfl dX11_readCoat_15 ?_
  refine tI (y := (v 18)) hq18_v2 ?_
  have b18_v : 0 ≤ (v 18).toInt ∧ (v 18).toInt ≤ 6 := Yb_18 hIv.1
  refine lv_aload_n hx hb dX11_readCoat_18 rfl (lv_at hl 0 rfl) ?_
  refine lv_ldc2 (v := 1952541804) hx hb hown (hts _ k_1621) dX11_readCoat_19 ?_
  refine lv_bipush (v := 99) hx hb dX11_readCoat_22 rfl ?_
  refine cbVi (n := 2) (rest := [.int (v 18), .ref (r 30)]) hx hb hml hown hts hE hP hD hS hA (sY_X11_told_1 NF l dC dI cy y0 r 1952541804 99 v2 f3 w4 g5 hIv2 hCf3 hRf3 ) k_1645 k_1647 k_51 k_114 k_1648 hd_yX11_told ⟨Nat.le_of_ble_eq_true rfl, Nat.le_of_ble_eq_true rfl⟩ 0 11 rfl rfl (rfl) hl.1 rfl (Nat.le_of_ble_eq_true rfl) dX11_readCoat_24 (fun r11 u H locs hw hP hD hS => ?_)
  obtain ⟨hG12, hw⟩ := hw
  obtain ⟨v13, f14, w15, g16⟩ := u
  obtain ⟨kV_v13, kF_f14, hIv13, hCf14, hRf14, hk0_v13, hk4_v13, hk8_v13, hk9_v13, hk10_v13, hk13_v13, hk14_v13, hk15_v13, hk17_v13, hk18_v13, hk24_v13, hk25_v13, hk35_v13, hk36_v13, hk38_v13, hk39_v13, pv17, pv18, kq19, kq20, kq21⟩ := hw
  have hM_v13 : KV [1, 2, 3, 5, 6, 7, 18] v13 v := KV.tr kV_v13 hM_v2 rfl
  have hA_f14 : KF [12, 13, 14, 15] f14 f := KF.tr kF_f14 hA_f3 rfl
  have hP : va_P (dC, dI) vwCl (YW cy y0 r v13 f14 w15 g16) H := hP
  have hD : va_D A (YW cy y0 r v13 f14 w15 g16) := hD
  have b3_v13 : 0 ≤ (v13 3).toInt ∧ (v13 3).toInt ≤ 1600 := Yb_3 hIv13.1
  have pv17 : (v2 3).toInt ≤ (v13 3).toInt := pv17
  have pv18 : (v13 5).toInt = (v2 5).toInt ∨ (v2 3).toInt < (v13 3).toInt ∨ ¬ (v13 5).toInt = 59 := pv18
  have hs2_f14 : f14 2 = (f 2) := kq19.trans hs2_f3
  have hs3_f14 : f14 3 = (f 3) := kq20.trans hs3_f3
  have hs6_f14 : f14 6 = (f 6) := kq21.trans hs6_f3
  have hUv13 : (v13 35).toInt + (v13 36).toInt ≤ 40 := hIv13.2
  have hq0_v13 : v13 0 = (v 0) := hk0_v13.trans hq0_v2
  have zq0_v13 := congrArg Int32.toInt hq0_v13
  try clear zq0_v2
  have hq8_v13 : v13 8 = (v 8) := hk8_v13.trans hq8_v2
  have zq8_v13 := congrArg Int32.toInt hq8_v13
  try clear zq8_v2
  have hq9_v13 : v13 9 = (v 9) := hk9_v13.trans hq9_v2
  have zq9_v13 := congrArg Int32.toInt hq9_v13
  try clear zq9_v2
  have hq10_v13 : v13 10 = (v 10) := hk10_v13.trans hq10_v2
  have zq10_v13 := congrArg Int32.toInt hq10_v13
  try clear zq10_v2
  have hq13_v13 : v13 13 = (v 13) := hk13_v13.trans hq13_v2
  have zq13_v13 := congrArg Int32.toInt hq13_v13
  try clear zq13_v2
  have hq14_v13 : v13 14 = (v 14) := hk14_v13.trans hq14_v2
  have zq14_v13 := congrArg Int32.toInt hq14_v13
  try clear zq14_v2
  have hq15_v13 : v13 15 = (v 15) := hk15_v13.trans hq15_v2
  have zq15_v13 := congrArg Int32.toInt hq15_v13
  try clear zq15_v2
  have hq17_v13 : v13 17 = (v 17) := hk17_v13.trans hq17_v2
  have zq17_v13 := congrArg Int32.toInt hq17_v13
  try clear zq17_v2
  have hq18_v13 : v13 18 = (v 18) := hk18_v13.trans hq18_v2
  have zq18_v13 := congrArg Int32.toInt hq18_v13
  try clear zq18_v2
  have hGR : GR (v 3).toInt (v 5).toInt (v13 3).toInt (v13 5).toInt := GR.tr hGR (show GR (v2 3).toInt (v2 5).toInt (v13 3).toInt (v13 5).toInt from ⟨pv17, pv18⟩) (by first | with_reducible rfl | with_reducible assumption | rfl | omega) (by first | with_reducible rfl | with_reducible assumption | rfl | omega)
  clear pv18
  refine stI hx hb hE hP hD hS 13 rfl (vpI (k := 6) rfl (show 0 ≤ (v 18).toInt from om_98 b18_v) (show (v 18).toInt < 6 from om_452 hf0)) rfl dX11_readCoat_27 (fun H locs hP hD hS => ?_)
  obtain ⟨f22, ef22, hP, hD⟩ : ∃ fz9, fz9 = upd2 f14 12 (upd (f14 12) (v 18).toNatClampNeg r11) ∧ va_P (dC, dI) vwCl (YW cy y0 r v13 fz9 w15 g16) H ∧ va_D A (YW cy y0 r v13 fz9 w15 g16) := ⟨_, rfl, hP, hD⟩
  have hCf22 : YC f22 := by rw [ef22]; exact hCf14
  have hRf22 : progOK (f22 4) (f22 5) (v13 9).toInt.toNat := by rw [ef22]; exact hRf14
  have hs2_f22 : f22 2 = (f 2) := by rw [ef22]; exact hs2_f14
  have hs3_f22 : f22 3 = (f 3) := by rw [ef22]; exact hs3_f14
  have hs6_f22 : f22 6 = (f 6) := by rw [ef22]; exact hs6_f14
  have hA_f22 : KF [12, 13, 14, 15] f22 f := by rw [ef22]; exact KF.up hA_f14 rfl
  refine lv_aload_n hx hb dX11_readCoat_28 rfl (lv_at hl 0 rfl) ?_
  refine va_get (D := (dC, dI)) (ci := 11) (v := .ref (r 31)) (C := RX11) (T := TX11) (N := 79) hx hb hts inB_11 hown hE.1 hP 0 rfl rfl 31 (Nat.le_of_ble_eq_true rfl) (hts _ k_1351) (fun _ h9 => h9) rfl dX11_readCoat_29 ?_
  refine lv_aload_n hx hb dX11_readCoat_32 rfl (lv_at hl 0 rfl) ?_
  refine va_get (D := (dC, dI)) (ci := 11) (v := .int (v13 18)) (C := RX11) (T := TX11) (N := 79) hx hb hts inB_11 hown hE.1 hP 0 rfl rfl 42 (Nat.le_of_ble_eq_true rfl) (hts _ k_1362) (fun _ h9 => h9) rfl dX11_readCoat_33 ?_
  refine tI (y := (v 18)) hq18_v13 ?_
  have b18_v : 0 ≤ (v 18).toInt ∧ (v 18).toInt ≤ 6 := Yb_18 hIv.1
  refine lv_aload_n hx hb dX11_readCoat_36 rfl (lv_at hl 0 rfl) ?_
  refine lv_ldc2 (v := 2003395685) hx hb hown (hts _ k_1622) dX11_readCoat_37 ?_
  refine lv_bipush (v := 99) hx hb dX11_readCoat_40 rfl ?_
  refine cbVi (n := 2) (rest := [.int (v 18), .ref (r 31)]) hx hb hml hown hts hE hP hD hS hA (sY_X11_told_1 NF l dC dI cy y0 r 2003395685 99 v13 f22 w15 g16 hIv13 hCf22 hRf22 ) k_1645 k_1647 k_51 k_114 k_1648 hd_yX11_told ⟨Nat.le_of_ble_eq_true rfl, Nat.le_of_ble_eq_true rfl⟩ 0 11 rfl rfl (rfl) hl.1 rfl (Nat.le_of_ble_eq_true rfl) dX11_readCoat_42 (fun r23 u H locs hw hP hD hS => ?_)
  obtain ⟨hG24, hw⟩ := hw
  obtain ⟨v25, f26, w27, g28⟩ := u
  obtain ⟨kV_v25, kF_f26, hIv25, hCf26, hRf26, hk0_v25, hk4_v25, hk8_v25, hk9_v25, hk10_v25, hk13_v25, hk14_v25, hk15_v25, hk17_v25, hk18_v25, hk24_v25, hk25_v25, hk35_v25, hk36_v25, hk38_v25, hk39_v25, pv29, pv30, kq31, kq32, kq33⟩ := hw
  have hM_v25 : KV [1, 2, 3, 5, 6, 7, 18] v25 v := KV.tr kV_v25 hM_v13 rfl
  have hA_f26 : KF [12, 13, 14, 15] f26 f := KF.tr kF_f26 hA_f22 rfl
  have hP : va_P (dC, dI) vwCl (YW cy y0 r v25 f26 w27 g28) H := hP
  have hD : va_D A (YW cy y0 r v25 f26 w27 g28) := hD
  have b3_v25 : 0 ≤ (v25 3).toInt ∧ (v25 3).toInt ≤ 1600 := Yb_3 hIv25.1
  have pv29 : (v13 3).toInt ≤ (v25 3).toInt := pv29
  have pv30 : (v25 5).toInt = (v13 5).toInt ∨ (v13 3).toInt < (v25 3).toInt ∨ ¬ (v25 5).toInt = 59 := pv30
  have hs2_f26 : f26 2 = (f 2) := kq31.trans hs2_f22
  have hs3_f26 : f26 3 = (f 3) := kq32.trans hs3_f22
  have hs6_f26 : f26 6 = (f 6) := kq33.trans hs6_f22
  have hUv25 : (v25 35).toInt + (v25 36).toInt ≤ 40 := hIv25.2
  have hq0_v25 : v25 0 = (v 0) := hk0_v25.trans hq0_v13
  have zq0_v25 := congrArg Int32.toInt hq0_v25
  try clear zq0_v13
  have hq8_v25 : v25 8 = (v 8) := hk8_v25.trans hq8_v13
  have zq8_v25 := congrArg Int32.toInt hq8_v25
  try clear zq8_v13
  have hq9_v25 : v25 9 = (v 9) := hk9_v25.trans hq9_v13
  have zq9_v25 := congrArg Int32.toInt hq9_v25
  try clear zq9_v13
  have hq10_v25 : v25 10 = (v 10) := hk10_v25.trans hq10_v13
  have zq10_v25 := congrArg Int32.toInt hq10_v25
  try clear zq10_v13
  have hq13_v25 : v25 13 = (v 13) := hk13_v25.trans hq13_v13
  have zq13_v25 := congrArg Int32.toInt hq13_v25
  try clear zq13_v13
  have hq14_v25 : v25 14 = (v 14) := hk14_v25.trans hq14_v13
  have zq14_v25 := congrArg Int32.toInt hq14_v25
  try clear zq14_v13
  have hq15_v25 : v25 15 = (v 15) := hk15_v25.trans hq15_v13
  have zq15_v25 := congrArg Int32.toInt hq15_v25
  try clear zq15_v13
  have hq17_v25 : v25 17 = (v 17) := hk17_v25.trans hq17_v13
  have zq17_v25 := congrArg Int32.toInt hq17_v25
  try clear zq17_v13
  have hq18_v25 : v25 18 = (v 18) := hk18_v25.trans hq18_v13
  have zq18_v25 := congrArg Int32.toInt hq18_v25
  try clear zq18_v13
  have hGR : GR (v 3).toInt (v 5).toInt (v25 3).toInt (v25 5).toInt := GR.tr hGR (show GR (v13 3).toInt (v13 5).toInt (v25 3).toInt (v25 5).toInt from ⟨pv29, pv30⟩) (by first | with_reducible rfl | with_reducible assumption | rfl | omega) (by first | with_reducible rfl | with_reducible assumption | rfl | omega)
  clear pv30
  refine stI hx hb hE hP hD hS 14 rfl (vpI (k := 6) rfl (show 0 ≤ (v 18).toInt from om_98 b18_v) (show (v 18).toInt < 6 from om_452 hf0)) rfl dX11_readCoat_45 (fun H locs hP hD hS => ?_)
  obtain ⟨f34, ef34, hP, hD⟩ : ∃ fz9, fz9 = upd2 f26 13 (upd (f26 13) (v 18).toNatClampNeg r23) ∧ va_P (dC, dI) vwCl (YW cy y0 r v25 fz9 w27 g28) H ∧ va_D A (YW cy y0 r v25 fz9 w27 g28) := ⟨_, rfl, hP, hD⟩
  have hCf34 : YC f34 := by rw [ef34]; exact hCf26
  have hRf34 : progOK (f34 4) (f34 5) (v25 9).toInt.toNat := by rw [ef34]; exact hRf26
  have hs2_f34 : f34 2 = (f 2) := by rw [ef34]; exact hs2_f26
  have hs3_f34 : f34 3 = (f 3) := by rw [ef34]; exact hs3_f26
  have hs6_f34 : f34 6 = (f 6) := by rw [ef34]; exact hs6_f26
  have hA_f34 : KF [12, 13, 14, 15] f34 f := by rw [ef34]; exact KF.up hA_f26 rfl
  refine lv_aload_n hx hb dX11_readCoat_46 rfl (lv_at hl 0 rfl) ?_
  refine va_get (D := (dC, dI)) (ci := 11) (v := .ref (r 32)) (C := RX11) (T := TX11) (N := 79) hx hb hts inB_11 hown hE.1 hP 0 rfl rfl 32 (Nat.le_of_ble_eq_true rfl) (hts _ k_1352) (fun _ h9 => h9) rfl dX11_readCoat_47 ?_
  refine lv_aload_n hx hb dX11_readCoat_50 rfl (lv_at hl 0 rfl) ?_
  refine va_get (D := (dC, dI)) (ci := 11) (v := .int (v25 18)) (C := RX11) (T := TX11) (N := 79) hx hb hts inB_11 hown hE.1 hP 0 rfl rfl 42 (Nat.le_of_ble_eq_true rfl) (hts _ k_1362) (fun _ h9 => h9) rfl dX11_readCoat_51 ?_
  refine tI (y := (v 18)) hq18_v25 ?_
  have b18_v : 0 ≤ (v 18).toInt ∧ (v 18).toInt ≤ 6 := Yb_18 hIv.1
  refine lv_aload_n hx hb dX11_readCoat_54 rfl (lv_at hl 0 rfl) ?_
  refine lv_ldc2 (v := 1936023917) hx hb hown (hts _ k_1625) dX11_readCoat_55 ?_
  refine lv_bipush (v := 20) hx hb dX11_readCoat_58 rfl ?_
  refine cbVi (n := 2) (rest := [.int (v 18), .ref (r 32)]) hx hb hml hown hts hE hP hD hS hA (sY_X11_option_1 NF l dC dI cy y0 r 1936023917 20 v25 f34 w27 g28 hIv25 hCf34 hRf34 ) k_1657 k_1659 k_54 k_114 k_1660 hd_yX11_option ⟨Nat.le_of_ble_eq_true rfl, Nat.le_of_ble_eq_true rfl⟩ 0 11 rfl rfl (rfl) hl.1 rfl (Nat.le_of_ble_eq_true rfl) dX11_readCoat_60 (fun r35 u H locs hw hP hD hS => ?_)
  obtain ⟨hG36, hw⟩ := hw
  obtain ⟨v37, f38, w39, g40⟩ := u
  obtain ⟨kV_v37, kF_f38, hIv37, hCf38, hRf38, hk0_v37, hk4_v37, hk8_v37, hk9_v37, hk10_v37, hk13_v37, hk14_v37, hk15_v37, hk17_v37, hk18_v37, hk24_v37, hk25_v37, hk35_v37, hk36_v37, hk38_v37, hk39_v37, pv41, pv42, kq43, kq44, kq45⟩ := hw
  have hM_v37 : KV [1, 2, 3, 5, 6, 7, 18] v37 v := KV.tr kV_v37 hM_v25 rfl
  have hA_f38 : KF [12, 13, 14, 15] f38 f := KF.tr kF_f38 hA_f34 rfl
  have hP : va_P (dC, dI) vwCl (YW cy y0 r v37 f38 w39 g40) H := hP
  have hD : va_D A (YW cy y0 r v37 f38 w39 g40) := hD
  have b3_v37 : 0 ≤ (v37 3).toInt ∧ (v37 3).toInt ≤ 1600 := Yb_3 hIv37.1
  have pv41 : (v25 3).toInt ≤ (v37 3).toInt := pv41
  have pv42 : (v37 5).toInt = (v25 5).toInt ∨ (v25 3).toInt < (v37 3).toInt ∨ ¬ (v37 5).toInt = 59 := pv42
  have hs2_f38 : f38 2 = (f 2) := kq43.trans hs2_f34
  have hs3_f38 : f38 3 = (f 3) := kq44.trans hs3_f34
  have hs6_f38 : f38 6 = (f 6) := kq45.trans hs6_f34
  have hUv37 : (v37 35).toInt + (v37 36).toInt ≤ 40 := hIv37.2
  have hq0_v37 : v37 0 = (v 0) := hk0_v37.trans hq0_v25
  have zq0_v37 := congrArg Int32.toInt hq0_v37
  try clear zq0_v25
  have hq8_v37 : v37 8 = (v 8) := hk8_v37.trans hq8_v25
  have zq8_v37 := congrArg Int32.toInt hq8_v37
  try clear zq8_v25
  have hq9_v37 : v37 9 = (v 9) := hk9_v37.trans hq9_v25
  have zq9_v37 := congrArg Int32.toInt hq9_v37
  try clear zq9_v25
  have hq10_v37 : v37 10 = (v 10) := hk10_v37.trans hq10_v25
  have zq10_v37 := congrArg Int32.toInt hq10_v37
  try clear zq10_v25
  have hq13_v37 : v37 13 = (v 13) := hk13_v37.trans hq13_v25
  have zq13_v37 := congrArg Int32.toInt hq13_v37
  try clear zq13_v25
  have hq14_v37 : v37 14 = (v 14) := hk14_v37.trans hq14_v25
  have zq14_v37 := congrArg Int32.toInt hq14_v37
  try clear zq14_v25
  have hq15_v37 : v37 15 = (v 15) := hk15_v37.trans hq15_v25
  have zq15_v37 := congrArg Int32.toInt hq15_v37
  try clear zq15_v25
  have hq17_v37 : v37 17 = (v 17) := hk17_v37.trans hq17_v25
  have zq17_v37 := congrArg Int32.toInt hq17_v37
  try clear zq17_v25
  have hq18_v37 : v37 18 = (v 18) := hk18_v37.trans hq18_v25
  have zq18_v37 := congrArg Int32.toInt hq18_v37
  try clear zq18_v25
  have hGR : GR (v 3).toInt (v 5).toInt (v37 3).toInt (v37 5).toInt := GR.tr hGR (show GR (v25 3).toInt (v25 5).toInt (v37 3).toInt (v37 5).toInt from ⟨pv41, pv42⟩) (by first | with_reducible rfl | with_reducible assumption | rfl | omega) (by first | with_reducible rfl | with_reducible assumption | rfl | omega)
  clear pv42
  refine stI hx hb hE hP hD hS 15 rfl (vpI (k := 6) rfl (show 0 ≤ (v 18).toInt from om_98 b18_v) (show (v 18).toInt < 6 from om_452 hf0)) rfl dX11_readCoat_63 (fun H locs hP hD hS => ?_)
  obtain ⟨f46, ef46, hP, hD⟩ : ∃ fz9, fz9 = upd2 f38 14 (upd (f38 14) (v 18).toNatClampNeg r35) ∧ va_P (dC, dI) vwCl (YW cy y0 r v37 fz9 w39 g40) H ∧ va_D A (YW cy y0 r v37 fz9 w39 g40) := ⟨_, rfl, hP, hD⟩
  have hCf46 : YC f46 := by rw [ef46]; exact hCf38
  have hRf46 : progOK (f46 4) (f46 5) (v37 9).toInt.toNat := by rw [ef46]; exact hRf38
  have hs2_f46 : f46 2 = (f 2) := by rw [ef46]; exact hs2_f38
  have hs3_f46 : f46 3 = (f 3) := by rw [ef46]; exact hs3_f38
  have hs6_f46 : f46 6 = (f 6) := by rw [ef46]; exact hs6_f38
  have hA_f46 : KF [12, 13, 14, 15] f46 f := by rw [ef46]; exact KF.up hA_f38 rfl
  refine lv_aload_n hx hb dX11_readCoat_64 rfl (lv_at hl 0 rfl) ?_
  refine va_get (D := (dC, dI)) (ci := 11) (v := .ref (r 33)) (C := RX11) (T := TX11) (N := 79) hx hb hts inB_11 hown hE.1 hP 0 rfl rfl 33 (Nat.le_of_ble_eq_true rfl) (hts _ k_1353) (fun _ h9 => h9) rfl dX11_readCoat_65 ?_
  refine lv_aload_n hx hb dX11_readCoat_68 rfl (lv_at hl 0 rfl) ?_
  refine va_get (D := (dC, dI)) (ci := 11) (v := .int (v37 18)) (C := RX11) (T := TX11) (N := 79) hx hb hts inB_11 hown hE.1 hP 0 rfl rfl 42 (Nat.le_of_ble_eq_true rfl) (hts _ k_1362) (fun _ h9 => h9) rfl dX11_readCoat_69 ?_
  refine tI (y := (v 18)) hq18_v37 ?_
  have b18_v : 0 ≤ (v 18).toInt ∧ (v 18).toInt ≤ 6 := Yb_18 hIv.1
  refine lv_aload_n hx hb dX11_readCoat_72 rfl (lv_at hl 0 rfl) ?_
  refine lv_ldc2 (v := 2003792494) hx hb hown (hts _ k_1626) dX11_readCoat_73 ?_
  refine lv_bipush (v := 99) hx hb dX11_readCoat_76 rfl ?_
  refine cbVi (n := 2) (rest := [.int (v 18), .ref (r 33)]) hx hb hml hown hts hE hP hD hS hA (sY_X11_option_1 NF l dC dI cy y0 r 2003792494 99 v37 f46 w39 g40 hIv37 hCf46 hRf46 ) k_1657 k_1659 k_54 k_114 k_1660 hd_yX11_option ⟨Nat.le_of_ble_eq_true rfl, Nat.le_of_ble_eq_true rfl⟩ 0 11 rfl rfl (rfl) hl.1 rfl (Nat.le_of_ble_eq_true rfl) dX11_readCoat_78 (fun r47 u H locs hw hP hD hS => ?_)
  obtain ⟨hG48, hw⟩ := hw
  obtain ⟨v49, f50, w51, g52⟩ := u
  obtain ⟨kV_v49, kF_f50, hIv49, hCf50, hRf50, hk0_v49, hk4_v49, hk8_v49, hk9_v49, hk10_v49, hk13_v49, hk14_v49, hk15_v49, hk17_v49, hk18_v49, hk24_v49, hk25_v49, hk35_v49, hk36_v49, hk38_v49, hk39_v49, pv53, pv54, kq55, kq56, kq57⟩ := hw
  have hM_v49 : KV [1, 2, 3, 5, 6, 7, 18] v49 v := KV.tr kV_v49 hM_v37 rfl
  have hA_f50 : KF [12, 13, 14, 15] f50 f := KF.tr kF_f50 hA_f46 rfl
  have hP : va_P (dC, dI) vwCl (YW cy y0 r v49 f50 w51 g52) H := hP
  have hD : va_D A (YW cy y0 r v49 f50 w51 g52) := hD
  have b3_v49 : 0 ≤ (v49 3).toInt ∧ (v49 3).toInt ≤ 1600 := Yb_3 hIv49.1
  have pv53 : (v37 3).toInt ≤ (v49 3).toInt := pv53
  have pv54 : (v49 5).toInt = (v37 5).toInt ∨ (v37 3).toInt < (v49 3).toInt ∨ ¬ (v49 5).toInt = 59 := pv54
  have hs2_f50 : f50 2 = (f 2) := kq55.trans hs2_f46
  have hs3_f50 : f50 3 = (f 3) := kq56.trans hs3_f46
  have hs6_f50 : f50 6 = (f 6) := kq57.trans hs6_f46
  have hUv49 : (v49 35).toInt + (v49 36).toInt ≤ 40 := hIv49.2
  have hq0_v49 : v49 0 = (v 0) := hk0_v49.trans hq0_v37
  have zq0_v49 := congrArg Int32.toInt hq0_v49
  try clear zq0_v37
  have hq8_v49 : v49 8 = (v 8) := hk8_v49.trans hq8_v37
  have zq8_v49 := congrArg Int32.toInt hq8_v49
  try clear zq8_v37
  have hq9_v49 : v49 9 = (v 9) := hk9_v49.trans hq9_v37
  have zq9_v49 := congrArg Int32.toInt hq9_v49
  try clear zq9_v37
  have hq10_v49 : v49 10 = (v 10) := hk10_v49.trans hq10_v37
  have zq10_v49 := congrArg Int32.toInt hq10_v49
  try clear zq10_v37
  have hq13_v49 : v49 13 = (v 13) := hk13_v49.trans hq13_v37
  have zq13_v49 := congrArg Int32.toInt hq13_v49
  try clear zq13_v37
  have hq14_v49 : v49 14 = (v 14) := hk14_v49.trans hq14_v37
  have zq14_v49 := congrArg Int32.toInt hq14_v49
  try clear zq14_v37
  have hq15_v49 : v49 15 = (v 15) := hk15_v49.trans hq15_v37
  have zq15_v49 := congrArg Int32.toInt hq15_v49
  try clear zq15_v37
  have hq17_v49 : v49 17 = (v 17) := hk17_v49.trans hq17_v37
  have zq17_v49 := congrArg Int32.toInt hq17_v49
  try clear zq17_v37
  have hq18_v49 : v49 18 = (v 18) := hk18_v49.trans hq18_v37
  have zq18_v49 := congrArg Int32.toInt hq18_v49
  try clear zq18_v37
  have hGR : GR (v 3).toInt (v 5).toInt (v49 3).toInt (v49 5).toInt := GR.tr hGR (show GR (v37 3).toInt (v37 5).toInt (v49 3).toInt (v49 5).toInt from ⟨pv53, pv54⟩) (by first | with_reducible rfl | with_reducible assumption | rfl | omega) (by first | with_reducible rfl | with_reducible assumption | rfl | omega)
  clear pv54
  refine stI hx hb hE hP hD hS 16 rfl (vpI (k := 6) rfl (show 0 ≤ (v 18).toInt from om_98 b18_v) (show (v 18).toInt < 6 from om_452 hf0)) rfl dX11_readCoat_81 (fun H locs hP hD hS => ?_)
  obtain ⟨f58, ef58, hP, hD⟩ : ∃ fz9, fz9 = upd2 f50 15 (upd (f50 15) (v 18).toNatClampNeg r47) ∧ va_P (dC, dI) vwCl (YW cy y0 r v49 fz9 w51 g52) H ∧ va_D A (YW cy y0 r v49 fz9 w51 g52) := ⟨_, rfl, hP, hD⟩
  have hCf58 : YC f58 := by rw [ef58]; exact hCf50
  have hRf58 : progOK (f58 4) (f58 5) (v49 9).toInt.toNat := by rw [ef58]; exact hRf50
  have hs2_f58 : f58 2 = (f 2) := by rw [ef58]; exact hs2_f50
  have hs3_f58 : f58 3 = (f 3) := by rw [ef58]; exact hs3_f50
  have hs6_f58 : f58 6 = (f 6) := by rw [ef58]; exact hs6_f50
  have hA_f58 : KF [12, 13, 14, 15] f58 f := by rw [ef58]; exact KF.up hA_f50 rfl
  refine lv_aload_n hx hb dX11_readCoat_82 rfl (lv_at hl 0 rfl) ?_
  refine va_get (D := (dC, dI)) (ci := 11) (v := .int (v49 1)) (C := RX11) (T := TX11) (N := 79) hx hb hts inB_11 hown hE.1 hP 0 rfl rfl 2 (Nat.le_of_ble_eq_true rfl) (hts _ k_1322) (fun _ h9 => h9) rfl dX11_readCoat_83 ?_
  have b1_v49 : 0 ≤ (v49 1).toInt ∧ (v49 1).toInt ≤ 4 := Yb_1 hIv49.1
  refine lv_if_ne (tgt := 99) hx hb dX11_readCoat_86 rfl (fun c59 => ?_) (fun c59 => ?_)
  · skip
    have zc59 : ¬ ((v49 1).toInt = 0) := zEn rfl tc_0 c59
    exact ret (v49, f58, w51, g52) _ _ _ _ _ _ ⟨(gsY_X11_readCoat_1_q0 hG1 hG12 ef22 hG24 ef34 hG36 ef46 hG48 ef58 c59), hM_v49, hA_f58, hIv49, hCf58, hRf58, (hk0_v49.trans (hk0_v37.trans (hk0_v25.trans (hk0_v13.trans hk0_v2)))), (hk4_v49.trans (hk4_v37.trans (hk4_v25.trans (hk4_v13.trans hk4_v2)))), (hk8_v49.trans (hk8_v37.trans (hk8_v25.trans (hk8_v13.trans hk8_v2)))), (hk9_v49.trans (hk9_v37.trans (hk9_v25.trans (hk9_v13.trans hk9_v2)))), (hk10_v49.trans (hk10_v37.trans (hk10_v25.trans (hk10_v13.trans hk10_v2)))), (hk13_v49.trans (hk13_v37.trans (hk13_v25.trans (hk13_v13.trans hk13_v2)))), (hk14_v49.trans (hk14_v37.trans (hk14_v25.trans (hk14_v13.trans hk14_v2)))), (hk15_v49.trans (hk15_v37.trans (hk15_v25.trans (hk15_v13.trans hk15_v2)))), (hk17_v49.trans (hk17_v37.trans (hk17_v25.trans (hk17_v13.trans hk17_v2)))), (hk24_v49.trans (hk24_v37.trans (hk24_v25.trans (hk24_v13.trans hk24_v2)))), (hk25_v49.trans (hk25_v37.trans (hk25_v25.trans (hk25_v13.trans hk25_v2)))), (hk35_v49.trans (hk35_v37.trans (hk35_v25.trans (hk35_v13.trans hk35_v2)))), (hk36_v49.trans (hk36_v37.trans (hk36_v25.trans (hk36_v13.trans hk36_v2)))), (hk38_v49.trans (hk38_v37.trans (hk38_v25.trans (hk38_v13.trans hk38_v2)))), (hk39_v49.trans (hk39_v37.trans (hk39_v25.trans (hk39_v13.trans hk39_v2)))), (by show (v 3).toInt ≤ (v49 3).toInt; exact (GR.cast hGR (by first | with_reducible rfl | with_reducible assumption | rfl | omega) (by first | with_reducible rfl | with_reducible assumption | rfl | omega)).1), (by show (v49 5).toInt = (v 5).toInt ∨ (v 3).toInt < (v49 3).toInt ∨ ¬ (v49 5).toInt = 59; exact (GR.cast hGR (by first | with_reducible rfl | with_reducible assumption | rfl | omega) (by first | with_reducible rfl | with_reducible assumption | rfl | omega)).2), hs2_f58, hs3_f58, hs6_f58⟩ hP hD hS dX11_readCoat_99 (Nat.le_refl _) (Nat.le_refl _)
  · skip
    have zc59 : (v49 1).toInt = 0 := zEp rfl tc_0 c59
    refine lv_aload_n hx hb dX11_readCoat_89 rfl (lv_at hl 0 rfl) ?_
    refine lv_dup hx hb dX11_readCoat_90 rfl ?_
    refine va_get (D := (dC, dI)) (ci := 11) (v := .int (v49 18)) (C := RX11) (T := TX11) (N := 79) hx hb hts inB_11 hown hE.1 hP 0 rfl rfl 42 (Nat.le_of_ble_eq_true rfl) (hts _ k_1362) (fun _ h9 => h9) rfl dX11_readCoat_91 ?_
    refine tI (y := (v 18)) hq18_v49 ?_
    have b18_v : 0 ≤ (v 18).toInt ∧ (v 18).toInt ≤ 6 := Yb_18 hIv.1
    refine lv_iconst (v := 1) hx hb dX11_readCoat_94 rfl ?_
    refine lv_iadd hx hb dX11_readCoat_95 ?_
    refine lv_topi (fun t60 et60 => ?_)
    have rg61 := fb_rng (v 18)
    have zt60 : t60.toInt = (v 18).toInt + 1 := (congrArg Int32.toInt et60).trans (add_i rfl tc_1 (om_78 b18_v) (om_453 hf0))
    refine va_put (D := (dC, dI)) (ci := 11) (v := .int t60) (ty := tyX11 42) (C := RX11) (T := TX11) (N := 79) hx hb hts inB_11 tyX11 tyX11_ok nmX11 hown hE.1 hP hD hS 0 rfl rfl 42 (Nat.le_of_ble_eq_true rfl) (hts _ k_1362) (fun _ h9 => h9) rfl (tyX11_ok 42 (Nat.le_of_ble_eq_true rfl)) rfl rfl (Nat.le_of_ble_eq_true rfl) dX11_readCoat_96 (fun H locs hP hD hS => ?_)
    have hP : va_P (dC, dI) vwCl (YW cy y0 r (upd v49 18 t60) f58 w51 g52) H := hP
    have hD : va_D A (YW cy y0 r (upd v49 18 t60) f58 w51 g52) := hD
    exact ret ((upd v49 18 t60), f58, w51, g52) _ _ _ _ _ _ ⟨(gsY_X11_readCoat_1_q1 hG1 hG12 ef22 hG24 ef34 hG36 ef46 hG48 ef58 c59 et60), (KV.up (j := 18) (x := t60) hM_v49 rfl), hA_f58, ⟨(Yu_18 (x := t60) hIv49.1 (show (0 : Int) ≤ t60.toInt from om_79 b18_v zt60) (show t60.toInt ≤ (6 : Int) from om_454 hf0 zt60)), hIv49.2⟩, hCf58, hRf58, (hk0_v49.trans (hk0_v37.trans (hk0_v25.trans (hk0_v13.trans hk0_v2)))), (hk4_v49.trans (hk4_v37.trans (hk4_v25.trans (hk4_v13.trans hk4_v2)))), (hk8_v49.trans (hk8_v37.trans (hk8_v25.trans (hk8_v13.trans hk8_v2)))), (hk9_v49.trans (hk9_v37.trans (hk9_v25.trans (hk9_v13.trans hk9_v2)))), (hk10_v49.trans (hk10_v37.trans (hk10_v25.trans (hk10_v13.trans hk10_v2)))), (hk13_v49.trans (hk13_v37.trans (hk13_v25.trans (hk13_v13.trans hk13_v2)))), (hk14_v49.trans (hk14_v37.trans (hk14_v25.trans (hk14_v13.trans hk14_v2)))), (hk15_v49.trans (hk15_v37.trans (hk15_v25.trans (hk15_v13.trans hk15_v2)))), (hk17_v49.trans (hk17_v37.trans (hk17_v25.trans (hk17_v13.trans hk17_v2)))), (hk24_v49.trans (hk24_v37.trans (hk24_v25.trans (hk24_v13.trans hk24_v2)))), (hk25_v49.trans (hk25_v37.trans (hk25_v25.trans (hk25_v13.trans hk25_v2)))), (hk35_v49.trans (hk35_v37.trans (hk35_v25.trans (hk35_v13.trans hk35_v2)))), (hk36_v49.trans (hk36_v37.trans (hk36_v25.trans (hk36_v13.trans hk36_v2)))), (hk38_v49.trans (hk38_v37.trans (hk38_v25.trans (hk38_v13.trans hk38_v2)))), (hk39_v49.trans (hk39_v37.trans (hk39_v25.trans (hk39_v13.trans hk39_v2)))), (by show (v 3).toInt ≤ (v49 3).toInt; exact (GR.cast hGR (by first | with_reducible rfl | with_reducible assumption | rfl | omega) (by first | with_reducible rfl | with_reducible assumption | rfl | omega)).1), (by show (v49 5).toInt = (v 5).toInt ∨ (v 3).toInt < (v49 3).toInt ∨ ¬ (v49 5).toInt = 59; exact (GR.cast hGR (by first | with_reducible rfl | with_reducible assumption | rfl | omega) (by first | with_reducible rfl | with_reducible assumption | rfl | omega)).2), hs2_f58, hs3_f58, hs6_f58⟩ hP hD hS dX11_readCoat_99 (Nat.le_refl _) (Nat.le_refl _)
set_option maxHeartbeats 4000000 in
set_option maxRecDepth 100000 in
theorem sY_X11_readMan_1 (NF : Nat) (l : Launch) (dC : Nat → ClassId) (dI : Nat → Nat → Nat) (cy : Nat → ClassId) (y0 : Nat) (r : Nat → Nat)  (v : Nat → Int32) (f : Nat → Nat → Int32) (w : Int64) (g : Nat → Int64) (hIv : YI v) (hCf : YC f) (hRf : progOK (f 4) (f 5) (v 9).toInt.toNat)  (hf0 : (v 17).toInt ≤ 5) : ctV l (dC, dI) cy yX11_readMan cX11_readMan 1 6 172 0 0 ((Nat → Int32) × (Nat → Nat → Int32) × (Int64) × (Nat → Int64)) [.ref y0] (YW cy y0 r v f w g) (fun u => gsY_X11_readMan_1 NF v f w g = u ∧ KV [1, 2, 3, 5, 6, 7, 17] u.1 v ∧ KF [9, 10, 11] u.2.1 f ∧ YI u.1 ∧ YC u.2.1 ∧ progOK (u.2.1 4) (u.2.1 5) (u.1 9).toInt.toNat ∧ u.1 0 = v 0 ∧ u.1 4 = v 4 ∧ u.1 8 = v 8 ∧ u.1 9 = v 9 ∧ u.1 10 = v 10 ∧ u.1 13 = v 13 ∧ u.1 14 = v 14 ∧ u.1 15 = v 15 ∧ u.1 18 = v 18 ∧ u.1 24 = v 24 ∧ u.1 25 = v 25 ∧ u.1 35 = v 35 ∧ u.1 36 = v 36 ∧ u.1 38 = v 38 ∧ u.1 39 = v 39 ∧ ((v 3).toInt ≤ (u.1 3).toInt) ∧ ((u.1 5).toInt = (v 5).toInt ∨ (v 3).toInt < (u.1 3).toInt ∨ ¬ (u.1 5).toInt = 59) ∧ u.2.1 2 = f 2 ∧ u.2.1 3 = f 3 ∧ u.2.1 6 = f 6) (fun u => YW cy y0 r u.1 u.2.1 u.2.2.1 u.2.2.2) := by
  refine ctV_of (by decide) (Nat.le_of_ble_eq_true rfl) (fun p e s m below meth c A ls Q hx hb hml hts hown hnm hE hP hD hA hl ret => ?_)
  have hUv : (v 35).toInt + (v 36).toInt ≤ 40 := hIv.2
  have hM_v : KV [1, 2, 3, 5, 6, 7, 17] v v := fun _ _ => rfl
  have hA_f : KF [9, 10, 11] f f := fun _ _ => rfl
  have b0_v : (0 : Int) ≤ (v 0).toInt ∧ (v 0).toInt ≤ 1600 := Yb_0 hIv.1
  have b1_v : (0 : Int) ≤ (v 1).toInt ∧ (v 1).toInt ≤ 4 := Yb_1 hIv.1
  have b8_v : (0 : Int) ≤ (v 8).toInt ∧ (v 8).toInt ≤ 320 := Yb_8 hIv.1
  have b10_v : (0 : Int) ≤ (v 10).toInt ∧ (v 10).toInt ≤ 160 := Yb_10 hIv.1
  have b13_v : (0 : Int) ≤ (v 13).toInt ∧ (v 13).toInt ≤ 31 := Yb_13 hIv.1
  have b14_v : (0 : Int) ≤ (v 14).toInt ∧ (v 14).toInt ≤ 8 := Yb_14 hIv.1
  have b15_v : (0 : Int) ≤ (v 15).toInt ∧ (v 15).toInt ≤ 1 := Yb_15 hIv.1
  have b17_v : (0 : Int) ≤ (v 17).toInt ∧ (v 17).toInt ≤ 6 := Yb_17 hIv.1
  have b18_v : (0 : Int) ≤ (v 18).toInt ∧ (v 18).toInt ≤ 6 := Yb_18 hIv.1
  have hGR : GR (v 3).toInt (v 5).toInt (v 3).toInt (v 5).toInt := GR.refl _ _
  have hown : s.vm.findClass RX11 = some m.cls := hown
  have hS : va_S A s.heap s.heap [] := va_S.rf
  have hl : lv_has ls 1 [(0, .ref y0)] := hl
  refine lv_aload_n hx hb dX11_readMan_0 rfl (lv_at hl 0 rfl) ?_
  refine lv_iconst (v := 0) hx hb dX11_readMan_1 rfl ?_
  refine lv_aload_n hx hb dX11_readMan_2 rfl (lv_at hl 0 rfl) ?_
  refine va_get (D := (dC, dI)) (ci := 11) (v := .int (v 17)) (C := RX11) (T := TX11) (N := 79) hx hb hts inB_11 hown hE.1 hP 0 rfl rfl 41 (Nat.le_of_ble_eq_true rfl) (hts _ k_1361) (fun _ h9 => h9) rfl dX11_readMan_3 ?_
  have b17_v : 0 ≤ (v 17).toInt ∧ (v 17).toInt ≤ 6 := Yb_17 hIv.1
  refine cbVv (n := 2) (rest := []) hx hb hml hown hts hE hP hD hS hA (sY_X11_newName_1 NF l dC dI cy y0 r 0 (v 17) v f w g hIv hCf hRf ⟨by decide, by decide⟩ ⟨show (0 : Int) ≤ (v 17).toInt from om_98 b17_v, show (v 17).toInt ≤ (5 : Int) from om_451 hf0⟩) k_1609 k_1611 k_47 k_114 k_1612 hd_yX11_newName ⟨Nat.le_of_ble_eq_true rfl, Nat.le_of_ble_eq_true rfl⟩ 0 11 rfl rfl (rfl) hl.1 rfl (Nat.le_of_ble_eq_true rfl) dX11_readMan_6 (fun u H locs hw hP hD hS => ?_)
  obtain ⟨hG1, hw⟩ := hw
  obtain ⟨v2, f3, w4, g5⟩ := u
  obtain ⟨kV_v2, kF_f3, hIv2, hCf3, hRf3, hk0_v2, hk4_v2, hk8_v2, hk9_v2, hk10_v2, hk13_v2, hk14_v2, hk15_v2, hk17_v2, hk18_v2, hk24_v2, hk25_v2, hk35_v2, hk36_v2, hk38_v2, hk39_v2, pv6, pv7, kq8, kq9, kq10⟩ := hw
  have hM_v2 : KV [1, 2, 3, 5, 6, 7, 17] v2 v := KV.tr kV_v2 hM_v rfl
  have hA_f3 : KF [9, 10, 11] f3 f := KF.tr kF_f3 hA_f rfl
  have hP : va_P (dC, dI) vwCl (YW cy y0 r v2 f3 w4 g5) H := hP
  have hD : va_D A (YW cy y0 r v2 f3 w4 g5) := hD
  have b3_v2 : 0 ≤ (v2 3).toInt ∧ (v2 3).toInt ≤ 1600 := Yb_3 hIv2.1
  have pv6 : (v 3).toInt ≤ (v2 3).toInt := pv6
  have pv7 : (v2 5).toInt = (v 5).toInt ∨ (v 3).toInt < (v2 3).toInt ∨ ¬ (v2 5).toInt = 59 := pv7
  have hs2_f3 : f3 2 = (f 2) := kq8
  have hs3_f3 : f3 3 = (f 3) := kq9
  have hs6_f3 : f3 6 = (f 6) := kq10
  have hUv2 : (v2 35).toInt + (v2 36).toInt ≤ 40 := hIv2.2
  have hq0_v2 : v2 0 = (v 0) := hk0_v2
  have zq0_v2 := congrArg Int32.toInt hq0_v2
  have hq8_v2 : v2 8 = (v 8) := hk8_v2
  have zq8_v2 := congrArg Int32.toInt hq8_v2
  have hq9_v2 : v2 9 = (v 9) := hk9_v2
  have zq9_v2 := congrArg Int32.toInt hq9_v2
  have hq10_v2 : v2 10 = (v 10) := hk10_v2
  have zq10_v2 := congrArg Int32.toInt hq10_v2
  have hq13_v2 : v2 13 = (v 13) := hk13_v2
  have zq13_v2 := congrArg Int32.toInt hq13_v2
  have hq14_v2 : v2 14 = (v 14) := hk14_v2
  have zq14_v2 := congrArg Int32.toInt hq14_v2
  have hq15_v2 : v2 15 = (v 15) := hk15_v2
  have zq15_v2 := congrArg Int32.toInt hq15_v2
  have hq17_v2 : v2 17 = (v 17) := hk17_v2
  have zq17_v2 := congrArg Int32.toInt hq17_v2
  have hq18_v2 : v2 18 = (v 18) := hk18_v2
  have zq18_v2 := congrArg Int32.toInt hq18_v2
  have hGR : GR (v 3).toInt (v 5).toInt (v2 3).toInt (v2 5).toInt := GR.tr hGR (show GR (v 3).toInt (v 5).toInt (v2 3).toInt (v2 5).toInt from ⟨pv6, pv7⟩) (by first | with_reducible rfl | with_reducible assumption | rfl | omega) (by first | with_reducible rfl | with_reducible assumption | rfl | omega)
  clear pv7
  refine lv_aload_n hx hb dX11_readMan_9 rfl (lv_at hl 0 rfl) ?_
  refine va_get (D := (dC, dI)) (ci := 11) (v := .ref (r 27)) (C := RX11) (T := TX11) (N := 79) hx hb hts inB_11 hown hE.1 hP 0 rfl rfl 27 (Nat.le_of_ble_eq_true rfl) (hts _ k_1347) (fun _ h9 => h9) rfl dX11_readMan_10 ?_
  refine lv_aload_n hx hb dX11_readMan_13 rfl (lv_at hl 0 rfl) ?_
  refine va_get (D := (dC, dI)) (ci := 11) (v := .int (v2 17)) (C := RX11) (T := TX11) (N := 79) hx hb hts inB_11 hown hE.1 hP 0 rfl rfl 41 (Nat.le_of_ble_eq_true rfl) (hts _ k_1361) (fun _ h9 => h9) rfl dX11_readMan_14 ?_
  refine tI (y := (v 17)) hq17_v2 ?_
  have b17_v : 0 ≤ (v 17).toInt ∧ (v 17).toInt ≤ 6 := Yb_17 hIv.1
  refine lv_aload_n hx hb dX11_readMan_17 rfl (lv_at hl 0 rfl) ?_
  refine lv_ldc2 (v := 1952541804) hx hb hown (hts _ k_1621) dX11_readMan_18 ?_
  refine lv_bipush (v := 99) hx hb dX11_readMan_21 rfl ?_
  refine cbVi (n := 2) (rest := [.int (v 17), .ref (r 27)]) hx hb hml hown hts hE hP hD hS hA (sY_X11_told_1 NF l dC dI cy y0 r 1952541804 99 v2 f3 w4 g5 hIv2 hCf3 hRf3 ) k_1645 k_1647 k_51 k_114 k_1648 hd_yX11_told ⟨Nat.le_of_ble_eq_true rfl, Nat.le_of_ble_eq_true rfl⟩ 0 11 rfl rfl (rfl) hl.1 rfl (Nat.le_of_ble_eq_true rfl) dX11_readMan_23 (fun r11 u H locs hw hP hD hS => ?_)
  obtain ⟨hG12, hw⟩ := hw
  obtain ⟨v13, f14, w15, g16⟩ := u
  obtain ⟨kV_v13, kF_f14, hIv13, hCf14, hRf14, hk0_v13, hk4_v13, hk8_v13, hk9_v13, hk10_v13, hk13_v13, hk14_v13, hk15_v13, hk17_v13, hk18_v13, hk24_v13, hk25_v13, hk35_v13, hk36_v13, hk38_v13, hk39_v13, pv17, pv18, kq19, kq20, kq21⟩ := hw
  have hM_v13 : KV [1, 2, 3, 5, 6, 7, 17] v13 v := KV.tr kV_v13 hM_v2 rfl
  have hA_f14 : KF [9, 10, 11] f14 f := KF.tr kF_f14 hA_f3 rfl
  have hP : va_P (dC, dI) vwCl (YW cy y0 r v13 f14 w15 g16) H := hP
  have hD : va_D A (YW cy y0 r v13 f14 w15 g16) := hD
  have b3_v13 : 0 ≤ (v13 3).toInt ∧ (v13 3).toInt ≤ 1600 := Yb_3 hIv13.1
  have pv17 : (v2 3).toInt ≤ (v13 3).toInt := pv17
  have pv18 : (v13 5).toInt = (v2 5).toInt ∨ (v2 3).toInt < (v13 3).toInt ∨ ¬ (v13 5).toInt = 59 := pv18
  have hs2_f14 : f14 2 = (f 2) := kq19.trans hs2_f3
  have hs3_f14 : f14 3 = (f 3) := kq20.trans hs3_f3
  have hs6_f14 : f14 6 = (f 6) := kq21.trans hs6_f3
  have hUv13 : (v13 35).toInt + (v13 36).toInt ≤ 40 := hIv13.2
  have hq0_v13 : v13 0 = (v 0) := hk0_v13.trans hq0_v2
  have zq0_v13 := congrArg Int32.toInt hq0_v13
  try clear zq0_v2
  have hq8_v13 : v13 8 = (v 8) := hk8_v13.trans hq8_v2
  have zq8_v13 := congrArg Int32.toInt hq8_v13
  try clear zq8_v2
  have hq9_v13 : v13 9 = (v 9) := hk9_v13.trans hq9_v2
  have zq9_v13 := congrArg Int32.toInt hq9_v13
  try clear zq9_v2
  have hq10_v13 : v13 10 = (v 10) := hk10_v13.trans hq10_v2
  have zq10_v13 := congrArg Int32.toInt hq10_v13
  try clear zq10_v2
  have hq13_v13 : v13 13 = (v 13) := hk13_v13.trans hq13_v2
  have zq13_v13 := congrArg Int32.toInt hq13_v13
  try clear zq13_v2
  have hq14_v13 : v13 14 = (v 14) := hk14_v13.trans hq14_v2
  have zq14_v13 := congrArg Int32.toInt hq14_v13
  try clear zq14_v2
  have hq15_v13 : v13 15 = (v 15) := hk15_v13.trans hq15_v2
  have zq15_v13 := congrArg Int32.toInt hq15_v13
  try clear zq15_v2
  have hq17_v13 : v13 17 = (v 17) := hk17_v13.trans hq17_v2
  have zq17_v13 := congrArg Int32.toInt hq17_v13
  try clear zq17_v2
  have hq18_v13 : v13 18 = (v 18) := hk18_v13.trans hq18_v2
  have zq18_v13 := congrArg Int32.toInt hq18_v13
  try clear zq18_v2
  have hGR : GR (v 3).toInt (v 5).toInt (v13 3).toInt (v13 5).toInt := GR.tr hGR (show GR (v2 3).toInt (v2 5).toInt (v13 3).toInt (v13 5).toInt from ⟨pv17, pv18⟩) (by first | with_reducible rfl | with_reducible assumption | rfl | omega) (by first | with_reducible rfl | with_reducible assumption | rfl | omega)
  clear pv18
  refine stI hx hb hE hP hD hS 10 rfl (vpI (k := 6) rfl (show 0 ≤ (v 17).toInt from om_98 b17_v) (show (v 17).toInt < 6 from om_452 hf0)) rfl dX11_readMan_26 (fun H locs hP hD hS => ?_)
  obtain ⟨f22, ef22, hP, hD⟩ : ∃ fz9, fz9 = upd2 f14 9 (upd (f14 9) (v 17).toNatClampNeg r11) ∧ va_P (dC, dI) vwCl (YW cy y0 r v13 fz9 w15 g16) H ∧ va_D A (YW cy y0 r v13 fz9 w15 g16) := ⟨_, rfl, hP, hD⟩
  have hCf22 : YC f22 := by rw [ef22]; exact hCf14
  have hRf22 : progOK (f22 4) (f22 5) (v13 9).toInt.toNat := by rw [ef22]; exact hRf14
  have hs2_f22 : f22 2 = (f 2) := by rw [ef22]; exact hs2_f14
  have hs3_f22 : f22 3 = (f 3) := by rw [ef22]; exact hs3_f14
  have hs6_f22 : f22 6 = (f 6) := by rw [ef22]; exact hs6_f14
  have hA_f22 : KF [9, 10, 11] f22 f := by rw [ef22]; exact KF.up hA_f14 rfl
  refine lv_aload_n hx hb dX11_readMan_27 rfl (lv_at hl 0 rfl) ?_
  refine va_get (D := (dC, dI)) (ci := 11) (v := .ref (r 28)) (C := RX11) (T := TX11) (N := 79) hx hb hts inB_11 hown hE.1 hP 0 rfl rfl 28 (Nat.le_of_ble_eq_true rfl) (hts _ k_1348) (fun _ h9 => h9) rfl dX11_readMan_28 ?_
  refine lv_aload_n hx hb dX11_readMan_31 rfl (lv_at hl 0 rfl) ?_
  refine va_get (D := (dC, dI)) (ci := 11) (v := .int (v13 17)) (C := RX11) (T := TX11) (N := 79) hx hb hts inB_11 hown hE.1 hP 0 rfl rfl 41 (Nat.le_of_ble_eq_true rfl) (hts _ k_1361) (fun _ h9 => h9) rfl dX11_readMan_32 ?_
  refine tI (y := (v 17)) hq17_v13 ?_
  have b17_v : 0 ≤ (v 17).toInt ∧ (v 17).toInt ≤ 6 := Yb_17 hIv.1
  refine lv_aload_n hx hb dX11_readMan_35 rfl (lv_at hl 0 rfl) ?_
  refine lv_ldc2 (v := 2003395685) hx hb hown (hts _ k_1622) dX11_readMan_36 ?_
  refine lv_bipush (v := 99) hx hb dX11_readMan_39 rfl ?_
  refine cbVi (n := 2) (rest := [.int (v 17), .ref (r 28)]) hx hb hml hown hts hE hP hD hS hA (sY_X11_told_1 NF l dC dI cy y0 r 2003395685 99 v13 f22 w15 g16 hIv13 hCf22 hRf22 ) k_1645 k_1647 k_51 k_114 k_1648 hd_yX11_told ⟨Nat.le_of_ble_eq_true rfl, Nat.le_of_ble_eq_true rfl⟩ 0 11 rfl rfl (rfl) hl.1 rfl (Nat.le_of_ble_eq_true rfl) dX11_readMan_41 (fun r23 u H locs hw hP hD hS => ?_)
  obtain ⟨hG24, hw⟩ := hw
  obtain ⟨v25, f26, w27, g28⟩ := u
  obtain ⟨kV_v25, kF_f26, hIv25, hCf26, hRf26, hk0_v25, hk4_v25, hk8_v25, hk9_v25, hk10_v25, hk13_v25, hk14_v25, hk15_v25, hk17_v25, hk18_v25, hk24_v25, hk25_v25, hk35_v25, hk36_v25, hk38_v25, hk39_v25, pv29, pv30, kq31, kq32, kq33⟩ := hw
  have hM_v25 : KV [1, 2, 3, 5, 6, 7, 17] v25 v := KV.tr kV_v25 hM_v13 rfl
  have hA_f26 : KF [9, 10, 11] f26 f := KF.tr kF_f26 hA_f22 rfl
  have hP : va_P (dC, dI) vwCl (YW cy y0 r v25 f26 w27 g28) H := hP
  have hD : va_D A (YW cy y0 r v25 f26 w27 g28) := hD
  have b3_v25 : 0 ≤ (v25 3).toInt ∧ (v25 3).toInt ≤ 1600 := Yb_3 hIv25.1
  have pv29 : (v13 3).toInt ≤ (v25 3).toInt := pv29
  have pv30 : (v25 5).toInt = (v13 5).toInt ∨ (v13 3).toInt < (v25 3).toInt ∨ ¬ (v25 5).toInt = 59 := pv30
  have hs2_f26 : f26 2 = (f 2) := kq31.trans hs2_f22
  have hs3_f26 : f26 3 = (f 3) := kq32.trans hs3_f22
  have hs6_f26 : f26 6 = (f 6) := kq33.trans hs6_f22
  have hUv25 : (v25 35).toInt + (v25 36).toInt ≤ 40 := hIv25.2
  have hq0_v25 : v25 0 = (v 0) := hk0_v25.trans hq0_v13
  have zq0_v25 := congrArg Int32.toInt hq0_v25
  try clear zq0_v13
  have hq8_v25 : v25 8 = (v 8) := hk8_v25.trans hq8_v13
  have zq8_v25 := congrArg Int32.toInt hq8_v25
  try clear zq8_v13
  have hq9_v25 : v25 9 = (v 9) := hk9_v25.trans hq9_v13
  have zq9_v25 := congrArg Int32.toInt hq9_v25
  try clear zq9_v13
  have hq10_v25 : v25 10 = (v 10) := hk10_v25.trans hq10_v13
  have zq10_v25 := congrArg Int32.toInt hq10_v25
  try clear zq10_v13
  have hq13_v25 : v25 13 = (v 13) := hk13_v25.trans hq13_v13
  have zq13_v25 := congrArg Int32.toInt hq13_v25
  try clear zq13_v13
  have hq14_v25 : v25 14 = (v 14) := hk14_v25.trans hq14_v13
  have zq14_v25 := congrArg Int32.toInt hq14_v25
  try clear zq14_v13
  have hq15_v25 : v25 15 = (v 15) := hk15_v25.trans hq15_v13
  have zq15_v25 := congrArg Int32.toInt hq15_v25
  try clear zq15_v13
  have hq17_v25 : v25 17 = (v 17) := hk17_v25.trans hq17_v13
  have zq17_v25 := congrArg Int32.toInt hq17_v25
  try clear zq17_v13
  have hq18_v25 : v25 18 = (v 18) := hk18_v25.trans hq18_v13
  have zq18_v25 := congrArg Int32.toInt hq18_v25
  try clear zq18_v13
  have hGR : GR (v 3).toInt (v 5).toInt (v25 3).toInt (v25 5).toInt := GR.tr hGR (show GR (v13 3).toInt (v13 5).toInt (v25 3).toInt (v25 5).toInt from ⟨pv29, pv30⟩) (by first | with_reducible rfl | with_reducible assumption | rfl | omega) (by first | with_reducible rfl | with_reducible assumption | rfl | omega)
  clear pv30
  refine stI hx hb hE hP hD hS 11 rfl (vpI (k := 6) rfl (show 0 ≤ (v 17).toInt from om_98 b17_v) (show (v 17).toInt < 6 from om_452 hf0)) rfl dX11_readMan_44 (fun H locs hP hD hS => ?_)
  obtain ⟨f34, ef34, hP, hD⟩ : ∃ fz9, fz9 = upd2 f26 10 (upd (f26 10) (v 17).toNatClampNeg r23) ∧ va_P (dC, dI) vwCl (YW cy y0 r v25 fz9 w27 g28) H ∧ va_D A (YW cy y0 r v25 fz9 w27 g28) := ⟨_, rfl, hP, hD⟩
  have hCf34 : YC f34 := by rw [ef34]; exact hCf26
  have hRf34 : progOK (f34 4) (f34 5) (v25 9).toInt.toNat := by rw [ef34]; exact hRf26
  have hs2_f34 : f34 2 = (f 2) := by rw [ef34]; exact hs2_f26
  have hs3_f34 : f34 3 = (f 3) := by rw [ef34]; exact hs3_f26
  have hs6_f34 : f34 6 = (f 6) := by rw [ef34]; exact hs6_f26
  have hA_f34 : KF [9, 10, 11] f34 f := by rw [ef34]; exact KF.up hA_f26 rfl
  refine lv_aload_n hx hb dX11_readMan_45 rfl (lv_at hl 0 rfl) ?_
  refine va_get (D := (dC, dI)) (ci := 11) (v := .ref (r 29)) (C := RX11) (T := TX11) (N := 79) hx hb hts inB_11 hown hE.1 hP 0 rfl rfl 29 (Nat.le_of_ble_eq_true rfl) (hts _ k_1349) (fun _ h9 => h9) rfl dX11_readMan_46 ?_
  refine lv_aload_n hx hb dX11_readMan_49 rfl (lv_at hl 0 rfl) ?_
  refine va_get (D := (dC, dI)) (ci := 11) (v := .int (v25 17)) (C := RX11) (T := TX11) (N := 79) hx hb hts inB_11 hown hE.1 hP 0 rfl rfl 41 (Nat.le_of_ble_eq_true rfl) (hts _ k_1361) (fun _ h9 => h9) rfl dX11_readMan_50 ?_
  refine tI (y := (v 17)) hq17_v25 ?_
  have b17_v : 0 ≤ (v 17).toInt ∧ (v 17).toInt ≤ 6 := Yb_17 hIv.1
  refine lv_aload_n hx hb dX11_readMan_53 rfl (lv_at hl 0 rfl) ?_
  refine lv_ldc2 (v := 444301539187) hx hb hown (hts _ k_1623) dX11_readMan_54 ?_
  refine lv_bipush (v := 9) hx hb dX11_readMan_57 rfl ?_
  refine cbVi (n := 2) (rest := [.int (v 17), .ref (r 29)]) hx hb hml hown hts hE hP hD hS hA (sY_X11_option_1 NF l dC dI cy y0 r 444301539187 9 v25 f34 w27 g28 hIv25 hCf34 hRf34 ) k_1657 k_1659 k_54 k_114 k_1660 hd_yX11_option ⟨Nat.le_of_ble_eq_true rfl, Nat.le_of_ble_eq_true rfl⟩ 0 11 rfl rfl (rfl) hl.1 rfl (Nat.le_of_ble_eq_true rfl) dX11_readMan_59 (fun r35 u H locs hw hP hD hS => ?_)
  obtain ⟨hG36, hw⟩ := hw
  obtain ⟨v37, f38, w39, g40⟩ := u
  obtain ⟨kV_v37, kF_f38, hIv37, hCf38, hRf38, hk0_v37, hk4_v37, hk8_v37, hk9_v37, hk10_v37, hk13_v37, hk14_v37, hk15_v37, hk17_v37, hk18_v37, hk24_v37, hk25_v37, hk35_v37, hk36_v37, hk38_v37, hk39_v37, pv41, pv42, kq43, kq44, kq45⟩ := hw
  have hM_v37 : KV [1, 2, 3, 5, 6, 7, 17] v37 v := KV.tr kV_v37 hM_v25 rfl
  have hA_f38 : KF [9, 10, 11] f38 f := KF.tr kF_f38 hA_f34 rfl
  have hP : va_P (dC, dI) vwCl (YW cy y0 r v37 f38 w39 g40) H := hP
  have hD : va_D A (YW cy y0 r v37 f38 w39 g40) := hD
  have b3_v37 : 0 ≤ (v37 3).toInt ∧ (v37 3).toInt ≤ 1600 := Yb_3 hIv37.1
  have pv41 : (v25 3).toInt ≤ (v37 3).toInt := pv41
  have pv42 : (v37 5).toInt = (v25 5).toInt ∨ (v25 3).toInt < (v37 3).toInt ∨ ¬ (v37 5).toInt = 59 := pv42
  have hs2_f38 : f38 2 = (f 2) := kq43.trans hs2_f34
  have hs3_f38 : f38 3 = (f 3) := kq44.trans hs3_f34
  have hs6_f38 : f38 6 = (f 6) := kq45.trans hs6_f34
  have hUv37 : (v37 35).toInt + (v37 36).toInt ≤ 40 := hIv37.2
  have hq0_v37 : v37 0 = (v 0) := hk0_v37.trans hq0_v25
  have zq0_v37 := congrArg Int32.toInt hq0_v37
  try clear zq0_v25
  have hq8_v37 : v37 8 = (v 8) := hk8_v37.trans hq8_v25
  have zq8_v37 := congrArg Int32.toInt hq8_v37
  try clear zq8_v25
  have hq9_v37 : v37 9 = (v 9) := hk9_v37.trans hq9_v25
  have zq9_v37 := congrArg Int32.toInt hq9_v37
  try clear zq9_v25
  have hq10_v37 : v37 10 = (v 10) := hk10_v37.trans hq10_v25
  have zq10_v37 := congrArg Int32.toInt hq10_v37
  try clear zq10_v25
  have hq13_v37 : v37 13 = (v 13) := hk13_v37.trans hq13_v25
  have zq13_v37 := congrArg Int32.toInt hq13_v37
  try clear zq13_v25
  have hq14_v37 : v37 14 = (v 14) := hk14_v37.trans hq14_v25
  have zq14_v37 := congrArg Int32.toInt hq14_v37
  try clear zq14_v25
  have hq15_v37 : v37 15 = (v 15) := hk15_v37.trans hq15_v25
  have zq15_v37 := congrArg Int32.toInt hq15_v37
  try clear zq15_v25
  have hq17_v37 : v37 17 = (v 17) := hk17_v37.trans hq17_v25
  have zq17_v37 := congrArg Int32.toInt hq17_v37
  try clear zq17_v25
  have hq18_v37 : v37 18 = (v 18) := hk18_v37.trans hq18_v25
  have zq18_v37 := congrArg Int32.toInt hq18_v37
  try clear zq18_v25
  have hGR : GR (v 3).toInt (v 5).toInt (v37 3).toInt (v37 5).toInt := GR.tr hGR (show GR (v25 3).toInt (v25 5).toInt (v37 3).toInt (v37 5).toInt from ⟨pv41, pv42⟩) (by first | with_reducible rfl | with_reducible assumption | rfl | omega) (by first | with_reducible rfl | with_reducible assumption | rfl | omega)
  clear pv42
  refine stI hx hb hE hP hD hS 12 rfl (vpI (k := 6) rfl (show 0 ≤ (v 17).toInt from om_98 b17_v) (show (v 17).toInt < 6 from om_452 hf0)) rfl dX11_readMan_62 (fun H locs hP hD hS => ?_)
  obtain ⟨f46, ef46, hP, hD⟩ : ∃ fz9, fz9 = upd2 f38 11 (upd (f38 11) (v 17).toNatClampNeg r35) ∧ va_P (dC, dI) vwCl (YW cy y0 r v37 fz9 w39 g40) H ∧ va_D A (YW cy y0 r v37 fz9 w39 g40) := ⟨_, rfl, hP, hD⟩
  have hCf46 : YC f46 := by rw [ef46]; exact hCf38
  have hRf46 : progOK (f46 4) (f46 5) (v37 9).toInt.toNat := by rw [ef46]; exact hRf38
  have hs2_f46 : f46 2 = (f 2) := by rw [ef46]; exact hs2_f38
  have hs3_f46 : f46 3 = (f 3) := by rw [ef46]; exact hs3_f38
  have hs6_f46 : f46 6 = (f 6) := by rw [ef46]; exact hs6_f38
  have hA_f46 : KF [9, 10, 11] f46 f := by rw [ef46]; exact KF.up hA_f38 rfl
  refine lv_aload_n hx hb dX11_readMan_63 rfl (lv_at hl 0 rfl) ?_
  refine va_get (D := (dC, dI)) (ci := 11) (v := .int (v37 1)) (C := RX11) (T := TX11) (N := 79) hx hb hts inB_11 hown hE.1 hP 0 rfl rfl 2 (Nat.le_of_ble_eq_true rfl) (hts _ k_1322) (fun _ h9 => h9) rfl dX11_readMan_64 ?_
  have b1_v37 : 0 ≤ (v37 1).toInt ∧ (v37 1).toInt ≤ 4 := Yb_1 hIv37.1
  refine lv_if_ne (tgt := 80) hx hb dX11_readMan_67 rfl (fun c47 => ?_) (fun c47 => ?_)
  · skip
    have zc47 : ¬ ((v37 1).toInt = 0) := zEn rfl tc_0 c47
    exact ret (v37, f46, w39, g40) _ _ _ _ _ _ ⟨(gsY_X11_readMan_1_q0 hG1 hG12 ef22 hG24 ef34 hG36 ef46 c47), hM_v37, hA_f46, hIv37, hCf46, hRf46, (hk0_v37.trans (hk0_v25.trans (hk0_v13.trans hk0_v2))), (hk4_v37.trans (hk4_v25.trans (hk4_v13.trans hk4_v2))), (hk8_v37.trans (hk8_v25.trans (hk8_v13.trans hk8_v2))), (hk9_v37.trans (hk9_v25.trans (hk9_v13.trans hk9_v2))), (hk10_v37.trans (hk10_v25.trans (hk10_v13.trans hk10_v2))), (hk13_v37.trans (hk13_v25.trans (hk13_v13.trans hk13_v2))), (hk14_v37.trans (hk14_v25.trans (hk14_v13.trans hk14_v2))), (hk15_v37.trans (hk15_v25.trans (hk15_v13.trans hk15_v2))), (hk18_v37.trans (hk18_v25.trans (hk18_v13.trans hk18_v2))), (hk24_v37.trans (hk24_v25.trans (hk24_v13.trans hk24_v2))), (hk25_v37.trans (hk25_v25.trans (hk25_v13.trans hk25_v2))), (hk35_v37.trans (hk35_v25.trans (hk35_v13.trans hk35_v2))), (hk36_v37.trans (hk36_v25.trans (hk36_v13.trans hk36_v2))), (hk38_v37.trans (hk38_v25.trans (hk38_v13.trans hk38_v2))), (hk39_v37.trans (hk39_v25.trans (hk39_v13.trans hk39_v2))), (by show (v 3).toInt ≤ (v37 3).toInt; exact (GR.cast hGR (by first | with_reducible rfl | with_reducible assumption | rfl | omega) (by first | with_reducible rfl | with_reducible assumption | rfl | omega)).1), (by show (v37 5).toInt = (v 5).toInt ∨ (v 3).toInt < (v37 3).toInt ∨ ¬ (v37 5).toInt = 59; exact (GR.cast hGR (by first | with_reducible rfl | with_reducible assumption | rfl | omega) (by first | with_reducible rfl | with_reducible assumption | rfl | omega)).2), hs2_f46, hs3_f46, hs6_f46⟩ hP hD hS dX11_readMan_80 (Nat.le_refl _) (Nat.le_refl _)
  · skip
    have zc47 : (v37 1).toInt = 0 := zEp rfl tc_0 c47
    refine lv_aload_n hx hb dX11_readMan_70 rfl (lv_at hl 0 rfl) ?_
    refine lv_dup hx hb dX11_readMan_71 rfl ?_
    refine va_get (D := (dC, dI)) (ci := 11) (v := .int (v37 17)) (C := RX11) (T := TX11) (N := 79) hx hb hts inB_11 hown hE.1 hP 0 rfl rfl 41 (Nat.le_of_ble_eq_true rfl) (hts _ k_1361) (fun _ h9 => h9) rfl dX11_readMan_72 ?_
    refine tI (y := (v 17)) hq17_v37 ?_
    have b17_v : 0 ≤ (v 17).toInt ∧ (v 17).toInt ≤ 6 := Yb_17 hIv.1
    refine lv_iconst (v := 1) hx hb dX11_readMan_75 rfl ?_
    refine lv_iadd hx hb dX11_readMan_76 ?_
    refine lv_topi (fun t48 et48 => ?_)
    have rg49 := fb_rng (v 17)
    have zt48 : t48.toInt = (v 17).toInt + 1 := (congrArg Int32.toInt et48).trans (add_i rfl tc_1 (om_78 b17_v) (om_453 hf0))
    refine va_put (D := (dC, dI)) (ci := 11) (v := .int t48) (ty := tyX11 41) (C := RX11) (T := TX11) (N := 79) hx hb hts inB_11 tyX11 tyX11_ok nmX11 hown hE.1 hP hD hS 0 rfl rfl 41 (Nat.le_of_ble_eq_true rfl) (hts _ k_1361) (fun _ h9 => h9) rfl (tyX11_ok 41 (Nat.le_of_ble_eq_true rfl)) rfl rfl (Nat.le_of_ble_eq_true rfl) dX11_readMan_77 (fun H locs hP hD hS => ?_)
    have hP : va_P (dC, dI) vwCl (YW cy y0 r (upd v37 17 t48) f46 w39 g40) H := hP
    have hD : va_D A (YW cy y0 r (upd v37 17 t48) f46 w39 g40) := hD
    exact ret ((upd v37 17 t48), f46, w39, g40) _ _ _ _ _ _ ⟨(gsY_X11_readMan_1_q1 hG1 hG12 ef22 hG24 ef34 hG36 ef46 c47 et48), (KV.up (j := 17) (x := t48) hM_v37 rfl), hA_f46, ⟨(Yu_17 (x := t48) hIv37.1 (show (0 : Int) ≤ t48.toInt from om_79 b17_v zt48) (show t48.toInt ≤ (6 : Int) from om_454 hf0 zt48)), hIv37.2⟩, hCf46, hRf46, (hk0_v37.trans (hk0_v25.trans (hk0_v13.trans hk0_v2))), (hk4_v37.trans (hk4_v25.trans (hk4_v13.trans hk4_v2))), (hk8_v37.trans (hk8_v25.trans (hk8_v13.trans hk8_v2))), (hk9_v37.trans (hk9_v25.trans (hk9_v13.trans hk9_v2))), (hk10_v37.trans (hk10_v25.trans (hk10_v13.trans hk10_v2))), (hk13_v37.trans (hk13_v25.trans (hk13_v13.trans hk13_v2))), (hk14_v37.trans (hk14_v25.trans (hk14_v13.trans hk14_v2))), (hk15_v37.trans (hk15_v25.trans (hk15_v13.trans hk15_v2))), (hk18_v37.trans (hk18_v25.trans (hk18_v13.trans hk18_v2))), (hk24_v37.trans (hk24_v25.trans (hk24_v13.trans hk24_v2))), (hk25_v37.trans (hk25_v25.trans (hk25_v13.trans hk25_v2))), (hk35_v37.trans (hk35_v25.trans (hk35_v13.trans hk35_v2))), (hk36_v37.trans (hk36_v25.trans (hk36_v13.trans hk36_v2))), (hk38_v37.trans (hk38_v25.trans (hk38_v13.trans hk38_v2))), (hk39_v37.trans (hk39_v25.trans (hk39_v13.trans hk39_v2))), (by show (v 3).toInt ≤ (v37 3).toInt; exact (GR.cast hGR (by first | with_reducible rfl | with_reducible assumption | rfl | omega) (by first | with_reducible rfl | with_reducible assumption | rfl | omega)).1), (by show (v37 5).toInt = (v 5).toInt ∨ (v 3).toInt < (v37 3).toInt ∨ ¬ (v37 5).toInt = 59; exact (GR.cast hGR (by first | with_reducible rfl | with_reducible assumption | rfl | omega) (by first | with_reducible rfl | with_reducible assumption | rfl | omega)).2), hs2_f46, hs3_f46, hs6_f46⟩ hP hD hS dX11_readMan_80 (Nat.le_refl _) (Nat.le_refl _)
