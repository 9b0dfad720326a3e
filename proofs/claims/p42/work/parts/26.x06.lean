set_option maxHeartbeats 4000000 in
set_option maxRecDepth 100000 in
theorem sX_X0_painted_1 (l : Launch) (dC : Nat → ClassId) (dI : Nat → Nat → Nat) (cy : Nat → ClassId) (x0 : Nat) (x : Nat → Nat) (p2 : Int32) (v : Nat → Int32) (f : Nat → Nat → Int32) (hIv : XI v)  : ctI l (dC, dI) cy yX0_painted cX0_painted 4 .boolean 9 243 0 0 ((Nat → Int32) × (Nat → Nat → Int32)) [.ref (x 31), .int 0, .int p2] (XW cy x0 x v f) (fun r u => XI u.1 ∧ u.1 0 = v 0 ∧ u.1 1 = v 1 ∧ u.1 9 = v 9 ∧ u.1 10 = v 10 ∧ u.1 31 = v 31 ∧ u.1 32 = v 32 ∧ ((r = 1) ∨ (r = 0))) (fun u => XW cy x0 x u.1 u.2) := by
  refine ctI_of (by decide) (Nat.le_of_ble_eq_true rfl) (fun p e s m below meth c A ls Q hx hb hml hts hown hE hP hD hA hl ret => ?_)
  have hown : s.vm.findClass RX0 = some m.cls := hown
  have hS : va_S A s.heap s.heap [] := va_S.rf
  have hl : lv_has ls 4 [(0, .ref (x 31)), (1, .int 0), (2, .int p2)] := hl
  refine lv_iload_n hx hb dX0_painted_0 rfl (lv_at hl 1 rfl) ?_
  refine lv_aload_n hx hb dX0_painted_1 rfl (lv_at hl 0 rfl) ?_
  refine va_get (D := (dC, dI)) (ci := 0) (v := .ref (x 26)) (C := RX0) (T := TX0) (N := 8) hx hb hts inB_0 hown hE.1 hP 32 rfl rfl 0 (by decide) (hts _ k_430) (fun _ h9 => h9) rfl dX0_painted_2 ?_
  refine va_getN (D := (dC, dI)) (ci := 7) (v := .int (v 31)) (C := RX7) (T := TX7) (N := 10) hx hb hts inB_7 hown hE.1 hP 27 rfl rfl 3 (by decide) (va_Nw.use rfl (hE.2 _ k_216)) (fun _ h9 => h9) rfl dX0_painted_5 ?_
  have b31_v : 0 ≤ (v 31).toInt ∧ (v 31).toInt ≤ 6 := XI.b hIv 31 (by decide)
  refine lv_icmp_ge (tgt := 17) hx hb dX0_painted_8 (by decide) (fun c1 => ?_) (fun c1 => ?_)
  · skip
    have zc1 : (v 31).toInt ≤ 0 := by rw [fa_le, show (0 : Int32).toInt = 0 from by decide] at c1; exact c1
    refine lv_iconst (v := 1) hx hb dX0_painted_17 (by decide) ?_
    exact ret 1 (v, f) _ _ _ _ _ _ rfl ⟨hIv, rfl, rfl, rfl, rfl, rfl, rfl, (Or.inl ⟨rfl⟩)⟩ hP hD hS dX0_painted_18 (Nat.le_refl _) (Nat.le_refl _)
  · skip
    have zc1 : ¬ ((v 31).toInt ≤ 0) := by rw [fa_le, show (0 : Int32).toInt = 0 from by decide] at c1; exact c1
    refine lv_iload_n hx hb dX0_painted_11 rfl (lv_at hl 1 rfl) ?_
    refine lv_bipush (v := 6) hx hb dX0_painted_12 (by decide) ?_
    refine lv_icmp_lt (tgt := 19) hx hb dX0_painted_14 (by decide) (fun _ => ?_) (fun c0 => absurd (by decide) c0)
    refine lv_iconst (v := 0) hx hb dX0_painted_19 (by decide) ?_
    refine lv_istore_n (lv' := [(3, .int 0), (0, .ref (x 31)), (1, .int 0), (2, .int p2)]) hx hb dX0_painted_20 rfl hl (by decide) rfl (fun ls hl => ?_)
    have lp2 : ∀ (n : Nat) (l3_2 : Int32) (v2 : Nat → Int32) (f2 : Nat → Nat → Int32), XI v2 → v2 0 = (v 0) → v2 1 = (v 1) → v2 9 = (v 9) → v2 10 = (v 10) → v2 31 = (v 31) → v2 32 = (v 32) → (2147483647 - l3_2.toInt).toNat < n → ∀ (H : Heap) (locs : List Loc) (ls : Array Slot), va_P (dC, dI) vwCl (XW cy x0 x v2 f2) H → va_D A (XW cy x0 x v2 f2) → va_S A s.heap H locs → lv_has ls 4 [(3, .int l3_2), (0, .ref (x 31)), (1, .int 0), (2, .int p2)] → W p l e { frames := 9, cells := 0, slots := 0, locals := 243 } s m ([.ref (x 31), .int 0, .int p2] : List Value).toArray below meth c H locs 0 0 Q (F0 m 21 ls []) := by
      intro n
      induction n with
      | zero => intro l3_2 v2 f2 hIv2 hq0_v2 hq1_v2 hq9_v2 hq10_v2 hq31_v2 hq32_v2 hm; exact absurd hm (Nat.not_lt_zero _)
      | succ n ih2 =>
        intro l3_2 v2 f2 hIv2 hq0_v2 hq1_v2 hq9_v2 hq10_v2 hq31_v2 hq32_v2 hm2 H locs ls hP hD hS hl
        refine lv_iload_n hx hb dX0_painted_21 rfl (lv_at hl 0 rfl) ?_
        refine lv_iload_n hx hb dX0_painted_22 rfl (lv_at hl 3 rfl) ?_
        refine lv_icmp_ge (tgt := 64) hx hb dX0_painted_23 (by decide) (fun c3 => ?_) (fun c3 => ?_)
        · skip
          have zc3 : p2.toInt ≤ l3_2.toInt := by rw [fa_le] at c3; exact c3
          refine lv_iconst (v := 0) hx hb dX0_painted_64 (by decide) ?_
          exact ret 0 (v2, f2) _ _ _ _ _ _ rfl ⟨hIv2, (show v2 0 = v 0 from hq0_v2), (show v2 1 = v 1 from hq1_v2), (show v2 9 = v 9 from hq9_v2), (show v2 10 = v 10 from hq10_v2), (show v2 31 = v 31 from hq31_v2), (show v2 32 = v 32 from hq32_v2), (Or.inr ⟨rfl⟩)⟩ hP hD hS dX0_painted_65 (Nat.le_refl _) (Nat.le_refl _)
        · skip
          have zc3 : ¬ (p2.toInt ≤ l3_2.toInt) := by rw [fa_le] at c3; exact c3
          refine lv_aload_n hx hb dX0_painted_26 rfl (lv_at hl 1 rfl) ?_
          refine lv_iload_n hx hb dX0_painted_27 rfl (lv_at hl 2 rfl) ?_
          refine lv_iload_n hx hb dX0_painted_28 rfl (lv_at hl 0 rfl) ?_
          refine cbVi (n := 2) (rest := []) hx hb hml hown hts hE hP hD hS hA (sX_X0_isClear_1 l dC dI cy x0 x 0 l3_2 v2 f2 hIv2 ) k_1123 k_1125 k_34 k_111 k_1126 (by decide +kernel) ⟨Nat.le_of_ble_eq_true rfl, Nat.le_of_ble_eq_true rfl⟩ 32 0 rfl rfl (rfl) hl.1 rfl (Nat.le_of_ble_eq_true rfl) dX0_painted_29 (fun r4 u H locs hw hP hD hS => ?_)
          rcases hw with ⟨g5⟩ | ⟨g5⟩
          · skip
            subst g5
            refine lv_if_eq (tgt := 58) hx hb dX0_painted_32 (by decide) (fun c0 => absurd c0 (by decide)) (fun _ => ?_)
            refine lv_aload_n hx hb dX0_painted_35 rfl (lv_at hl 1 rfl) ?_
            refine lv_iload_n hx hb dX0_painted_36 rfl (lv_at hl 2 rfl) ?_
            refine va_put (D := (dC, dI)) (ci := 0) (v := .int 0) (ty := tyX0 3) (C := RX0) (T := TX0) (N := 8) hx hb hts inB_0 tyX0 tyX0_ok nmX0 hown hE.1 hP hD hS 32 rfl rfl 3 (by decide) (hts _ k_433) (fun _ h9 => h9) rfl (tyX0_ok 3 (by decide)) rfl rfl (Nat.le_of_ble_eq_true rfl) dX0_painted_37 (fun H locs hP hD hS => ?_)
            have hP : va_P (dC, dI) vwCl (XW cy x0 x (upd v2 38 0) f2) H := hP
            have hD : va_D A (XW cy x0 x (upd v2 38 0) f2) := hD
            refine lv_aload_n hx hb dX0_painted_40 rfl (lv_at hl 1 rfl) ?_
            refine lv_iload_n hx hb dX0_painted_41 rfl (lv_at hl 0 rfl) ?_
            refine cbVv (n := 1) (rest := []) hx hb hml hown hts hE hP hD hS hA (sX_X0_lay_1 l dC dI cy x0 x l3_2 (upd v2 38 0) f2 (XI.upd (j := 38) (x := 0) hIv2 (by decide) (by decide)) ) k_995 k_997 k_26 k_111 k_998 (by decide +kernel) ⟨Nat.le_of_ble_eq_true rfl, Nat.le_of_ble_eq_true rfl⟩ 32 0 rfl rfl (rfl) hl.1 rfl (Nat.le_of_ble_eq_true rfl) dX0_painted_42 (fun u H locs hw hP hD hS => ?_)
            obtain ⟨v6, f7⟩ := u
            obtain ⟨hIv6, hk0_v6, hk1_v6, hk9_v6, hk10_v6, hk31_v6, hk32_v6⟩ := hw
            have hP : va_P (dC, dI) vwCl (XW cy x0 x v6 f7) H := hP
            have hD : va_D A (XW cy x0 x v6 f7) := hD
            have hq0_v6 : v6 0 = (v 0) := hk0_v6.trans hq0_v2
            have hq1_v6 : v6 1 = (v 1) := hk1_v6.trans hq1_v2
            have hq9_v6 : v6 9 = (v 9) := hk9_v6.trans hq9_v2
            have hq10_v6 : v6 10 = (v 10) := hk10_v6.trans hq10_v2
            have hq31_v6 : v6 31 = (v 31) := hk31_v6.trans hq31_v2
            have hq32_v6 : v6 32 = (v 32) := hk32_v6.trans hq32_v2
            refine lv_aload_n hx hb dX0_painted_45 rfl (lv_at hl 1 rfl) ?_
            refine lv_iload_n hx hb dX0_painted_46 rfl (lv_at hl 2 rfl) ?_
            refine lv_iconst (v := 1) hx hb dX0_painted_47 (by decide) ?_
            refine lv_iadd hx hb dX0_painted_48 ?_
            refine tI (y := 1) (by decide) ?_
            refine lv_iload_n hx hb dX0_painted_49 rfl (lv_at hl 3 rfl) ?_
            refine cbVi (n := 2) (rest := []) hx hb hml hown hts hE hP hD hS hA (sX_X0_painted_2 l dC dI cy x0 x p2 v6 f7 hIv6 ) k_1119 k_1121 k_33 k_111 k_1122 (by decide +kernel) ⟨Nat.le_of_ble_eq_true rfl, Nat.le_of_ble_eq_true rfl⟩ 32 0 rfl rfl (rfl) hl.1 rfl (Nat.le_of_ble_eq_true rfl) dX0_painted_50 (fun r8 u H locs hw hP hD hS => ?_)
            obtain ⟨v9, f10⟩ := u
            obtain ⟨hIv9, hk0_v9, hk1_v9, hk9_v9, hk10_v9, hk31_v9, hk32_v9, hw⟩ := hw
            have hP : va_P (dC, dI) vwCl (XW cy x0 x v9 f10) H := hP
            have hD : va_D A (XW cy x0 x v9 f10) := hD
            have hq0_v9 : v9 0 = (v 0) := hk0_v9.trans hq0_v6
            have hq1_v9 : v9 1 = (v 1) := hk1_v9.trans hq1_v6
            have hq9_v9 : v9 9 = (v 9) := hk9_v9.trans hq9_v6
            have hq10_v9 : v9 10 = (v 10) := hk10_v9.trans hq10_v6
            have hq31_v9 : v9 31 = (v 31) := hk31_v9.trans hq31_v6
            have hq32_v9 : v9 32 = (v 32) := hk32_v9.trans hq32_v6
            rcases hw with ⟨g11⟩ | ⟨g11⟩
            · skip
              subst g11
              refine lv_if_eq (tgt := 58) hx hb dX0_painted_53 (by decide) (fun c0 => absurd c0 (by decide)) (fun _ => ?_)
              refine lv_iconst (v := 1) hx hb dX0_painted_56 (by decide) ?_
              exact ret 1 (v9, f10) _ _ _ _ _ _ rfl ⟨hIv9, (hk0_v9.trans (hk0_v6.trans (show v2 0 = v 0 from hq0_v2))), (hk1_v9.trans (hk1_v6.trans (show v2 1 = v 1 from hq1_v2))), (hk9_v9.trans (hk9_v6.trans (show v2 9 = v 9 from hq9_v2))), (hk10_v9.trans (hk10_v6.trans (show v2 10 = v 10 from hq10_v2))), (hk31_v9.trans (hk31_v6.trans (show v2 31 = v 31 from hq31_v2))), (hk32_v9.trans (hk32_v6.trans (show v2 32 = v 32 from hq32_v2))), (Or.inl ⟨rfl⟩)⟩ hP hD hS dX0_painted_57 (Nat.le_refl _) (Nat.le_refl _)
            · skip
              subst g11
              refine lv_if_eq (tgt := 58) hx hb dX0_painted_53 (by decide) (fun _ => ?_) (fun c0 => absurd (by decide) c0)
              obtain ⟨t12, et12⟩ : ∃ y : Int32, y = l3_2 + 1 := ⟨_, rfl⟩
              have zt12 : t12.toInt = l3_2.toInt + 1 := by rw [et12]; exact add_i rfl (by decide) (by omega) (by omega)
              refine lv_iinc (v := t12) (lv' := [(3, .int t12), (0, .ref (x 31)), (1, .int 0), (2, .int p2)]) hx hb dX0_painted_58 hl (k := 0) rfl (by rw [et12]; rfl) (by decide) rfl (fun ls hl => ?_)
              refine lv_goto (tgt := 21) hx hb dX0_painted_61 (by decide) ?_
              exact ih2 t12 v9 f10 hIv9 hq0_v9 hq1_v9 hq9_v9 hq10_v9 hq31_v9 hq32_v9  (by show (2147483647 - t12.toInt).toNat < n; omega) _ _ _ hP hD hS (lv_sub hl [0, 1, 2, 3] rfl)
          · skip
            subst g5
            refine lv_if_eq (tgt := 58) hx hb dX0_painted_32 (by decide) (fun _ => ?_) (fun c0 => absurd (by decide) c0)
            obtain ⟨t13, et13⟩ : ∃ y : Int32, y = l3_2 + 1 := ⟨_, rfl⟩
            have zt13 : t13.toInt = l3_2.toInt + 1 := by rw [et13]; exact add_i rfl (by decide) (by omega) (by omega)
            refine lv_iinc (v := t13) (lv' := [(3, .int t13), (0, .ref (x 31)), (1, .int 0), (2, .int p2)]) hx hb dX0_painted_58 hl (k := 0) rfl (by rw [et13]; rfl) (by decide) rfl (fun ls hl => ?_)
            refine lv_goto (tgt := 21) hx hb dX0_painted_61 (by decide) ?_
            exact ih2 t13 v2 f2 hIv2 hq0_v2 hq1_v2 hq9_v2 hq10_v2 hq31_v2 hq32_v2  (by show (2147483647 - t13.toInt).toNat < n; omega) _ _ _ hP hD hS (lv_sub hl [0, 1, 2, 3] rfl)
    exact lp2 _ 0 v f hIv rfl rfl rfl rfl rfl rfl  (Nat.lt_succ_self _) _ _ _ hP hD hS (lv_sub hl [0, 1, 2, 3] rfl)
set_option maxHeartbeats 4000000 in
set_option maxRecDepth 100000 in
theorem sX_X0_layColours_1 (l : Launch) (dC : Nat → ClassId) (dI : Nat → Nat → Nat) (cy : Nat → ClassId) (x0 : Nat) (x : Nat → Nat)  (v : Nat → Int32) (f : Nat → Nat → Int32) (hIv : XI v)  : ctI l (dC, dI) cy yX0_layColours cX0_layColours 2 .int 10 266 0 0 ((Nat → Int32) × (Nat → Nat → Int32)) [.ref (x 31)] (XW cy x0 x v f) (fun r u => XI u.1 ∧ u.1 0 = v 0 ∧ u.1 1 = v 1 ∧ u.1 9 = v 9 ∧ u.1 10 = v 10 ∧ u.1 31 = v 31 ∧ u.1 32 = v 32) (fun u => XW cy x0 x u.1 u.2) := by
  refine ctI_of (by decide) (Nat.le_of_ble_eq_true rfl) (fun p e s m below meth c A ls Q hx hb hml hts hown hE hP hD hA hl ret => ?_)
  have hown : s.vm.findClass RX0 = some m.cls := hown
  have hS : va_S A s.heap s.heap [] := va_S.rf
  have hl : lv_has ls 2 [(0, .ref (x 31))] := hl
  refine lv_aload_n hx hb dX0_layColours_0 rfl (lv_at hl 0 rfl) ?_
  refine cbVv (n := 0) (rest := []) hx hb hml hown hts hE hP hD hS hA (sX_X0_clear_1 l dC dI cy x0 x  v f hIv ) k_990 k_787 k_788 k_111 k_789 (by decide +kernel) ⟨Nat.le_of_ble_eq_true rfl, Nat.le_of_ble_eq_true rfl⟩ 32 0 rfl rfl (rfl) hl.1 rfl (Nat.le_of_ble_eq_true rfl) dX0_layColours_1 (fun u H locs hw hP hD hS => ?_)
  obtain ⟨v1, f2⟩ := u
  obtain ⟨hIv1, hk0_v1, hk1_v1, hk9_v1, hk10_v1, hk31_v1, hk32_v1⟩ := hw
  have hP : va_P (dC, dI) vwCl (XW cy x0 x v1 f2) H := hP
  have hD : va_D A (XW cy x0 x v1 f2) := hD
  have hq0_v1 : v1 0 = (v 0) := hk0_v1
  have hq1_v1 : v1 1 = (v 1) := hk1_v1
  have hq9_v1 : v1 9 = (v 9) := hk9_v1
  have hq10_v1 : v1 10 = (v 10) := hk10_v1
  have hq31_v1 : v1 31 = (v 31) := hk31_v1
  have hq32_v1 : v1 32 = (v 32) := hk32_v1
  refine lv_iconst (v := 0) hx hb dX0_layColours_4 (by decide) ?_
  refine lv_istore_n (lv' := [(1, .int 0), (0, .ref (x 31))]) hx hb dX0_layColours_5 rfl hl (by decide) rfl (fun ls hl => ?_)
  have lp3 : ∀ (n : Nat) (l1_3 : Int32) (v3 : Nat → Int32) (f3 : Nat → Nat → Int32), XI v3 → v3 0 = (v 0) → v3 1 = (v 1) → v3 9 = (v 9) → v3 10 = (v 10) → v3 31 = (v 31) → v3 32 = (v 32) → (2147483647 - l1_3.toInt).toNat < n → ∀ (H : Heap) (locs : List Loc) (ls : Array Slot), va_P (dC, dI) vwCl (XW cy x0 x v3 f3) H → va_D A (XW cy x0 x v3 f3) → va_S A s.heap H locs → lv_has ls 2 [(1, .int l1_3), (0, .ref (x 31))] → W p l e { frames := 10, cells := 0, slots := 0, locals := 266 } s m ([.ref (x 31)] : List Value).toArray below meth c H locs 0 0 Q (F0 m 6 ls []) := by
    intro n
    induction n with
    | zero => intro l1_3 v3 f3 hIv3 hq0_v3 hq1_v3 hq9_v3 hq10_v3 hq31_v3 hq32_v3 hm; exact absurd hm (Nat.not_lt_zero _)
    | succ n ih3 =>
      intro l1_3 v3 f3 hIv3 hq0_v3 hq1_v3 hq9_v3 hq10_v3 hq31_v3 hq32_v3 hm3 H locs ls hP hD hS hl
      refine lv_iload_n hx hb dX0_layColours_6 rfl (lv_at hl 0 rfl) ?_
      refine lv_aload_n hx hb dX0_layColours_7 rfl (lv_at hl 1 rfl) ?_
      refine va_get (D := (dC, dI)) (ci := 0) (v := .ref (x 26)) (C := RX0) (T := TX0) (N := 8) hx hb hts inB_0 hown hE.1 hP 32 rfl rfl 0 (by decide) (hts _ k_430) (fun _ h9 => h9) rfl dX0_layColours_8 ?_
      refine va_getN (D := (dC, dI)) (ci := 7) (v := .int (v3 31)) (C := RX7) (T := TX7) (N := 10) hx hb hts inB_7 hown hE.1 hP 27 rfl rfl 3 (by decide) (va_Nw.use rfl (hE.2 _ k_216)) (fun _ h9 => h9) rfl dX0_layColours_11 ?_
      refine tI (y := (v 31)) hq31_v3 ?_
      refine lv_icmp_gt (tgt := 34) hx hb dX0_layColours_14 (by decide) (fun c4 => ?_) (fun c4 => ?_)
      · skip
        have zc4 : (v 31).toInt < l1_3.toInt := by rw [fa_lt] at c4; exact c4
        refine lv_aload_n hx hb dX0_layColours_34 rfl (lv_at hl 1 rfl) ?_
        refine va_get (D := (dC, dI)) (ci := 0) (v := .ref (x 26)) (C := RX0) (T := TX0) (N := 8) hx hb hts inB_0 hown hE.1 hP 32 rfl rfl 0 (by decide) (hts _ k_430) (fun _ h9 => h9) rfl dX0_layColours_35 ?_
        refine va_getN (D := (dC, dI)) (ci := 7) (v := .int (v3 31)) (C := RX7) (T := TX7) (N := 10) hx hb hts inB_7 hown hE.1 hP 27 rfl rfl 3 (by decide) (va_Nw.use rfl (hE.2 _ k_216)) (fun _ h9 => h9) rfl dX0_layColours_38 ?_
        refine tI (y := (v 31)) hq31_v3 ?_
        exact ret (v 31) (v3, f3) _ _ _ _ _ _ rfl ⟨hIv3, hq0_v3, hq1_v3, hq9_v3, hq10_v3, hq31_v3, hq32_v3⟩ hP hD hS dX0_layColours_41 (Nat.le_refl _) (Nat.le_refl _)
      · skip
        have zc4 : ¬ ((v 31).toInt < l1_3.toInt) := by rw [fa_lt] at c4; exact c4
        refine lv_aload_n hx hb dX0_layColours_17 rfl (lv_at hl 1 rfl) ?_
        refine lv_iconst (v := 0) hx hb dX0_layColours_18 (by decide) ?_
        refine lv_iload_n hx hb dX0_layColours_19 rfl (lv_at hl 0 rfl) ?_
        refine cbVi (n := 2) (rest := []) hx hb hml hown hts hE hP hD hS hA (sX_X0_painted_1 l dC dI cy x0 x l1_3 v3 f3 hIv3 ) k_1119 k_1121 k_33 k_111 k_1122 (by decide +kernel) ⟨Nat.le_of_ble_eq_true rfl, Nat.le_of_ble_eq_true rfl⟩ 32 0 rfl rfl (rfl) hl.1 rfl (Nat.le_of_ble_eq_true rfl) dX0_layColours_20 (fun r5 u H locs hw hP hD hS => ?_)
        obtain ⟨v6, f7⟩ := u
        obtain ⟨hIv6, hk0_v6, hk1_v6, hk9_v6, hk10_v6, hk31_v6, hk32_v6, hw⟩ := hw
        have hP : va_P (dC, dI) vwCl (XW cy x0 x v6 f7) H := hP
        have hD : va_D A (XW cy x0 x v6 f7) := hD
        have hq0_v6 : v6 0 = (v 0) := hk0_v6.trans hq0_v3
        have hq1_v6 : v6 1 = (v 1) := hk1_v6.trans hq1_v3
        have hq9_v6 : v6 9 = (v 9) := hk9_v6.trans hq9_v3
        have hq10_v6 : v6 10 = (v 10) := hk10_v6.trans hq10_v3
        have hq31_v6 : v6 31 = (v 31) := hk31_v6.trans hq31_v3
        have hq32_v6 : v6 32 = (v 32) := hk32_v6.trans hq32_v3
        rcases hw with ⟨g8⟩ | ⟨g8⟩
        · skip
          subst g8
          refine lv_if_eq (tgt := 28) hx hb dX0_layColours_23 (by decide) (fun c0 => absurd c0 (by decide)) (fun _ => ?_)
          refine lv_iload_n hx hb dX0_layColours_26 rfl (lv_at hl 0 rfl) ?_
          exact ret l1_3 (v6, f7) _ _ _ _ _ _ rfl ⟨hIv6, (hk0_v6.trans hq0_v3), (hk1_v6.trans hq1_v3), (hk9_v6.trans hq9_v3), (hk10_v6.trans hq10_v3), (hk31_v6.trans hq31_v3), (hk32_v6.trans hq32_v3)⟩ hP hD hS dX0_layColours_27 (Nat.le_refl _) (Nat.le_refl _)
        · skip
          subst g8
          refine lv_if_eq (tgt := 28) hx hb dX0_layColours_23 (by decide) (fun _ => ?_) (fun c0 => absurd (by decide) c0)
          obtain ⟨t9, et9⟩ : ∃ y : Int32, y = l1_3 + 1 := ⟨_, rfl⟩
          have zt9 : t9.toInt = l1_3.toInt + 1 := by rw [et9]; exact add_i rfl (by decide) (by omega) (by omega)
          refine lv_iinc (v := t9) (lv' := [(1, .int t9), (0, .ref (x 31))]) hx hb dX0_layColours_28 hl (k := 0) rfl (by rw [et9]; rfl) (by decide) rfl (fun ls hl => ?_)
          refine lv_goto (tgt := 6) hx hb dX0_layColours_31 (by decide) ?_
          exact ih3 t9 v6 f7 hIv6 hq0_v6 hq1_v6 hq9_v6 hq10_v6 hq31_v6 hq32_v6  (by show (2147483647 - t9.toInt).toNat < n; omega) _ _ _ hP hD hS (lv_sub hl [0, 1] rfl)
  exact lp3 _ 0 v1 f2 hIv1 hq0_v1 hq1_v1 hq9_v1 hq10_v1 hq31_v1 hq32_v1  (Nat.lt_succ_self _) _ _ _ hP hD hS (lv_sub hl [0, 1] rfl)
set_option maxHeartbeats 4000000 in
set_option maxRecDepth 100000 in
theorem sX_X10_buttons_1 (l : Launch) (dC : Nat → ClassId) (dI : Nat → Nat → Nat) (cy : Nat → ClassId) (x0 : Nat) (x : Nat → Nat)  (v : Nat → Int32) (f : Nat → Nat → Int32) (hIv : XI v)  : ctI l (dC, dI) cy yX10_buttons cX10_buttons 1 .int 11 287 0 0 ((Nat → Int32) × (Nat → Nat → Int32)) [.ref x0] (XW cy x0 x v f) (fun r u => XI u.1 ∧ u.1 0 = v 0 ∧ u.1 1 = v 1 ∧ u.1 9 = v 9 ∧ u.1 10 = v 10 ∧ u.1 31 = v 31 ∧ u.1 32 = v 32) (fun u => XW cy x0 x u.1 u.2) := by
  refine ctI_of (by decide) (Nat.le_of_ble_eq_true rfl) (fun p e s m below meth c A ls Q hx hb hml hts hown hE hP hD hA hl ret => ?_)
  have hown : s.vm.findClass RX10 = some m.cls := hown
  have hS : va_S A s.heap s.heap [] := va_S.rf
  have hl : lv_has ls 1 [(0, .ref x0)] := hl
  refine lv_aload_n hx hb dX10_buttons_0 rfl (lv_at hl 0 rfl) ?_
  refine va_get (D := (dC, dI)) (ci := 10) (v := .ref (x 31)) (C := RX10) (T := TX10) (N := 10) hx hb hts inB_10 hown hE.1 hP 0 rfl rfl 7 (by decide) (hts _ k_498) (fun _ h9 => h9) rfl dX10_buttons_1 ?_
  refine cbVi (n := 0) (rest := []) hx hb hml hown hts hE hP hD hS hA (sX_X0_layColours_1 l dC dI cy x0 x  v f hIv ) k_1115 k_1116 k_1117 k_111 k_1118 (by decide +kernel) ⟨Nat.le_of_ble_eq_true rfl, Nat.le_of_ble_eq_true rfl⟩ 32 0 rfl rfl (rfl) hl.1 rfl (Nat.le_of_ble_eq_true rfl) dX10_buttons_4 (fun r1 u H locs hw hP hD hS => ?_)
  obtain ⟨v2, f3⟩ := u
  obtain ⟨hIv2, hk0_v2, hk1_v2, hk9_v2, hk10_v2, hk31_v2, hk32_v2⟩ := hw
  have hP : va_P (dC, dI) vwCl (XW cy x0 x v2 f3) H := hP
  have hD : va_D A (XW cy x0 x v2 f3) := hD
  have hq0_v2 : v2 0 = (v 0) := hk0_v2
  have hq1_v2 : v2 1 = (v 1) := hk1_v2
  have hq9_v2 : v2 9 = (v 9) := hk9_v2
  have hq10_v2 : v2 10 = (v 10) := hk10_v2
  have hq31_v2 : v2 31 = (v 31) := hk31_v2
  have hq32_v2 : v2 32 = (v 32) := hk32_v2
  exact ret r1 (v2, f3) _ _ _ _ _ _ rfl ⟨hIv2, hk0_v2, hk1_v2, hk9_v2, hk10_v2, hk31_v2, hk32_v2⟩ hP hD hS dX10_buttons_7 (Nat.le_refl _) (Nat.le_refl _)
set_option maxHeartbeats 4000000 in
set_option maxRecDepth 100000 in
theorem sX_X0_isFree_1 (l : Launch) (dC : Nat → ClassId) (dI : Nat → Nat → Nat) (cy : Nat → ClassId) (x0 : Nat) (x : Nat → Nat) (p1 : Int32) (v : Nat → Int32) (f : Nat → Nat → Int32) (hIv : XI v)  : ctI l (dC, dI) cy yX0_isFree cX0_isFree 2 .boolean 4 124 0 0 Unit [.ref (x 31), .int p1] (XW cy x0 x v f) (fun r u => ((r = 1) ∨ (r = 0))) (fun u => XW cy x0 x v f) := by
  refine ctI_of (by decide) (Nat.le_of_ble_eq_true rfl) (fun p e s m below meth c A ls Q hx hb hml hts hown hE hP hD hA hl ret => ?_)
  have hown : s.vm.findClass RX0 = some m.cls := hown
  have hS : va_S A s.heap s.heap [] := va_S.rf
  have hl : lv_has ls 2 [(0, .ref (x 31)), (1, .int p1)] := hl
  refine lv_aload_n hx hb dX0_isFree_0 rfl (lv_at hl 0 rfl) ?_
  refine va_get (D := (dC, dI)) (ci := 0) (v := .ref (x 21)) (C := RX0) (T := TX0) (N := 8) hx hb hts inB_0 hown hE.1 hP 32 rfl rfl 1 (by decide) (hts _ k_431) (fun _ h9 => h9) rfl dX0_isFree_1 ?_
  refine lv_iload_n hx hb dX0_isFree_4 rfl (lv_at hl 1 rfl) ?_
  refine cbVi (n := 1) (rest := []) hx hb hml hown hts hE hP hD hS hA (sX_X1_wearer_1 l dC dI cy x0 x p1 v f hIv ) k_1141 k_850 k_851 k_106 k_852 (by decide +kernel) ⟨Nat.le_of_ble_eq_true rfl, Nat.le_of_ble_eq_true rfl⟩ 22 1 rfl rfl (rfl) hl.1 rfl (Nat.le_of_ble_eq_true rfl) dX0_isFree_5 (fun r1 u H locs hw hP hD hS => ?_)
  refine lv_iconst (v := (-1)) hx hb dX0_isFree_8 (by decide) ?_
  refine lv_icmp_ne (tgt := 16) hx hb dX0_isFree_9 (by decide) (fun c2 => ?_) (fun c2 => ?_)
  · skip
    have zc2 : ¬ (r1.toInt = (-1)) := by rw [fa_eq, show ((-1) : Int32).toInt = -1 from by decide] at c2; exact c2
    refine lv_iconst (v := 0) hx hb dX0_isFree_16 (by decide) ?_
    exact ret 0 () _ _ _ _ _ _ rfl (Or.inr ⟨rfl⟩) hP hD hS dX0_isFree_17 (Nat.le_refl _) (Nat.le_refl _)
  · skip
    have zc2 : r1.toInt = (-1) := by rw [fa_eq, show ((-1) : Int32).toInt = -1 from by decide] at c2; exact c2
    refine lv_iconst (v := 1) hx hb dX0_isFree_12 (by decide) ?_
    refine lv_goto (tgt := 17) hx hb dX0_isFree_13 (by decide) ?_
    exact ret 1 () _ _ _ _ _ _ rfl (Or.inl ⟨rfl⟩) hP hD hS dX0_isFree_17 (Nat.le_refl _) (Nat.le_refl _)
set_option maxHeartbeats 4000000 in
set_option maxRecDepth 100000 in
theorem sX_X0_illGetting_1 (l : Launch) (dC : Nat → ClassId) (dI : Nat → Nat → Nat) (cy : Nat → ClassId) (x0 : Nat) (x : Nat → Nat) (p1 : Int32) (p2 : Int32) (p3 : Int32) (v : Nat → Int32) (f : Nat → Nat → Int32) (hIv : XI v)  : ctI l (dC, dI) cy yX0_illGetting cX0_illGetting 4 .int 4 133 0 0 ((Nat → Int32) × (Nat → Nat → Int32)) [.ref (x 31), .int p1, .int p2, .int p3] (XW cy x0 x v f) (fun r u => XI u.1 ∧ u.1 0 = v 0 ∧ u.1 1 = v 1 ∧ u.1 9 = v 9 ∧ u.1 10 = v 10 ∧ u.1 31 = v 31 ∧ u.1 32 = v 32) (fun u => XW cy x0 x u.1 u.2) := by
  refine ctI_of (by decide) (Nat.le_of_ble_eq_true rfl) (fun p e s m below meth c A ls Q hx hb hml hts hown hE hP hD hA hl ret => ?_)
  have hown : s.vm.findClass RX0 = some m.cls := hown
  have hS : va_S A s.heap s.heap [] := va_S.rf
  have hl : lv_has ls 4 [(0, .ref (x 31)), (1, .int p1), (2, .int p2), (3, .int p3)] := hl
  refine lv_iload_n hx hb dX0_illGetting_0 rfl (lv_at hl 2 rfl) ?_
  refine lv_iload_n hx hb dX0_illGetting_1 rfl (lv_at hl 3 rfl) ?_
  refine lv_icmp_ne (tgt := 11) hx hb dX0_illGetting_2 (by decide) (fun c1 => ?_) (fun c1 => ?_)
  · skip
    have zc1 : ¬ (p2.toInt = p3.toInt) := by rw [fa_eq] at c1; exact c1
    refine lv_aload_n hx hb dX0_illGetting_11 rfl (lv_at hl 0 rfl) ?_
    refine va_get (D := (dC, dI)) (ci := 0) (v := .ref (x 21)) (C := RX0) (T := TX0) (N := 8) hx hb hts inB_0 hown hE.1 hP 32 rfl rfl 1 (by decide) (hts _ k_431) (fun _ h9 => h9) rfl dX0_illGetting_12 ?_
    refine lv_iload_n hx hb dX0_illGetting_15 rfl (lv_at hl 1 rfl) ?_
    refine lv_iload_n hx hb dX0_illGetting_16 rfl (lv_at hl 2 rfl) ?_
    refine cbVi (n := 2) (rest := []) hx hb hml hown hts hE hP hD hS hA (sX_X1_illness_1 l dC dI cy x0 x p1 p2 v f hIv ) k_979 k_823 k_824 k_106 k_825 (by decide +kernel) ⟨Nat.le_of_ble_eq_true rfl, Nat.le_of_ble_eq_true rfl⟩ 22 1 rfl rfl (rfl) hl.1 rfl (Nat.le_of_ble_eq_true rfl) dX0_illGetting_17 (fun r2 u H locs hw hP hD hS => ?_)
    obtain ⟨v3, f4⟩ := u
    obtain ⟨hIv3, hk0_v3, hk1_v3, hk9_v3, hk10_v3, hk31_v3, hk32_v3⟩ := hw
    have hP : va_P (dC, dI) vwCl (XW cy x0 x v3 f4) H := hP
    have hD : va_D A (XW cy x0 x v3 f4) := hD
    have hq0_v3 : v3 0 = (v 0) := hk0_v3
    have hq1_v3 : v3 1 = (v 1) := hk1_v3
    have hq9_v3 : v3 9 = (v 9) := hk9_v3
    have hq10_v3 : v3 10 = (v 10) := hk10_v3
    have hq31_v3 : v3 31 = (v 31) := hk31_v3
    have hq32_v3 : v3 32 = (v 32) := hk32_v3
    exact ret r2 (v3, f4) _ _ _ _ _ _ rfl ⟨hIv3, hk0_v3, hk1_v3, hk9_v3, hk10_v3, hk31_v3, hk32_v3⟩ hP hD hS dX0_illGetting_20 (Nat.le_refl _) (Nat.le_refl _)
  · skip
    have zc1 : p2.toInt = p3.toInt := by rw [fa_eq] at c1; exact c1
    refine lv_sipush (v := 1000) hx hb dX0_illGetting_5 (by decide) ?_
    refine lv_goto (tgt := 20) hx hb dX0_illGetting_8 (by decide) ?_
    exact ret 1000 (v, f) _ _ _ _ _ _ rfl ⟨hIv, rfl, rfl, rfl, rfl, rfl, rfl⟩ hP hD hS dX0_illGetting_20 (Nat.le_refl _) (Nat.le_refl _)
set_option maxHeartbeats 4000000 in
set_option maxRecDepth 100000 in
theorem sX_X0_isContent_1 (l : Launch) (dC : Nat → ClassId) (dI : Nat → Nat → Nat) (cy : Nat → ClassId) (x0 : Nat) (x : Nat → Nat) (p1 : Int32) (p2 : Int32) (p3 : Int32) (v : Nat → Int32) (f : Nat → Nat → Int32) (hIv : XI v)  : ctI l (dC, dI) cy yX0_isContent cX0_isContent 6 .boolean 5 156 0 0 ((Nat → Int32) × (Nat → Nat → Int32)) [.ref (x 31), .int p1, .int p2, .int p3] (XW cy x0 x v f) (fun r u => XI u.1 ∧ u.1 0 = v 0 ∧ u.1 1 = v 1 ∧ u.1 9 = v 9 ∧ u.1 10 = v 10 ∧ u.1 31 = v 31 ∧ u.1 32 = v 32 ∧ ((r = 1) ∨ (r = 0))) (fun u => XW cy x0 x u.1 u.2) := by
  refine ctI_of (by decide) (Nat.le_of_ble_eq_true rfl) (fun p e s m below meth c A ls Q hx hb hml hts hown hE hP hD hA hl ret => ?_)
  have hown : s.vm.findClass RX0 = some m.cls := hown
  have hS : va_S A s.heap s.heap [] := va_S.rf
  have hl : lv_has ls 6 [(0, .ref (x 31)), (1, .int p1), (2, .int p2), (3, .int p3)] := hl
  refine lv_aload_n hx hb dX0_isContent_0 rfl (lv_at hl 0 rfl) ?_
  refine lv_iload_n hx hb dX0_isContent_1 rfl (lv_at hl 1 rfl) ?_
  refine lv_iload_n hx hb dX0_isContent_2 rfl (lv_at hl 2 rfl) ?_
  refine lv_iload_n hx hb dX0_isContent_3 rfl (lv_at hl 3 rfl) ?_
  refine cbVi (n := 3) (rest := []) hx hb hml hown hts hE hP hD hS hA (sX_X0_illGetting_1 l dC dI cy x0 x p1 p2 p3 v f hIv ) k_1146 k_1148 k_37 k_111 k_1149 (by decide +kernel) ⟨Nat.le_of_ble_eq_true rfl, Nat.le_of_ble_eq_true rfl⟩ 32 0 rfl rfl (rfl) hl.1 rfl (Nat.le_of_ble_eq_true rfl) dX0_isContent_4 (fun r1 u H locs hw hP hD hS => ?_)
  obtain ⟨v2, f3⟩ := u
  obtain ⟨hIv2, hk0_v2, hk1_v2, hk9_v2, hk10_v2, hk31_v2, hk32_v2⟩ := hw
  have hP : va_P (dC, dI) vwCl (XW cy x0 x v2 f3) H := hP
  have hD : va_D A (XW cy x0 x v2 f3) := hD
  have hq0_v2 : v2 0 = (v 0) := hk0_v2
  have hq1_v2 : v2 1 = (v 1) := hk1_v2
  have hq9_v2 : v2 9 = (v 9) := hk9_v2
  have hq10_v2 : v2 10 = (v 10) := hk10_v2
  have hq31_v2 : v2 31 = (v 31) := hk31_v2
  have hq32_v2 : v2 32 = (v 32) := hk32_v2
  refine lv_istore (lv' := [(4, .int r1), (0, .ref (x 31)), (1, .int p1), (2, .int p2), (3, .int p3)]) hx hb dX0_isContent_7 hl (by decide) rfl (fun ls hl => ?_)
  refine lv_iconst (v := 0) hx hb dX0_isContent_9 (by decide) ?_
  refine lv_istore (lv' := [(5, .int 0), (4, .int r1), (0, .ref (x 31)), (1, .int p1), (2, .int p2), (3, .int p3)]) hx hb dX0_isContent_10 hl (by decide) rfl (fun ls hl => ?_)
  have lp4 : ∀ (n : Nat) (l5_4 : Int32) (v4 : Nat → Int32) (f4 : Nat → Nat → Int32), XI v4 → v4 0 = (v 0) → v4 1 = (v 1) → v4 9 = (v 9) → v4 10 = (v 10) → v4 31 = (v 31) → v4 32 = (v 32) → (2147483647 - l5_4.toInt).toNat < n → ∀ (H : Heap) (locs : List Loc) (ls : Array Slot), va_P (dC, dI) vwCl (XW cy x0 x v4 f4) H → va_D A (XW cy x0 x v4 f4) → va_S A s.heap H locs → lv_has ls 6 [(5, .int l5_4), (4, .int r1), (0, .ref (x 31)), (1, .int p1), (2, .int p2), (3, .int p3)] → W p l e { frames := 5, cells := 0, slots := 0, locals := 156 } s m ([.ref (x 31), .int p1, .int p2, .int p3] : List Value).toArray below meth c H locs 0 0 Q (F0 m 12 ls []) := by
    intro n
    induction n with
    | zero => intro l5_4 v4 f4 hIv4 hq0_v4 hq1_v4 hq9_v4 hq10_v4 hq31_v4 hq32_v4 hm; exact absurd hm (Nat.not_lt_zero _)
    | succ n ih4 =>
      intro l5_4 v4 f4 hIv4 hq0_v4 hq1_v4 hq9_v4 hq10_v4 hq31_v4 hq32_v4 hm4 H locs ls hP hD hS hl
      refine lv_iload hx hb dX0_isContent_12 (lv_at hl 0 rfl) ?_
      refine lv_aload_n hx hb dX0_isContent_14 rfl (lv_at hl 2 rfl) ?_
      refine va_get (D := (dC, dI)) (ci := 0) (v := .ref (x 26)) (C := RX0) (T := TX0) (N := 8) hx hb hts inB_0 hown hE.1 hP 32 rfl rfl 0 (by decide) (hts _ k_430) (fun _ h9 => h9) rfl dX0_isContent_15 ?_
      refine va_getN (D := (dC, dI)) (ci := 7) (v := .int (v4 32)) (C := RX7) (T := TX7) (N := 10) hx hb hts inB_7 hown hE.1 hP 27 rfl rfl 4 (by decide) (va_Nw.use rfl (hE.2 _ k_222)) (fun _ h9 => h9) rfl dX0_isContent_18 ?_
      refine tI (y := (v 32)) hq32_v4 ?_
      refine lv_icmp_ge (tgt := 54) hx hb dX0_isContent_21 (by decide) (fun c5 => ?_) (fun c5 => ?_)
      · skip
        have zc5 : (v 32).toInt ≤ l5_4.toInt := by rw [fa_le] at c5; exact c5
        refine lv_iconst (v := 1) hx hb dX0_isContent_54 (by decide) ?_
        exact ret 1 (v4, f4) _ _ _ _ _ _ rfl ⟨hIv4, hq0_v4, hq1_v4, hq9_v4, hq10_v4, hq31_v4, hq32_v4, (Or.inl ⟨rfl⟩)⟩ hP hD hS dX0_isContent_55 (Nat.le_refl _) (Nat.le_refl _)
      · skip
        have zc5 : ¬ ((v 32).toInt ≤ l5_4.toInt) := by rw [fa_le] at c5; exact c5
        refine lv_aload_n hx hb dX0_isContent_24 rfl (lv_at hl 2 rfl) ?_
        refine lv_iload hx hb dX0_isContent_25 (lv_at hl 0 rfl) ?_
        refine cbVi (n := 1) (rest := []) hx hb hml hown hts hE hP hD hS hA (sX_X0_isFree_1 l dC dI cy x0 x l5_4 v4 f4 hIv4 ) k_1137 k_1139 k_35 k_111 k_1140 (by decide +kernel) ⟨Nat.le_of_ble_eq_true rfl, Nat.le_of_ble_eq_true rfl⟩ 32 0 rfl rfl (rfl) hl.1 rfl (Nat.le_of_ble_eq_true rfl) dX0_isContent_27 (fun r6 u H locs hw hP hD hS => ?_)
        rcases hw with ⟨g7⟩ | ⟨g7⟩
        · skip
          subst g7
          refine lv_if_eq (tgt := 48) hx hb dX0_isContent_30 (by decide) (fun c0 => absurd c0 (by decide)) (fun _ => ?_)
          refine lv_aload_n hx hb dX0_isContent_33 rfl (lv_at hl 2 rfl) ?_
          refine lv_iload_n hx hb dX0_isContent_34 rfl (lv_at hl 3 rfl) ?_
          refine lv_iload hx hb dX0_isContent_35 (lv_at hl 0 rfl) ?_
          refine lv_iload_n hx hb dX0_isContent_37 rfl (lv_at hl 5 rfl) ?_
          refine cbVi (n := 3) (rest := []) hx hb hml hown hts hE hP hD hS hA (sX_X0_illGetting_1 l dC dI cy x0 x p1 l5_4 p3 v4 f4 hIv4 ) k_1146 k_1148 k_37 k_111 k_1149 (by decide +kernel) ⟨Nat.le_of_ble_eq_true rfl, Nat.le_of_ble_eq_true rfl⟩ 32 0 rfl rfl (rfl) hl.1 rfl (Nat.le_of_ble_eq_true rfl) dX0_isContent_38 (fun r8 u H locs hw hP hD hS => ?_)
          obtain ⟨v9, f10⟩ := u
          obtain ⟨hIv9, hk0_v9, hk1_v9, hk9_v9, hk10_v9, hk31_v9, hk32_v9⟩ := hw
          have hP : va_P (dC, dI) vwCl (XW cy x0 x v9 f10) H := hP
          have hD : va_D A (XW cy x0 x v9 f10) := hD
          have hq0_v9 : v9 0 = (v 0) := hk0_v9.trans hq0_v4
          have hq1_v9 : v9 1 = (v 1) := hk1_v9.trans hq1_v4
          have hq9_v9 : v9 9 = (v 9) := hk9_v9.trans hq9_v4
          have hq10_v9 : v9 10 = (v 10) := hk10_v9.trans hq10_v4
          have hq31_v9 : v9 31 = (v 31) := hk31_v9.trans hq31_v4
          have hq32_v9 : v9 32 = (v 32) := hk32_v9.trans hq32_v4
          refine lv_iload hx hb dX0_isContent_41 (lv_at hl 1 rfl) ?_
          refine lv_icmp_ge (tgt := 48) hx hb dX0_isContent_43 (by decide) (fun c11 => ?_) (fun c11 => ?_)
          · skip
            have zc11 : r1.toInt ≤ r8.toInt := by rw [fa_le] at c11; exact c11
            obtain ⟨t12, et12⟩ : ∃ y : Int32, y = l5_4 + 1 := ⟨_, rfl⟩
            have zt12 : t12.toInt = l5_4.toInt + 1 := by rw [et12]; exact add_i rfl (by decide) (by omega) (by omega)
            refine lv_iinc (v := t12) (lv' := [(5, .int t12), (4, .int r1), (0, .ref (x 31)), (1, .int p1), (2, .int p2), (3, .int p3)]) hx hb dX0_isContent_48 hl (k := 0) rfl (by rw [et12]; rfl) (by decide) rfl (fun ls hl => ?_)
            refine lv_goto (tgt := 12) hx hb dX0_isContent_51 (by decide) ?_
            exact ih4 t12 v9 f10 hIv9 hq0_v9 hq1_v9 hq9_v9 hq10_v9 hq31_v9 hq32_v9  (by show (2147483647 - t12.toInt).toNat < n; omega) _ _ _ hP hD hS (lv_sub hl [0, 1, 2, 3, 4, 5] rfl)
          · skip
            have zc11 : ¬ (r1.toInt ≤ r8.toInt) := by rw [fa_le] at c11; exact c11
            refine lv_iconst (v := 0) hx hb dX0_isContent_46 (by decide) ?_
            exact ret 0 (v9, f10) _ _ _ _ _ _ rfl ⟨hIv9, (hk0_v9.trans hq0_v4), (hk1_v9.trans hq1_v4), (hk9_v9.trans hq9_v4), (hk10_v9.trans hq10_v4), (hk31_v9.trans hq31_v4), (hk32_v9.trans hq32_v4), (Or.inr ⟨rfl⟩)⟩ hP hD hS dX0_isContent_47 (Nat.le_refl _) (Nat.le_refl _)
        · skip
          subst g7
          refine lv_if_eq (tgt := 48) hx hb dX0_isContent_30 (by decide) (fun _ => ?_) (fun c0 => absurd (by decide) c0)
          obtain ⟨t13, et13⟩ : ∃ y : Int32, y = l5_4 + 1 := ⟨_, rfl⟩
          have zt13 : t13.toInt = l5_4.toInt + 1 := by rw [et13]; exact add_i rfl (by decide) (by omega) (by omega)
          refine lv_iinc (v := t13) (lv' := [(5, .int t13), (4, .int r1), (0, .ref (x 31)), (1, .int p1), (2, .int p2), (3, .int p3)]) hx hb dX0_isContent_48 hl (k := 0) rfl (by rw [et13]; rfl) (by decide) rfl (fun ls hl => ?_)
          refine lv_goto (tgt := 12) hx hb dX0_isContent_51 (by decide) ?_
          exact ih4 t13 v4 f4 hIv4 hq0_v4 hq1_v4 hq9_v4 hq10_v4 hq31_v4 hq32_v4  (by show (2147483647 - t13.toInt).toNat < n; omega) _ _ _ hP hD hS (lv_sub hl [0, 1, 2, 3, 4, 5] rfl)
  exact lp4 _ 0 v2 f3 hIv2 hq0_v2 hq1_v2 hq9_v2 hq10_v2 hq31_v2 hq32_v2  (Nat.lt_succ_self _) _ _ _ hP hD hS (lv_sub hl [0, 1, 2, 3, 4, 5] rfl)
set_option maxHeartbeats 4000000 in
set_option maxRecDepth 100000 in
theorem sX_X0_layRest_1 (l : Launch) (dC : Nat → ClassId) (dI : Nat → Nat → Nat) (cy : Nat → ClassId) (x0 : Nat) (x : Nat → Nat) (p1 : Int32) (p2 : Int32) (v : Nat → Int32) (f : Nat → Nat → Int32) (hIv : XI v)  : ctI l (dC, dI) cy yX0_layRest cX0_layRest 8 .int 6 181 0 0 ((Nat → Int32) × (Nat → Nat → Int32)) [.ref (x 31), .int p1, .int p2] (XW cy x0 x v f) (fun r u => XI u.1 ∧ u.1 0 = v 0 ∧ u.1 1 = v 1 ∧ u.1 9 = v 9 ∧ u.1 10 = v 10 ∧ u.1 31 = v 31 ∧ u.1 32 = v 32) (fun u => XW cy x0 x u.1 u.2) := by
  refine ctI_of (by decide) (Nat.le_of_ble_eq_true rfl) (fun p e s m below meth c A ls Q hx hb hml hts hown hE hP hD hA hl ret => ?_)
  have hown : s.vm.findClass RX0 = some m.cls := hown
  have hS : va_S A s.heap s.heap [] := va_S.rf
  have hl : lv_has ls 8 [(0, .ref (x 31)), (1, .int p1), (2, .int p2)] := hl
  refine lv_iconst (v := 0) hx hb dX0_layRest_0 (by decide) ?_
  refine lv_istore_n (lv' := [(3, .int 0), (0, .ref (x 31)), (1, .int p1), (2, .int p2)]) hx hb dX0_layRest_1 rfl hl (by decide) rfl (fun ls hl => ?_)
  refine lv_iconst (v := 0) hx hb dX0_layRest_2 (by decide) ?_
  refine lv_istore (lv' := [(4, .int 0), (3, .int 0), (0, .ref (x 31)), (1, .int p1), (2, .int p2)]) hx hb dX0_layRest_3 hl (by decide) rfl (fun ls hl => ?_)
  refine lv_iconst (v := 0) hx hb dX0_layRest_5 (by decide) ?_
  refine lv_istore (lv' := [(5, .int 0), (4, .int 0), (3, .int 0), (0, .ref (x 31)), (1, .int p1), (2, .int p2)]) hx hb dX0_layRest_6 hl (by decide) rfl (fun ls hl => ?_)
  have lp1 : ∀ (n : Nat) (l3_1 : Int32) (l4_1 : Int32) (l5_1 : Int32) (v1 : Nat → Int32) (f1 : Nat → Nat → Int32), XI v1 → v1 0 = (v 0) → v1 1 = (v 1) → v1 9 = (v 9) → v1 10 = (v 10) → v1 31 = (v 31) → v1 32 = (v 32) → (2147483647 - l5_1.toInt).toNat < n → ∀ (H : Heap) (locs : List Loc) (ls : Array Slot), va_P (dC, dI) vwCl (XW cy x0 x v1 f1) H → va_D A (XW cy x0 x v1 f1) → va_S A s.heap H locs → lv_has ls 8 [(5, .int l5_1), (4, .int l4_1), (3, .int l3_1), (0, .ref (x 31)), (1, .int p1), (2, .int p2)] → W p l e { frames := 6, cells := 0, slots := 0, locals := 181 } s m ([.ref (x 31), .int p1, .int p2] : List Value).toArray below meth c H locs 0 0 Q (F0 m 8 ls []) := by
    intro n
    induction n with
    | zero => intro l3_1 l4_1 l5_1 v1 f1 hIv1 hq0_v1 hq1_v1 hq9_v1 hq10_v1 hq31_v1 hq32_v1 hm; exact absurd hm (Nat.not_lt_zero _)
    | succ n ih1 =>
      intro l3_1 l4_1 l5_1 v1 f1 hIv1 hq0_v1 hq1_v1 hq9_v1 hq10_v1 hq31_v1 hq32_v1 hm1 H locs ls hP hD hS hl
      refine lv_iload hx hb dX0_layRest_8 (lv_at hl 0 rfl) ?_
      refine lv_aload_n hx hb dX0_layRest_10 rfl (lv_at hl 3 rfl) ?_
      refine va_get (D := (dC, dI)) (ci := 0) (v := .ref (x 26)) (C := RX0) (T := TX0) (N := 8) hx hb hts inB_0 hown hE.1 hP 32 rfl rfl 0 (by decide) (hts _ k_430) (fun _ h9 => h9) rfl dX0_layRest_11 ?_
      refine va_getN (D := (dC, dI)) (ci := 7) (v := .int (v1 32)) (C := RX7) (T := TX7) (N := 10) hx hb hts inB_7 hown hE.1 hP 27 rfl rfl 4 (by decide) (va_Nw.use rfl (hE.2 _ k_222)) (fun _ h9 => h9) rfl dX0_layRest_14 ?_
      refine tI (y := (v 32)) hq32_v1 ?_
      refine lv_icmp_ge (tgt := 128) hx hb dX0_layRest_17 (by decide) (fun c2 => ?_) (fun c2 => ?_)
      · skip
        have zc2 : (v 32).toInt ≤ l5_1.toInt := by rw [fa_le] at c2; exact c2
        refine lv_iload hx hb dX0_layRest_128 (lv_at hl 1 rfl) ?_
        refine lv_if_eq (tgt := 137) hx hb dX0_layRest_130 (by decide) (fun c3 => ?_) (fun c3 => ?_)
        · skip
          have zc3 : l4_1.toInt = 0 := by rw [fa_eq, show (0 : Int32).toInt = 0 from by decide] at c3; exact c3
          refine lv_iconst (v := (-1)) hx hb dX0_layRest_137 (by decide) ?_
          exact ret (-1) (v1, f1) _ _ _ _ _ _ rfl ⟨hIv1, (show v1 0 = v 0 from hq0_v1), (show v1 1 = v 1 from hq1_v1), (show v1 9 = v 9 from hq9_v1), (show v1 10 = v 10 from hq10_v1), (show v1 31 = v 31 from hq31_v1), (show v1 32 = v 32 from hq32_v1)⟩ hP hD hS dX0_layRest_138 (Nat.le_refl _) (Nat.le_refl _)
        · skip
          have zc3 : ¬ (l4_1.toInt = 0) := by rw [fa_eq, show (0 : Int32).toInt = 0 from by decide] at c3; exact c3
          refine lv_iload_n hx hb dX0_layRest_133 rfl (lv_at hl 2 rfl) ?_
          refine lv_goto (tgt := 138) hx hb dX0_layRest_134 (by decide) ?_
          exact ret l3_1 (v1, f1) _ _ _ _ _ _ rfl ⟨hIv1, (show v1 0 = v 0 from hq0_v1), (show v1 1 = v 1 from hq1_v1), (show v1 9 = v 9 from hq9_v1), (show v1 10 = v 10 from hq10_v1), (show v1 31 = v 31 from hq31_v1), (show v1 32 = v 32 from hq32_v1)⟩ hP hD hS dX0_layRest_138 (Nat.le_refl _) (Nat.le_refl _)
      · skip
        have zc2 : ¬ ((v 32).toInt ≤ l5_1.toInt) := by rw [fa_le] at c2; exact c2
        refine lv_iconst (v := 0) hx hb dX0_layRest_20 (by decide) ?_
        refine lv_istore (lv' := [(6, .int 0), (5, .int l5_1), (4, .int l4_1), (3, .int l3_1), (0, .ref (x 31)), (1, .int p1), (2, .int p2)]) hx hb dX0_layRest_21 hl (by decide) rfl (fun ls hl => ?_)
        have lp4 : ∀ (n : Nat) (l3_4 : Int32) (l4_4 : Int32) (l6_4 : Int32) (v4 : Nat → Int32) (f4 : Nat → Nat → Int32), XI v4 → v4 0 = (v 0) → v4 1 = (v 1) → v4 9 = (v 9) → v4 10 = (v 10) → v4 31 = (v 31) → v4 32 = (v 32) → (2147483647 - l6_4.toInt).toNat < n → ∀ (H : Heap) (locs : List Loc) (ls : Array Slot), va_P (dC, dI) vwCl (XW cy x0 x v4 f4) H → va_D A (XW cy x0 x v4 f4) → va_S A s.heap H locs → lv_has ls 8 [(6, .int l6_4), (5, .int l5_1), (4, .int l4_4), (3, .int l3_4), (0, .ref (x 31)), (1, .int p1), (2, .int p2)] → W p l e { frames := 6, cells := 0, slots := 0, locals := 181 } s m ([.ref (x 31), .int p1, .int p2] : List Value).toArray below meth c H locs 0 0 Q (F0 m 23 ls []) := by
          intro n
          induction n with
          | zero => intro l3_4 l4_4 l6_4 v4 f4 hIv4 hq0_v4 hq1_v4 hq9_v4 hq10_v4 hq31_v4 hq32_v4 hm; exact absurd hm (Nat.not_lt_zero _)
          | succ n ih4 =>
            intro l3_4 l4_4 l6_4 v4 f4 hIv4 hq0_v4 hq1_v4 hq9_v4 hq10_v4 hq31_v4 hq32_v4 hm4 H locs ls hP hD hS hl
            refine lv_iload hx hb dX0_layRest_23 (lv_at hl 0 rfl) ?_
            refine lv_aload_n hx hb dX0_layRest_25 rfl (lv_at hl 4 rfl) ?_
            refine va_get (D := (dC, dI)) (ci := 0) (v := .ref (x 26)) (C := RX0) (T := TX0) (N := 8) hx hb hts inB_0 hown hE.1 hP 32 rfl rfl 0 (by decide) (hts _ k_430) (fun _ h9 => h9) rfl dX0_layRest_26 ?_
            refine va_getN (D := (dC, dI)) (ci := 7) (v := .int (v4 32)) (C := RX7) (T := TX7) (N := 10) hx hb hts inB_7 hown hE.1 hP 27 rfl rfl 4 (by decide) (va_Nw.use rfl (hE.2 _ k_222)) (fun _ h9 => h9) rfl dX0_layRest_29 ?_
            refine tI (y := (v 32)) hq32_v4 ?_
            refine lv_icmp_ge (tgt := 122) hx hb dX0_layRest_32 (by decide) (fun c5 => ?_) (fun c5 => ?_)
            · skip
              have zc5 : (v 32).toInt ≤ l6_4.toInt := by rw [fa_le] at c5; exact c5
              obtain ⟨t6, et6⟩ : ∃ y : Int32, y = l5_1 + 1 := ⟨_, rfl⟩
              have zt6 : t6.toInt = l5_1.toInt + 1 := by rw [et6]; exact add_i rfl (by decide) (by omega) (by omega)
              refine lv_iinc (v := t6) (lv' := [(5, .int t6), (6, .int l6_4), (4, .int l4_4), (3, .int l3_4), (0, .ref (x 31)), (1, .int p1), (2, .int p2)]) hx hb dX0_layRest_122 hl (k := 1) rfl (by rw [et6]; rfl) (by decide) rfl (fun ls hl => ?_)
              refine lv_goto (tgt := 8) hx hb dX0_layRest_125 (by decide) ?_
              exact ih1 l3_4 l4_4 t6 v4 f4 hIv4 hq0_v4 hq1_v4 hq9_v4 hq10_v4 hq31_v4 hq32_v4  (by show (2147483647 - t6.toInt).toNat < n; omega) _ _ _ hP hD hS (lv_sub hl [0, 2, 3, 4, 5, 6] rfl)
            · skip
              have zc5 : ¬ ((v 32).toInt ≤ l6_4.toInt) := by rw [fa_le] at c5; exact c5
              refine lv_aload_n hx hb dX0_layRest_35 rfl (lv_at hl 4 rfl) ?_
              refine lv_iload hx hb dX0_layRest_36 (lv_at hl 1 rfl) ?_
              refine cbVi (n := 1) (rest := []) hx hb hml hown hts hE hP hD hS hA (sX_X0_isFree_1 l dC dI cy x0 x l5_1 v4 f4 hIv4 ) k_1137 k_1139 k_35 k_111 k_1140 (by decide +kernel) ⟨Nat.le_of_ble_eq_true rfl, Nat.le_of_ble_eq_true rfl⟩ 32 0 rfl rfl (rfl) hl.1 rfl (Nat.le_of_ble_eq_true rfl) dX0_layRest_38 (fun r7 u H locs hw hP hD hS => ?_)
              rcases hw with ⟨g8⟩ | ⟨g8⟩
              · skip
                subst g8
                refine lv_if_eq (tgt := 57) hx hb dX0_layRest_41 (by decide) (fun c0 => absurd c0 (by decide)) (fun _ => ?_)
                refine lv_aload_n hx hb dX0_layRest_44 rfl (lv_at hl 4 rfl) ?_
                refine lv_iload hx hb dX0_layRest_45 (lv_at hl 0 rfl) ?_
                refine cbVi (n := 1) (rest := []) hx hb hml hown hts hE hP hD hS hA (sX_X0_isFree_1 l dC dI cy x0 x l6_4 v4 f4 hIv4 ) k_1137 k_1139 k_35 k_111 k_1140 (by decide +kernel) ⟨Nat.le_of_ble_eq_true rfl, Nat.le_of_ble_eq_true rfl⟩ 32 0 rfl rfl (rfl) hl.1 rfl (Nat.le_of_ble_eq_true rfl) dX0_layRest_47 (fun r9 u H locs hw hP hD hS => ?_)
                rcases hw with ⟨g10⟩ | ⟨g10⟩
                · skip
                  subst g10
                  refine lv_if_eq (tgt := 57) hx hb dX0_layRest_50 (by decide) (fun c0 => absurd c0 (by decide)) (fun _ => ?_)
                  refine lv_iconst (v := 1) hx hb dX0_layRest_53 (by decide) ?_
                  refine lv_goto (tgt := 58) hx hb dX0_layRest_54 (by decide) ?_
                  refine lv_istore (lv' := [(7, .int 1), (6, .int l6_4), (5, .int l5_1), (4, .int l4_4), (3, .int l3_4), (0, .ref (x 31)), (1, .int p1), (2, .int p2)]) hx hb dX0_layRest_58 hl (by decide) rfl (fun ls hl => ?_)
                  refine lv_iload hx hb dX0_layRest_60 (lv_at hl 3 rfl) ?_
                  refine lv_iload hx hb dX0_layRest_62 (lv_at hl 0 rfl) ?_
                  refine lv_ior hx hb dX0_layRest_64 ?_
                  refine lv_topi (fun t11 et11 => ?_)
                  refine lv_istore (lv' := [(4, .int t11), (7, .int 1), (6, .int l6_4), (5, .int l5_1), (3, .int l3_4), (0, .ref (x 31)), (1, .int p1), (2, .int p2)]) hx hb dX0_layRest_65 hl (by decide) rfl (fun ls hl => ?_)
                  refine lv_iload hx hb dX0_layRest_67 (lv_at hl 1 rfl) ?_
                  refine lv_if_eq (tgt := 116) hx hb dX0_layRest_69 (by decide) (fun c0 => absurd c0 (by decide)) (fun _ => ?_)
                  refine lv_aload_n hx hb dX0_layRest_72 rfl (lv_at hl 5 rfl) ?_
                  refine lv_iload_n hx hb dX0_layRest_73 rfl (lv_at hl 6 rfl) ?_
                  refine lv_iload hx hb dX0_layRest_74 (lv_at hl 3 rfl) ?_
                  refine lv_iload hx hb dX0_layRest_76 (lv_at hl 2 rfl) ?_
                  refine cbVi (n := 3) (rest := []) hx hb hml hown hts hE hP hD hS hA (sX_X0_isContent_1 l dC dI cy x0 x p1 l5_1 l6_4 v4 f4 hIv4 ) k_1142 k_1144 k_36 k_111 k_1145 (by decide +kernel) ⟨Nat.le_of_ble_eq_true rfl, Nat.le_of_ble_eq_true rfl⟩ 32 0 rfl rfl (rfl) hl.1 rfl (Nat.le_of_ble_eq_true rfl) dX0_layRest_78 (fun r12 u H locs hw hP hD hS => ?_)
                  obtain ⟨v13, f14⟩ := u
                  obtain ⟨hIv13, hk0_v13, hk1_v13, hk9_v13, hk10_v13, hk31_v13, hk32_v13, hw⟩ := hw
                  have hP : va_P (dC, dI) vwCl (XW cy x0 x v13 f14) H := hP
                  have hD : va_D A (XW cy x0 x v13 f14) := hD
                  have hq0_v13 : v13 0 = (v 0) := hk0_v13.trans hq0_v4
                  have hq1_v13 : v13 1 = (v 1) := hk1_v13.trans hq1_v4
                  have hq9_v13 : v13 9 = (v 9) := hk9_v13.trans hq9_v4
                  have hq10_v13 : v13 10 = (v 10) := hk10_v13.trans hq10_v4
                  have hq31_v13 : v13 31 = (v 31) := hk31_v13.trans hq31_v4
                  have hq32_v13 : v13 32 = (v 32) := hk32_v13.trans hq32_v4
                  rcases hw with ⟨g15⟩ | ⟨g15⟩
                  · skip
                    subst g15
                    refine lv_if_eq (tgt := 116) hx hb dX0_layRest_81 (by decide) (fun c0 => absurd c0 (by decide)) (fun _ => ?_)
                    refine lv_aload_n hx hb dX0_layRest_84 rfl (lv_at hl 5 rfl) ?_
                    refine lv_iload_n hx hb dX0_layRest_85 rfl (lv_at hl 7 rfl) ?_
                    refine lv_iload hx hb dX0_layRest_86 (lv_at hl 2 rfl) ?_
                    refine lv_iload hx hb dX0_layRest_88 (lv_at hl 3 rfl) ?_
                    refine cbVi (n := 3) (rest := []) hx hb hml hown hts hE hP hD hS hA (sX_X0_isContent_1 l dC dI cy x0 x p2 l6_4 l5_1 v13 f14 hIv13 ) k_1142 k_1144 k_36 k_111 k_1145 (by decide +kernel) ⟨Nat.le_of_ble_eq_true rfl, Nat.le_of_ble_eq_true rfl⟩ 32 0 rfl rfl (rfl) hl.1 rfl (Nat.le_of_ble_eq_true rfl) dX0_layRest_90 (fun r16 u H locs hw hP hD hS => ?_)
                    obtain ⟨v17, f18⟩ := u
                    obtain ⟨hIv17, hk0_v17, hk1_v17, hk9_v17, hk10_v17, hk31_v17, hk32_v17, hw⟩ := hw
                    have hP : va_P (dC, dI) vwCl (XW cy x0 x v17 f18) H := hP
                    have hD : va_D A (XW cy x0 x v17 f18) := hD
                    have hq0_v17 : v17 0 = (v 0) := hk0_v17.trans hq0_v13
                    have hq1_v17 : v17 1 = (v 1) := hk1_v17.trans hq1_v13
                    have hq9_v17 : v17 9 = (v 9) := hk9_v17.trans hq9_v13
                    have hq10_v17 : v17 10 = (v 10) := hk10_v17.trans hq10_v13
                    have hq31_v17 : v17 31 = (v 31) := hk31_v17.trans hq31_v13
                    have hq32_v17 : v17 32 = (v 32) := hk32_v17.trans hq32_v13
                    rcases hw with ⟨g19⟩ | ⟨g19⟩
                    · skip
                      subst g19
                      refine lv_if_eq (tgt := 116) hx hb dX0_layRest_93 (by decide) (fun c0 => absurd c0 (by decide)) (fun _ => ?_)
                      obtain ⟨t20, et20⟩ : ∃ y : Int32, y = l3_4 + 1 := ⟨_, rfl⟩
                      refine lv_iinc (v := t20) (lv' := [(3, .int t20), (4, .int t11), (7, .int 1), (6, .int l6_4), (5, .int l5_1), (0, .ref (x 31)), (1, .int p1), (2, .int p2)]) hx hb dX0_layRest_96 hl (k := 4) rfl (by rw [et20]; rfl) (by decide) rfl (fun ls hl => ?_)
                      refine lv_iload_n hx hb dX0_layRest_99 rfl (lv_at hl 0 rfl) ?_
                      refine lv_iconst (v := 1) hx hb dX0_layRest_100 (by decide) ?_
                      refine lv_icmp_ne (tgt := 116) hx hb dX0_layRest_101 (by decide) (fun c21 => ?_) (fun c21 => ?_)
                      · skip
                        have zc21 : ¬ (t20.toInt = 1) := by rw [fa_eq, show (1 : Int32).toInt = 1 from by decide] at c21; exact c21
                        obtain ⟨t22, et22⟩ : ∃ y : Int32, y = l6_4 + 1 := ⟨_, rfl⟩
                        have zt22 : t22.toInt = l6_4.toInt + 1 := by rw [et22]; exact add_i rfl (by decide) (by omega) (by omega)
                        refine lv_iinc (v := t22) (lv' := [(6, .int t22), (3, .int t20), (4, .int t11), (7, .int 1), (5, .int l5_1), (0, .ref (x 31)), (1, .int p1), (2, .int p2)]) hx hb dX0_layRest_116 hl (k := 3) rfl (by rw [et22]; rfl) (by decide) rfl (fun ls hl => ?_)
                        refine lv_goto (tgt := 23) hx hb dX0_layRest_119 (by decide) ?_
                        exact ih4 t20 t11 t22 v17 f18 hIv17 hq0_v17 hq1_v17 hq9_v17 hq10_v17 hq31_v17 hq32_v17  (by show (2147483647 - t22.toInt).toNat < n; omega) _ _ _ hP hD hS (lv_sub hl [0, 4, 2, 1, 5, 6, 7] rfl)
                      · skip
                        have zc21 : t20.toInt = 1 := by rw [fa_eq, show (1 : Int32).toInt = 1 from by decide] at c21; exact c21
                        refine lv_aload_n hx hb dX0_layRest_104 rfl (lv_at hl 5 rfl) ?_
                        refine lv_iload hx hb dX0_layRest_105 (lv_at hl 4 rfl) ?_
                        refine cbVv (n := 1) (rest := []) hx hb hml hown hts hE hP hD hS hA (sX_X0_lay_1 l dC dI cy x0 x l5_1 v17 f18 hIv17 ) k_995 k_997 k_26 k_111 k_998 (by decide +kernel) ⟨Nat.le_of_ble_eq_true rfl, Nat.le_of_ble_eq_true rfl⟩ 32 0 rfl rfl (rfl) hl.1 rfl (Nat.le_of_ble_eq_true rfl) dX0_layRest_107 (fun u H locs hw hP hD hS => ?_)
                        obtain ⟨v23, f24⟩ := u
                        obtain ⟨hIv23, hk0_v23, hk1_v23, hk9_v23, hk10_v23, hk31_v23, hk32_v23⟩ := hw
                        have hP : va_P (dC, dI) vwCl (XW cy x0 x v23 f24) H := hP
                        have hD : va_D A (XW cy x0 x v23 f24) := hD
                        have hq0_v23 : v23 0 = (v 0) := hk0_v23.trans hq0_v17
                        have hq1_v23 : v23 1 = (v 1) := hk1_v23.trans hq1_v17
                        have hq9_v23 : v23 9 = (v 9) := hk9_v23.trans hq9_v17
                        have hq10_v23 : v23 10 = (v 10) := hk10_v23.trans hq10_v17
                        have hq31_v23 : v23 31 = (v 31) := hk31_v23.trans hq31_v17
                        have hq32_v23 : v23 32 = (v 32) := hk32_v23.trans hq32_v17
                        refine lv_aload_n hx hb dX0_layRest_110 rfl (lv_at hl 5 rfl) ?_
                        refine lv_iload hx hb dX0_layRest_111 (lv_at hl 3 rfl) ?_
                        refine cbVv (n := 1) (rest := []) hx hb hml hown hts hE hP hD hS hA (sX_X0_lay_1 l dC dI cy x0 x l6_4 v23 f24 hIv23 ) k_995 k_997 k_26 k_111 k_998 (by decide +kernel) ⟨Nat.le_of_ble_eq_true rfl, Nat.le_of_ble_eq_true rfl⟩ 32 0 rfl rfl (rfl) hl.1 rfl (Nat.le_of_ble_eq_true rfl) dX0_layRest_113 (fun u H locs hw hP hD hS => ?_)
                        obtain ⟨v25, f26⟩ := u
                        obtain ⟨hIv25, hk0_v25, hk1_v25, hk9_v25, hk10_v25, hk31_v25, hk32_v25⟩ := hw
                        have hP : va_P (dC, dI) vwCl (XW cy x0 x v25 f26) H := hP
                        have hD : va_D A (XW cy x0 x v25 f26) := hD
                        have hq0_v25 : v25 0 = (v 0) := hk0_v25.trans hq0_v23
                        have hq1_v25 : v25 1 = (v 1) := hk1_v25.trans hq1_v23
                        have hq9_v25 : v25 9 = (v 9) := hk9_v25.trans hq9_v23
                        have hq10_v25 : v25 10 = (v 10) := hk10_v25.trans hq10_v23
                        have hq31_v25 : v25 31 = (v 31) := hk31_v25.trans hq31_v23
                        have hq32_v25 : v25 32 = (v 32) := hk32_v25.trans hq32_v23
                        obtain ⟨t27, et27⟩ : ∃ y : Int32, y = l6_4 + 1 := ⟨_, rfl⟩
                        have zt27 : t27.toInt = l6_4.toInt + 1 := by rw [et27]; exact add_i rfl (by decide) (by omega) (by omega)
                        refine lv_iinc (v := t27) (lv' := [(6, .int t27), (3, .int t20), (4, .int t11), (7, .int 1), (5, .int l5_1), (0, .ref (x 31)), (1, .int p1), (2, .int p2)]) hx hb dX0_layRest_116 hl (k := 3) rfl (by rw [et27]; rfl) (by decide) rfl (fun ls hl => ?_)
                        refine lv_goto (tgt := 23) hx hb dX0_layRest_119 (by decide) ?_
                        exact ih4 t20 t11 t27 v25 f26 hIv25 hq0_v25 hq1_v25 hq9_v25 hq10_v25 hq31_v25 hq32_v25  (by show (2147483647 - t27.toInt).toNat < n; omega) _ _ _ hP hD hS (lv_sub hl [0, 4, 2, 1, 5, 6, 7] rfl)
                    · skip
                      subst g19
                      refine lv_if_eq (tgt := 116) hx hb dX0_layRest_93 (by decide) (fun _ => ?_) (fun c0 => absurd (by decide) c0)
                      obtain ⟨t28, et28⟩ : ∃ y : Int32, y = l6_4 + 1 := ⟨_, rfl⟩
                      have zt28 : t28.toInt = l6_4.toInt + 1 := by rw [et28]; exact add_i rfl (by decide) (by omega) (by omega)
                      refine lv_iinc (v := t28) (lv' := [(6, .int t28), (4, .int t11), (7, .int 1), (5, .int l5_1), (3, .int l3_4), (0, .ref (x 31)), (1, .int p1), (2, .int p2)]) hx hb dX0_layRest_116 hl (k := 2) rfl (by rw [et28]; rfl) (by decide) rfl (fun ls hl => ?_)
                      refine lv_goto (tgt := 23) hx hb dX0_layRest_119 (by decide) ?_
                      exact ih4 l3_4 t11 t28 v17 f18 hIv17 hq0_v17 hq1_v17 hq9_v17 hq10_v17 hq31_v17 hq32_v17  (by show (2147483647 - t28.toInt).toNat < n; omega) _ _ _ hP hD hS (lv_sub hl [0, 3, 1, 4, 5, 6, 7] rfl)
                  · skip
                    subst g15
                    refine lv_if_eq (tgt := 116) hx hb dX0_layRest_81 (by decide) (fun _ => ?_) (fun c0 => absurd (by decide) c0)
                    obtain ⟨t29, et29⟩ : ∃ y : Int32, y = l6_4 + 1 := ⟨_, rfl⟩
                    have zt29 : t29.toInt = l6_4.toInt + 1 := by rw [et29]; exact add_i rfl (by decide) (by omega) (by omega)
                    refine lv_iinc (v := t29) (lv' := [(6, .int t29), (4, .int t11), (7, .int 1), (5, .int l5_1), (3, .int l3_4), (0, .ref (x 31)), (1, .int p1), (2, .int p2)]) hx hb dX0_layRest_116 hl (k := 2) rfl (by rw [et29]; rfl) (by decide) rfl (fun ls hl => ?_)
                    refine lv_goto (tgt := 23) hx hb dX0_layRest_119 (by decide) ?_
                    exact ih4 l3_4 t11 t29 v13 f14 hIv13 hq0_v13 hq1_v13 hq9_v13 hq10_v13 hq31_v13 hq32_v13  (by show (2147483647 - t29.toInt).toNat < n; omega) _ _ _ hP hD hS (lv_sub hl [0, 3, 1, 4, 5, 6, 7] rfl)
                · skip
                  subst g10
                  refine lv_if_eq (tgt := 57) hx hb dX0_layRest_50 (by decide) (fun _ => ?_) (fun c0 => absurd (by decide) c0)
                  refine lv_iconst (v := 0) hx hb dX0_layRest_57 (by decide) ?_
                  refine lv_istore (lv' := [(7, .int 0), (6, .int l6_4), (5, .int l5_1), (4, .int l4_4), (3, .int l3_4), (0, .ref (x 31)), (1, .int p1), (2, .int p2)]) hx hb dX0_layRest_58 hl (by decide) rfl (fun ls hl => ?_)
                  refine lv_iload hx hb dX0_layRest_60 (lv_at hl 3 rfl) ?_
                  refine lv_iload hx hb dX0_layRest_62 (lv_at hl 0 rfl) ?_
                  refine lv_ior hx hb dX0_layRest_64 ?_
                  refine lv_topi (fun t30 et30 => ?_)
                  refine lv_istore (lv' := [(4, .int t30), (7, .int 0), (6, .int l6_4), (5, .int l5_1), (3, .int l3_4), (0, .ref (x 31)), (1, .int p1), (2, .int p2)]) hx hb dX0_layRest_65 hl (by decide) rfl (fun ls hl => ?_)
                  refine lv_iload hx hb dX0_layRest_67 (lv_at hl 1 rfl) ?_
                  refine lv_if_eq (tgt := 116) hx hb dX0_layRest_69 (by decide) (fun _ => ?_) (fun c0 => absurd (by decide) c0)
                  obtain ⟨t31, et31⟩ : ∃ y : Int32, y = l6_4 + 1 := ⟨_, rfl⟩
                  have zt31 : t31.toInt = l6_4.toInt + 1 := by rw [et31]; exact add_i rfl (by decide) (by omega) (by omega)
                  refine lv_iinc (v := t31) (lv' := [(6, .int t31), (4, .int t30), (7, .int 0), (5, .int l5_1), (3, .int l3_4), (0, .ref (x 31)), (1, .int p1), (2, .int p2)]) hx hb dX0_layRest_116 hl (k := 2) rfl (by rw [et31]; rfl) (by decide) rfl (fun ls hl => ?_)
                  refine lv_goto (tgt := 23) hx hb dX0_layRest_119 (by decide) ?_
                  exact ih4 l3_4 t30 t31 v4 f4 hIv4 hq0_v4 hq1_v4 hq9_v4 hq10_v4 hq31_v4 hq32_v4  (by show (2147483647 - t31.toInt).toNat < n; omega) _ _ _ hP hD hS (lv_sub hl [0, 3, 1, 4, 5, 6, 7] rfl)
              · skip
                subst g8
                refine lv_if_eq (tgt := 57) hx hb dX0_layRest_41 (by decide) (fun _ => ?_) (fun c0 => absurd (by decide) c0)
                refine lv_iconst (v := 0) hx hb dX0_layRest_57 (by decide) ?_
                refine lv_istore (lv' := [(7, .int 0), (6, .int l6_4), (5, .int l5_1), (4, .int l4_4), (3, .int l3_4), (0, .ref (x 31)), (1, .int p1), (2, .int p2)]) hx hb dX0_layRest_58 hl (by decide) rfl (fun ls hl => ?_)
                refine lv_iload hx hb dX0_layRest_60 (lv_at hl 3 rfl) ?_
                refine lv_iload hx hb dX0_layRest_62 (lv_at hl 0 rfl) ?_
                refine lv_ior hx hb dX0_layRest_64 ?_
                refine lv_topi (fun t32 et32 => ?_)
                refine lv_istore (lv' := [(4, .int t32), (7, .int 0), (6, .int l6_4), (5, .int l5_1), (3, .int l3_4), (0, .ref (x 31)), (1, .int p1), (2, .int p2)]) hx hb dX0_layRest_65 hl (by decide) rfl (fun ls hl => ?_)
                refine lv_iload hx hb dX0_layRest_67 (lv_at hl 1 rfl) ?_
                refine lv_if_eq (tgt := 116) hx hb dX0_layRest_69 (by decide) (fun _ => ?_) (fun c0 => absurd (by decide) c0)
                obtain ⟨t33, et33⟩ : ∃ y : Int32, y = l6_4 + 1 := ⟨_, rfl⟩
                have zt33 : t33.toInt = l6_4.toInt + 1 := by rw [et33]; exact add_i rfl (by decide) (by omega) (by omega)
                refine lv_iinc (v := t33) (lv' := [(6, .int t33), (4, .int t32), (7, .int 0), (5, .int l5_1), (3, .int l3_4), (0, .ref (x 31)), (1, .int p1), (2, .int p2)]) hx hb dX0_layRest_116 hl (k := 2) rfl (by rw [et33]; rfl) (by decide) rfl (fun ls hl => ?_)
                refine lv_goto (tgt := 23) hx hb dX0_layRest_119 (by decide) ?_
                exact ih4 l3_4 t32 t33 v4 f4 hIv4 hq0_v4 hq1_v4 hq9_v4 hq10_v4 hq31_v4 hq32_v4  (by show (2147483647 - t33.toInt).toNat < n; omega) _ _ _ hP hD hS (lv_sub hl [0, 3, 1, 4, 5, 6, 7] rfl)
        exact lp4 _ l3_1 l4_1 0 v1 f1 hIv1 hq0_v1 hq1_v1 hq9_v1 hq10_v1 hq31_v1 hq32_v1  (Nat.lt_succ_self _) _ _ _ hP hD hS (lv_sub hl [0, 1, 2, 3, 4, 5, 6] rfl)
  exact lp1 _ 0 0 0 v f hIv rfl rfl rfl rfl rfl rfl  (Nat.lt_succ_self _) _ _ _ hP hD hS (lv_sub hl [0, 1, 2, 3, 4, 5] rfl)
set_option maxHeartbeats 4000000 in
set_option maxRecDepth 100000 in
theorem sX_X10_reach_1 (l : Launch) (dC : Nat → ClassId) (dI : Nat → Nat → Nat) (cy : Nat → ClassId) (x0 : Nat) (x : Nat → Nat) (p1 : Int32) (p2 : Int32) (v : Nat → Int32) (f : Nat → Nat → Int32) (hIv : XI v)  : ctI l (dC, dI) cy yX10_reach cX10_reach 3 .int 7 208 0 0 ((Nat → Int32) × (Nat → Nat → Int32)) [.ref x0, .int p1, .int p2] (XW cy x0 x v f) (fun r u => XI u.1 ∧ u.1 0 = v 0 ∧ u.1 1 = v 1 ∧ u.1 9 = v 9 ∧ u.1 10 = v 10 ∧ u.1 31 = v 31 ∧ u.1 32 = v 32) (fun u => XW cy x0 x u.1 u.2) := by
  refine ctI_of (by decide) (Nat.le_of_ble_eq_true rfl) (fun p e s m below meth c A ls Q hx hb hml hts hown hE hP hD hA hl ret => ?_)
  have hown : s.vm.findClass RX10 = some m.cls := hown
  have hS : va_S A s.heap s.heap [] := va_S.rf
  have hl : lv_has ls 3 [(0, .ref x0), (1, .int p1), (2, .int p2)] := hl
  refine lv_aload_n hx hb dX10_reach_0 rfl (lv_at hl 0 rfl) ?_
  refine va_get (D := (dC, dI)) (ci := 10) (v := .ref (x 31)) (C := RX10) (T := TX10) (N := 10) hx hb hts inB_10 hown hE.1 hP 0 rfl rfl 7 (by decide) (hts _ k_498) (fun _ h9 => h9) rfl dX10_reach_1 ?_
  refine cbVv (n := 0) (rest := []) hx hb hml hown hts hE hP hD hS hA (sX_X0_clear_1 l dC dI cy x0 x  v f hIv ) k_786 k_787 k_788 k_111 k_789 (by decide +kernel) ⟨Nat.le_of_ble_eq_true rfl, Nat.le_of_ble_eq_true rfl⟩ 32 0 rfl rfl (rfl) hl.1 rfl (Nat.le_of_ble_eq_true rfl) dX10_reach_4 (fun u H locs hw hP hD hS => ?_)
  obtain ⟨v1, f2⟩ := u
  obtain ⟨hIv1, hk0_v1, hk1_v1, hk9_v1, hk10_v1, hk31_v1, hk32_v1⟩ := hw
  have hP : va_P (dC, dI) vwCl (XW cy x0 x v1 f2) H := hP
  have hD : va_D A (XW cy x0 x v1 f2) := hD
  have hq0_v1 : v1 0 = (v 0) := hk0_v1
  have hq1_v1 : v1 1 = (v 1) := hk1_v1
  have hq9_v1 : v1 9 = (v 9) := hk9_v1
  have hq10_v1 : v1 10 = (v 10) := hk10_v1
  have hq31_v1 : v1 31 = (v 31) := hk31_v1
  have hq32_v1 : v1 32 = (v 32) := hk32_v1
  refine lv_iload_n hx hb dX10_reach_7 rfl (lv_at hl 1 rfl) ?_
  refine lv_iload_n hx hb dX10_reach_8 rfl (lv_at hl 2 rfl) ?_
  refine lv_icmp_eq (tgt := 34) hx hb dX10_reach_9 (by decide) (fun c3 => ?_) (fun c3 => ?_)
  · skip
    have zc3 : p1.toInt = p2.toInt := by rw [fa_eq] at c3; exact c3
    refine lv_iconst (v := (-1)) hx hb dX10_reach_34 (by decide) ?_
    exact ret (-1) (v1, f2) _ _ _ _ _ _ rfl ⟨hIv1, hk0_v1, hk1_v1, hk9_v1, hk10_v1, hk31_v1, hk32_v1⟩ hP hD hS dX10_reach_35 (Nat.le_refl _) (Nat.le_refl _)
  · skip
    have zc3 : ¬ (p1.toInt = p2.toInt) := by rw [fa_eq] at c3; exact c3
    refine lv_aload_n hx hb dX10_reach_12 rfl (lv_at hl 0 rfl) ?_
    refine va_get (D := (dC, dI)) (ci := 10) (v := .ref (x 26)) (C := RX10) (T := TX10) (N := 10) hx hb hts inB_10 hown hE.1 hP 0 rfl rfl 2 (by decide) (hts _ k_493) (fun _ h9 => h9) rfl dX10_reach_13 ?_
    refine lv_iload_n hx hb dX10_reach_16 rfl (lv_at hl 1 rfl) ?_
    refine cbVi (n := 1) (rest := []) hx hb hml hown hts hE hP hD hS hA (sX_X7_hasMan_1 l dC dI cy x0 x p1 v1 f2 hIv1 ) k_802 k_307 k_308 k_104 k_309 (by decide +kernel) ⟨Nat.le_of_ble_eq_true rfl, Nat.le_of_ble_eq_true rfl⟩ 27 7 rfl rfl (rfl) hl.1 rfl (Nat.le_of_ble_eq_true rfl) dX10_reach_17 (fun r4 u H locs hw hP hD hS => ?_)
    rcases hw with ⟨g5, g5_0, g5_1⟩ | ⟨g5⟩
    · skip
      subst g5
      refine lv_if_eq (tgt := 34) hx hb dX10_reach_20 (by decide) (fun c0 => absurd c0 (by decide)) (fun _ => ?_)
      refine lv_aload_n hx hb dX10_reach_23 rfl (lv_at hl 0 rfl) ?_
      refine va_get (D := (dC, dI)) (ci := 10) (v := .ref (x 26)) (C := RX10) (T := TX10) (N := 10) hx hb hts inB_10 hown hE.1 hP 0 rfl rfl 2 (by decide) (hts _ k_493) (fun _ h9 => h9) rfl dX10_reach_24 ?_
      refine lv_iload_n hx hb dX10_reach_27 rfl (lv_at hl 2 rfl) ?_
      refine cbVi (n := 1) (rest := []) hx hb hml hown hts hE hP hD hS hA (sX_X7_hasMan_1 l dC dI cy x0 x p2 v1 f2 hIv1 ) k_802 k_307 k_308 k_104 k_309 (by decide +kernel) ⟨Nat.le_of_ble_eq_true rfl, Nat.le_of_ble_eq_true rfl⟩ 27 7 rfl rfl (rfl) hl.1 rfl (Nat.le_of_ble_eq_true rfl) dX10_reach_28 (fun r6 u H locs hw hP hD hS => ?_)
      rcases hw with ⟨g7, g7_0, g7_1⟩ | ⟨g7⟩
      · skip
        subst g7
        refine lv_if_ne (tgt := 36) hx hb dX10_reach_31 (by decide) (fun _ => ?_) (fun c0 => absurd c0 (by decide))
        refine lv_aload_n hx hb dX10_reach_36 rfl (lv_at hl 0 rfl) ?_
        refine va_get (D := (dC, dI)) (ci := 10) (v := .ref (x 31)) (C := RX10) (T := TX10) (N := 10) hx hb hts inB_10 hown hE.1 hP 0 rfl rfl 7 (by decide) (hts _ k_498) (fun _ h9 => h9) rfl dX10_reach_37 ?_
        refine lv_iload_n hx hb dX10_reach_40 rfl (lv_at hl 1 rfl) ?_
        refine lv_iload_n hx hb dX10_reach_41 rfl (lv_at hl 2 rfl) ?_
        refine cbVi (n := 2) (rest := []) hx hb hml hown hts hE hP hD hS hA (sX_X0_layRest_1 l dC dI cy x0 x p1 p2 v1 f2 hIv1 ) k_1133 k_1134 k_1135 k_111 k_1136 (by decide +kernel) ⟨Nat.le_of_ble_eq_true rfl, Nat.le_of_ble_eq_true rfl⟩ 32 0 rfl rfl (rfl) hl.1 rfl (Nat.le_of_ble_eq_true rfl) dX10_reach_42 (fun r8 u H locs hw hP hD hS => ?_)
        obtain ⟨v9, f10⟩ := u
        obtain ⟨hIv9, hk0_v9, hk1_v9, hk9_v9, hk10_v9, hk31_v9, hk32_v9⟩ := hw
        have hP : va_P (dC, dI) vwCl (XW cy x0 x v9 f10) H := hP
        have hD : va_D A (XW cy x0 x v9 f10) := hD
        have hq0_v9 : v9 0 = (v 0) := hk0_v9.trans hq0_v1
        have hq1_v9 : v9 1 = (v 1) := hk1_v9.trans hq1_v1
        have hq9_v9 : v9 9 = (v 9) := hk9_v9.trans hq9_v1
        have hq10_v9 : v9 10 = (v 10) := hk10_v9.trans hq10_v1
        have hq31_v9 : v9 31 = (v 31) := hk31_v9.trans hq31_v1
        have hq32_v9 : v9 32 = (v 32) := hk32_v9.trans hq32_v1
        exact ret r8 (v9, f10) _ _ _ _ _ _ rfl ⟨hIv9, (hk0_v9.trans hk0_v1), (hk1_v9.trans hk1_v1), (hk9_v9.trans hk9_v1), (hk10_v9.trans hk10_v1), (hk31_v9.trans hk31_v1), (hk32_v9.trans hk32_v1)⟩ hP hD hS dX10_reach_45 (Nat.le_refl _) (Nat.le_refl _)
      · skip
        subst g7
        refine lv_if_ne (tgt := 36) hx hb dX10_reach_31 (by decide) (fun c0 => absurd (by decide) c0) (fun _ => ?_)
        refine lv_iconst (v := (-1)) hx hb dX10_reach_34 (by decide) ?_
        exact ret (-1) (v1, f2) _ _ _ _ _ _ rfl ⟨hIv1, hk0_v1, hk1_v1, hk9_v1, hk10_v1, hk31_v1, hk32_v1⟩ hP hD hS dX10_reach_35 (Nat.le_refl _) (Nat.le_refl _)
    · skip
      subst g5
      refine lv_if_eq (tgt := 34) hx hb dX10_reach_20 (by decide) (fun _ => ?_) (fun c0 => absurd (by decide) c0)
      refine lv_iconst (v := (-1)) hx hb dX10_reach_34 (by decide) ?_
      exact ret (-1) (v1, f2) _ _ _ _ _ _ rfl ⟨hIv1, hk0_v1, hk1_v1, hk9_v1, hk10_v1, hk31_v1, hk32_v1⟩ hP hD hS dX10_reach_35 (Nat.le_refl _) (Nat.le_refl _)
set_option maxHeartbeats 4000000 in
set_option maxRecDepth 100000 in
theorem sX_X1_fittedMen_2 (l : Launch) (dC : Nat → ClassId) (dI : Nat → Nat → Nat) (cy : Nat → ClassId) (x0 : Nat) (x : Nat → Nat)  (v : Nat → Int32) (f : Nat → Nat → Int32) (hIv : XI v)  : ctI l (dC, dI) cy yX1_fittedMen cX1_fittedMen 3 .int 5 155 0 0 ((Nat → Int32) × (Nat → Nat → Int32)) [.ref (x 27)] (XW cy x0 x v f) (fun r u => XI u.1 ∧ u.1 0 = v 0 ∧ u.1 1 = v 1 ∧ u.1 9 = v 9 ∧ u.1 10 = v 10 ∧ u.1 31 = v 31 ∧ u.1 32 = v 32) (fun u => XW cy x0 x u.1 u.2) := by
  refine ctI_of (by decide) (Nat.le_of_ble_eq_true rfl) (fun p e s m below meth c A ls Q hx hb hml hts hown hE hP hD hA hl ret => ?_)
  have hown : s.vm.findClass RX1 = some m.cls := hown
  have hS : va_S A s.heap s.heap [] := va_S.rf
  have hl : lv_has ls 3 [(0, .ref (x 27))] := hl
  refine lv_iconst (v := 0) hx hb dX1_fittedMen_0 (by decide) ?_
  refine lv_istore_n (lv' := [(1, .int 0), (0, .ref (x 27))]) hx hb dX1_fittedMen_1 rfl hl (by decide) rfl (fun ls hl => ?_)
  refine lv_iconst (v := 0) hx hb dX1_fittedMen_2 (by decide) ?_
  refine lv_istore_n (lv' := [(2, .int 0), (1, .int 0), (0, .ref (x 27))]) hx hb dX1_fittedMen_3 rfl hl (by decide) rfl (fun ls hl => ?_)
  have lp1 : ∀ (n : Nat) (l1_1 : Int32) (l2_1 : Int32) (v1 : Nat → Int32) (f1 : Nat → Nat → Int32), XI v1 → v1 0 = (v 0) → v1 1 = (v 1) → v1 9 = (v 9) → v1 10 = (v 10) → v1 31 = (v 31) → v1 32 = (v 32) → (2147483647 - l2_1.toInt).toNat < n → ∀ (H : Heap) (locs : List Loc) (ls : Array Slot), va_P (dC, dI) vwCl (XW cy x0 x v1 f1) H → va_D A (XW cy x0 x v1 f1) → va_S A s.heap H locs → lv_has ls 3 [(2, .int l2_1), (1, .int l1_1), (0, .ref (x 27))] → W p l e { frames := 5, cells := 0, slots := 0, locals := 155 } s m ([.ref (x 27)] : List Value).toArray below meth c H locs 0 0 Q (F0 m 4 ls []) := by
    intro n
    induction n with
    | zero => intro l1_1 l2_1 v1 f1 hIv1 hq0_v1 hq1_v1 hq9_v1 hq10_v1 hq31_v1 hq32_v1 hm; exact absurd hm (Nat.not_lt_zero _)
    | succ n ih1 =>
      intro l1_1 l2_1 v1 f1 hIv1 hq0_v1 hq1_v1 hq9_v1 hq10_v1 hq31_v1 hq32_v1 hm1 H locs ls hP hD hS hl
      refine lv_iload_n hx hb dX1_fittedMen_4 rfl (lv_at hl 0 rfl) ?_
      refine lv_aload_n hx hb dX1_fittedMen_5 rfl (lv_at hl 2 rfl) ?_
      refine va_get (D := (dC, dI)) (ci := 1) (v := .ref (x 26)) (C := RX1) (T := TX1) (N := 2) hx hb hts inB_1 hown hE.1 hP 28 rfl rfl 0 (by decide) (hts _ k_318) (fun _ h9 => h9) rfl dX1_fittedMen_6 ?_
      refine va_getN (D := (dC, dI)) (ci := 7) (v := .int (v1 31)) (C := RX7) (T := TX7) (N := 10) hx hb hts inB_7 hown hE.1 hP 27 rfl rfl 3 (by decide) (va_Nw.use rfl (hE.2 _ k_219)) (fun _ h9 => h9) rfl dX1_fittedMen_9 ?_
      refine tI (y := (v 31)) hq31_v1 ?_
      refine lv_icmp_ge (tgt := 40) hx hb dX1_fittedMen_12 (by decide) (fun c2 => ?_) (fun c2 => ?_)
      · skip
        have zc2 : (v 31).toInt ≤ l2_1.toInt := by rw [fa_le] at c2; exact c2
        refine lv_iload_n hx hb dX1_fittedMen_40 rfl (lv_at hl 1 rfl) ?_
        exact ret l1_1 (v1, f1) _ _ _ _ _ _ rfl ⟨hIv1, (show v1 0 = v 0 from hq0_v1), (show v1 1 = v 1 from hq1_v1), (show v1 9 = v 9 from hq9_v1), (show v1 10 = v 10 from hq10_v1), (show v1 31 = v 31 from hq31_v1), (show v1 32 = v 32 from hq32_v1)⟩ hP hD hS dX1_fittedMen_41 (Nat.le_refl _) (Nat.le_refl _)
      · skip
        have zc2 : ¬ ((v 31).toInt ≤ l2_1.toInt) := by rw [fa_le] at c2; exact c2
        refine lv_aload_n hx hb dX1_fittedMen_15 rfl (lv_at hl 2 rfl) ?_
        refine lv_iload_n hx hb dX1_fittedMen_16 rfl (lv_at hl 0 rfl) ?_
        refine lv_aload_n hx hb dX1_fittedMen_17 rfl (lv_at hl 2 rfl) ?_
        refine lv_iload_n hx hb dX1_fittedMen_18 rfl (lv_at hl 0 rfl) ?_
        refine cbVi (n := 1) (rest := [.int l2_1, .ref (x 27)]) hx hb hml hown hts hE hP hD hS hA (sX_X1_wears_2 l dC dI cy x0 x l2_1 v1 f1 hIv1 ) k_853 k_810 k_811 k_106 k_812 (by decide +kernel) ⟨Nat.le_of_ble_eq_true rfl, Nat.le_of_ble_eq_true rfl⟩ 28 1 rfl rfl (rfl) hl.1 rfl (Nat.le_of_ble_eq_true rfl) dX1_fittedMen_19 (fun r3 u H locs hw hP hD hS => ?_)
        refine cbVi (n := 2) (rest := []) hx hb hml hown hts hE hP hD hS hA (sX_X1_fits_2 l dC dI cy x0 x l2_1 r3 v1 f1 hIv1 ) k_817 k_818 k_819 k_106 k_820 (by decide +kernel) ⟨Nat.le_of_ble_eq_true rfl, Nat.le_of_ble_eq_true rfl⟩ 28 1 rfl rfl (rfl) hl.1 rfl (Nat.le_of_ble_eq_true rfl) dX1_fittedMen_22 (fun r4 u H locs hw hP hD hS => ?_)
        obtain ⟨v5, f6⟩ := u
        obtain ⟨hIv5, hk0_v5, hk1_v5, hk9_v5, hk10_v5, hk31_v5, hk32_v5, hw⟩ := hw
        have hP : va_P (dC, dI) vwCl (XW cy x0 x v5 f6) H := hP
        have hD : va_D A (XW cy x0 x v5 f6) := hD
        have hq0_v5 : v5 0 = (v 0) := hk0_v5.trans hq0_v1
        have hq1_v5 : v5 1 = (v 1) := hk1_v5.trans hq1_v1
        have hq9_v5 : v5 9 = (v 9) := hk9_v5.trans hq9_v1
        have hq10_v5 : v5 10 = (v 10) := hk10_v5.trans hq10_v1
        have hq31_v5 : v5 31 = (v 31) := hk31_v5.trans hq31_v1
        have hq32_v5 : v5 32 = (v 32) := hk32_v5.trans hq32_v1
        rcases hw with ⟨g7⟩ | ⟨g7⟩
        · skip
          subst g7
          refine lv_if_eq (tgt := 34) hx hb dX1_fittedMen_25 (by decide) (fun c0 => absurd c0 (by decide)) (fun _ => ?_)
          refine lv_iload_n hx hb dX1_fittedMen_28 rfl (lv_at hl 1 rfl) ?_
          refine lv_iconst (v := 1) hx hb dX1_fittedMen_29 (by decide) ?_
          refine lv_iload_n hx hb dX1_fittedMen_30 rfl (lv_at hl 0 rfl) ?_
          refine lv_ishl hx hb dX1_fittedMen_31 ?_
          refine lv_topi (fun t8 et8 => ?_)
          refine lv_ior hx hb dX1_fittedMen_32 ?_
          refine lv_topi (fun t9 et9 => ?_)
          refine lv_istore_n (lv' := [(1, .int t9), (2, .int l2_1), (0, .ref (x 27))]) hx hb dX1_fittedMen_33 rfl hl (by decide) rfl (fun ls hl => ?_)
          obtain ⟨t10, et10⟩ : ∃ y : Int32, y = l2_1 + 1 := ⟨_, rfl⟩
          have zt10 : t10.toInt = l2_1.toInt + 1 := by rw [et10]; exact add_i rfl (by decide) (by omega) (by omega)
          refine lv_iinc (v := t10) (lv' := [(2, .int t10), (1, .int t9), (0, .ref (x 27))]) hx hb dX1_fittedMen_34 hl (k := 1) rfl (by rw [et10]; rfl) (by decide) rfl (fun ls hl => ?_)
          refine lv_goto (tgt := 4) hx hb dX1_fittedMen_37 (by decide) ?_
          exact ih1 t9 t10 v5 f6 hIv5 hq0_v5 hq1_v5 hq9_v5 hq10_v5 hq31_v5 hq32_v5  (by show (2147483647 - t10.toInt).toNat < n; omega) _ _ _ hP hD hS (lv_sub hl [0, 1, 2] rfl)
        · skip
          subst g7
          refine lv_if_eq (tgt := 34) hx hb dX1_fittedMen_25 (by decide) (fun _ => ?_) (fun c0 => absurd (by decide) c0)
          obtain ⟨t11, et11⟩ : ∃ y : Int32, y = l2_1 + 1 := ⟨_, rfl⟩
          have zt11 : t11.toInt = l2_1.toInt + 1 := by rw [et11]; exact add_i rfl (by decide) (by omega) (by omega)
          refine lv_iinc (v := t11) (lv' := [(2, .int t11), (1, .int l1_1), (0, .ref (x 27))]) hx hb dX1_fittedMen_34 hl (k := 0) rfl (by rw [et11]; rfl) (by decide) rfl (fun ls hl => ?_)
          refine lv_goto (tgt := 4) hx hb dX1_fittedMen_37 (by decide) ?_
          exact ih1 l1_1 t11 v5 f6 hIv5 hq0_v5 hq1_v5 hq9_v5 hq10_v5 hq31_v5 hq32_v5  (by show (2147483647 - t11.toInt).toNat < n; omega) _ _ _ hP hD hS (lv_sub hl [0, 1, 2] rfl)
  exact lp1 _ 0 0 v f hIv rfl rfl rfl rfl rfl rfl  (Nat.lt_succ_self _) _ _ _ hP hD hS (lv_sub hl [0, 1, 2] rfl)
set_option maxHeartbeats 4000000 in
set_option maxRecDepth 100000 in
theorem sX_X3_bestTurning_1 (l : Launch) (dC : Nat → ClassId) (dI : Nat → Nat → Nat) (cy : Nat → ClassId) (x0 : Nat) (x : Nat → Nat)  (v : Nat → Int32) (f : Nat → Nat → Int32) (hIv : XI v)  : ctI l (dC, dI) cy yX3_bestTurning cX3_bestTurning 5 .int 6 177 0 0 ((Nat → Int32) × (Nat → Nat → Int32)) [.ref (x 25)] (XW cy x0 x v f) (fun r u => XI u.1 ∧ u.1 0 = v 0 ∧ u.1 1 = v 1 ∧ u.1 9 = v 9 ∧ u.1 10 = v 10 ∧ u.1 31 = v 31 ∧ u.1 32 = v 32) (fun u => XW cy x0 x u.1 u.2) := by
  refine ctI_of (by decide) (Nat.le_of_ble_eq_true rfl) (fun p e s m below meth c A ls Q hx hb hml hts hown hE hP hD hA hl ret => ?_)
  have hown : s.vm.findClass RX3 = some m.cls := hown
  have hS : va_S A s.heap s.heap [] := va_S.rf
  have hl : lv_has ls 5 [(0, .ref (x 25))] := hl
  refine lv_iconst (v := (-1)) hx hb dX3_bestTurning_0 (by decide) ?_
  refine lv_istore_n (lv' := [(1, .int (-1)), (0, .ref (x 25))]) hx hb dX3_bestTurning_1 rfl hl (by decide) rfl (fun ls hl => ?_)
  refine lv_iconst (v := (-1)) hx hb dX3_bestTurning_2 (by decide) ?_
  refine lv_istore_n (lv' := [(2, .int (-1)), (1, .int (-1)), (0, .ref (x 25))]) hx hb dX3_bestTurning_3 rfl hl (by decide) rfl (fun ls hl => ?_)
  refine lv_iconst (v := 0) hx hb dX3_bestTurning_4 (by decide) ?_
  refine lv_istore_n (lv' := [(3, .int 0), (2, .int (-1)), (1, .int (-1)), (0, .ref (x 25))]) hx hb dX3_bestTurning_5 rfl hl (by decide) rfl (fun ls hl => ?_)
  have lp1 : ∀ (n : Nat) (l1_1 : Int32) (l2_1 : Int32) (l3_1 : Int32) (v1 : Nat → Int32) (f1 : Nat → Nat → Int32), XI v1 → v1 0 = (v 0) → v1 1 = (v 1) → v1 9 = (v 9) → v1 10 = (v 10) → v1 31 = (v 31) → v1 32 = (v 32) → (2147483647 - l3_1.toInt).toNat < n → ∀ (H : Heap) (locs : List Loc) (ls : Array Slot), va_P (dC, dI) vwCl (XW cy x0 x v1 f1) H → va_D A (XW cy x0 x v1 f1) → va_S A s.heap H locs → lv_has ls 5 [(3, .int l3_1), (2, .int l2_1), (1, .int l1_1), (0, .ref (x 25))] → W p l e { frames := 6, cells := 0, slots := 0, locals := 177 } s m ([.ref (x 25)] : List Value).toArray below meth c H locs 0 0 Q (F0 m 6 ls []) := by
    intro n
    induction n with
    | zero => intro l1_1 l2_1 l3_1 v1 f1 hIv1 hq0_v1 hq1_v1 hq9_v1 hq10_v1 hq31_v1 hq32_v1 hm; exact absurd hm (Nat.not_lt_zero _)
    | succ n ih1 =>
      intro l1_1 l2_1 l3_1 v1 f1 hIv1 hq0_v1 hq1_v1 hq9_v1 hq10_v1 hq31_v1 hq32_v1 hm1 H locs ls hP hD hS hl
      refine lv_iload_n hx hb dX3_bestTurning_6 rfl (lv_at hl 0 rfl) ?_
      refine lv_aload_n hx hb dX3_bestTurning_7 rfl (lv_at hl 3 rfl) ?_
      refine va_get (D := (dC, dI)) (ci := 3) (v := .ref (x 26)) (C := RX3) (T := TX3) (N := 10) hx hb hts inB_3 hown hE.1 hP 26 rfl rfl 0 (by decide) (hts _ k_370) (fun _ h9 => h9) rfl dX3_bestTurning_8 ?_
      refine va_getN (D := (dC, dI)) (ci := 7) (v := .int (v1 32)) (C := RX7) (T := TX7) (N := 10) hx hb hts inB_7 hown hE.1 hP 27 rfl rfl 4 (by decide) (va_Nw.use rfl (hE.2 _ k_225)) (fun _ h9 => h9) rfl dX3_bestTurning_11 ?_
      refine tI (y := (v 32)) hq32_v1 ?_
      refine lv_icmp_ge (tgt := 79) hx hb dX3_bestTurning_14 (by decide) (fun c2 => ?_) (fun c2 => ?_)
      · skip
        have zc2 : (v 32).toInt ≤ l3_1.toInt := by rw [fa_le] at c2; exact c2
        refine lv_iload_n hx hb dX3_bestTurning_79 rfl (lv_at hl 2 rfl) ?_
        exact ret l1_1 (v1, f1) _ _ _ _ _ _ rfl ⟨hIv1, (show v1 0 = v 0 from hq0_v1), (show v1 1 = v 1 from hq1_v1), (show v1 9 = v 9 from hq9_v1), (show v1 10 = v 10 from hq10_v1), (show v1 31 = v 31 from hq31_v1), (show v1 32 = v 32 from hq32_v1)⟩ hP hD hS dX3_bestTurning_80 (Nat.le_refl _) (Nat.le_refl _)
      · skip
        have zc2 : ¬ ((v 32).toInt ≤ l3_1.toInt) := by rw [fa_le] at c2; exact c2
        refine lv_aload_n hx hb dX3_bestTurning_17 rfl (lv_at hl 3 rfl) ?_
        refine va_get (D := (dC, dI)) (ci := 3) (v := .ref (x 27)) (C := RX3) (T := TX3) (N := 10) hx hb hts inB_3 hown hE.1 hP 26 rfl rfl 2 (by decide) (hts _ k_372) (fun _ h9 => h9) rfl dX3_bestTurning_18 ?_
        refine lv_aload_n hx hb dX3_bestTurning_21 rfl (lv_at hl 3 rfl) ?_
        refine va_get (D := (dC, dI)) (ci := 3) (v := .ref (x 21)) (C := RX3) (T := TX3) (N := 10) hx hb hts inB_3 hown hE.1 hP 26 rfl rfl 1 (by decide) (hts _ k_371) (fun _ h9 => h9) rfl dX3_bestTurning_22 ?_
        refine cbVv (n := 1) (rest := []) hx hb hml hown hts hE hP hD hS hA (sX_X1_copy_1 l dC dI cy x0 x  v1 f1 hIv1 ) k_945 k_946 k_947 k_106 k_948 (by decide +kernel) ⟨Nat.le_of_ble_eq_true rfl, Nat.le_of_ble_eq_true rfl⟩ 28 1 rfl rfl (rfl) hl.1 rfl (Nat.le_of_ble_eq_true rfl) dX3_bestTurning_25 (fun u H locs hw hP hD hS => ?_)
        obtain ⟨v3, f4⟩ := u
        obtain ⟨hIv3, hk0_v3, hk1_v3, hk9_v3, hk10_v3, hk31_v3, hk32_v3⟩ := hw
        have hP : va_P (dC, dI) vwCl (XW cy x0 x v3 f4) H := hP
        have hD : va_D A (XW cy x0 x v3 f4) := hD
        have hq0_v3 : v3 0 = (v 0) := hk0_v3.trans hq0_v1
        have hq1_v3 : v3 1 = (v 1) := hk1_v3.trans hq1_v1
        have hq9_v3 : v3 9 = (v 9) := hk9_v3.trans hq9_v1
        have hq10_v3 : v3 10 = (v 10) := hk10_v3.trans hq10_v1
        have hq31_v3 : v3 31 = (v 31) := hk31_v3.trans hq31_v1
        have hq32_v3 : v3 32 = (v 32) := hk32_v3.trans hq32_v1
        refine lv_aload_n hx hb dX3_bestTurning_28 rfl (lv_at hl 3 rfl) ?_
        refine va_get (D := (dC, dI)) (ci := 3) (v := .ref (x 27)) (C := RX3) (T := TX3) (N := 10) hx hb hts inB_3 hown hE.1 hP 26 rfl rfl 2 (by decide) (hts _ k_372) (fun _ h9 => h9) rfl dX3_bestTurning_29 ?_
        refine lv_iconst (v := 3) hx hb dX3_bestTurning_32 (by decide) ?_
        refine lv_iload_n hx hb dX3_bestTurning_33 rfl (lv_at hl 0 rfl) ?_
        refine lv_iconst (v := 0) hx hb dX3_bestTurning_34 (by decide) ?_
        refine cbVv (n := 3) (rest := []) hx hb hml hown hts hE hP hD hS hA (sX_X1_setPart_2 l dC dI cy x0 x 3 l3_1 0 v3 f4 hIv3 ) k_1158 k_875 k_876 k_106 k_877 (by decide +kernel) ⟨Nat.le_of_ble_eq_true rfl, Nat.le_of_ble_eq_true rfl⟩ 28 1 rfl rfl (rfl) hl.1 rfl (Nat.le_of_ble_eq_true rfl) dX3_bestTurning_35 (fun u H locs hw hP hD hS => ?_)
        obtain ⟨v5, f6⟩ := u
        obtain ⟨hIv5, hk0_v5, hk1_v5, hk9_v5, hk10_v5, hk31_v5, hk32_v5⟩ := hw
        have hP : va_P (dC, dI) vwCl (XW cy x0 x v5 f6) H := hP
        have hD : va_D A (XW cy x0 x v5 f6) := hD
        have hq0_v5 : v5 0 = (v 0) := hk0_v5.trans hq0_v3
        have hq1_v5 : v5 1 = (v 1) := hk1_v5.trans hq1_v3
        have hq9_v5 : v5 9 = (v 9) := hk9_v5.trans hq9_v3
        have hq10_v5 : v5 10 = (v 10) := hk10_v5.trans hq10_v3
        have hq31_v5 : v5 31 = (v 31) := hk31_v5.trans hq31_v3
        have hq32_v5 : v5 32 = (v 32) := hk32_v5.trans hq32_v3
        refine lv_aload_n hx hb dX3_bestTurning_38 rfl (lv_at hl 3 rfl) ?_
        refine va_get (D := (dC, dI)) (ci := 3) (v := .ref (x 27)) (C := RX3) (T := TX3) (N := 10) hx hb hts inB_3 hown hE.1 hP 26 rfl rfl 2 (by decide) (hts _ k_372) (fun _ h9 => h9) rfl dX3_bestTurning_39 ?_
        refine cbVi (n := 0) (rest := []) hx hb hml hown hts hE hP hD hS hA (sX_X1_fittedMen_2 l dC dI cy x0 x  v5 f6 hIv5 ) k_1041 k_964 k_965 k_106 k_966 (by decide +kernel) ⟨Nat.le_of_ble_eq_true rfl, Nat.le_of_ble_eq_true rfl⟩ 28 1 rfl rfl (rfl) hl.1 rfl (Nat.le_of_ble_eq_true rfl) dX3_bestTurning_42 (fun r7 u H locs hw hP hD hS => ?_)
        obtain ⟨v8, f9⟩ := u
        obtain ⟨hIv8, hk0_v8, hk1_v8, hk9_v8, hk10_v8, hk31_v8, hk32_v8⟩ := hw
        have hP : va_P (dC, dI) vwCl (XW cy x0 x v8 f9) H := hP
        have hD : va_D A (XW cy x0 x v8 f9) := hD
        have hq0_v8 : v8 0 = (v 0) := hk0_v8.trans hq0_v5
        have hq1_v8 : v8 1 = (v 1) := hk1_v8.trans hq1_v5
        have hq9_v8 : v8 9 = (v 9) := hk9_v8.trans hq9_v5
        have hq10_v8 : v8 10 = (v 10) := hk10_v8.trans hq10_v5
        have hq31_v8 : v8 31 = (v 31) := hk31_v8.trans hq31_v5
        have hq32_v8 : v8 32 = (v 32) := hk32_v8.trans hq32_v5
        refine cbSi (n := 1) (rest := []) hx hb hml hown hts hE hP hD hS hA (sX_J6_bitCount_0f7a4_1 l dC dI cy x0 x r7 v8 f9 hIv8 ) k_1042 k_1043 k_121 k_1044 (by decide +kernel) ⟨Nat.le_of_ble_eq_true rfl, Nat.le_of_ble_eq_true rfl⟩ (rfl) hl.1 rfl (Nat.le_of_ble_eq_true rfl) dX3_bestTurning_45 (fun r10 u H locs hw hP hD hS => ?_)
        refine lv_istore (lv' := [(4, .int r10), (3, .int l3_1), (2, .int l2_1), (1, .int l1_1), (0, .ref (x 25))]) hx hb dX3_bestTurning_48 hl (by decide) rfl (fun ls hl => ?_)
        refine lv_aload_n hx hb dX3_bestTurning_50 rfl (lv_at hl 4 rfl) ?_
        refine va_get (D := (dC, dI)) (ci := 3) (v := .ref (x 21)) (C := RX3) (T := TX3) (N := 10) hx hb hts inB_3 hown hE.1 hP 26 rfl rfl 1 (by decide) (hts _ k_371) (fun _ h9 => h9) rfl dX3_bestTurning_51 ?_
        refine lv_iconst (v := 4) hx hb dX3_bestTurning_54 (by decide) ?_
        refine lv_iload_n hx hb dX3_bestTurning_55 rfl (lv_at hl 1 rfl) ?_
        refine cbVi (n := 2) (rest := []) hx hb hml hown hts hE hP hD hS hA (sX_X1_part_1 l dC dI cy x0 x 4 l3_1 v8 f9 hIv8 ) k_1012 k_828 k_829 k_106 k_830 (by decide +kernel) ⟨Nat.le_of_ble_eq_true rfl, Nat.le_of_ble_eq_true rfl⟩ 22 1 rfl rfl (rfl) hl.1 rfl (Nat.le_of_ble_eq_true rfl) dX3_bestTurning_56 (fun r11 u H locs hw hP hD hS => ?_)
        refine lv_if_ne (tgt := 73) hx hb dX3_bestTurning_59 (by decide) (fun c12 => ?_) (fun c12 => ?_)
        · skip
          have zc12 : ¬ (r11.toInt = 0) := by rw [fa_eq, show (0 : Int32).toInt = 0 from by decide] at c12; exact c12
          obtain ⟨t13, et13⟩ : ∃ y : Int32, y = l3_1 + 1 := ⟨_, rfl⟩
          have zt13 : t13.toInt = l3_1.toInt + 1 := by rw [et13]; exact add_i rfl (by decide) (by omega) (by omega)
          refine lv_iinc (v := t13) (lv' := [(3, .int t13), (4, .int r10), (2, .int l2_1), (1, .int l1_1), (0, .ref (x 25))]) hx hb dX3_bestTurning_73 hl (k := 1) rfl (by rw [et13]; rfl) (by decide) rfl (fun ls hl => ?_)
          refine lv_goto (tgt := 6) hx hb dX3_bestTurning_76 (by decide) ?_
          exact ih1 l1_1 l2_1 t13 v8 f9 hIv8 hq0_v8 hq1_v8 hq9_v8 hq10_v8 hq31_v8 hq32_v8  (by show (2147483647 - t13.toInt).toNat < n; omega) _ _ _ hP hD hS (lv_sub hl [0, 2, 3, 4] rfl)
        · skip
          have zc12 : r11.toInt = 0 := by rw [fa_eq, show (0 : Int32).toInt = 0 from by decide] at c12; exact c12
          refine lv_iload hx hb dX3_bestTurning_62 (lv_at hl 0 rfl) ?_
          refine lv_iload_n hx hb dX3_bestTurning_64 rfl (lv_at hl 2 rfl) ?_
          refine lv_icmp_le (tgt := 73) hx hb dX3_bestTurning_65 (by decide) (fun c14 => ?_) (fun c14 => ?_)
          · skip
            have zc14 : r10.toInt ≤ l2_1.toInt := by rw [fa_le] at c14; exact c14
            obtain ⟨t15, et15⟩ : ∃ y : Int32, y = l3_1 + 1 := ⟨_, rfl⟩
            have zt15 : t15.toInt = l3_1.toInt + 1 := by rw [et15]; exact add_i rfl (by decide) (by omega) (by omega)
            refine lv_iinc (v := t15) (lv' := [(3, .int t15), (4, .int r10), (2, .int l2_1), (1, .int l1_1), (0, .ref (x 25))]) hx hb dX3_bestTurning_73 hl (k := 1) rfl (by rw [et15]; rfl) (by decide) rfl (fun ls hl => ?_)
            refine lv_goto (tgt := 6) hx hb dX3_bestTurning_76 (by decide) ?_
            exact ih1 l1_1 l2_1 t15 v8 f9 hIv8 hq0_v8 hq1_v8 hq9_v8 hq10_v8 hq31_v8 hq32_v8  (by show (2147483647 - t15.toInt).toNat < n; omega) _ _ _ hP hD hS (lv_sub hl [0, 2, 3, 4] rfl)
          · skip
            have zc14 : ¬ (r10.toInt ≤ l2_1.toInt) := by rw [fa_le] at c14; exact c14
            refine lv_iload_n hx hb dX3_bestTurning_68 rfl (lv_at hl 1 rfl) ?_
            refine lv_istore_n (lv' := [(1, .int l3_1), (4, .int r10), (3, .int l3_1), (2, .int l2_1), (0, .ref (x 25))]) hx hb dX3_bestTurning_69 rfl hl (by decide) rfl (fun ls hl => ?_)
            refine lv_iload hx hb dX3_bestTurning_70 (lv_at hl 1 rfl) ?_
            refine lv_istore_n (lv' := [(2, .int r10), (1, .int l3_1), (4, .int r10), (3, .int l3_1), (0, .ref (x 25))]) hx hb dX3_bestTurning_72 rfl hl (by decide) rfl (fun ls hl => ?_)
            obtain ⟨t16, et16⟩ : ∃ y : Int32, y = l3_1 + 1 := ⟨_, rfl⟩
            have zt16 : t16.toInt = l3_1.toInt + 1 := by rw [et16]; exact add_i rfl (by decide) (by omega) (by omega)
            refine lv_iinc (v := t16) (lv' := [(3, .int t16), (2, .int r10), (1, .int l3_1), (4, .int r10), (0, .ref (x 25))]) hx hb dX3_bestTurning_73 hl (k := 3) rfl (by rw [et16]; rfl) (by decide) rfl (fun ls hl => ?_)
            refine lv_goto (tgt := 6) hx hb dX3_bestTurning_76 (by decide) ?_
            exact ih1 l3_1 r10 t16 v8 f9 hIv8 hq0_v8 hq1_v8 hq9_v8 hq10_v8 hq31_v8 hq32_v8  (by show (2147483647 - t16.toInt).toNat < n; omega) _ _ _ hP hD hS (lv_sub hl [0, 1, 2, 4] rfl)
  exact lp1 _ (-1) (-1) 0 v f hIv rfl rfl rfl rfl rfl rfl  (Nat.lt_succ_self _) _ _ _ hP hD hS (lv_sub hl [0, 1, 2, 3] rfl)
set_option maxHeartbeats 4000000 in
set_option maxRecDepth 100000 in
theorem sX_X10_turning_1 (l : Launch) (dC : Nat → ClassId) (dI : Nat → Nat → Nat) (cy : Nat → ClassId) (x0 : Nat) (x : Nat → Nat)  (v : Nat → Int32) (f : Nat → Nat → Int32) (hIv : XI v)  : ctI l (dC, dI) cy yX10_turning cX10_turning 1 .int 7 201 0 0 ((Nat → Int32) × (Nat → Nat → Int32)) [.ref x0] (XW cy x0 x v f) (fun r u => XI u.1 ∧ u.1 0 = v 0 ∧ u.1 1 = v 1 ∧ u.1 9 = v 9 ∧ u.1 10 = v 10 ∧ u.1 31 = v 31 ∧ u.1 32 = v 32) (fun u => XW cy x0 x u.1 u.2) := by
  refine ctI_of (by decide) (Nat.le_of_ble_eq_true rfl) (fun p e s m below meth c A ls Q hx hb hml hts hown hE hP hD hA hl ret => ?_)
  have hown : s.vm.findClass RX10 = some m.cls := hown
  have hS : va_S A s.heap s.heap [] := va_S.rf
  have hl : lv_has ls 1 [(0, .ref x0)] := hl
  refine lv_aload_n hx hb dX10_turning_0 rfl (lv_at hl 0 rfl) ?_
  refine va_get (D := (dC, dI)) (ci := 10) (v := .ref (x 25)) (C := RX10) (T := TX10) (N := 10) hx hb hts inB_10 hown hE.1 hP 0 rfl rfl 5 (by decide) (hts _ k_496) (fun _ h9 => h9) rfl dX10_turning_1 ?_
  refine cbVi (n := 0) (rest := []) hx hb hml hown hts hE hP hD hS hA (sX_X3_bestTurning_1 l dC dI cy x0 x  v f hIv ) k_1154 k_1155 k_1156 k_109 k_1157 (by decide +kernel) ⟨Nat.le_of_ble_eq_true rfl, Nat.le_of_ble_eq_true rfl⟩ 26 3 rfl rfl (rfl) hl.1 rfl (Nat.le_of_ble_eq_true rfl) dX10_turning_4 (fun r1 u H locs hw hP hD hS => ?_)
  obtain ⟨v2, f3⟩ := u
  obtain ⟨hIv2, hk0_v2, hk1_v2, hk9_v2, hk10_v2, hk31_v2, hk32_v2⟩ := hw
  have hP : va_P (dC, dI) vwCl (XW cy x0 x v2 f3) H := hP
  have hD : va_D A (XW cy x0 x v2 f3) := hD
  have hq0_v2 : v2 0 = (v 0) := hk0_v2
  have hq1_v2 : v2 1 = (v 1) := hk1_v2
  have hq9_v2 : v2 9 = (v 9) := hk9_v2
  have hq10_v2 : v2 10 = (v 10) := hk10_v2
  have hq31_v2 : v2 31 = (v 31) := hk31_v2
  have hq32_v2 : v2 32 = (v 32) := hk32_v2
  exact ret r1 (v2, f3) _ _ _ _ _ _ rfl ⟨hIv2, hk0_v2, hk1_v2, hk9_v2, hk10_v2, hk31_v2, hk32_v2⟩ hP hD hS dX10_turning_7 (Nat.le_refl _) (Nat.le_refl _)
set_option maxHeartbeats 4000000 in
set_option maxRecDepth 100000 in
theorem sX_X1_menFitting_1 (l : Launch) (dC : Nat → ClassId) (dI : Nat → Nat → Nat) (cy : Nat → ClassId) (x0 : Nat) (x : Nat → Nat) (p1 : Int32) (v : Nat → Int32) (f : Nat → Nat → Int32) (hIv : XI v)  : ctI l (dC, dI) cy yX1_menFitting cX1_menFitting 4 .int 5 155 0 0 ((Nat → Int32) × (Nat → Nat → Int32)) [.ref (x 21), .int p1] (XW cy x0 x v f) (fun r u => XI u.1 ∧ u.1 0 = v 0 ∧ u.1 1 = v 1 ∧ u.1 9 = v 9 ∧ u.1 10 = v 10 ∧ u.1 31 = v 31 ∧ u.1 32 = v 32) (fun u => XW cy x0 x u.1 u.2) := by
  refine ctI_of (by decide) (Nat.le_of_ble_eq_true rfl) (fun p e s m below meth c A ls Q hx hb hml hts hown hE hP hD hA hl ret => ?_)
  have hown : s.vm.findClass RX1 = some m.cls := hown
  have hS : va_S A s.heap s.heap [] := va_S.rf
  have hl : lv_has ls 4 [(0, .ref (x 21)), (1, .int p1)] := hl
  refine lv_iconst (v := 0) hx hb dX1_menFitting_0 (by decide) ?_
  refine lv_istore_n (lv' := [(2, .int 0), (0, .ref (x 21)), (1, .int p1)]) hx hb dX1_menFitting_1 rfl hl (by decide) rfl (fun ls hl => ?_)
  refine lv_iconst (v := 0) hx hb dX1_menFitting_2 (by decide) ?_
  refine lv_istore_n (lv' := [(3, .int 0), (2, .int 0), (0, .ref (x 21)), (1, .int p1)]) hx hb dX1_menFitting_3 rfl hl (by decide) rfl (fun ls hl => ?_)
  have lp1 : ∀ (n : Nat) (l2_1 : Int32) (l3_1 : Int32) (v1 : Nat → Int32) (f1 : Nat → Nat → Int32), XI v1 → v1 0 = (v 0) → v1 1 = (v 1) → v1 9 = (v 9) → v1 10 = (v 10) → v1 31 = (v 31) → v1 32 = (v 32) → (2147483647 - l3_1.toInt).toNat < n → ∀ (H : Heap) (locs : List Loc) (ls : Array Slot), va_P (dC, dI) vwCl (XW cy x0 x v1 f1) H → va_D A (XW cy x0 x v1 f1) → va_S A s.heap H locs → lv_has ls 4 [(3, .int l3_1), (2, .int l2_1), (0, .ref (x 21)), (1, .int p1)] → W p l e { frames := 5, cells := 0, slots := 0, locals := 155 } s m ([.ref (x 21), .int p1] : List Value).toArray below meth c H locs 0 0 Q (F0 m 4 ls []) := by
    intro n
    induction n with
    | zero => intro l2_1 l3_1 v1 f1 hIv1 hq0_v1 hq1_v1 hq9_v1 hq10_v1 hq31_v1 hq32_v1 hm; exact absurd hm (Nat.not_lt_zero _)
    | succ n ih1 =>
      intro l2_1 l3_1 v1 f1 hIv1 hq0_v1 hq1_v1 hq9_v1 hq10_v1 hq31_v1 hq32_v1 hm1 H locs ls hP hD hS hl
      refine lv_iload_n hx hb dX1_menFitting_4 rfl (lv_at hl 0 rfl) ?_
      refine lv_aload_n hx hb dX1_menFitting_5 rfl (lv_at hl 2 rfl) ?_
      refine va_get (D := (dC, dI)) (ci := 1) (v := .ref (x 26)) (C := RX1) (T := TX1) (N := 2) hx hb hts inB_1 hown hE.1 hP 22 rfl rfl 0 (by decide) (hts _ k_318) (fun _ h9 => h9) rfl dX1_menFitting_6 ?_
      refine va_getN (D := (dC, dI)) (ci := 7) (v := .int (v1 31)) (C := RX7) (T := TX7) (N := 10) hx hb hts inB_7 hown hE.1 hP 27 rfl rfl 3 (by decide) (va_Nw.use rfl (hE.2 _ k_219)) (fun _ h9 => h9) rfl dX1_menFitting_9 ?_
      refine tI (y := (v 31)) hq31_v1 ?_
      refine lv_icmp_ge (tgt := 33) hx hb dX1_menFitting_12 (by decide) (fun c2 => ?_) (fun c2 => ?_)
      · skip
        have zc2 : (v 31).toInt ≤ l3_1.toInt := by rw [fa_le] at c2; exact c2
        refine lv_iload_n hx hb dX1_menFitting_33 rfl (lv_at hl 1 rfl) ?_
        exact ret l2_1 (v1, f1) _ _ _ _ _ _ rfl ⟨hIv1, (show v1 0 = v 0 from hq0_v1), (show v1 1 = v 1 from hq1_v1), (show v1 9 = v 9 from hq9_v1), (show v1 10 = v 10 from hq10_v1), (show v1 31 = v 31 from hq31_v1), (show v1 32 = v 32 from hq32_v1)⟩ hP hD hS dX1_menFitting_34 (Nat.le_refl _) (Nat.le_refl _)
      · skip
        have zc2 : ¬ ((v 31).toInt ≤ l3_1.toInt) := by rw [fa_le] at c2; exact c2
        refine lv_aload_n hx hb dX1_menFitting_15 rfl (lv_at hl 2 rfl) ?_
        refine lv_iload_n hx hb dX1_menFitting_16 rfl (lv_at hl 0 rfl) ?_
        refine lv_iload_n hx hb dX1_menFitting_17 rfl (lv_at hl 3 rfl) ?_
        refine cbVi (n := 2) (rest := []) hx hb hml hown hts hE hP hD hS hA (sX_X1_fits_1 l dC dI cy x0 x l3_1 p1 v1 f1 hIv1 ) k_817 k_818 k_819 k_106 k_820 (by decide +kernel) ⟨Nat.le_of_ble_eq_true rfl, Nat.le_of_ble_eq_true rfl⟩ 22 1 rfl rfl (rfl) hl.1 rfl (Nat.le_of_ble_eq_true rfl) dX1_menFitting_18 (fun r3 u H locs hw hP hD hS => ?_)
        obtain ⟨v4, f5⟩ := u
        obtain ⟨hIv4, hk0_v4, hk1_v4, hk9_v4, hk10_v4, hk31_v4, hk32_v4, hw⟩ := hw
        have hP : va_P (dC, dI) vwCl (XW cy x0 x v4 f5) H := hP
        have hD : va_D A (XW cy x0 x v4 f5) := hD
        have hq0_v4 : v4 0 = (v 0) := hk0_v4.trans hq0_v1
        have hq1_v4 : v4 1 = (v 1) := hk1_v4.trans hq1_v1
        have hq9_v4 : v4 9 = (v 9) := hk9_v4.trans hq9_v1
        have hq10_v4 : v4 10 = (v 10) := hk10_v4.trans hq10_v1
        have hq31_v4 : v4 31 = (v 31) := hk31_v4.trans hq31_v1
        have hq32_v4 : v4 32 = (v 32) := hk32_v4.trans hq32_v1
        rcases hw with ⟨g6⟩ | ⟨g6⟩
        · skip
          subst g6
          refine lv_if_eq (tgt := 27) hx hb dX1_menFitting_21 (by decide) (fun c0 => absurd c0 (by decide)) (fun _ => ?_)
          obtain ⟨t7, et7⟩ : ∃ y : Int32, y = l2_1 + 1 := ⟨_, rfl⟩
          refine lv_iinc (v := t7) (lv' := [(2, .int t7), (3, .int l3_1), (0, .ref (x 21)), (1, .int p1)]) hx hb dX1_menFitting_24 hl (k := 1) rfl (by rw [et7]; rfl) (by decide) rfl (fun ls hl => ?_)
          obtain ⟨t8, et8⟩ : ∃ y : Int32, y = l3_1 + 1 := ⟨_, rfl⟩
          have zt8 : t8.toInt = l3_1.toInt + 1 := by rw [et8]; exact add_i rfl (by decide) (by omega) (by omega)
          refine lv_iinc (v := t8) (lv' := [(3, .int t8), (2, .int t7), (0, .ref (x 21)), (1, .int p1)]) hx hb dX1_menFitting_27 hl (k := 1) rfl (by rw [et8]; rfl) (by decide) rfl (fun ls hl => ?_)
          refine lv_goto (tgt := 4) hx hb dX1_menFitting_30 (by decide) ?_
          exact ih1 t7 t8 v4 f5 hIv4 hq0_v4 hq1_v4 hq9_v4 hq10_v4 hq31_v4 hq32_v4  (by show (2147483647 - t8.toInt).toNat < n; omega) _ _ _ hP hD hS (lv_sub hl [0, 1, 2, 3] rfl)
        · skip
          subst g6
          refine lv_if_eq (tgt := 27) hx hb dX1_menFitting_21 (by decide) (fun _ => ?_) (fun c0 => absurd (by decide) c0)
          obtain ⟨t9, et9⟩ : ∃ y : Int32, y = l3_1 + 1 := ⟨_, rfl⟩
          have zt9 : t9.toInt = l3_1.toInt + 1 := by rw [et9]; exact add_i rfl (by decide) (by omega) (by omega)
          refine lv_iinc (v := t9) (lv' := [(3, .int t9), (2, .int l2_1), (0, .ref (x 21)), (1, .int p1)]) hx hb dX1_menFitting_27 hl (k := 0) rfl (by rw [et9]; rfl) (by decide) rfl (fun ls hl => ?_)
          refine lv_goto (tgt := 4) hx hb dX1_menFitting_30 (by decide) ?_
          exact ih1 l2_1 t9 v4 f5 hIv4 hq0_v4 hq1_v4 hq9_v4 hq10_v4 hq31_v4 hq32_v4  (by show (2147483647 - t9.toInt).toNat < n; omega) _ _ _ hP hD hS (lv_sub hl [0, 1, 2, 3] rfl)
  exact lp1 _ 0 0 v f hIv rfl rfl rfl rfl rfl rfl  (Nat.lt_succ_self _) _ _ _ hP hD hS (lv_sub hl [0, 1, 2, 3] rfl)
set_option maxHeartbeats 4000000 in
set_option maxRecDepth 100000 in
theorem sX_X10_rags_1 (l : Launch) (dC : Nat → ClassId) (dI : Nat → Nat → Nat) (cy : Nat → ClassId) (x0 : Nat) (x : Nat → Nat)  (v : Nat → Int32) (f : Nat → Nat → Int32) (hIv : XI v)  : ctI l (dC, dI) cy yX10_rags cX10_rags 3 .int 6 178 0 0 ((Nat → Int32) × (Nat → Nat → Int32)) [.ref x0] (XW cy x0 x v f) (fun r u => XI u.1 ∧ u.1 0 = v 0 ∧ u.1 1 = v 1 ∧ u.1 9 = v 9 ∧ u.1 10 = v 10 ∧ u.1 31 = v 31 ∧ u.1 32 = v 32) (fun u => XW cy x0 x u.1 u.2) := by
  refine ctI_of (by decide) (Nat.le_of_ble_eq_true rfl) (fun p e s m below meth c A ls Q hx hb hml hts hown hE hP hD hA hl ret => ?_)
  have hown : s.vm.findClass RX10 = some m.cls := hown
  have hS : va_S A s.heap s.heap [] := va_S.rf
  have hl : lv_has ls 3 [(0, .ref x0)] := hl
  refine lv_iconst (v := 0) hx hb dX10_rags_0 (by decide) ?_
  refine lv_istore_n (lv' := [(1, .int 0), (0, .ref x0)]) hx hb dX10_rags_1 rfl hl (by decide) rfl (fun ls hl => ?_)
  refine lv_iconst (v := 0) hx hb dX10_rags_2 (by decide) ?_
  refine lv_istore_n (lv' := [(2, .int 0), (1, .int 0), (0, .ref x0)]) hx hb dX10_rags_3 rfl hl (by decide) rfl (fun ls hl => ?_)
  have lp1 : ∀ (n : Nat) (l1_1 : Int32) (l2_1 : Int32) (v1 : Nat → Int32) (f1 : Nat → Nat → Int32), XI v1 → v1 0 = (v 0) → v1 1 = (v 1) → v1 9 = (v 9) → v1 10 = (v 10) → v1 31 = (v 31) → v1 32 = (v 32) → (2147483647 - l2_1.toInt).toNat < n → ∀ (H : Heap) (locs : List Loc) (ls : Array Slot), va_P (dC, dI) vwCl (XW cy x0 x v1 f1) H → va_D A (XW cy x0 x v1 f1) → va_S A s.heap H locs → lv_has ls 3 [(2, .int l2_1), (1, .int l1_1), (0, .ref x0)] → W p l e { frames := 6, cells := 0, slots := 0, locals := 178 } s m ([.ref x0] : List Value).toArray below meth c H locs 0 0 Q (F0 m 4 ls []) := by
    intro n
    induction n with
    | zero => intro l1_1 l2_1 v1 f1 hIv1 hq0_v1 hq1_v1 hq9_v1 hq10_v1 hq31_v1 hq32_v1 hm; exact absurd hm (Nat.not_lt_zero _)
    | succ n ih1 =>
      intro l1_1 l2_1 v1 f1 hIv1 hq0_v1 hq1_v1 hq9_v1 hq10_v1 hq31_v1 hq32_v1 hm1 H locs ls hP hD hS hl
      refine lv_iload_n hx hb dX10_rags_4 rfl (lv_at hl 0 rfl) ?_
      refine lv_aload_n hx hb dX10_rags_5 rfl (lv_at hl 2 rfl) ?_
      refine va_get (D := (dC, dI)) (ci := 10) (v := .ref (x 26)) (C := RX10) (T := TX10) (N := 10) hx hb hts inB_10 hown hE.1 hP 0 rfl rfl 2 (by decide) (hts _ k_493) (fun _ h9 => h9) rfl dX10_rags_6 ?_
      refine va_getN (D := (dC, dI)) (ci := 7) (v := .int (v1 32)) (C := RX7) (T := TX7) (N := 10) hx hb hts inB_7 hown hE.1 hP 27 rfl rfl 4 (by decide) (va_Nw.use rfl (hE.2 _ k_227)) (fun _ h9 => h9) rfl dX10_rags_9 ?_
      refine tI (y := (v 32)) hq32_v1 ?_
      refine lv_icmp_ge (tgt := 38) hx hb dX10_rags_12 (by decide) (fun c2 => ?_) (fun c2 => ?_)
      · skip
        have zc2 : (v 32).toInt ≤ l2_1.toInt := by rw [fa_le] at c2; exact c2
        refine lv_iload_n hx hb dX10_rags_38 rfl (lv_at hl 1 rfl) ?_
        exact ret l1_1 (v1, f1) _ _ _ _ _ _ rfl ⟨hIv1, (show v1 0 = v 0 from hq0_v1), (show v1 1 = v 1 from hq1_v1), (show v1 9 = v 9 from hq9_v1), (show v1 10 = v 10 from hq10_v1), (show v1 31 = v 31 from hq31_v1), (show v1 32 = v 32 from hq32_v1)⟩ hP hD hS dX10_rags_39 (Nat.le_refl _) (Nat.le_refl _)
      · skip
        have zc2 : ¬ ((v 32).toInt ≤ l2_1.toInt) := by rw [fa_le] at c2; exact c2
        refine lv_aload_n hx hb dX10_rags_15 rfl (lv_at hl 2 rfl) ?_
        refine va_get (D := (dC, dI)) (ci := 10) (v := .ref (x 21)) (C := RX10) (T := TX10) (N := 10) hx hb hts inB_10 hown hE.1 hP 0 rfl rfl 3 (by decide) (hts _ k_494) (fun _ h9 => h9) rfl dX10_rags_16 ?_
        refine lv_iload_n hx hb dX10_rags_19 rfl (lv_at hl 0 rfl) ?_
        refine cbVi (n := 1) (rest := []) hx hb hml hown hts hE hP hD hS hA (sX_X1_menFitting_1 l dC dI cy x0 x l2_1 v1 f1 hIv1 ) k_1163 k_1164 k_1165 k_106 k_1166 (by decide +kernel) ⟨Nat.le_of_ble_eq_true rfl, Nat.le_of_ble_eq_true rfl⟩ 22 1 rfl rfl (rfl) hl.1 rfl (Nat.le_of_ble_eq_true rfl) dX10_rags_20 (fun r3 u H locs hw hP hD hS => ?_)
        obtain ⟨v4, f5⟩ := u
        obtain ⟨hIv4, hk0_v4, hk1_v4, hk9_v4, hk10_v4, hk31_v4, hk32_v4⟩ := hw
        have hP : va_P (dC, dI) vwCl (XW cy x0 x v4 f5) H := hP
        have hD : va_D A (XW cy x0 x v4 f5) := hD
        have hq0_v4 : v4 0 = (v 0) := hk0_v4.trans hq0_v1
        have hq1_v4 : v4 1 = (v 1) := hk1_v4.trans hq1_v1
        have hq9_v4 : v4 9 = (v 9) := hk9_v4.trans hq9_v1
        have hq10_v4 : v4 10 = (v 10) := hk10_v4.trans hq10_v1
        have hq31_v4 : v4 31 = (v 31) := hk31_v4.trans hq31_v1
        have hq32_v4 : v4 32 = (v 32) := hk32_v4.trans hq32_v1
        refine lv_if_ne (tgt := 32) hx hb dX10_rags_23 (by decide) (fun c6 => ?_) (fun c6 => ?_)
        · skip
          have zc6 : ¬ (r3.toInt = 0) := by rw [fa_eq, show (0 : Int32).toInt = 0 from by decide] at c6; exact c6
          obtain ⟨t7, et7⟩ : ∃ y : Int32, y = l2_1 + 1 := ⟨_, rfl⟩
          have zt7 : t7.toInt = l2_1.toInt + 1 := by rw [et7]; exact add_i rfl (by decide) (by omega) (by omega)
          refine lv_iinc (v := t7) (lv' := [(2, .int t7), (1, .int l1_1), (0, .ref x0)]) hx hb dX10_rags_32 hl (k := 0) rfl (by rw [et7]; rfl) (by decide) rfl (fun ls hl => ?_)
          refine lv_goto (tgt := 4) hx hb dX10_rags_35 (by decide) ?_
          exact ih1 l1_1 t7 v4 f5 hIv4 hq0_v4 hq1_v4 hq9_v4 hq10_v4 hq31_v4 hq32_v4  (by show (2147483647 - t7.toInt).toNat < n; omega) _ _ _ hP hD hS (lv_sub hl [0, 1, 2] rfl)
        · skip
          have zc6 : r3.toInt = 0 := by rw [fa_eq, show (0 : Int32).toInt = 0 from by decide] at c6; exact c6
          refine lv_iload_n hx hb dX10_rags_26 rfl (lv_at hl 1 rfl) ?_
          refine lv_iconst (v := 1) hx hb dX10_rags_27 (by decide) ?_
          refine lv_iload_n hx hb dX10_rags_28 rfl (lv_at hl 0 rfl) ?_
          refine lv_ishl hx hb dX10_rags_29 ?_
          refine lv_topi (fun t8 et8 => ?_)
          refine lv_ior hx hb dX10_rags_30 ?_
          refine lv_topi (fun t9 et9 => ?_)
          refine lv_istore_n (lv' := [(1, .int t9), (2, .int l2_1), (0, .ref x0)]) hx hb dX10_rags_31 rfl hl (by decide) rfl (fun ls hl => ?_)
          obtain ⟨t10, et10⟩ : ∃ y : Int32, y = l2_1 + 1 := ⟨_, rfl⟩
          have zt10 : t10.toInt = l2_1.toInt + 1 := by rw [et10]; exact add_i rfl (by decide) (by omega) (by omega)
          refine lv_iinc (v := t10) (lv' := [(2, .int t10), (1, .int t9), (0, .ref x0)]) hx hb dX10_rags_32 hl (k := 1) rfl (by rw [et10]; rfl) (by decide) rfl (fun ls hl => ?_)
          refine lv_goto (tgt := 4) hx hb dX10_rags_35 (by decide) ?_
          exact ih1 t9 t10 v4 f5 hIv4 hq0_v4 hq1_v4 hq9_v4 hq10_v4 hq31_v4 hq32_v4  (by show (2147483647 - t10.toInt).toNat < n; omega) _ _ _ hP hD hS (lv_sub hl [0, 1, 2] rfl)
  exact lp1 _ 0 0 v f hIv rfl rfl rfl rfl rfl rfl  (Nat.lt_succ_self _) _ _ _ hP hD hS (lv_sub hl [0, 1, 2] rfl)
set_option maxHeartbeats 4000000 in
set_option maxRecDepth 100000 in
theorem sX_X10_naked_1 (l : Launch) (dC : Nat → ClassId) (dI : Nat → Nat → Nat) (cy : Nat → ClassId) (x0 : Nat) (x : Nat → Nat)  (v : Nat → Int32) (f : Nat → Nat → Int32) (hIv : XI v)  : ctI l (dC, dI) cy yX10_naked cX10_naked 3 .int 6 178 0 0 ((Nat → Int32) × (Nat → Nat → Int32)) [.ref x0] (XW cy x0 x v f) (fun r u => XI u.1 ∧ u.1 0 = v 0 ∧ u.1 1 = v 1 ∧ u.1 9 = v 9 ∧ u.1 10 = v 10 ∧ u.1 31 = v 31 ∧ u.1 32 = v 32) (fun u => XW cy x0 x u.1 u.2) := by
  refine ctI_of (by decide) (Nat.le_of_ble_eq_true rfl) (fun p e s m below meth c A ls Q hx hb hml hts hown hE hP hD hA hl ret => ?_)
  have hown : s.vm.findClass RX10 = some m.cls := hown
  have hS : va_S A s.heap s.heap [] := va_S.rf
  have hl : lv_has ls 3 [(0, .ref x0)] := hl
  refine lv_iconst (v := 0) hx hb dX10_naked_0 (by decide) ?_
  refine lv_istore_n (lv' := [(1, .int 0), (0, .ref x0)]) hx hb dX10_naked_1 rfl hl (by decide) rfl (fun ls hl => ?_)
  refine lv_iconst (v := 0) hx hb dX10_naked_2 (by decide) ?_
  refine lv_istore_n (lv' := [(2, .int 0), (1, .int 0), (0, .ref x0)]) hx hb dX10_naked_3 rfl hl (by decide) rfl (fun ls hl => ?_)
  have lp1 : ∀ (n : Nat) (l1_1 : Int32) (l2_1 : Int32) (v1 : Nat → Int32) (f1 : Nat → Nat → Int32), XI v1 → v1 0 = (v 0) → v1 1 = (v 1) → v1 9 = (v 9) → v1 10 = (v 10) → v1 31 = (v 31) → v1 32 = (v 32) → (2147483647 - l2_1.toInt).toNat < n → ∀ (H : Heap) (locs : List Loc) (ls : Array Slot), va_P (dC, dI) vwCl (XW cy x0 x v1 f1) H → va_D A (XW cy x0 x v1 f1) → va_S A s.heap H locs → lv_has ls 3 [(2, .int l2_1), (1, .int l1_1), (0, .ref x0)] → W p l e { frames := 6, cells := 0, slots := 0, locals := 178 } s m ([.ref x0] : List Value).toArray below meth c H locs 0 0 Q (F0 m 4 ls []) := by
    intro n
    induction n with
    | zero => intro l1_1 l2_1 v1 f1 hIv1 hq0_v1 hq1_v1 hq9_v1 hq10_v1 hq31_v1 hq32_v1 hm; exact absurd hm (Nat.not_lt_zero _)
    | succ n ih1 =>
      intro l1_1 l2_1 v1 f1 hIv1 hq0_v1 hq1_v1 hq9_v1 hq10_v1 hq31_v1 hq32_v1 hm1 H locs ls hP hD hS hl
      refine lv_iload_n hx hb dX10_naked_4 rfl (lv_at hl 0 rfl) ?_
      refine lv_aload_n hx hb dX10_naked_5 rfl (lv_at hl 2 rfl) ?_
      refine va_get (D := (dC, dI)) (ci := 10) (v := .ref (x 26)) (C := RX10) (T := TX10) (N := 10) hx hb hts inB_10 hown hE.1 hP 0 rfl rfl 2 (by decide) (hts _ k_493) (fun _ h9 => h9) rfl dX10_naked_6 ?_
      refine va_getN (D := (dC, dI)) (ci := 7) (v := .int (v1 31)) (C := RX7) (T := TX7) (N := 10) hx hb hts inB_7 hown hE.1 hP 27 rfl rfl 3 (by decide) (va_Nw.use rfl (hE.2 _ k_214)) (fun _ h9 => h9) rfl dX10_naked_9 ?_
      refine tI (y := (v 31)) hq31_v1 ?_
      refine lv_icmp_ge (tgt := 38) hx hb dX10_naked_12 (by decide) (fun c2 => ?_) (fun c2 => ?_)
      · skip
        have zc2 : (v 31).toInt ≤ l2_1.toInt := by rw [fa_le] at c2; exact c2
        refine lv_iload_n hx hb dX10_naked_38 rfl (lv_at hl 1 rfl) ?_
        exact ret l1_1 (v1, f1) _ _ _ _ _ _ rfl ⟨hIv1, (show v1 0 = v 0 from hq0_v1), (show v1 1 = v 1 from hq1_v1), (show v1 9 = v 9 from hq9_v1), (show v1 10 = v 10 from hq10_v1), (show v1 31 = v 31 from hq31_v1), (show v1 32 = v 32 from hq32_v1)⟩ hP hD hS dX10_naked_39 (Nat.le_refl _) (Nat.le_refl _)
      · skip
        have zc2 : ¬ ((v 31).toInt ≤ l2_1.toInt) := by rw [fa_le] at c2; exact c2
        refine lv_aload_n hx hb dX10_naked_15 rfl (lv_at hl 2 rfl) ?_
        refine va_get (D := (dC, dI)) (ci := 10) (v := .ref (x 21)) (C := RX10) (T := TX10) (N := 10) hx hb hts inB_10 hown hE.1 hP 0 rfl rfl 3 (by decide) (hts _ k_494) (fun _ h9 => h9) rfl dX10_naked_16 ?_
        refine lv_iload_n hx hb dX10_naked_19 rfl (lv_at hl 0 rfl) ?_
        refine cbVi (n := 1) (rest := []) hx hb hml hown hts hE hP hD hS hA (sX_X1_fittingCoats_1 l dC dI cy x0 x l2_1 v1 f1 hIv1 ) k_813 k_814 k_815 k_106 k_816 (by decide +kernel) ⟨Nat.le_of_ble_eq_true rfl, Nat.le_of_ble_eq_true rfl⟩ 22 1 rfl rfl (rfl) hl.1 rfl (Nat.le_of_ble_eq_true rfl) dX10_naked_20 (fun r3 u H locs hw hP hD hS => ?_)
        obtain ⟨v4, f5⟩ := u
        obtain ⟨hIv4, hk0_v4, hk1_v4, hk9_v4, hk10_v4, hk31_v4, hk32_v4⟩ := hw
        have hP : va_P (dC, dI) vwCl (XW cy x0 x v4 f5) H := hP
        have hD : va_D A (XW cy x0 x v4 f5) := hD
        have hq0_v4 : v4 0 = (v 0) := hk0_v4.trans hq0_v1
        have hq1_v4 : v4 1 = (v 1) := hk1_v4.trans hq1_v1
        have hq9_v4 : v4 9 = (v 9) := hk9_v4.trans hq9_v1
        have hq10_v4 : v4 10 = (v 10) := hk10_v4.trans hq10_v1
        have hq31_v4 : v4 31 = (v 31) := hk31_v4.trans hq31_v1
        have hq32_v4 : v4 32 = (v 32) := hk32_v4.trans hq32_v1
        refine lv_if_ne (tgt := 32) hx hb dX10_naked_23 (by decide) (fun c6 => ?_) (fun c6 => ?_)
        · skip
          have zc6 : ¬ (r3.toInt = 0) := by rw [fa_eq, show (0 : Int32).toInt = 0 from by decide] at c6; exact c6
          obtain ⟨t7, et7⟩ : ∃ y : Int32, y = l2_1 + 1 := ⟨_, rfl⟩
          have zt7 : t7.toInt = l2_1.toInt + 1 := by rw [et7]; exact add_i rfl (by decide) (by omega) (by omega)
          refine lv_iinc (v := t7) (lv' := [(2, .int t7), (1, .int l1_1), (0, .ref x0)]) hx hb dX10_naked_32 hl (k := 0) rfl (by rw [et7]; rfl) (by decide) rfl (fun ls hl => ?_)
          refine lv_goto (tgt := 4) hx hb dX10_naked_35 (by decide) ?_
          exact ih1 l1_1 t7 v4 f5 hIv4 hq0_v4 hq1_v4 hq9_v4 hq10_v4 hq31_v4 hq32_v4  (by show (2147483647 - t7.toInt).toNat < n; omega) _ _ _ hP hD hS (lv_sub hl [0, 1, 2] rfl)
        · skip
          have zc6 : r3.toInt = 0 := by rw [fa_eq, show (0 : Int32).toInt = 0 from by decide] at c6; exact c6
          refine lv_iload_n hx hb dX10_naked_26 rfl (lv_at hl 1 rfl) ?_
          refine lv_iconst (v := 1) hx hb dX10_naked_27 (by decide) ?_
          refine lv_iload_n hx hb dX10_naked_28 rfl (lv_at hl 0 rfl) ?_
          refine lv_ishl hx hb dX10_naked_29 ?_
          refine lv_topi (fun t8 et8 => ?_)
          refine lv_ior hx hb dX10_naked_30 ?_
          refine lv_topi (fun t9 et9 => ?_)
          refine lv_istore_n (lv' := [(1, .int t9), (2, .int l2_1), (0, .ref x0)]) hx hb dX10_naked_31 rfl hl (by decide) rfl (fun ls hl => ?_)
          obtain ⟨t10, et10⟩ : ∃ y : Int32, y = l2_1 + 1 := ⟨_, rfl⟩
          have zt10 : t10.toInt = l2_1.toInt + 1 := by rw [et10]; exact add_i rfl (by decide) (by omega) (by omega)
          refine lv_iinc (v := t10) (lv' := [(2, .int t10), (1, .int t9), (0, .ref x0)]) hx hb dX10_naked_32 hl (k := 1) rfl (by rw [et10]; rfl) (by decide) rfl (fun ls hl => ?_)
          refine lv_goto (tgt := 4) hx hb dX10_naked_35 (by decide) ?_
          exact ih1 t9 t10 v4 f5 hIv4 hq0_v4 hq1_v4 hq9_v4 hq10_v4 hq31_v4 hq32_v4  (by show (2147483647 - t10.toInt).toNat < n; omega) _ _ _ hP hD hS (lv_sub hl [0, 1, 2] rfl)
  exact lp1 _ 0 0 v f hIv rfl rfl rfl rfl rfl rfl  (Nat.lt_succ_self _) _ _ _ hP hD hS (lv_sub hl [0, 1, 2] rfl)
set_option maxHeartbeats 4000000 in
set_option maxRecDepth 100000 in
theorem sX_X10_popular_1 (l : Launch) (dC : Nat → ClassId) (dI : Nat → Nat → Nat) (cy : Nat → ClassId) (x0 : Nat) (x : Nat → Nat) (p1 : Int32) (v : Nat → Int32) (f : Nat → Nat → Int32) (hIv : XI v)  : ctI l (dC, dI) cy yX10_popular cX10_popular 2 .int 6 178 0 0 ((Nat → Int32) × (Nat → Nat → Int32)) [.ref x0, .int p1] (XW cy x0 x v f) (fun r u => XI u.1 ∧ u.1 0 = v 0 ∧ u.1 1 = v 1 ∧ u.1 9 = v 9 ∧ u.1 10 = v 10 ∧ u.1 31 = v 31 ∧ u.1 32 = v 32) (fun u => XW cy x0 x u.1 u.2) := by
  refine ctI_of (by decide) (Nat.le_of_ble_eq_true rfl) (fun p e s m below meth c A ls Q hx hb hml hts hown hE hP hD hA hl ret => ?_)
  have hown : s.vm.findClass RX10 = some m.cls := hown
  have hS : va_S A s.heap s.heap [] := va_S.rf
  have hl : lv_has ls 2 [(0, .ref x0), (1, .int p1)] := hl
  refine lv_aload_n hx hb dX10_popular_0 rfl (lv_at hl 0 rfl) ?_
  refine va_get (D := (dC, dI)) (ci := 10) (v := .ref (x 26)) (C := RX10) (T := TX10) (N := 10) hx hb hts inB_10 hown hE.1 hP 0 rfl rfl 2 (by decide) (hts _ k_493) (fun _ h9 => h9) rfl dX10_popular_1 ?_
  refine lv_iload_n hx hb dX10_popular_4 rfl (lv_at hl 1 rfl) ?_
  refine cbVi (n := 1) (rest := []) hx hb hml hown hts hE hP hD hS hA (sX_X7_hasCoat_1 l dC dI cy x0 x p1 v f hIv ) k_848 k_315 k_316 k_104 k_317 (by decide +kernel) ⟨Nat.le_of_ble_eq_true rfl, Nat.le_of_ble_eq_true rfl⟩ 27 7 rfl rfl (rfl) hl.1 rfl (Nat.le_of_ble_eq_true rfl) dX10_popular_5 (fun r1 u H locs hw hP hD hS => ?_)
  rcases hw with ⟨g2, g2_0, g2_1⟩ | ⟨g2⟩
  · skip
    subst g2
    refine lv_if_eq (tgt := 22) hx hb dX10_popular_8 (by decide) (fun c0 => absurd c0 (by decide)) (fun _ => ?_)
    refine lv_aload_n hx hb dX10_popular_11 rfl (lv_at hl 0 rfl) ?_
    refine va_get (D := (dC, dI)) (ci := 10) (v := .ref (x 21)) (C := RX10) (T := TX10) (N := 10) hx hb hts inB_10 hown hE.1 hP 0 rfl rfl 3 (by decide) (hts _ k_494) (fun _ h9 => h9) rfl dX10_popular_12 ?_
    refine lv_iload_n hx hb dX10_popular_15 rfl (lv_at hl 1 rfl) ?_
    refine cbVi (n := 1) (rest := []) hx hb hml hown hts hE hP hD hS hA (sX_X1_menFitting_1 l dC dI cy x0 x p1 v f hIv ) k_1163 k_1164 k_1165 k_106 k_1166 (by decide +kernel) ⟨Nat.le_of_ble_eq_true rfl, Nat.le_of_ble_eq_true rfl⟩ 22 1 rfl rfl (rfl) hl.1 rfl (Nat.le_of_ble_eq_true rfl) dX10_popular_16 (fun r3 u H locs hw hP hD hS => ?_)
    obtain ⟨v4, f5⟩ := u
    obtain ⟨hIv4, hk0_v4, hk1_v4, hk9_v4, hk10_v4, hk31_v4, hk32_v4⟩ := hw
    have hP : va_P (dC, dI) vwCl (XW cy x0 x v4 f5) H := hP
    have hD : va_D A (XW cy x0 x v4 f5) := hD
    have hq0_v4 : v4 0 = (v 0) := hk0_v4
    have hq1_v4 : v4 1 = (v 1) := hk1_v4
    have hq9_v4 : v4 9 = (v 9) := hk9_v4
    have hq10_v4 : v4 10 = (v 10) := hk10_v4
    have hq31_v4 : v4 31 = (v 31) := hk31_v4
    have hq32_v4 : v4 32 = (v 32) := hk32_v4
    refine lv_goto (tgt := 23) hx hb dX10_popular_19 (by decide) ?_
    exact ret r3 (v4, f5) _ _ _ _ _ _ rfl ⟨hIv4, hk0_v4, hk1_v4, hk9_v4, hk10_v4, hk31_v4, hk32_v4⟩ hP hD hS dX10_popular_23 (Nat.le_refl _) (Nat.le_refl _)
  · skip
    subst g2
    refine lv_if_eq (tgt := 22) hx hb dX10_popular_8 (by decide) (fun _ => ?_) (fun c0 => absurd (by decide) c0)
    refine lv_iconst (v := (-1)) hx hb dX10_popular_22 (by decide) ?_
    exact ret (-1) (v, f) _ _ _ _ _ _ rfl ⟨hIv, rfl, rfl, rfl, rfl, rfl, rfl⟩ hP hD hS dX10_popular_23 (Nat.le_refl _) (Nat.le_refl _)
set_option maxHeartbeats 4000000 in
set_option maxRecDepth 100000 in
theorem sX_X3_fittingBy_1 (l : Launch) (dC : Nat → ClassId) (dI : Nat → Nat → Nat) (cy : Nat → ClassId) (x0 : Nat) (x : Nat → Nat) (p1 : Int32) (v : Nat → Int32) (f : Nat → Nat → Int32) (hIv : XI v)  : ctI l (dC, dI) cy yX3_fittingBy cX3_fittingBy 5 .int 4 133 0 0 ((Nat → Int32) × (Nat → Nat → Int32)) [.ref (x 25), .int p1] (XW cy x0 x v f) (fun r u => XI u.1 ∧ u.1 0 = v 0 ∧ u.1 1 = v 1 ∧ u.1 9 = v 9 ∧ u.1 10 = v 10 ∧ u.1 31 = v 31 ∧ u.1 32 = v 32) (fun u => XW cy x0 x u.1 u.2) := by
  refine ctI_of (by decide) (Nat.le_of_ble_eq_true rfl) (fun p e s m below meth c A ls Q hx hb hml hts hown hE hP hD hA hl ret => ?_)
  have hown : s.vm.findClass RX3 = some m.cls := hown
  have hS : va_S A s.heap s.heap [] := va_S.rf
  have hl : lv_has ls 5 [(0, .ref (x 25)), (1, .int p1)] := hl
  refine lv_iconst (v := 0) hx hb dX3_fittingBy_0 (by decide) ?_
  refine lv_istore_n (lv' := [(2, .int 0), (0, .ref (x 25)), (1, .int p1)]) hx hb dX3_fittingBy_1 rfl hl (by decide) rfl (fun ls hl => ?_)
  refine lv_iconst (v := 0) hx hb dX3_fittingBy_2 (by decide) ?_
  refine lv_istore_n (lv' := [(3, .int 0), (2, .int 0), (0, .ref (x 25)), (1, .int p1)]) hx hb dX3_fittingBy_3 rfl hl (by decide) rfl (fun ls hl => ?_)
  have lp1 : ∀ (n : Nat) (l2_1 : Int32) (l3_1 : Int32) (v1 : Nat → Int32) (f1 : Nat → Nat → Int32), XI v1 → v1 0 = (v 0) → v1 1 = (v 1) → v1 9 = (v 9) → v1 10 = (v 10) → v1 31 = (v 31) → v1 32 = (v 32) → (2147483647 - l3_1.toInt).toNat < n → ∀ (H : Heap) (locs : List Loc) (ls : Array Slot), va_P (dC, dI) vwCl (XW cy x0 x v1 f1) H → va_D A (XW cy x0 x v1 f1) → va_S A s.heap H locs → lv_has ls 5 [(3, .int l3_1), (2, .int l2_1), (0, .ref (x 25)), (1, .int p1)] → W p l e { frames := 4, cells := 0, slots := 0, locals := 133 } s m ([.ref (x 25), .int p1] : List Value).toArray below meth c H locs 0 0 Q (F0 m 4 ls []) := by
    intro n
    induction n with
    | zero => intro l2_1 l3_1 v1 f1 hIv1 hq0_v1 hq1_v1 hq9_v1 hq10_v1 hq31_v1 hq32_v1 hm; exact absurd hm (Nat.not_lt_zero _)
    | succ n ih1 =>
      intro l2_1 l3_1 v1 f1 hIv1 hq0_v1 hq1_v1 hq9_v1 hq10_v1 hq31_v1 hq32_v1 hm1 H locs ls hP hD hS hl
      refine lv_iload_n hx hb dX3_fittingBy_4 rfl (lv_at hl 0 rfl) ?_
      refine lv_aload_n hx hb dX3_fittingBy_5 rfl (lv_at hl 2 rfl) ?_
      refine va_get (D := (dC, dI)) (ci := 3) (v := .ref (x 26)) (C := RX3) (T := TX3) (N := 10) hx hb hts inB_3 hown hE.1 hP 26 rfl rfl 0 (by decide) (hts _ k_370) (fun _ h9 => h9) rfl dX3_fittingBy_6 ?_
      refine va_getN (D := (dC, dI)) (ci := 7) (v := .int (v1 31)) (C := RX7) (T := TX7) (N := 10) hx hb hts inB_7 hown hE.1 hP 27 rfl rfl 3 (by decide) (va_Nw.use rfl (hE.2 _ k_217)) (fun _ h9 => h9) rfl dX3_fittingBy_9 ?_
      refine tI (y := (v 31)) hq31_v1 ?_
      refine lv_icmp_ge (tgt := 54) hx hb dX3_fittingBy_12 (by decide) (fun c2 => ?_) (fun c2 => ?_)
      · skip
        have zc2 : (v 31).toInt ≤ l3_1.toInt := by rw [fa_le] at c2; exact c2
        refine lv_iload_n hx hb dX3_fittingBy_54 rfl (lv_at hl 1 rfl) ?_
        exact ret l2_1 (v1, f1) _ _ _ _ _ _ rfl ⟨hIv1, (show v1 0 = v 0 from hq0_v1), (show v1 1 = v 1 from hq1_v1), (show v1 9 = v 9 from hq9_v1), (show v1 10 = v 10 from hq10_v1), (show v1 31 = v 31 from hq31_v1), (show v1 32 = v 32 from hq32_v1)⟩ hP hD hS dX3_fittingBy_55 (Nat.le_refl _) (Nat.le_refl _)
      · skip
        have zc2 : ¬ ((v 31).toInt ≤ l3_1.toInt) := by rw [fa_le] at c2; exact c2
        refine lv_aload_n hx hb dX3_fittingBy_15 rfl (lv_at hl 2 rfl) ?_
        refine va_get (D := (dC, dI)) (ci := 3) (v := .ref (x 21)) (C := RX3) (T := TX3) (N := 10) hx hb hts inB_3 hown hE.1 hP 26 rfl rfl 1 (by decide) (hts _ k_371) (fun _ h9 => h9) rfl dX3_fittingBy_16 ?_
        refine lv_iload_n hx hb dX3_fittingBy_19 rfl (lv_at hl 0 rfl) ?_
        refine cbVi (n := 1) (rest := []) hx hb hml hown hts hE hP hD hS hA (sX_X1_wears_1 l dC dI cy x0 x l3_1 v1 f1 hIv1 ) k_950 k_810 k_811 k_106 k_812 (by decide +kernel) ⟨Nat.le_of_ble_eq_true rfl, Nat.le_of_ble_eq_true rfl⟩ 22 1 rfl rfl (rfl) hl.1 rfl (Nat.le_of_ble_eq_true rfl) dX3_fittingBy_20 (fun r3 u H locs hw hP hD hS => ?_)
        refine lv_istore (lv' := [(4, .int r3), (3, .int l3_1), (2, .int l2_1), (0, .ref (x 25)), (1, .int p1)]) hx hb dX3_fittingBy_23 hl (by decide) rfl (fun ls hl => ?_)
        refine lv_iload hx hb dX3_fittingBy_25 (lv_at hl 0 rfl) ?_
        refine lv_iconst (v := (-1)) hx hb dX3_fittingBy_27 (by decide) ?_
        refine lv_icmp_eq (tgt := 48) hx hb dX3_fittingBy_28 (by decide) (fun c4 => ?_) (fun c4 => ?_)
        · skip
          have zc4 : r3.toInt = (-1) := by rw [fa_eq, show ((-1) : Int32).toInt = -1 from by decide] at c4; exact c4
          obtain ⟨t5, et5⟩ : ∃ y : Int32, y = l3_1 + 1 := ⟨_, rfl⟩
          have zt5 : t5.toInt = l3_1.toInt + 1 := by rw [et5]; exact add_i rfl (by decide) (by omega) (by omega)
          refine lv_iinc (v := t5) (lv' := [(3, .int t5), (4, .int r3), (2, .int l2_1), (0, .ref (x 25)), (1, .int p1)]) hx hb dX3_fittingBy_48 hl (k := 1) rfl (by rw [et5]; rfl) (by decide) rfl (fun ls hl => ?_)
          refine lv_goto (tgt := 4) hx hb dX3_fittingBy_51 (by decide) ?_
          exact ih1 l2_1 t5 v1 f1 hIv1 hq0_v1 hq1_v1 hq9_v1 hq10_v1 hq31_v1 hq32_v1  (by show (2147483647 - t5.toInt).toNat < n; omega) _ _ _ hP hD hS (lv_sub hl [0, 2, 3, 4] rfl)
        · skip
          have zc4 : ¬ (r3.toInt = (-1)) := by rw [fa_eq, show ((-1) : Int32).toInt = -1 from by decide] at c4; exact c4
          refine lv_aload_n hx hb dX3_fittingBy_31 rfl (lv_at hl 3 rfl) ?_
          refine va_get (D := (dC, dI)) (ci := 3) (v := .ref (x 21)) (C := RX3) (T := TX3) (N := 10) hx hb hts inB_3 hown hE.1 hP 26 rfl rfl 1 (by decide) (hts _ k_371) (fun _ h9 => h9) rfl dX3_fittingBy_32 ?_
          refine lv_iload_n hx hb dX3_fittingBy_35 rfl (lv_at hl 1 rfl) ?_
          refine lv_iload hx hb dX3_fittingBy_36 (lv_at hl 0 rfl) ?_
          refine cbVi (n := 2) (rest := []) hx hb hml hown hts hE hP hD hS hA (sX_X1_illness_1 l dC dI cy x0 x l3_1 r3 v1 f1 hIv1 ) k_1183 k_823 k_824 k_106 k_825 (by decide +kernel) ⟨Nat.le_of_ble_eq_true rfl, Nat.le_of_ble_eq_true rfl⟩ 22 1 rfl rfl (rfl) hl.1 rfl (Nat.le_of_ble_eq_true rfl) dX3_fittingBy_38 (fun r6 u H locs hw hP hD hS => ?_)
          obtain ⟨v7, f8⟩ := u
          obtain ⟨hIv7, hk0_v7, hk1_v7, hk9_v7, hk10_v7, hk31_v7, hk32_v7⟩ := hw
          have hP : va_P (dC, dI) vwCl (XW cy x0 x v7 f8) H := hP
          have hD : va_D A (XW cy x0 x v7 f8) := hD
          have hq0_v7 : v7 0 = (v 0) := hk0_v7.trans hq0_v1
          have hq1_v7 : v7 1 = (v 1) := hk1_v7.trans hq1_v1
          have hq9_v7 : v7 9 = (v 9) := hk9_v7.trans hq9_v1
          have hq10_v7 : v7 10 = (v 10) := hk10_v7.trans hq10_v1
          have hq31_v7 : v7 31 = (v 31) := hk31_v7.trans hq31_v1
          have hq32_v7 : v7 32 = (v 32) := hk32_v7.trans hq32_v1
          refine lv_iload_n hx hb dX3_fittingBy_41 rfl (lv_at hl 4 rfl) ?_
          refine lv_icmp_gt (tgt := 48) hx hb dX3_fittingBy_42 (by decide) (fun c9 => ?_) (fun c9 => ?_)
          · skip
            have zc9 : p1.toInt < r6.toInt := by rw [fa_lt] at c9; exact c9
            obtain ⟨t10, et10⟩ : ∃ y : Int32, y = l3_1 + 1 := ⟨_, rfl⟩
            have zt10 : t10.toInt = l3_1.toInt + 1 := by rw [et10]; exact add_i rfl (by decide) (by omega) (by omega)
            refine lv_iinc (v := t10) (lv' := [(3, .int t10), (4, .int r3), (2, .int l2_1), (0, .ref (x 25)), (1, .int p1)]) hx hb dX3_fittingBy_48 hl (k := 1) rfl (by rw [et10]; rfl) (by decide) rfl (fun ls hl => ?_)
            refine lv_goto (tgt := 4) hx hb dX3_fittingBy_51 (by decide) ?_
            exact ih1 l2_1 t10 v7 f8 hIv7 hq0_v7 hq1_v7 hq9_v7 hq10_v7 hq31_v7 hq32_v7  (by show (2147483647 - t10.toInt).toNat < n; omega) _ _ _ hP hD hS (lv_sub hl [0, 2, 3, 4] rfl)
          · skip
            have zc9 : ¬ (p1.toInt < r6.toInt) := by rw [fa_lt] at c9; exact c9
            obtain ⟨t11, et11⟩ : ∃ y : Int32, y = l2_1 + 1 := ⟨_, rfl⟩
            refine lv_iinc (v := t11) (lv' := [(2, .int t11), (4, .int r3), (3, .int l3_1), (0, .ref (x 25)), (1, .int p1)]) hx hb dX3_fittingBy_45 hl (k := 2) rfl (by rw [et11]; rfl) (by decide) rfl (fun ls hl => ?_)
            obtain ⟨t12, et12⟩ : ∃ y : Int32, y = l3_1 + 1 := ⟨_, rfl⟩
            have zt12 : t12.toInt = l3_1.toInt + 1 := by rw [et12]; exact add_i rfl (by decide) (by omega) (by omega)
            refine lv_iinc (v := t12) (lv' := [(3, .int t12), (2, .int t11), (4, .int r3), (0, .ref (x 25)), (1, .int p1)]) hx hb dX3_fittingBy_48 hl (k := 2) rfl (by rw [et12]; rfl) (by decide) rfl (fun ls hl => ?_)
            refine lv_goto (tgt := 4) hx hb dX3_fittingBy_51 (by decide) ?_
            exact ih1 t11 t12 v7 f8 hIv7 hq0_v7 hq1_v7 hq9_v7 hq10_v7 hq31_v7 hq32_v7  (by show (2147483647 - t12.toInt).toNat < n; omega) _ _ _ hP hD hS (lv_sub hl [0, 1, 3, 4] rfl)
  exact lp1 _ 0 0 v f hIv rfl rfl rfl rfl rfl rfl  (Nat.lt_succ_self _) _ _ _ hP hD hS (lv_sub hl [0, 1, 2, 3] rfl)
set_option maxHeartbeats 4000000 in
set_option maxRecDepth 100000 in
theorem sX_X10_law_1 (l : Launch) (dC : Nat → ClassId) (dI : Nat → Nat → Nat) (cy : Nat → ClassId) (x0 : Nat) (x : Nat → Nat) (p1 : Int32) (v : Nat → Int32) (f : Nat → Nat → Int32) (hIv : XI v)  : ctI l (dC, dI) cy yX10_law cX10_law 2 .int 5 157 0 0 ((Nat → Int32) × (Nat → Nat → Int32)) [.ref x0, .int p1] (XW cy x0 x v f) (fun r u => XI u.1 ∧ u.1 0 = v 0 ∧ u.1 1 = v 1 ∧ u.1 9 = v 9 ∧ u.1 10 = v 10 ∧ u.1 31 = v 31 ∧ u.1 32 = v 32) (fun u => XW cy x0 x u.1 u.2) := by
  refine ctI_of (by decide) (Nat.le_of_ble_eq_true rfl) (fun p e s m below meth c A ls Q hx hb hml hts hown hE hP hD hA hl ret => ?_)
  have hown : s.vm.findClass RX10 = some m.cls := hown
  have hS : va_S A s.heap s.heap [] := va_S.rf
  have hl : lv_has ls 2 [(0, .ref x0), (1, .int p1)] := hl
  refine lv_iload_n hx hb dX10_law_0 rfl (lv_at hl 1 rfl) ?_
  refine lv_if_lt (tgt := 11) hx hb dX10_law_1 (by decide) (fun c1 => ?_) (fun c1 => ?_)
  · skip
    have zc1 : p1.toInt < 0 := by rw [fa_lt, show (0 : Int32).toInt = 0 from by decide] at c1; exact c1
    refine lv_iconst (v := (-1)) hx hb dX10_law_11 (by decide) ?_
    refine lv_goto (tgt := 23) hx hb dX10_law_12 (by decide) ?_
    exact ret (-1) (v, f) _ _ _ _ _ _ rfl ⟨hIv, rfl, rfl, rfl, rfl, rfl, rfl⟩ hP hD hS dX10_law_23 (Nat.le_refl _) (Nat.le_refl _)
  · skip
    have zc1 : ¬ (p1.toInt < 0) := by rw [fa_lt, show (0 : Int32).toInt = 0 from by decide] at c1; exact c1
    refine lv_iload_n hx hb dX10_law_4 rfl (lv_at hl 1 rfl) ?_
    refine lv_sipush (v := 999) hx hb dX10_law_5 (by decide) ?_
    refine lv_icmp_le (tgt := 15) hx hb dX10_law_8 (by decide) (fun c2 => ?_) (fun c2 => ?_)
    · skip
      have zc2 : p1.toInt ≤ 999 := by rw [fa_le, show (999 : Int32).toInt = 999 from by decide] at c2; exact c2
      refine lv_aload_n hx hb dX10_law_15 rfl (lv_at hl 0 rfl) ?_
      refine va_get (D := (dC, dI)) (ci := 10) (v := .ref (x 25)) (C := RX10) (T := TX10) (N := 10) hx hb hts inB_10 hown hE.1 hP 0 rfl rfl 5 (by decide) (hts _ k_496) (fun _ h9 => h9) rfl dX10_law_16 ?_
      refine lv_iload_n hx hb dX10_law_19 rfl (lv_at hl 1 rfl) ?_
      refine cbVi (n := 1) (rest := []) hx hb hml hown hts hE hP hD hS hA (sX_X3_fittingBy_1 l dC dI cy x0 x p1 v f hIv ) k_1179 k_1180 k_1181 k_109 k_1182 (by decide +kernel) ⟨Nat.le_of_ble_eq_true rfl, Nat.le_of_ble_eq_true rfl⟩ 26 3 rfl rfl (rfl) hl.1 rfl (Nat.le_of_ble_eq_true rfl) dX10_law_20 (fun r3 u H locs hw hP hD hS => ?_)
      obtain ⟨v4, f5⟩ := u
      obtain ⟨hIv4, hk0_v4, hk1_v4, hk9_v4, hk10_v4, hk31_v4, hk32_v4⟩ := hw
      have hP : va_P (dC, dI) vwCl (XW cy x0 x v4 f5) H := hP
      have hD : va_D A (XW cy x0 x v4 f5) := hD
      have hq0_v4 : v4 0 = (v 0) := hk0_v4
      have hq1_v4 : v4 1 = (v 1) := hk1_v4
      have hq9_v4 : v4 9 = (v 9) := hk9_v4
      have hq10_v4 : v4 10 = (v 10) := hk10_v4
      have hq31_v4 : v4 31 = (v 31) := hk31_v4
      have hq32_v4 : v4 32 = (v 32) := hk32_v4
      exact ret r3 (v4, f5) _ _ _ _ _ _ rfl ⟨hIv4, hk0_v4, hk1_v4, hk9_v4, hk10_v4, hk31_v4, hk32_v4⟩ hP hD hS dX10_law_23 (Nat.le_refl _) (Nat.le_refl _)
    · skip
      have zc2 : ¬ (p1.toInt ≤ 999) := by rw [fa_le, show (999 : Int32).toInt = 999 from by decide] at c2; exact c2
      refine lv_iconst (v := (-1)) hx hb dX10_law_11 (by decide) ?_
      refine lv_goto (tgt := 23) hx hb dX10_law_12 (by decide) ?_
      exact ret (-1) (v, f) _ _ _ _ _ _ rfl ⟨hIv, rfl, rfl, rfl, rfl, rfl, rfl⟩ hP hD hS dX10_law_23 (Nat.le_refl _) (Nat.le_refl _)
