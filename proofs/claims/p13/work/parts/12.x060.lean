set_option maxHeartbeats 4000000 in
set_option maxRecDepth 100000 in
theorem sX_X0_painted_3 (l : Launch) (dC : Nat → ClassId) (dI : Nat → Nat → Nat) (cy : Nat → ClassId) (x0 : Nat) (x : Nat → Nat) (p2 : Int32) (v : Nat → Int32) (f : Nat → Nat → Int32) (hIv : XI v)  : ctI l (dC, dI) cy yX0_painted cX0_painted 4 .boolean 7 197 0 0 ((Nat → Int32) × (Nat → Nat → Int32)) [.ref (x 31), .int 2, .int p2] (XW cy x0 x v f) (fun r u => KV [38] u.1 v ∧ KF [20] u.2 f ∧ XI u.1 ∧ u.1 0 = v 0 ∧ u.1 1 = v 1 ∧ u.1 7 = v 7 ∧ u.1 8 = v 8 ∧ u.1 9 = v 9 ∧ u.1 10 = v 10 ∧ u.1 31 = v 31 ∧ u.1 32 = v 32 ∧ ((r = 1) ∨ (r = 0))) (fun u => XW cy x0 x u.1 u.2) := by
  refine ctI_of (by decide) (Nat.le_of_ble_eq_true rfl) (fun p e s m below meth c A ls Q hx hb hml hts hown hE hP hD hA hl ret => ?_)
  have hM_v : KV [38] v v := fun _ _ => rfl
  have hA_f : KF [20] f f := fun _ _ => rfl
  have hown : s.vm.findClass RX0 = some m.cls := hown
  have hS : va_S A s.heap s.heap [] := va_S.rf
  have hl : lv_has ls 4 [(0, .ref (x 31)), (1, .int 2), (2, .int p2)] := hl
  refine lv_iload_n hx hb dX0_painted_0 rfl (lv_at hl 1 rfl) ?_
  refine lv_aload_n hx hb dX0_painted_1 rfl (lv_at hl 0 rfl) ?_
  refine va_get (D := (dC, dI)) (ci := 0) (v := .ref (x 26)) (C := RX0) (T := TX0) (N := 8) hx hb hts inB_0 hown hE.1 hP 32 rfl rfl 0 (by decide) (hts _ k_430) (fun _ h9 => h9) rfl dX0_painted_2 ?_
  refine va_getN (D := (dC, dI)) (ci := 7) (v := .int (v 31)) (C := RX7) (T := TX7) (N := 10) hx hb hts inB_7 hown hE.1 hP 27 rfl rfl 3 (by decide) (va_Nw.use rfl (hE.2 _ k_216)) (fun _ h9 => h9) rfl dX0_painted_5 ?_
  have b31_v : 0 ≤ (v 31).toInt ∧ (v 31).toInt ≤ 6 := XI.b hIv 31 (by decide)
  refine lv_icmp_ge (tgt := 17) hx hb dX0_painted_8 (by decide) (fun c1 => ?_) (fun c1 => ?_)
  · skip
    have zc1 : (v 31).toInt ≤ 2 := by rw [fa_le, show (2 : Int32).toInt = 2 from by decide] at c1; exact c1
    refine lv_iconst (v := 1) hx hb dX0_painted_17 (by decide) ?_
    exact ret 1 (v, f) _ _ _ _ _ _ rfl ⟨hM_v, hA_f, hIv, rfl, rfl, rfl, rfl, rfl, rfl, rfl, rfl, (Or.inl rfl)⟩ hP hD hS dX0_painted_18 (Nat.le_refl _) (Nat.le_refl _)
  · skip
    have zc1 : ¬ ((v 31).toInt ≤ 2) := by rw [fa_le, show (2 : Int32).toInt = 2 from by decide] at c1; exact c1
    refine lv_iload_n hx hb dX0_painted_11 rfl (lv_at hl 1 rfl) ?_
    refine lv_bipush (v := 6) hx hb dX0_painted_12 (by decide) ?_
    refine lv_icmp_lt (tgt := 19) hx hb dX0_painted_14 (by decide) (fun _ => ?_) (fun c0 => absurd (by decide) c0)
    refine lv_iconst (v := 0) hx hb dX0_painted_19 (by decide) ?_
    refine lv_istore_n (lv' := [(3, .int 0), (0, .ref (x 31)), (1, .int 2), (2, .int p2)]) hx hb dX0_painted_20 rfl hl (by decide) rfl (fun ls hl => ?_)
    have lp2 : ∀ (n2 : Nat) (l3_2 : Int32) (v2 : Nat → Int32) (f2 : Nat → Nat → Int32), XI v2 → v2 0 = (v 0) → v2 1 = (v 1) → v2 7 = (v 7) → v2 8 = (v 8) → v2 9 = (v 9) → v2 10 = (v 10) → v2 31 = (v 31) → v2 32 = (v 32) → ((0 : Int) ≤ l3_2.toInt ∧ l3_2.toInt ≤ 2147483647) → KV [38] v2 v → KF [20] f2 f → (2147483647 - l3_2.toInt).toNat < n2 → ∀ (H : Heap) (locs : List Loc) (ls : Array Slot), va_P (dC, dI) vwCl (XW cy x0 x v2 f2) H → va_D A (XW cy x0 x v2 f2) → va_S A s.heap H locs → lv_has ls 4 [(3, .int l3_2), (0, .ref (x 31)), (1, .int 2), (2, .int p2)] → W p l e { frames := 7, cells := 0, slots := 0, locals := 197 } s m ([.ref (x 31), .int 2, .int p2] : List Value).toArray below meth c H locs 0 0 Q (F0 m 21 ls []) := by
      intro n2
      induction n2 with
      | zero => intro l3_2 v2 f2 hIv2 hq0_v2 hq1_v2 hq7_v2 hq8_v2 hq9_v2 hq10_v2 hq31_v2 hq32_v2 hr3_2 hM_v2 hA_f2 hm; exact absurd hm (Nat.not_lt_zero _)
      | succ n2 ih2 =>
        intro l3_2 v2 f2 hIv2 hq0_v2 hq1_v2 hq7_v2 hq8_v2 hq9_v2 hq10_v2 hq31_v2 hq32_v2 hr3_2 hM_v2 hA_f2 hm2 H locs ls hP hD hS hl
        refine lv_iload_n hx hb dX0_painted_21 rfl (lv_at hl 0 rfl) ?_
        refine lv_iload_n hx hb dX0_painted_22 rfl (lv_at hl 3 rfl) ?_
        refine lv_icmp_ge (tgt := 64) hx hb dX0_painted_23 (by decide) (fun c3 => ?_) (fun c3 => ?_)
        · skip
          have zc3 : p2.toInt ≤ l3_2.toInt := by rw [fa_le] at c3; exact c3
          have rg4 := fb_rng l3_2
          have rg5 := fb_rng p2
          refine lv_iconst (v := 0) hx hb dX0_painted_64 (by decide) ?_
          exact ret 0 (v2, f2) _ _ _ _ _ _ rfl ⟨hM_v2, hA_f2, hIv2, (show v2 0 = v 0 from hq0_v2), (show v2 1 = v 1 from hq1_v2), (show v2 7 = v 7 from hq7_v2), (show v2 8 = v 8 from hq8_v2), (show v2 9 = v 9 from hq9_v2), (show v2 10 = v 10 from hq10_v2), (show v2 31 = v 31 from hq31_v2), (show v2 32 = v 32 from hq32_v2), (Or.inr rfl)⟩ hP hD hS dX0_painted_65 (Nat.le_refl _) (Nat.le_refl _)
        · skip
          have zc3 : ¬ (p2.toInt ≤ l3_2.toInt) := by rw [fa_le] at c3; exact c3
          have rg6 := fb_rng l3_2
          have rg7 := fb_rng p2
          refine lv_aload_n hx hb dX0_painted_26 rfl (lv_at hl 1 rfl) ?_
          refine lv_iload_n hx hb dX0_painted_27 rfl (lv_at hl 2 rfl) ?_
          refine lv_iload_n hx hb dX0_painted_28 rfl (lv_at hl 0 rfl) ?_
          refine cbVi (n := 2) (rest := []) hx hb hml hown hts hE hP hD hS hA (sX_X0_isClear_1 l dC dI cy x0 x 2 l3_2 v2 f2 hIv2 ) k_1123 k_1125 k_34 k_111 k_1126 (by decide +kernel) ⟨Nat.le_of_ble_eq_true rfl, Nat.le_of_ble_eq_true rfl⟩ 32 0 rfl rfl (rfl) hl.1 rfl (Nat.le_of_ble_eq_true rfl) dX0_painted_29 (fun r8 u H locs hw hP hD hS => ?_)
          rcases hw with ⟨g9⟩ | ⟨g9⟩
          · skip
            subst g9
            refine lv_if_eq (tgt := 58) hx hb dX0_painted_32 (by decide) (fun c0 => absurd c0 (by decide)) (fun _ => ?_)
            refine lv_aload_n hx hb dX0_painted_35 rfl (lv_at hl 1 rfl) ?_
            refine lv_iload_n hx hb dX0_painted_36 rfl (lv_at hl 2 rfl) ?_
            refine va_put (D := (dC, dI)) (ci := 0) (v := .int 2) (ty := tyX0 3) (C := RX0) (T := TX0) (N := 8) hx hb hts inB_0 tyX0 tyX0_ok nmX0 hown hE.1 hP hD hS 32 rfl rfl 3 (by decide) (hts _ k_433) (fun _ h9 => h9) rfl (tyX0_ok 3 (by decide)) rfl rfl (Nat.le_of_ble_eq_true rfl) dX0_painted_37 (fun H locs hP hD hS => ?_)
            have hP : va_P (dC, dI) vwCl (XW cy x0 x (upd v2 38 2) f2) H := hP
            have hD : va_D A (XW cy x0 x (upd v2 38 2) f2) := hD
            refine lv_aload_n hx hb dX0_painted_40 rfl (lv_at hl 1 rfl) ?_
            refine lv_iload_n hx hb dX0_painted_41 rfl (lv_at hl 0 rfl) ?_
            refine cbVv (n := 1) (rest := []) hx hb hml hown hts hE hP hD hS hA (sX_X0_lay_1 l dC dI cy x0 x l3_2 (upd v2 38 2) f2 (XI.upd (j := 38) (x := 2) hIv2 (by decide) (by decide)) ) k_995 k_997 k_26 k_111 k_998 (by decide +kernel) ⟨Nat.le_of_ble_eq_true rfl, Nat.le_of_ble_eq_true rfl⟩ 32 0 rfl rfl (rfl) hl.1 rfl (Nat.le_of_ble_eq_true rfl) dX0_painted_42 (fun u H locs hw hP hD hS => ?_)
            obtain ⟨v10, f11⟩ := u
            obtain ⟨kV_v10, kF_f11, hIv10, hk0_v10, hk1_v10, hk7_v10, hk8_v10, hk9_v10, hk10_v10, hk31_v10, hk32_v10⟩ := hw
            have hM_v10 : KV [38] v10 v := KV.tr kV_v10 (KV.up (j := 38) (x := 2) hM_v2 rfl) rfl
            have hA_f11 : KF [20] f11 f := KF.tr kF_f11 hA_f2 rfl
            have hP : va_P (dC, dI) vwCl (XW cy x0 x v10 f11) H := hP
            have hD : va_D A (XW cy x0 x v10 f11) := hD
            have hq0_v10 : v10 0 = (v 0) := hk0_v10.trans hq0_v2
            have hq1_v10 : v10 1 = (v 1) := hk1_v10.trans hq1_v2
            have hq7_v10 : v10 7 = (v 7) := hk7_v10.trans hq7_v2
            have hq8_v10 : v10 8 = (v 8) := hk8_v10.trans hq8_v2
            have hq9_v10 : v10 9 = (v 9) := hk9_v10.trans hq9_v2
            have hq10_v10 : v10 10 = (v 10) := hk10_v10.trans hq10_v2
            have hq31_v10 : v10 31 = (v 31) := hk31_v10.trans hq31_v2
            have hq32_v10 : v10 32 = (v 32) := hk32_v10.trans hq32_v2
            refine lv_aload_n hx hb dX0_painted_45 rfl (lv_at hl 1 rfl) ?_
            refine lv_iload_n hx hb dX0_painted_46 rfl (lv_at hl 2 rfl) ?_
            refine lv_iconst (v := 1) hx hb dX0_painted_47 (by decide) ?_
            refine lv_iadd hx hb dX0_painted_48 ?_
            refine tI (y := 3) (by decide) ?_
            refine lv_iload_n hx hb dX0_painted_49 rfl (lv_at hl 3 rfl) ?_
            refine cbVi (n := 2) (rest := []) hx hb hml hown hts hE hP hD hS hA (sX_X0_painted_4 l dC dI cy x0 x p2 v10 f11 hIv10 ) k_1119 k_1121 k_33 k_111 k_1122 (by decide +kernel) ⟨Nat.le_of_ble_eq_true rfl, Nat.le_of_ble_eq_true rfl⟩ 32 0 rfl rfl (rfl) hl.1 rfl (Nat.le_of_ble_eq_true rfl) dX0_painted_50 (fun r12 u H locs hw hP hD hS => ?_)
            obtain ⟨v13, f14⟩ := u
            obtain ⟨kV_v13, kF_f14, hIv13, hk0_v13, hk1_v13, hk7_v13, hk8_v13, hk9_v13, hk10_v13, hk31_v13, hk32_v13, hw⟩ := hw
            have hM_v13 : KV [38] v13 v := KV.tr kV_v13 hM_v10 rfl
            have hA_f14 : KF [20] f14 f := KF.tr kF_f14 hA_f11 rfl
            have hP : va_P (dC, dI) vwCl (XW cy x0 x v13 f14) H := hP
            have hD : va_D A (XW cy x0 x v13 f14) := hD
            have hq0_v13 : v13 0 = (v 0) := hk0_v13.trans hq0_v10
            have hq1_v13 : v13 1 = (v 1) := hk1_v13.trans hq1_v10
            have hq7_v13 : v13 7 = (v 7) := hk7_v13.trans hq7_v10
            have hq8_v13 : v13 8 = (v 8) := hk8_v13.trans hq8_v10
            have hq9_v13 : v13 9 = (v 9) := hk9_v13.trans hq9_v10
            have hq10_v13 : v13 10 = (v 10) := hk10_v13.trans hq10_v10
            have hq31_v13 : v13 31 = (v 31) := hk31_v13.trans hq31_v10
            have hq32_v13 : v13 32 = (v 32) := hk32_v13.trans hq32_v10
            rcases hw with ⟨g15⟩ | ⟨g15⟩
            · skip
              subst g15
              refine lv_if_eq (tgt := 58) hx hb dX0_painted_53 (by decide) (fun c0 => absurd c0 (by decide)) (fun _ => ?_)
              refine lv_iconst (v := 1) hx hb dX0_painted_56 (by decide) ?_
              exact ret 1 (v13, f14) _ _ _ _ _ _ rfl ⟨hM_v13, hA_f14, hIv13, (hk0_v13.trans (hk0_v10.trans (show v2 0 = v 0 from hq0_v2))), (hk1_v13.trans (hk1_v10.trans (show v2 1 = v 1 from hq1_v2))), (hk7_v13.trans (hk7_v10.trans (show v2 7 = v 7 from hq7_v2))), (hk8_v13.trans (hk8_v10.trans (show v2 8 = v 8 from hq8_v2))), (hk9_v13.trans (hk9_v10.trans (show v2 9 = v 9 from hq9_v2))), (hk10_v13.trans (hk10_v10.trans (show v2 10 = v 10 from hq10_v2))), (hk31_v13.trans (hk31_v10.trans (show v2 31 = v 31 from hq31_v2))), (hk32_v13.trans (hk32_v10.trans (show v2 32 = v 32 from hq32_v2))), (Or.inl rfl)⟩ hP hD hS dX0_painted_57 (Nat.le_refl _) (Nat.le_refl _)
            · skip
              subst g15
              refine lv_if_eq (tgt := 58) hx hb dX0_painted_53 (by decide) (fun _ => ?_) (fun c0 => absurd (by decide) c0)
              obtain ⟨t16, et16⟩ : ∃ y : Int32, y = l3_2 + 1 := ⟨_, rfl⟩
              have zt16 : t16.toInt = l3_2.toInt + 1 := by rw [et16]; exact add_i rfl (by decide) (by omega) (by omega)
              refine lv_iinc (v := t16) (lv' := [(3, .int t16), (0, .ref (x 31)), (1, .int 2), (2, .int p2)]) hx hb dX0_painted_58 hl (k := 0) rfl (by rw [et16]; rfl) (by decide) rfl (fun ls hl => ?_)
              refine lv_goto (tgt := 21) hx hb dX0_painted_61 (by decide) ?_
              have rg17 := fb_rng t16
              exact ih2 t16 v13 f14 hIv13 hq0_v13 hq1_v13 hq7_v13 hq8_v13 hq9_v13 hq10_v13 hq31_v13 hq32_v13 ⟨show (0 : Int) ≤ t16.toInt by omega, show t16.toInt ≤ (2147483647 : Int) by omega⟩ hM_v13 hA_f14 (by show (2147483647 - t16.toInt).toNat < n2; omega) _ _ _ hP hD hS (lv_sub hl [0, 1, 2, 3] rfl)
          · skip
            subst g9
            refine lv_if_eq (tgt := 58) hx hb dX0_painted_32 (by decide) (fun _ => ?_) (fun c0 => absurd (by decide) c0)
            obtain ⟨t18, et18⟩ : ∃ y : Int32, y = l3_2 + 1 := ⟨_, rfl⟩
            have zt18 : t18.toInt = l3_2.toInt + 1 := by rw [et18]; exact add_i rfl (by decide) (by omega) (by omega)
            refine lv_iinc (v := t18) (lv' := [(3, .int t18), (0, .ref (x 31)), (1, .int 2), (2, .int p2)]) hx hb dX0_painted_58 hl (k := 0) rfl (by rw [et18]; rfl) (by decide) rfl (fun ls hl => ?_)
            refine lv_goto (tgt := 21) hx hb dX0_painted_61 (by decide) ?_
            have rg19 := fb_rng t18
            exact ih2 t18 v2 f2 hIv2 hq0_v2 hq1_v2 hq7_v2 hq8_v2 hq9_v2 hq10_v2 hq31_v2 hq32_v2 ⟨show (0 : Int) ≤ t18.toInt by omega, show t18.toInt ≤ (2147483647 : Int) by omega⟩ hM_v2 hA_f2 (by show (2147483647 - t18.toInt).toNat < n2; omega) _ _ _ hP hD hS (lv_sub hl [0, 1, 2, 3] rfl)
    exact lp2 _ 0 v f hIv rfl rfl rfl rfl rfl rfl rfl rfl ⟨by decide, by decide⟩ hM_v hA_f (Nat.lt_succ_self _) _ _ _ hP hD hS (lv_sub hl [0, 1, 2, 3] rfl)
set_option maxHeartbeats 4000000 in
set_option maxRecDepth 100000 in
theorem sX_X0_painted_2 (l : Launch) (dC : Nat → ClassId) (dI : Nat → Nat → Nat) (cy : Nat → ClassId) (x0 : Nat) (x : Nat → Nat) (p2 : Int32) (v : Nat → Int32) (f : Nat → Nat → Int32) (hIv : XI v)  : ctI l (dC, dI) cy yX0_painted cX0_painted 4 .boolean 8 220 0 0 ((Nat → Int32) × (Nat → Nat → Int32)) [.ref (x 31), .int 1, .int p2] (XW cy x0 x v f) (fun r u => KV [38] u.1 v ∧ KF [20] u.2 f ∧ XI u.1 ∧ u.1 0 = v 0 ∧ u.1 1 = v 1 ∧ u.1 7 = v 7 ∧ u.1 8 = v 8 ∧ u.1 9 = v 9 ∧ u.1 10 = v 10 ∧ u.1 31 = v 31 ∧ u.1 32 = v 32 ∧ ((r = 1) ∨ (r = 0))) (fun u => XW cy x0 x u.1 u.2) := by
  refine ctI_of (by decide) (Nat.le_of_ble_eq_true rfl) (fun p e s m below meth c A ls Q hx hb hml hts hown hE hP hD hA hl ret => ?_)
  have hM_v : KV [38] v v := fun _ _ => rfl
  have hA_f : KF [20] f f := fun _ _ => rfl
  have hown : s.vm.findClass RX0 = some m.cls := hown
  have hS : va_S A s.heap s.heap [] := va_S.rf
  have hl : lv_has ls 4 [(0, .ref (x 31)), (1, .int 1), (2, .int p2)] := hl
  refine lv_iload_n hx hb dX0_painted_0 rfl (lv_at hl 1 rfl) ?_
  refine lv_aload_n hx hb dX0_painted_1 rfl (lv_at hl 0 rfl) ?_
  refine va_get (D := (dC, dI)) (ci := 0) (v := .ref (x 26)) (C := RX0) (T := TX0) (N := 8) hx hb hts inB_0 hown hE.1 hP 32 rfl rfl 0 (by decide) (hts _ k_430) (fun _ h9 => h9) rfl dX0_painted_2 ?_
  refine va_getN (D := (dC, dI)) (ci := 7) (v := .int (v 31)) (C := RX7) (T := TX7) (N := 10) hx hb hts inB_7 hown hE.1 hP 27 rfl rfl 3 (by decide) (va_Nw.use rfl (hE.2 _ k_216)) (fun _ h9 => h9) rfl dX0_painted_5 ?_
  have b31_v : 0 ≤ (v 31).toInt ∧ (v 31).toInt ≤ 6 := XI.b hIv 31 (by decide)
  refine lv_icmp_ge (tgt := 17) hx hb dX0_painted_8 (by decide) (fun c1 => ?_) (fun c1 => ?_)
  · skip
    have zc1 : (v 31).toInt ≤ 1 := by rw [fa_le, show (1 : Int32).toInt = 1 from by decide] at c1; exact c1
    refine lv_iconst (v := 1) hx hb dX0_painted_17 (by decide) ?_
    exact ret 1 (v, f) _ _ _ _ _ _ rfl ⟨hM_v, hA_f, hIv, rfl, rfl, rfl, rfl, rfl, rfl, rfl, rfl, (Or.inl rfl)⟩ hP hD hS dX0_painted_18 (Nat.le_refl _) (Nat.le_refl _)
  · skip
    have zc1 : ¬ ((v 31).toInt ≤ 1) := by rw [fa_le, show (1 : Int32).toInt = 1 from by decide] at c1; exact c1
    refine lv_iload_n hx hb dX0_painted_11 rfl (lv_at hl 1 rfl) ?_
    refine lv_bipush (v := 6) hx hb dX0_painted_12 (by decide) ?_
    refine lv_icmp_lt (tgt := 19) hx hb dX0_painted_14 (by decide) (fun _ => ?_) (fun c0 => absurd (by decide) c0)
    refine lv_iconst (v := 0) hx hb dX0_painted_19 (by decide) ?_
    refine lv_istore_n (lv' := [(3, .int 0), (0, .ref (x 31)), (1, .int 1), (2, .int p2)]) hx hb dX0_painted_20 rfl hl (by decide) rfl (fun ls hl => ?_)
    have lp2 : ∀ (n2 : Nat) (l3_2 : Int32) (v2 : Nat → Int32) (f2 : Nat → Nat → Int32), XI v2 → v2 0 = (v 0) → v2 1 = (v 1) → v2 7 = (v 7) → v2 8 = (v 8) → v2 9 = (v 9) → v2 10 = (v 10) → v2 31 = (v 31) → v2 32 = (v 32) → ((0 : Int) ≤ l3_2.toInt ∧ l3_2.toInt ≤ 2147483647) → KV [38] v2 v → KF [20] f2 f → (2147483647 - l3_2.toInt).toNat < n2 → ∀ (H : Heap) (locs : List Loc) (ls : Array Slot), va_P (dC, dI) vwCl (XW cy x0 x v2 f2) H → va_D A (XW cy x0 x v2 f2) → va_S A s.heap H locs → lv_has ls 4 [(3, .int l3_2), (0, .ref (x 31)), (1, .int 1), (2, .int p2)] → W p l e { frames := 8, cells := 0, slots := 0, locals := 220 } s m ([.ref (x 31), .int 1, .int p2] : List Value).toArray below meth c H locs 0 0 Q (F0 m 21 ls []) := by
      intro n2
      induction n2 with
      | zero => intro l3_2 v2 f2 hIv2 hq0_v2 hq1_v2 hq7_v2 hq8_v2 hq9_v2 hq10_v2 hq31_v2 hq32_v2 hr3_2 hM_v2 hA_f2 hm; exact absurd hm (Nat.not_lt_zero _)
      | succ n2 ih2 =>
        intro l3_2 v2 f2 hIv2 hq0_v2 hq1_v2 hq7_v2 hq8_v2 hq9_v2 hq10_v2 hq31_v2 hq32_v2 hr3_2 hM_v2 hA_f2 hm2 H locs ls hP hD hS hl
        refine lv_iload_n hx hb dX0_painted_21 rfl (lv_at hl 0 rfl) ?_
        refine lv_iload_n hx hb dX0_painted_22 rfl (lv_at hl 3 rfl) ?_
        refine lv_icmp_ge (tgt := 64) hx hb dX0_painted_23 (by decide) (fun c3 => ?_) (fun c3 => ?_)
        · skip
          have zc3 : p2.toInt ≤ l3_2.toInt := by rw [fa_le] at c3; exact c3
          have rg4 := fb_rng l3_2
          have rg5 := fb_rng p2
          refine lv_iconst (v := 0) hx hb dX0_painted_64 (by decide) ?_
          exact ret 0 (v2, f2) _ _ _ _ _ _ rfl ⟨hM_v2, hA_f2, hIv2, (show v2 0 = v 0 from hq0_v2), (show v2 1 = v 1 from hq1_v2), (show v2 7 = v 7 from hq7_v2), (show v2 8 = v 8 from hq8_v2), (show v2 9 = v 9 from hq9_v2), (show v2 10 = v 10 from hq10_v2), (show v2 31 = v 31 from hq31_v2), (show v2 32 = v 32 from hq32_v2), (Or.inr rfl)⟩ hP hD hS dX0_painted_65 (Nat.le_refl _) (Nat.le_refl _)
        · skip
          have zc3 : ¬ (p2.toInt ≤ l3_2.toInt) := by rw [fa_le] at c3; exact c3
          have rg6 := fb_rng l3_2
          have rg7 := fb_rng p2
          refine lv_aload_n hx hb dX0_painted_26 rfl (lv_at hl 1 rfl) ?_
          refine lv_iload_n hx hb dX0_painted_27 rfl (lv_at hl 2 rfl) ?_
          refine lv_iload_n hx hb dX0_painted_28 rfl (lv_at hl 0 rfl) ?_
          refine cbVi (n := 2) (rest := []) hx hb hml hown hts hE hP hD hS hA (sX_X0_isClear_1 l dC dI cy x0 x 1 l3_2 v2 f2 hIv2 ) k_1123 k_1125 k_34 k_111 k_1126 (by decide +kernel) ⟨Nat.le_of_ble_eq_true rfl, Nat.le_of_ble_eq_true rfl⟩ 32 0 rfl rfl (rfl) hl.1 rfl (Nat.le_of_ble_eq_true rfl) dX0_painted_29 (fun r8 u H locs hw hP hD hS => ?_)
          rcases hw with ⟨g9⟩ | ⟨g9⟩
          · skip
            subst g9
            refine lv_if_eq (tgt := 58) hx hb dX0_painted_32 (by decide) (fun c0 => absurd c0 (by decide)) (fun _ => ?_)
            refine lv_aload_n hx hb dX0_painted_35 rfl (lv_at hl 1 rfl) ?_
            refine lv_iload_n hx hb dX0_painted_36 rfl (lv_at hl 2 rfl) ?_
            refine va_put (D := (dC, dI)) (ci := 0) (v := .int 1) (ty := tyX0 3) (C := RX0) (T := TX0) (N := 8) hx hb hts inB_0 tyX0 tyX0_ok nmX0 hown hE.1 hP hD hS 32 rfl rfl 3 (by decide) (hts _ k_433) (fun _ h9 => h9) rfl (tyX0_ok 3 (by decide)) rfl rfl (Nat.le_of_ble_eq_true rfl) dX0_painted_37 (fun H locs hP hD hS => ?_)
            have hP : va_P (dC, dI) vwCl (XW cy x0 x (upd v2 38 1) f2) H := hP
            have hD : va_D A (XW cy x0 x (upd v2 38 1) f2) := hD
            refine lv_aload_n hx hb dX0_painted_40 rfl (lv_at hl 1 rfl) ?_
            refine lv_iload_n hx hb dX0_painted_41 rfl (lv_at hl 0 rfl) ?_
            refine cbVv (n := 1) (rest := []) hx hb hml hown hts hE hP hD hS hA (sX_X0_lay_1 l dC dI cy x0 x l3_2 (upd v2 38 1) f2 (XI.upd (j := 38) (x := 1) hIv2 (by decide) (by decide)) ) k_995 k_997 k_26 k_111 k_998 (by decide +kernel) ⟨Nat.le_of_ble_eq_true rfl, Nat.le_of_ble_eq_true rfl⟩ 32 0 rfl rfl (rfl) hl.1 rfl (Nat.le_of_ble_eq_true rfl) dX0_painted_42 (fun u H locs hw hP hD hS => ?_)
            obtain ⟨v10, f11⟩ := u
            obtain ⟨kV_v10, kF_f11, hIv10, hk0_v10, hk1_v10, hk7_v10, hk8_v10, hk9_v10, hk10_v10, hk31_v10, hk32_v10⟩ := hw
            have hM_v10 : KV [38] v10 v := KV.tr kV_v10 (KV.up (j := 38) (x := 1) hM_v2 rfl) rfl
            have hA_f11 : KF [20] f11 f := KF.tr kF_f11 hA_f2 rfl
            have hP : va_P (dC, dI) vwCl (XW cy x0 x v10 f11) H := hP
            have hD : va_D A (XW cy x0 x v10 f11) := hD
            have hq0_v10 : v10 0 = (v 0) := hk0_v10.trans hq0_v2
            have hq1_v10 : v10 1 = (v 1) := hk1_v10.trans hq1_v2
            have hq7_v10 : v10 7 = (v 7) := hk7_v10.trans hq7_v2
            have hq8_v10 : v10 8 = (v 8) := hk8_v10.trans hq8_v2
            have hq9_v10 : v10 9 = (v 9) := hk9_v10.trans hq9_v2
            have hq10_v10 : v10 10 = (v 10) := hk10_v10.trans hq10_v2
            have hq31_v10 : v10 31 = (v 31) := hk31_v10.trans hq31_v2
            have hq32_v10 : v10 32 = (v 32) := hk32_v10.trans hq32_v2
            refine lv_aload_n hx hb dX0_painted_45 rfl (lv_at hl 1 rfl) ?_
            refine lv_iload_n hx hb dX0_painted_46 rfl (lv_at hl 2 rfl) ?_
            refine lv_iconst (v := 1) hx hb dX0_painted_47 (by decide) ?_
            refine lv_iadd hx hb dX0_painted_48 ?_
            refine tI (y := 2) (by decide) ?_
            refine lv_iload_n hx hb dX0_painted_49 rfl (lv_at hl 3 rfl) ?_
            refine cbVi (n := 2) (rest := []) hx hb hml hown hts hE hP hD hS hA (sX_X0_painted_3 l dC dI cy x0 x p2 v10 f11 hIv10 ) k_1119 k_1121 k_33 k_111 k_1122 (by decide +kernel) ⟨Nat.le_of_ble_eq_true rfl, Nat.le_of_ble_eq_true rfl⟩ 32 0 rfl rfl (rfl) hl.1 rfl (Nat.le_of_ble_eq_true rfl) dX0_painted_50 (fun r12 u H locs hw hP hD hS => ?_)
            obtain ⟨v13, f14⟩ := u
            obtain ⟨kV_v13, kF_f14, hIv13, hk0_v13, hk1_v13, hk7_v13, hk8_v13, hk9_v13, hk10_v13, hk31_v13, hk32_v13, hw⟩ := hw
            have hM_v13 : KV [38] v13 v := KV.tr kV_v13 hM_v10 rfl
            have hA_f14 : KF [20] f14 f := KF.tr kF_f14 hA_f11 rfl
            have hP : va_P (dC, dI) vwCl (XW cy x0 x v13 f14) H := hP
            have hD : va_D A (XW cy x0 x v13 f14) := hD
            have hq0_v13 : v13 0 = (v 0) := hk0_v13.trans hq0_v10
            have hq1_v13 : v13 1 = (v 1) := hk1_v13.trans hq1_v10
            have hq7_v13 : v13 7 = (v 7) := hk7_v13.trans hq7_v10
            have hq8_v13 : v13 8 = (v 8) := hk8_v13.trans hq8_v10
            have hq9_v13 : v13 9 = (v 9) := hk9_v13.trans hq9_v10
            have hq10_v13 : v13 10 = (v 10) := hk10_v13.trans hq10_v10
            have hq31_v13 : v13 31 = (v 31) := hk31_v13.trans hq31_v10
            have hq32_v13 : v13 32 = (v 32) := hk32_v13.trans hq32_v10
            rcases hw with ⟨g15⟩ | ⟨g15⟩
            · skip
              subst g15
              refine lv_if_eq (tgt := 58) hx hb dX0_painted_53 (by decide) (fun c0 => absurd c0 (by decide)) (fun _ => ?_)
              refine lv_iconst (v := 1) hx hb dX0_painted_56 (by decide) ?_
              exact ret 1 (v13, f14) _ _ _ _ _ _ rfl ⟨hM_v13, hA_f14, hIv13, (hk0_v13.trans (hk0_v10.trans (show v2 0 = v 0 from hq0_v2))), (hk1_v13.trans (hk1_v10.trans (show v2 1 = v 1 from hq1_v2))), (hk7_v13.trans (hk7_v10.trans (show v2 7 = v 7 from hq7_v2))), (hk8_v13.trans (hk8_v10.trans (show v2 8 = v 8 from hq8_v2))), (hk9_v13.trans (hk9_v10.trans (show v2 9 = v 9 from hq9_v2))), (hk10_v13.trans (hk10_v10.trans (show v2 10 = v 10 from hq10_v2))), (hk31_v13.trans (hk31_v10.trans (show v2 31 = v 31 from hq31_v2))), (hk32_v13.trans (hk32_v10.trans (show v2 32 = v 32 from hq32_v2))), (Or.inl rfl)⟩ hP hD hS dX0_painted_57 (Nat.le_refl _) (Nat.le_refl _)
            · skip
              subst g15
              refine lv_if_eq (tgt := 58) hx hb dX0_painted_53 (by decide) (fun _ => ?_) (fun c0 => absurd (by decide) c0)
              obtain ⟨t16, et16⟩ : ∃ y : Int32, y = l3_2 + 1 := ⟨_, rfl⟩
              have zt16 : t16.toInt = l3_2.toInt + 1 := by rw [et16]; exact add_i rfl (by decide) (by omega) (by omega)
              refine lv_iinc (v := t16) (lv' := [(3, .int t16), (0, .ref (x 31)), (1, .int 1), (2, .int p2)]) hx hb dX0_painted_58 hl (k := 0) rfl (by rw [et16]; rfl) (by decide) rfl (fun ls hl => ?_)
              refine lv_goto (tgt := 21) hx hb dX0_painted_61 (by decide) ?_
              have rg17 := fb_rng t16
              exact ih2 t16 v13 f14 hIv13 hq0_v13 hq1_v13 hq7_v13 hq8_v13 hq9_v13 hq10_v13 hq31_v13 hq32_v13 ⟨show (0 : Int) ≤ t16.toInt by omega, show t16.toInt ≤ (2147483647 : Int) by omega⟩ hM_v13 hA_f14 (by show (2147483647 - t16.toInt).toNat < n2; omega) _ _ _ hP hD hS (lv_sub hl [0, 1, 2, 3] rfl)
          · skip
            subst g9
            refine lv_if_eq (tgt := 58) hx hb dX0_painted_32 (by decide) (fun _ => ?_) (fun c0 => absurd (by decide) c0)
            obtain ⟨t18, et18⟩ : ∃ y : Int32, y = l3_2 + 1 := ⟨_, rfl⟩
            have zt18 : t18.toInt = l3_2.toInt + 1 := by rw [et18]; exact add_i rfl (by decide) (by omega) (by omega)
            refine lv_iinc (v := t18) (lv' := [(3, .int t18), (0, .ref (x 31)), (1, .int 1), (2, .int p2)]) hx hb dX0_painted_58 hl (k := 0) rfl (by rw [et18]; rfl) (by decide) rfl (fun ls hl => ?_)
            refine lv_goto (tgt := 21) hx hb dX0_painted_61 (by decide) ?_
            have rg19 := fb_rng t18
            exact ih2 t18 v2 f2 hIv2 hq0_v2 hq1_v2 hq7_v2 hq8_v2 hq9_v2 hq10_v2 hq31_v2 hq32_v2 ⟨show (0 : Int) ≤ t18.toInt by omega, show t18.toInt ≤ (2147483647 : Int) by omega⟩ hM_v2 hA_f2 (by show (2147483647 - t18.toInt).toNat < n2; omega) _ _ _ hP hD hS (lv_sub hl [0, 1, 2, 3] rfl)
    exact lp2 _ 0 v f hIv rfl rfl rfl rfl rfl rfl rfl rfl ⟨by decide, by decide⟩ hM_v hA_f (Nat.lt_succ_self _) _ _ _ hP hD hS (lv_sub hl [0, 1, 2, 3] rfl)
set_option maxHeartbeats 4000000 in
set_option maxRecDepth 100000 in
theorem sX_X0_painted_1 (l : Launch) (dC : Nat → ClassId) (dI : Nat → Nat → Nat) (cy : Nat → ClassId) (x0 : Nat) (x : Nat → Nat) (p2 : Int32) (v : Nat → Int32) (f : Nat → Nat → Int32) (hIv : XI v)  : ctI l (dC, dI) cy yX0_painted cX0_painted 4 .boolean 9 243 0 0 ((Nat → Int32) × (Nat → Nat → Int32)) [.ref (x 31), .int 0, .int p2] (XW cy x0 x v f) (fun r u => KV [38] u.1 v ∧ KF [20] u.2 f ∧ XI u.1 ∧ u.1 0 = v 0 ∧ u.1 1 = v 1 ∧ u.1 7 = v 7 ∧ u.1 8 = v 8 ∧ u.1 9 = v 9 ∧ u.1 10 = v 10 ∧ u.1 31 = v 31 ∧ u.1 32 = v 32 ∧ ((r = 1) ∨ (r = 0))) (fun u => XW cy x0 x u.1 u.2) := by
  refine ctI_of (by decide) (Nat.le_of_ble_eq_true rfl) (fun p e s m below meth c A ls Q hx hb hml hts hown hE hP hD hA hl ret => ?_)
  have hM_v : KV [38] v v := fun _ _ => rfl
  have hA_f : KF [20] f f := fun _ _ => rfl
  have hown : s.vm.findClass RX0 = some m.cls := hown
  have hS : va_S A s.heap s.heap [] := va_S.rf
  have hl : lv_has ls 4 [(0, .ref (x 31)), (1, .int 0), (2, .int p2)] := hl
  refine lv_iload_n hx hb dX0_painted_0 rfl (lv_at hl 1 rfl) ?_
  refine lv_aload_n hx hb dX0_painted_1 rfl (lv_at hl 0 rfl) ?_
  refine va_get (D := (dC, dI)) (ci := 0) (v := .ref (x 26)) (C := RX0) (T := TX0) (N := 8) hx hb hts inB_0 hown hE.1 hP 32 rfl rfl 0 (by decide) (hts _ k_430) (fun _ h9 => h9) rfl dX0_painted_2 ?_
  refine va_getN (D := (dC, dI)) (ci := 7) (v := .int (v 31)) (C := RX7) (T := TX7) (N := 10) hx hb hts inB_7 hown hE.1 hP 27 rfl rfl 3 (by decide) (va_Nw.use rfl (hE.2 _ k_216)) (fun _ h9 => h9) rfl dX0_painted_5 ?_
  have b31_v : 0 ≤ (v 31).toInt ∧ (v 31).toInt ≤ 6 := XI.b hIv 31 (by decide)
  refine lv_icmp_ge (tgt := 17) hx hb dX0_painted_8 (by decide) (fun c1 => ?_) (fun c1 => ?_)
  · skip
    have zc1 : (v 31).toInt ≤ 0 := by rw [fa_le, show (0 : Int32).toInt = 0 from by decide] at c1; exact c1
    refine lv_iconst (v := 1) hx hb dX0_painted_17 (by decide) ?_
    exact ret 1 (v, f) _ _ _ _ _ _ rfl ⟨hM_v, hA_f, hIv, rfl, rfl, rfl, rfl, rfl, rfl, rfl, rfl, (Or.inl rfl)⟩ hP hD hS dX0_painted_18 (Nat.le_refl _) (Nat.le_refl _)
  · skip
    have zc1 : ¬ ((v 31).toInt ≤ 0) := by rw [fa_le, show (0 : Int32).toInt = 0 from by decide] at c1; exact c1
    refine lv_iload_n hx hb dX0_painted_11 rfl (lv_at hl 1 rfl) ?_
    refine lv_bipush (v := 6) hx hb dX0_painted_12 (by decide) ?_
    refine lv_icmp_lt (tgt := 19) hx hb dX0_painted_14 (by decide) (fun _ => ?_) (fun c0 => absurd (by decide) c0)
    refine lv_iconst (v := 0) hx hb dX0_painted_19 (by decide) ?_
    refine lv_istore_n (lv' := [(3, .int 0), (0, .ref (x 31)), (1, .int 0), (2, .int p2)]) hx hb dX0_painted_20 rfl hl (by decide) rfl (fun ls hl => ?_)
    have lp2 : ∀ (n2 : Nat) (l3_2 : Int32) (v2 : Nat → Int32) (f2 : Nat → Nat → Int32), XI v2 → v2 0 = (v 0) → v2 1 = (v 1) → v2 7 = (v 7) → v2 8 = (v 8) → v2 9 = (v 9) → v2 10 = (v 10) → v2 31 = (v 31) → v2 32 = (v 32) → ((0 : Int) ≤ l3_2.toInt ∧ l3_2.toInt ≤ 2147483647) → KV [38] v2 v → KF [20] f2 f → (2147483647 - l3_2.toInt).toNat < n2 → ∀ (H : Heap) (locs : List Loc) (ls : Array Slot), va_P (dC, dI) vwCl (XW cy x0 x v2 f2) H → va_D A (XW cy x0 x v2 f2) → va_S A s.heap H locs → lv_has ls 4 [(3, .int l3_2), (0, .ref (x 31)), (1, .int 0), (2, .int p2)] → W p l e { frames := 9, cells := 0, slots := 0, locals := 243 } s m ([.ref (x 31), .int 0, .int p2] : List Value).toArray below meth c H locs 0 0 Q (F0 m 21 ls []) := by
      intro n2
      induction n2 with
      | zero => intro l3_2 v2 f2 hIv2 hq0_v2 hq1_v2 hq7_v2 hq8_v2 hq9_v2 hq10_v2 hq31_v2 hq32_v2 hr3_2 hM_v2 hA_f2 hm; exact absurd hm (Nat.not_lt_zero _)
      | succ n2 ih2 =>
        intro l3_2 v2 f2 hIv2 hq0_v2 hq1_v2 hq7_v2 hq8_v2 hq9_v2 hq10_v2 hq31_v2 hq32_v2 hr3_2 hM_v2 hA_f2 hm2 H locs ls hP hD hS hl
        refine lv_iload_n hx hb dX0_painted_21 rfl (lv_at hl 0 rfl) ?_
        refine lv_iload_n hx hb dX0_painted_22 rfl (lv_at hl 3 rfl) ?_
        refine lv_icmp_ge (tgt := 64) hx hb dX0_painted_23 (by decide) (fun c3 => ?_) (fun c3 => ?_)
        · skip
          have zc3 : p2.toInt ≤ l3_2.toInt := by rw [fa_le] at c3; exact c3
          have rg4 := fb_rng l3_2
          have rg5 := fb_rng p2
          refine lv_iconst (v := 0) hx hb dX0_painted_64 (by decide) ?_
          exact ret 0 (v2, f2) _ _ _ _ _ _ rfl ⟨hM_v2, hA_f2, hIv2, (show v2 0 = v 0 from hq0_v2), (show v2 1 = v 1 from hq1_v2), (show v2 7 = v 7 from hq7_v2), (show v2 8 = v 8 from hq8_v2), (show v2 9 = v 9 from hq9_v2), (show v2 10 = v 10 from hq10_v2), (show v2 31 = v 31 from hq31_v2), (show v2 32 = v 32 from hq32_v2), (Or.inr rfl)⟩ hP hD hS dX0_painted_65 (Nat.le_refl _) (Nat.le_refl _)
        · skip
          have zc3 : ¬ (p2.toInt ≤ l3_2.toInt) := by rw [fa_le] at c3; exact c3
          have rg6 := fb_rng l3_2
          have rg7 := fb_rng p2
          refine lv_aload_n hx hb dX0_painted_26 rfl (lv_at hl 1 rfl) ?_
          refine lv_iload_n hx hb dX0_painted_27 rfl (lv_at hl 2 rfl) ?_
          refine lv_iload_n hx hb dX0_painted_28 rfl (lv_at hl 0 rfl) ?_
          refine cbVi (n := 2) (rest := []) hx hb hml hown hts hE hP hD hS hA (sX_X0_isClear_1 l dC dI cy x0 x 0 l3_2 v2 f2 hIv2 ) k_1123 k_1125 k_34 k_111 k_1126 (by decide +kernel) ⟨Nat.le_of_ble_eq_true rfl, Nat.le_of_ble_eq_true rfl⟩ 32 0 rfl rfl (rfl) hl.1 rfl (Nat.le_of_ble_eq_true rfl) dX0_painted_29 (fun r8 u H locs hw hP hD hS => ?_)
          rcases hw with ⟨g9⟩ | ⟨g9⟩
          · skip
            subst g9
            refine lv_if_eq (tgt := 58) hx hb dX0_painted_32 (by decide) (fun c0 => absurd c0 (by decide)) (fun _ => ?_)
            refine lv_aload_n hx hb dX0_painted_35 rfl (lv_at hl 1 rfl) ?_
            refine lv_iload_n hx hb dX0_painted_36 rfl (lv_at hl 2 rfl) ?_
            refine va_put (D := (dC, dI)) (ci := 0) (v := .int 0) (ty := tyX0 3) (C := RX0) (T := TX0) (N := 8) hx hb hts inB_0 tyX0 tyX0_ok nmX0 hown hE.1 hP hD hS 32 rfl rfl 3 (by decide) (hts _ k_433) (fun _ h9 => h9) rfl (tyX0_ok 3 (by decide)) rfl rfl (Nat.le_of_ble_eq_true rfl) dX0_painted_37 (fun H locs hP hD hS => ?_)
            have hP : va_P (dC, dI) vwCl (XW cy x0 x (upd v2 38 0) f2) H := hP
            have hD : va_D A (XW cy x0 x (upd v2 38 0) f2) := hD
            refine lv_aload_n hx hb dX0_painted_40 rfl (lv_at hl 1 rfl) ?_
            refine lv_iload_n hx hb dX0_painted_41 rfl (lv_at hl 0 rfl) ?_
            refine cbVv (n := 1) (rest := []) hx hb hml hown hts hE hP hD hS hA (sX_X0_lay_1 l dC dI cy x0 x l3_2 (upd v2 38 0) f2 (XI.upd (j := 38) (x := 0) hIv2 (by decide) (by decide)) ) k_995 k_997 k_26 k_111 k_998 (by decide +kernel) ⟨Nat.le_of_ble_eq_true rfl, Nat.le_of_ble_eq_true rfl⟩ 32 0 rfl rfl (rfl) hl.1 rfl (Nat.le_of_ble_eq_true rfl) dX0_painted_42 (fun u H locs hw hP hD hS => ?_)
            obtain ⟨v10, f11⟩ := u
            obtain ⟨kV_v10, kF_f11, hIv10, hk0_v10, hk1_v10, hk7_v10, hk8_v10, hk9_v10, hk10_v10, hk31_v10, hk32_v10⟩ := hw
            have hM_v10 : KV [38] v10 v := KV.tr kV_v10 (KV.up (j := 38) (x := 0) hM_v2 rfl) rfl
            have hA_f11 : KF [20] f11 f := KF.tr kF_f11 hA_f2 rfl
            have hP : va_P (dC, dI) vwCl (XW cy x0 x v10 f11) H := hP
            have hD : va_D A (XW cy x0 x v10 f11) := hD
            have hq0_v10 : v10 0 = (v 0) := hk0_v10.trans hq0_v2
            have hq1_v10 : v10 1 = (v 1) := hk1_v10.trans hq1_v2
            have hq7_v10 : v10 7 = (v 7) := hk7_v10.trans hq7_v2
            have hq8_v10 : v10 8 = (v 8) := hk8_v10.trans hq8_v2
            have hq9_v10 : v10 9 = (v 9) := hk9_v10.trans hq9_v2
            have hq10_v10 : v10 10 = (v 10) := hk10_v10.trans hq10_v2
            have hq31_v10 : v10 31 = (v 31) := hk31_v10.trans hq31_v2
            have hq32_v10 : v10 32 = (v 32) := hk32_v10.trans hq32_v2
            refine lv_aload_n hx hb dX0_painted_45 rfl (lv_at hl 1 rfl) ?_
            refine lv_iload_n hx hb dX0_painted_46 rfl (lv_at hl 2 rfl) ?_
            refine lv_iconst (v := 1) hx hb dX0_painted_47 (by decide) ?_
            refine lv_iadd hx hb dX0_painted_48 ?_
            refine tI (y := 1) (by decide) ?_
            refine lv_iload_n hx hb dX0_painted_49 rfl (lv_at hl 3 rfl) ?_
            refine cbVi (n := 2) (rest := []) hx hb hml hown hts hE hP hD hS hA (sX_X0_painted_2 l dC dI cy x0 x p2 v10 f11 hIv10 ) k_1119 k_1121 k_33 k_111 k_1122 (by decide +kernel) ⟨Nat.le_of_ble_eq_true rfl, Nat.le_of_ble_eq_true rfl⟩ 32 0 rfl rfl (rfl) hl.1 rfl (Nat.le_of_ble_eq_true rfl) dX0_painted_50 (fun r12 u H locs hw hP hD hS => ?_)
            obtain ⟨v13, f14⟩ := u
            obtain ⟨kV_v13, kF_f14, hIv13, hk0_v13, hk1_v13, hk7_v13, hk8_v13, hk9_v13, hk10_v13, hk31_v13, hk32_v13, hw⟩ := hw
            have hM_v13 : KV [38] v13 v := KV.tr kV_v13 hM_v10 rfl
            have hA_f14 : KF [20] f14 f := KF.tr kF_f14 hA_f11 rfl
            have hP : va_P (dC, dI) vwCl (XW cy x0 x v13 f14) H := hP
            have hD : va_D A (XW cy x0 x v13 f14) := hD
            have hq0_v13 : v13 0 = (v 0) := hk0_v13.trans hq0_v10
            have hq1_v13 : v13 1 = (v 1) := hk1_v13.trans hq1_v10
            have hq7_v13 : v13 7 = (v 7) := hk7_v13.trans hq7_v10
            have hq8_v13 : v13 8 = (v 8) := hk8_v13.trans hq8_v10
            have hq9_v13 : v13 9 = (v 9) := hk9_v13.trans hq9_v10
            have hq10_v13 : v13 10 = (v 10) := hk10_v13.trans hq10_v10
            have hq31_v13 : v13 31 = (v 31) := hk31_v13.trans hq31_v10
            have hq32_v13 : v13 32 = (v 32) := hk32_v13.trans hq32_v10
            rcases hw with ⟨g15⟩ | ⟨g15⟩
            · skip
              subst g15
              refine lv_if_eq (tgt := 58) hx hb dX0_painted_53 (by decide) (fun c0 => absurd c0 (by decide)) (fun _ => ?_)
              refine lv_iconst (v := 1) hx hb dX0_painted_56 (by decide) ?_
              exact ret 1 (v13, f14) _ _ _ _ _ _ rfl ⟨hM_v13, hA_f14, hIv13, (hk0_v13.trans (hk0_v10.trans (show v2 0 = v 0 from hq0_v2))), (hk1_v13.trans (hk1_v10.trans (show v2 1 = v 1 from hq1_v2))), (hk7_v13.trans (hk7_v10.trans (show v2 7 = v 7 from hq7_v2))), (hk8_v13.trans (hk8_v10.trans (show v2 8 = v 8 from hq8_v2))), (hk9_v13.trans (hk9_v10.trans (show v2 9 = v 9 from hq9_v2))), (hk10_v13.trans (hk10_v10.trans (show v2 10 = v 10 from hq10_v2))), (hk31_v13.trans (hk31_v10.trans (show v2 31 = v 31 from hq31_v2))), (hk32_v13.trans (hk32_v10.trans (show v2 32 = v 32 from hq32_v2))), (Or.inl rfl)⟩ hP hD hS dX0_painted_57 (Nat.le_refl _) (Nat.le_refl _)
            · skip
              subst g15
              refine lv_if_eq (tgt := 58) hx hb dX0_painted_53 (by decide) (fun _ => ?_) (fun c0 => absurd (by decide) c0)
              obtain ⟨t16, et16⟩ : ∃ y : Int32, y = l3_2 + 1 := ⟨_, rfl⟩
              have zt16 : t16.toInt = l3_2.toInt + 1 := by rw [et16]; exact add_i rfl (by decide) (by omega) (by omega)
              refine lv_iinc (v := t16) (lv' := [(3, .int t16), (0, .ref (x 31)), (1, .int 0), (2, .int p2)]) hx hb dX0_painted_58 hl (k := 0) rfl (by rw [et16]; rfl) (by decide) rfl (fun ls hl => ?_)
              refine lv_goto (tgt := 21) hx hb dX0_painted_61 (by decide) ?_
              have rg17 := fb_rng t16
              exact ih2 t16 v13 f14 hIv13 hq0_v13 hq1_v13 hq7_v13 hq8_v13 hq9_v13 hq10_v13 hq31_v13 hq32_v13 ⟨show (0 : Int) ≤ t16.toInt by omega, show t16.toInt ≤ (2147483647 : Int) by omega⟩ hM_v13 hA_f14 (by show (2147483647 - t16.toInt).toNat < n2; omega) _ _ _ hP hD hS (lv_sub hl [0, 1, 2, 3] rfl)
          · skip
            subst g9
            refine lv_if_eq (tgt := 58) hx hb dX0_painted_32 (by decide) (fun _ => ?_) (fun c0 => absurd (by decide) c0)
            obtain ⟨t18, et18⟩ : ∃ y : Int32, y = l3_2 + 1 := ⟨_, rfl⟩
            have zt18 : t18.toInt = l3_2.toInt + 1 := by rw [et18]; exact add_i rfl (by decide) (by omega) (by omega)
            refine lv_iinc (v := t18) (lv' := [(3, .int t18), (0, .ref (x 31)), (1, .int 0), (2, .int p2)]) hx hb dX0_painted_58 hl (k := 0) rfl (by rw [et18]; rfl) (by decide) rfl (fun ls hl => ?_)
            refine lv_goto (tgt := 21) hx hb dX0_painted_61 (by decide) ?_
            have rg19 := fb_rng t18
            exact ih2 t18 v2 f2 hIv2 hq0_v2 hq1_v2 hq7_v2 hq8_v2 hq9_v2 hq10_v2 hq31_v2 hq32_v2 ⟨show (0 : Int) ≤ t18.toInt by omega, show t18.toInt ≤ (2147483647 : Int) by omega⟩ hM_v2 hA_f2 (by show (2147483647 - t18.toInt).toNat < n2; omega) _ _ _ hP hD hS (lv_sub hl [0, 1, 2, 3] rfl)
    exact lp2 _ 0 v f hIv rfl rfl rfl rfl rfl rfl rfl rfl ⟨by decide, by decide⟩ hM_v hA_f (Nat.lt_succ_self _) _ _ _ hP hD hS (lv_sub hl [0, 1, 2, 3] rfl)
set_option maxHeartbeats 4000000 in
set_option maxRecDepth 100000 in
theorem sX_X0_layColours_1 (l : Launch) (dC : Nat → ClassId) (dI : Nat → Nat → Nat) (cy : Nat → ClassId) (x0 : Nat) (x : Nat → Nat)  (v : Nat → Int32) (f : Nat → Nat → Int32) (hIv : XI v)  : ctI l (dC, dI) cy yX0_layColours cX0_layColours 2 .int 10 266 0 0 ((Nat → Int32) × (Nat → Nat → Int32)) [.ref (x 31)] (XW cy x0 x v f) (fun r u => KV [38] u.1 v ∧ KF [20] u.2 f ∧ XI u.1 ∧ u.1 0 = v 0 ∧ u.1 1 = v 1 ∧ u.1 7 = v 7 ∧ u.1 8 = v 8 ∧ u.1 9 = v 9 ∧ u.1 10 = v 10 ∧ u.1 31 = v 31 ∧ u.1 32 = v 32) (fun u => XW cy x0 x u.1 u.2) := by
  refine ctI_of (by decide) (Nat.le_of_ble_eq_true rfl) (fun p e s m below meth c A ls Q hx hb hml hts hown hE hP hD hA hl ret => ?_)
  have hM_v : KV [38] v v := fun _ _ => rfl
  have hA_f : KF [20] f f := fun _ _ => rfl
  have hown : s.vm.findClass RX0 = some m.cls := hown
  have hS : va_S A s.heap s.heap [] := va_S.rf
  have hl : lv_has ls 2 [(0, .ref (x 31))] := hl
  refine lv_aload_n hx hb dX0_layColours_0 rfl (lv_at hl 0 rfl) ?_
  refine cbVv (n := 0) (rest := []) hx hb hml hown hts hE hP hD hS hA (sX_X0_clear_1 0 l dC dI cy x0 x  v f hIv ) k_990 k_787 k_788 k_111 k_789 (by decide +kernel) ⟨Nat.le_of_ble_eq_true rfl, Nat.le_of_ble_eq_true rfl⟩ 32 0 rfl rfl (rfl) hl.1 rfl (Nat.le_of_ble_eq_true rfl) dX0_layColours_1 (fun u H locs hw hP hD hS => ?_)
  obtain ⟨hG1, hw⟩ := hw
  obtain ⟨v2, f3⟩ := u
  obtain ⟨kV_v2, kF_f3, hIv2, hk0_v2, hk1_v2, hk7_v2, hk8_v2, hk9_v2, hk10_v2, hk31_v2, hk32_v2⟩ := hw
  have hM_v2 : KV [38] v2 v := KV.tr kV_v2 hM_v rfl
  have hA_f3 : KF [20] f3 f := KF.tr kF_f3 hA_f rfl
  have hP : va_P (dC, dI) vwCl (XW cy x0 x v2 f3) H := hP
  have hD : va_D A (XW cy x0 x v2 f3) := hD
  have hq0_v2 : v2 0 = (v 0) := hk0_v2
  have hq1_v2 : v2 1 = (v 1) := hk1_v2
  have hq7_v2 : v2 7 = (v 7) := hk7_v2
  have hq8_v2 : v2 8 = (v 8) := hk8_v2
  have hq9_v2 : v2 9 = (v 9) := hk9_v2
  have hq10_v2 : v2 10 = (v 10) := hk10_v2
  have hq31_v2 : v2 31 = (v 31) := hk31_v2
  have hq32_v2 : v2 32 = (v 32) := hk32_v2
  refine lv_iconst (v := 0) hx hb dX0_layColours_4 (by decide) ?_
  refine lv_istore_n (lv' := [(1, .int 0), (0, .ref (x 31))]) hx hb dX0_layColours_5 rfl hl (by decide) rfl (fun ls hl => ?_)
  have lp4 : ∀ (n4 : Nat) (l1_4 : Int32) (v4 : Nat → Int32) (f4 : Nat → Nat → Int32), XI v4 → v4 0 = (v 0) → v4 1 = (v 1) → v4 7 = (v 7) → v4 8 = (v 8) → v4 9 = (v 9) → v4 10 = (v 10) → v4 31 = (v 31) → v4 32 = (v 32) → ((0 : Int) ≤ l1_4.toInt ∧ l1_4.toInt ≤ 2147483647) → KV [38] v4 v → KF [20] f4 f → (2147483647 - l1_4.toInt).toNat < n4 → ∀ (H : Heap) (locs : List Loc) (ls : Array Slot), va_P (dC, dI) vwCl (XW cy x0 x v4 f4) H → va_D A (XW cy x0 x v4 f4) → va_S A s.heap H locs → lv_has ls 2 [(1, .int l1_4), (0, .ref (x 31))] → W p l e { frames := 10, cells := 0, slots := 0, locals := 266 } s m ([.ref (x 31)] : List Value).toArray below meth c H locs 0 0 Q (F0 m 6 ls []) := by
    intro n4
    induction n4 with
    | zero => intro l1_4 v4 f4 hIv4 hq0_v4 hq1_v4 hq7_v4 hq8_v4 hq9_v4 hq10_v4 hq31_v4 hq32_v4 hr1_4 hM_v4 hA_f4 hm; exact absurd hm (Nat.not_lt_zero _)
    | succ n4 ih4 =>
      intro l1_4 v4 f4 hIv4 hq0_v4 hq1_v4 hq7_v4 hq8_v4 hq9_v4 hq10_v4 hq31_v4 hq32_v4 hr1_4 hM_v4 hA_f4 hm4 H locs ls hP hD hS hl
      refine lv_iload_n hx hb dX0_layColours_6 rfl (lv_at hl 0 rfl) ?_
      refine lv_aload_n hx hb dX0_layColours_7 rfl (lv_at hl 1 rfl) ?_
      refine va_get (D := (dC, dI)) (ci := 0) (v := .ref (x 26)) (C := RX0) (T := TX0) (N := 8) hx hb hts inB_0 hown hE.1 hP 32 rfl rfl 0 (by decide) (hts _ k_430) (fun _ h9 => h9) rfl dX0_layColours_8 ?_
      refine va_getN (D := (dC, dI)) (ci := 7) (v := .int (v4 31)) (C := RX7) (T := TX7) (N := 10) hx hb hts inB_7 hown hE.1 hP 27 rfl rfl 3 (by decide) (va_Nw.use rfl (hE.2 _ k_216)) (fun _ h9 => h9) rfl dX0_layColours_11 ?_
      refine tI (y := (v 31)) hq31_v4 ?_
      have b31_v : 0 ≤ (v 31).toInt ∧ (v 31).toInt ≤ 6 := XI.b hIv 31 (by decide)
      refine lv_icmp_gt (tgt := 34) hx hb dX0_layColours_14 (by decide) (fun c5 => ?_) (fun c5 => ?_)
      · skip
        have zc5 : (v 31).toInt < l1_4.toInt := by rw [fa_lt] at c5; exact c5
        have rg6 := fb_rng l1_4
        have rg7 := fb_rng (v 31)
        refine lv_aload_n hx hb dX0_layColours_34 rfl (lv_at hl 1 rfl) ?_
        refine va_get (D := (dC, dI)) (ci := 0) (v := .ref (x 26)) (C := RX0) (T := TX0) (N := 8) hx hb hts inB_0 hown hE.1 hP 32 rfl rfl 0 (by decide) (hts _ k_430) (fun _ h9 => h9) rfl dX0_layColours_35 ?_
        refine va_getN (D := (dC, dI)) (ci := 7) (v := .int (v4 31)) (C := RX7) (T := TX7) (N := 10) hx hb hts inB_7 hown hE.1 hP 27 rfl rfl 3 (by decide) (va_Nw.use rfl (hE.2 _ k_216)) (fun _ h9 => h9) rfl dX0_layColours_38 ?_
        refine tI (y := (v 31)) hq31_v4 ?_
        exact ret (v 31) (v4, f4) _ _ _ _ _ _ rfl ⟨hM_v4, hA_f4, hIv4, hq0_v4, hq1_v4, hq7_v4, hq8_v4, hq9_v4, hq10_v4, hq31_v4, hq32_v4⟩ hP hD hS dX0_layColours_41 (Nat.le_refl _) (Nat.le_refl _)
      · skip
        have zc5 : ¬ ((v 31).toInt < l1_4.toInt) := by rw [fa_lt] at c5; exact c5
        have rg8 := fb_rng l1_4
        have rg9 := fb_rng (v 31)
        refine lv_aload_n hx hb dX0_layColours_17 rfl (lv_at hl 1 rfl) ?_
        refine lv_iconst (v := 0) hx hb dX0_layColours_18 (by decide) ?_
        refine lv_iload_n hx hb dX0_layColours_19 rfl (lv_at hl 0 rfl) ?_
        refine cbVi (n := 2) (rest := []) hx hb hml hown hts hE hP hD hS hA (sX_X0_painted_1 l dC dI cy x0 x l1_4 v4 f4 hIv4 ) k_1119 k_1121 k_33 k_111 k_1122 (by decide +kernel) ⟨Nat.le_of_ble_eq_true rfl, Nat.le_of_ble_eq_true rfl⟩ 32 0 rfl rfl (rfl) hl.1 rfl (Nat.le_of_ble_eq_true rfl) dX0_layColours_20 (fun r10 u H locs hw hP hD hS => ?_)
        obtain ⟨v11, f12⟩ := u
        obtain ⟨kV_v11, kF_f12, hIv11, hk0_v11, hk1_v11, hk7_v11, hk8_v11, hk9_v11, hk10_v11, hk31_v11, hk32_v11, hw⟩ := hw
        have hM_v11 : KV [38] v11 v := KV.tr kV_v11 hM_v4 rfl
        have hA_f12 : KF [20] f12 f := KF.tr kF_f12 hA_f4 rfl
        have hP : va_P (dC, dI) vwCl (XW cy x0 x v11 f12) H := hP
        have hD : va_D A (XW cy x0 x v11 f12) := hD
        have hq0_v11 : v11 0 = (v 0) := hk0_v11.trans hq0_v4
        have hq1_v11 : v11 1 = (v 1) := hk1_v11.trans hq1_v4
        have hq7_v11 : v11 7 = (v 7) := hk7_v11.trans hq7_v4
        have hq8_v11 : v11 8 = (v 8) := hk8_v11.trans hq8_v4
        have hq9_v11 : v11 9 = (v 9) := hk9_v11.trans hq9_v4
        have hq10_v11 : v11 10 = (v 10) := hk10_v11.trans hq10_v4
        have hq31_v11 : v11 31 = (v 31) := hk31_v11.trans hq31_v4
        have hq32_v11 : v11 32 = (v 32) := hk32_v11.trans hq32_v4
        rcases hw with ⟨g13⟩ | ⟨g13⟩
        · skip
          subst g13
          refine lv_if_eq (tgt := 28) hx hb dX0_layColours_23 (by decide) (fun c0 => absurd c0 (by decide)) (fun _ => ?_)
          refine lv_iload_n hx hb dX0_layColours_26 rfl (lv_at hl 0 rfl) ?_
          exact ret l1_4 (v11, f12) _ _ _ _ _ _ rfl ⟨hM_v11, hA_f12, hIv11, (hk0_v11.trans hq0_v4), (hk1_v11.trans hq1_v4), (hk7_v11.trans hq7_v4), (hk8_v11.trans hq8_v4), (hk9_v11.trans hq9_v4), (hk10_v11.trans hq10_v4), (hk31_v11.trans hq31_v4), (hk32_v11.trans hq32_v4)⟩ hP hD hS dX0_layColours_27 (Nat.le_refl _) (Nat.le_refl _)
        · skip
          subst g13
          refine lv_if_eq (tgt := 28) hx hb dX0_layColours_23 (by decide) (fun _ => ?_) (fun c0 => absurd (by decide) c0)
          obtain ⟨t14, et14⟩ : ∃ y : Int32, y = l1_4 + 1 := ⟨_, rfl⟩
          have zt14 : t14.toInt = l1_4.toInt + 1 := by rw [et14]; exact add_i rfl (by decide) (by omega) (by omega)
          refine lv_iinc (v := t14) (lv' := [(1, .int t14), (0, .ref (x 31))]) hx hb dX0_layColours_28 hl (k := 0) rfl (by rw [et14]; rfl) (by decide) rfl (fun ls hl => ?_)
          refine lv_goto (tgt := 6) hx hb dX0_layColours_31 (by decide) ?_
          have rg15 := fb_rng t14
          exact ih4 t14 v11 f12 hIv11 hq0_v11 hq1_v11 hq7_v11 hq8_v11 hq9_v11 hq10_v11 hq31_v11 hq32_v11 ⟨show (0 : Int) ≤ t14.toInt by omega, show t14.toInt ≤ (2147483647 : Int) by omega⟩ hM_v11 hA_f12 (by show (2147483647 - t14.toInt).toNat < n4; omega) _ _ _ hP hD hS (lv_sub hl [0, 1] rfl)
  exact lp4 _ 0 v2 f3 hIv2 hq0_v2 hq1_v2 hq7_v2 hq8_v2 hq9_v2 hq10_v2 hq31_v2 hq32_v2 ⟨by decide, by decide⟩ hM_v2 hA_f3 (Nat.lt_succ_self _) _ _ _ hP hD hS (lv_sub hl [0, 1] rfl)
