set_option maxHeartbeats 4000000 in
set_option maxRecDepth 100000 in
theorem sX_X0_painted_4 (l : Launch) (dC : Nat → ClassId) (dI : Nat → Nat → Nat) (cy : Nat → ClassId) (x0 : Nat) (x : Nat → Nat) (p2 : Int32) (v : Nat → Int32) (f : Nat → Nat → Int32) (hIv : XI v)  : ctI l (dC, dI) cy yX0_painted cX0_painted 4 .boolean 6 174 0 0 ((Nat → Int32) × (Nat → Nat → Int32)) [.ref (x 31), .int 3, .int p2] (XW cy x0 x v f) (fun r u => KV [38] u.1 v ∧ KF [20] u.2 f ∧ XI u.1 ∧ u.1 0 = v 0 ∧ u.1 1 = v 1 ∧ u.1 7 = v 7 ∧ u.1 8 = v 8 ∧ u.1 9 = v 9 ∧ u.1 10 = v 10 ∧ u.1 31 = v 31 ∧ u.1 32 = v 32 ∧ ((r = 1) ∨ (r = 0))) (fun u => XW cy x0 x u.1 u.2) := by
  refine ctI_of (by decide) (Nat.le_of_ble_eq_true rfl) (fun p e s m below meth c A ls Q hx hb hml hts hown hE hP hD hA hl ret => ?_)
  have hM_v : KV [38] v v := fun _ _ => rfl
  have hA_f : KF [20] f f := fun _ _ => rfl
  have hown : s.vm.findClass RX0 = some m.cls := hown
  have hS : va_S A s.heap s.heap [] := va_S.rf
  have hl : lv_has ls 4 [(0, .ref (x 31)), (1, .int 3), (2, .int p2)] := hl
  refine lv_iload_n hx hb dX0_painted_0 rfl (lv_at hl 1 rfl) ?_
  refine lv_aload_n hx hb dX0_painted_1 rfl (lv_at hl 0 rfl) ?_
  refine va_get (D := (dC, dI)) (ci := 0) (v := .ref (x 26)) (C := RX0) (T := TX0) (N := 8) hx hb hts inB_0 hown hE.1 hP 32 rfl rfl 0 (by decide) (hts _ k_430) (fun _ h9 => h9) rfl dX0_painted_2 ?_
  refine va_getN (D := (dC, dI)) (ci := 7) (v := .int (v 31)) (C := RX7) (T := TX7) (N := 10) hx hb hts inB_7 hown hE.1 hP 27 rfl rfl 3 (by decide) (va_Nw.use rfl (hE.2 _ k_216)) (fun _ h9 => h9) rfl dX0_painted_5 ?_
  have b31_v : 0 ≤ (v 31).toInt ∧ (v 31).toInt ≤ 6 := XI.b hIv 31 (by decide)
  refine lv_icmp_ge (tgt := 17) hx hb dX0_painted_8 (by decide) (fun c1 => ?_) (fun c1 => ?_)
  · skip
    have zc1 : (v 31).toInt ≤ 3 := by rw [fa_le, show (3 : Int32).toInt = 3 from by decide] at c1; exact c1
    refine lv_iconst (v := 1) hx hb dX0_painted_17 (by decide) ?_
    exact ret 1 (v, f) _ _ _ _ _ _ rfl ⟨hM_v, hA_f, hIv, rfl, rfl, rfl, rfl, rfl, rfl, rfl, rfl, (Or.inl rfl)⟩ hP hD hS dX0_painted_18 (Nat.le_refl _) (Nat.le_refl _)
  · skip
    have zc1 : ¬ ((v 31).toInt ≤ 3) := by rw [fa_le, show (3 : Int32).toInt = 3 from by decide] at c1; exact c1
    refine lv_iload_n hx hb dX0_painted_11 rfl (lv_at hl 1 rfl) ?_
    refine lv_bipush (v := 6) hx hb dX0_painted_12 (by decide) ?_
    refine lv_icmp_lt (tgt := 19) hx hb dX0_painted_14 (by decide) (fun _ => ?_) (fun c0 => absurd (by decide) c0)
    refine lv_iconst (v := 0) hx hb dX0_painted_19 (by decide) ?_
    refine lv_istore_n (lv' := [(3, .int 0), (0, .ref (x 31)), (1, .int 3), (2, .int p2)]) hx hb dX0_painted_20 rfl hl (by decide) rfl (fun ls hl => ?_)
    have lp2 : ∀ (n2 : Nat) (l3_2 : Int32) (v2 : Nat → Int32) (f2 : Nat → Nat → Int32), XI v2 → v2 0 = (v 0) → v2 1 = (v 1) → v2 7 = (v 7) → v2 8 = (v 8) → v2 9 = (v 9) → v2 10 = (v 10) → v2 31 = (v 31) → v2 32 = (v 32) → ((0 : Int) ≤ l3_2.toInt ∧ l3_2.toInt ≤ 2147483647) → KV [38] v2 v → KF [20] f2 f → (2147483647 - l3_2.toInt).toNat < n2 → ∀ (H : Heap) (locs : List Loc) (ls : Array Slot), va_P (dC, dI) vwCl (XW cy x0 x v2 f2) H → va_D A (XW cy x0 x v2 f2) → va_S A s.heap H locs → lv_has ls 4 [(3, .int l3_2), (0, .ref (x 31)), (1, .int 3), (2, .int p2)] → W p l e { frames := 6, cells := 0, slots := 0, locals := 174 } s m ([.ref (x 31), .int 3, .int p2] : List Value).toArray below meth c H locs 0 0 Q (F0 m 21 ls []) := by
      intro n2
      induction n2 with
      | zero => intro l3_2 v2 f2 hIv2 hq0_v2 hq1_v2 hq7_v2 hq8_v2 hq9_v2 hq10_v2 hq31_v2 hq32_v2 hr3_2 hM_v2 hA_f2 hm; exact absurd hm (Nat.not_lt_zero _)
      | succ n2 ih2 =>
        intro l3_2 v2 f2 hIv2 hq0_v2 hq1_v2 hq7_v2 hq8_v2 hq9_v2 hq10_v2 hq31_v2 hq32_v2 hr3_2 hM_v2 hA_f2 hm2 H locs ls hP hD hS hl
        refine lv_iload_n hx hb dX0_painted_21 rfl (lv_at hl 0 rfl) ?_
        refine lv_iload_n hx hb dX0_painted_22 rfl (lv_at hl 3 rfl) ?_
        refine lv_icmp_ge (tgt := 64) hx hb dX0_painted_23 (by decide) (fun c3 => ?_) (fun c3 => ?_)
        · skip
          have zc3 : p2.toInt ≤ l3_2.toInt := by rw [fa_le] at c3; exact c3
          have rg4 := fb_rng l3_2
          have rg5 := fb_rng p2
          refine lv_iconst (v := 0) hx hb dX0_painted_64 (by decide) ?_
          exact ret 0 (v2, f2) _ _ _ _ _ _ rfl ⟨hM_v2, hA_f2, hIv2, (show v2 0 = v 0 from hq0_v2), (show v2 1 = v 1 from hq1_v2), (show v2 7 = v 7 from hq7_v2), (show v2 8 = v 8 from hq8_v2), (show v2 9 = v 9 from hq9_v2), (show v2 10 = v 10 from hq10_v2), (show v2 31 = v 31 from hq31_v2), (show v2 32 = v 32 from hq32_v2), (Or.inr rfl)⟩ hP hD hS dX0_painted_65 (Nat.le_refl _) (Nat.le_refl _)
        · skip
          have zc3 : ¬ (p2.toInt ≤ l3_2.toInt) := by rw [fa_le] at c3; exact c3
          have rg6 := fb_rng l3_2
          have rg7 := fb_rng p2
          refine lv_aload_n hx hb dX0_painted_26 rfl (lv_at hl 1 rfl) ?_
          refine lv_iload_n hx hb dX0_painted_27 rfl (lv_at hl 2 rfl) ?_
          refine lv_iload_n hx hb dX0_painted_28 rfl (lv_at hl 0 rfl) ?_
          refine cbVi (n := 2) (rest := []) hx hb hml hown hts hE hP hD hS hA (sX_X0_isClear_1 l dC dI cy x0 x 3 l3_2 v2 f2 hIv2 ) k_1123 k_1125 k_34 k_111 k_1126 (by decide +kernel) ⟨Nat.le_of_ble_eq_true rfl, Nat.le_of_ble_eq_true rfl⟩ 32 0 rfl rfl (rfl) hl.1 rfl (Nat.le_of_ble_eq_true rfl) dX0_painted_29 (fun r8 u H locs hw hP hD hS => ?_)
          rcases hw with ⟨g9⟩ | ⟨g9⟩
          · skip
            subst g9
            refine lv_if_eq (tgt := 58) hx hb dX0_painted_32 (by decide) (fun c0 => absurd c0 (by decide)) (fun _ => ?_)
            refine lv_aload_n hx hb dX0_painted_35 rfl (lv_at hl 1 rfl) ?_
            refine lv_iload_n hx hb dX0_painted_36 rfl (lv_at hl 2 rfl) ?_
            refine va_put (D := (dC, dI)) (ci := 0) (v := .int 3) (ty := tyX0 3) (C := RX0) (T := TX0) (N := 8) hx hb hts inB_0 tyX0 tyX0_ok nmX0 hown hE.1 hP hD hS 32 rfl rfl 3 (by decide) (hts _ k_433) (fun _ h9 => h9) rfl (tyX0_ok 3 (by decide)) rfl rfl (Nat.le_of_ble_eq_true rfl) dX0_painted_37 (fun H locs hP hD hS => ?_)
            have hP : va_P (dC, dI) vwCl (XW cy x0 x (upd v2 38 3) f2) H := hP
            have hD : va_D A (XW cy x0 x (upd v2 38 3) f2) := hD
            refine lv_aload_n hx hb dX0_painted_40 rfl (lv_at hl 1 rfl) ?_
            refine lv_iload_n hx hb dX0_painted_41 rfl (lv_at hl 0 rfl) ?_
            refine cbVv (n := 1) (rest := []) hx hb hml hown hts hE hP hD hS hA (sX_X0_lay_1 l dC dI cy x0 x l3_2 (upd v2 38 3) f2 (XI.upd (j := 38) (x := 3) hIv2 (by decide) (by decide)) ) k_995 k_997 k_26 k_111 k_998 (by decide +kernel) ⟨Nat.le_of_ble_eq_true rfl, Nat.le_of_ble_eq_true rfl⟩ 32 0 rfl rfl (rfl) hl.1 rfl (Nat.le_of_ble_eq_true rfl) dX0_painted_42 (fun u H locs hw hP hD hS => ?_)
            obtain ⟨v10, f11⟩ := u
            obtain ⟨kV_v10, kF_f11, hIv10, hk0_v10, hk1_v10, hk7_v10, hk8_v10, hk9_v10, hk10_v10, hk31_v10, hk32_v10⟩ := hw
            have hM_v10 : KV [38] v10 v := KV.tr kV_v10 (KV.up (j := 38) (x := 3) hM_v2 rfl) rfl
            have hA_f11 : KF [20] f11 f := KF.tr kF_f11 hA_f2 rfl
            have hP : va_P (dC, dI) vwCl (XW cy x0 x v10 f11) H := hP
            have hD : va_D A (XW cy x0 x v10 f11) := hD
            have hq0_v10 : v10 0 = (v 0) := hk0_v10.trans hq0_v2
            have hq1_v10 : v10 1 = (v 1) := hk1_v10.trans hq1_v2
            have hq7_v10 : v10 7 = (v 7) := hk7_v10.trans hq7_v2
            have hq8_v10 : v10 8 = (v 8) := hk8_v10.trans hq8_v2
            have hq9_v10 : v10 9 = (v 9) := hk9_v10.trans hq9_v2
            have hq10_v10 : v10 10 = (v 10) := hk10_v10.trans hq10_v2
            have hq31_v10 : v10 31 = (v 31) := hk31_v10.trans hq31_v2
            have hq32_v10 : v10 32 = (v 32) := hk32_v10.trans hq32_v2
            refine lv_aload_n hx hb dX0_painted_45 rfl (lv_at hl 1 rfl) ?_
            refine lv_iload_n hx hb dX0_painted_46 rfl (lv_at hl 2 rfl) ?_
            refine lv_iconst (v := 1) hx hb dX0_painted_47 (by decide) ?_
            refine lv_iadd hx hb dX0_painted_48 ?_
            refine tI (y := 4) (by decide) ?_
            refine lv_iload_n hx hb dX0_painted_49 rfl (lv_at hl 3 rfl) ?_
            refine cbVi (n := 2) (rest := []) hx hb hml hown hts hE hP hD hS hA (sX_X0_painted_5 l dC dI cy x0 x p2 v10 f11 hIv10 ) k_1119 k_1121 k_33 k_111 k_1122 (by decide +kernel) ⟨Nat.le_of_ble_eq_true rfl, Nat.le_of_ble_eq_true rfl⟩ 32 0 rfl rfl (rfl) hl.1 rfl (Nat.le_of_ble_eq_true rfl) dX0_painted_50 (fun r12 u H locs hw hP hD hS => ?_)
            obtain ⟨v13, f14⟩ := u
            obtain ⟨kV_v13, kF_f14, hIv13, hk0_v13, hk1_v13, hk7_v13, hk8_v13, hk9_v13, hk10_v13, hk31_v13, hk32_v13, hw⟩ := hw
            have hM_v13 : KV [38] v13 v := KV.tr kV_v13 hM_v10 rfl
            have hA_f14 : KF [20] f14 f := KF.tr kF_f14 hA_f11 rfl
            have hP : va_P (dC, dI) vwCl (XW cy x0 x v13 f14) H := hP
            have hD : va_D A (XW cy x0 x v13 f14) := hD
            have hq0_v13 : v13 0 = (v 0) := hk0_v13.trans hq0_v10
            have hq1_v13 : v13 1 = (v 1) := hk1_v13.trans hq1_v10
            have hq7_v13 : v13 7 = (v 7) := hk7_v13.trans hq7_v10
            have hq8_v13 : v13 8 = (v 8) := hk8_v13.trans hq8_v10
            have hq9_v13 : v13 9 = (v 9) := hk9_v13.trans hq9_v10
            have hq10_v13 : v13 10 = (v 10) := hk10_v13.trans hq10_v10
            have hq31_v13 : v13 31 = (v 31) := hk31_v13.trans hq31_v10
            have hq32_v13 : v13 32 = (v 32) := hk32_v13.trans hq32_v10
            rcases hw with ⟨g15⟩ | ⟨g15⟩
            · skip
              subst g15
              refine lv_if_eq (tgt := 58) hx hb dX0_painted_53 (by decide) (fun c0 => absurd c0 (by decide)) (fun _ => ?_)
              refine lv_iconst (v := 1) hx hb dX0_painted_56 (by decide) ?_
              exact ret 1 (v13, f14) _ _ _ _ _ _ rfl ⟨hM_v13, hA_f14, hIv13, (hk0_v13.trans (hk0_v10.trans (show v2 0 = v 0 from hq0_v2))), (hk1_v13.trans (hk1_v10.trans (show v2 1 = v 1 from hq1_v2))), (hk7_v13.trans (hk7_v10.trans (show v2 7 = v 7 from hq7_v2))), (hk8_v13.trans (hk8_v10.trans (show v2 8 = v 8 from hq8_v2))), (hk9_v13.trans (hk9_v10.trans (show v2 9 = v 9 from hq9_v2))), (hk10_v13.trans (hk10_v10.trans (show v2 10 = v 10 from hq10_v2))), (hk31_v13.trans (hk31_v10.trans (show v2 31 = v 31 from hq31_v2))), (hk32_v13.trans (hk32_v10.trans (show v2 32 = v 32 from hq32_v2))), (Or.inl rfl)⟩ hP hD hS dX0_painted_57 (Nat.le_refl _) (Nat.le_refl _)
            · skip
              subst g15
              refine lv_if_eq (tgt := 58) hx hb dX0_painted_53 (by decide) (fun _ => ?_) (fun c0 => absurd (by decide) c0)
              obtain ⟨t16, et16⟩ : ∃ y : Int32, y = l3_2 + 1 := ⟨_, rfl⟩
              have zt16 : t16.toInt = l3_2.toInt + 1 := by rw [et16]; exact add_i rfl (by decide) (by omega) (by omega)
              refine lv_iinc (v := t16) (lv' := [(3, .int t16), (0, .ref (x 31)), (1, .int 3), (2, .int p2)]) hx hb dX0_painted_58 hl (k := 0) rfl (by rw [et16]; rfl) (by decide) rfl (fun ls hl => ?_)
              refine lv_goto (tgt := 21) hx hb dX0_painted_61 (by decide) ?_
              have rg17 := fb_rng t16
              exact ih2 t16 v13 f14 hIv13 hq0_v13 hq1_v13 hq7_v13 hq8_v13 hq9_v13 hq10_v13 hq31_v13 hq32_v13 ⟨show (0 : Int) ≤ t16.toInt by omega, show t16.toInt ≤ (2147483647 : Int) by omega⟩ hM_v13 hA_f14 (by show (2147483647 - t16.toInt).toNat < n2; omega) _ _ _ hP hD hS (lv_sub hl [0, 1, 2, 3] rfl)
          · skip
            subst g9
            refine lv_if_eq (tgt := 58) hx hb dX0_painted_32 (by decide) (fun _ => ?_) (fun c0 => absurd (by decide) c0)
            obtain ⟨t18, et18⟩ : ∃ y : Int32, y = l3_2 + 1 := ⟨_, rfl⟩
            have zt18 : t18.toInt = l3_2.toInt + 1 := by rw [et18]; exact add_i rfl (by decide) (by omega) (by omega)
            refine lv_iinc (v := t18) (lv' := [(3, .int t18), (0, .ref (x 31)), (1, .int 3), (2, .int p2)]) hx hb dX0_painted_58 hl (k := 0) rfl (by rw [et18]; rfl) (by decide) rfl (fun ls hl => ?_)
            refine lv_goto (tgt := 21) hx hb dX0_painted_61 (by decide) ?_
            have rg19 := fb_rng t18
            exact ih2 t18 v2 f2 hIv2 hq0_v2 hq1_v2 hq7_v2 hq8_v2 hq9_v2 hq10_v2 hq31_v2 hq32_v2 ⟨show (0 : Int) ≤ t18.toInt by omega, show t18.toInt ≤ (2147483647 : Int) by omega⟩ hM_v2 hA_f2 (by show (2147483647 - t18.toInt).toNat < n2; omega) _ _ _ hP hD hS (lv_sub hl [0, 1, 2, 3] rfl)
    exact lp2 _ 0 v f hIv rfl rfl rfl rfl rfl rfl rfl rfl ⟨by decide, by decide⟩ hM_v hA_f (Nat.lt_succ_self _) _ _ _ hP hD hS (lv_sub hl [0, 1, 2, 3] rfl)
set_option maxHeartbeats 4000000 in
set_option maxRecDepth 100000 in
theorem sX_X0_painted_3 (l : Launch) (dC : Nat → ClassId) (dI : Nat → Nat → Nat) (cy : Nat → ClassId) (x0 : Nat) (x : Nat → Nat) (p2 : Int32) (v : Nat → Int32) (f : Nat → Nat → Int32) (hIv : XI v)  : ctI l (dC, dI) cy yX0_painted cX0_painted 4 .boolean 7 197 0 0 ((Nat → Int32) × (Nat → Nat → Int32)) [.ref (x 31), .int 2, .int p2] (XW cy x0 x v f) (fun r u => KV [38] u.1 v ∧ KF [20] u.2 f ∧ XI u.1 ∧ u.1 0 = v 0 ∧ u.1 1 = v 1 ∧ u.1 7 = v 7 ∧ u.1 8 = v 8 ∧ u.1 9 = v 9 ∧ u.1 10 = v 10 ∧ u.1 31 = v 31 ∧ u.1 32 = v 32 ∧ ((r = 1) ∨ (r = 0))) (fun u => XW cy x0 x u.1 u.2) := by
  refine ctI_of (by decide) (Nat.le_of_ble_eq_true rfl) (fun p e s m below meth c A ls Q hx hb hml hts hown hE hP hD hA hl ret => ?_)
  have hM_v : KV [38] v v := fun _ _ => rfl
  have hA_f : KF [20] f f := fun _ _ => rfl
  have hown : s.vm.findClass RX0 = some m.cls := hown
  have hS : va_S A s.heap s.heap [] := va_S.rf
  have hl : lv_has ls 4 [(0, .ref (x 31)), (1, .int 2), (2, .int p2)] := hl
  refine lv_iload_n hx hb dX0_painted_0 rfl (lv_at hl 1 rfl) ?_
  refine lv_aload_n hx hb dX0_painted_1 rfl (lv_at hl 0 rfl) ?_
  refine va_get (D := (dC, dI)) (ci := 0) (v := .ref (x 26)) (C := RX0) (T := TX0) (N := 8) hx hb hts inB_0 hown hE.1 hP 32 rfl rfl 0 (by decide) (hts _ k_430) (fun _ h9 => h9) rfl dX0_painted_2 ?_
  refine va_getN (D := (dC, dI)) (ci := 7) (v := .int (v 31)) (C := RX7) (T := TX7) (N := 10) hx hb hts inB_7 hown hE.1 hP 27 rfl rfl 3 (by decide) (va_Nw.use rfl (hE.2 _ k_216)) (fun _ h9 => h9) rfl dX0_painted_5 ?_
  have b31_v : 0 ≤ (v 31).toInt ∧ (v 31).toInt ≤ 6 := XI.b hIv 31 (by decide)
  refine lv_icmp_ge (tgt := 17) hx hb dX0_painted_8 (by decide) (fun c1 => ?_) (fun c1 => ?_)
  · skip
    have zc1 : (v 31).toInt ≤ 2 := by rw [fa_le, show (2 : Int32).toInt = 2 from by decide] at c1; exact c1
    refine lv_iconst (v := 1) hx hb dX0_painted_17 (by decide) ?_
    exact ret 1 (v, f) _ _ _ _ _ _ rfl ⟨hM_v, hA_f, hIv, rfl, rfl, rfl, rfl, rfl, rfl, rfl, rfl, (Or.inl rfl)⟩ hP hD hS dX0_painted_18 (Nat.le_refl _) (Nat.le_refl _)
  · skip
    have zc1 : ¬ ((v 31).toInt ≤ 2) := by rw [fa_le, show (2 : Int32).toInt = 2 from by decide] at c1; exact c1
    refine lv_iload_n hx hb dX0_painted_11 rfl (lv_at hl 1 rfl) ?_
    refine lv_bipush (v := 6) hx hb dX0_painted_12 (by decide) ?_
    refine lv_icmp_lt (tgt := 19) hx hb dX0_painted_14 (by decide) (fun _ => ?_) (fun c0 => absurd (by decide) c0)
    refine lv_iconst (v := 0) hx hb dX0_painted_19 (by decide) ?_
    refine lv_istore_n (lv' := [(3, .int 0), (0, .ref (x 31)), (1, .int 2), (2, .int p2)]) hx hb dX0_painted_20 rfl hl (by decide) rfl (fun ls hl => ?_)
    have lp2 : ∀ (n2 : Nat) (l3_2 : Int32) (v2 : Nat → Int32) (f2 : Nat → Nat → Int32), XI v2 → v2 0 = (v 0) → v2 1 = (v 1) → v2 7 = (v 7) → v2 8 = (v 8) → v2 9 = (v 9) → v2 10 = (v 10) → v2 31 = (v 31) → v2 32 = (v 32) → ((0 : Int) ≤ l3_2.toInt ∧ l3_2.toInt ≤ 2147483647) → KV [38] v2 v → KF [20] f2 f → (2147483647 - l3_2.toInt).toNat < n2 → ∀ (H : Heap) (locs : List Loc) (ls : Array Slot), va_P (dC, dI) vwCl (XW cy x0 x v2 f2) H → va_D A (XW cy x0 x v2 f2) → va_S A s.heap H locs → lv_has ls 4 [(3, .int l3_2), (0, .ref (x 31)), (1, .int 2), (2, .int p2)] → W p l e { frames := 7, cells := 0, slots := 0, locals := 197 } s m ([.ref (x 31), .int 2, .int p2] : List Value).toArray below meth c H locs 0 0 Q (F0 m 21 ls []) := by
      intro n2
      induction n2 with
      | zero => intro l3_2 v2 f2 hIv2 hq0_v2 hq1_v2 hq7_v2 hq8_v2 hq9_v2 hq10_v2 hq31_v2 hq32_v2 hr3_2 hM_v2 hA_f2 hm; exact absurd hm (Nat.not_lt_zero _)
      | succ n2 ih2 =>
        intro l3_2 v2 f2 hIv2 hq0_v2 hq1_v2 hq7_v2 hq8_v2 hq9_v2 hq10_v2 hq31_v2 hq32_v2 hr3_2 hM_v2 hA_f2 hm2 H locs ls hP hD hS hl
        refine lv_iload_n hx hb dX0_painted_21 rfl (lv_at hl 0 rfl) ?_
        refine lv_iload_n hx hb dX0_painted_22 rfl (lv_at hl 3 rfl) ?_
        refine lv_icmp_ge (tgt := 64) hx hb dX0_painted_23 (by decide) (fun c3 => ?_) (fun c3 => ?_)
        · skip
          have zc3 : p2.toInt ≤ l3_2.toInt := by rw [fa_le] at c3; exact c3
          have rg4 := fb_rng l3_2
          have rg5 := fb_rng p2
          refine lv_iconst (v := 0) hx hb dX0_painted_64 (by decide) ?_
          exact ret 0 (v2, f2) _ _ _ _ _ _ rfl ⟨hM_v2, hA_f2, hIv2, (show v2 0 = v 0 from hq0_v2), (show v2 1 = v 1 from hq1_v2), (show v2 7 = v 7 from hq7_v2), (show v2 8 = v 8 from hq8_v2), (show v2 9 = v 9 from hq9_v2), (show v2 10 = v 10 from hq10_v2), (show v2 31 = v 31 from hq31_v2), (show v2 32 = v 32 from hq32_v2), (Or.inr rfl)⟩ hP hD hS dX0_painted_65 (Nat.le_refl _) (Nat.le_refl _)
        · skip
          have zc3 : ¬ (p2.toInt ≤ l3_2.toInt) := by rw [fa_le] at c3; exact c3
          have rg6 := fb_rng l3_2
          have rg7 := fb_rng p2
          refine lv_aload_n hx hb dX0_painted_26 rfl (lv_at hl 1 rfl) ?_
          refine lv_iload_n hx hb dX0_painted_27 rfl (lv_at hl 2 rfl) ?_
          refine lv_iload_n hx hb dX0_painted_28 rfl (lv_at hl 0 rfl) ?_
          refine cbVi (n := 2) (rest := []) hx hb hml hown hts hE hP hD hS hA (sX_X0_isClear_1 l dC dI cy x0 x 2 l3_2 v2 f2 hIv2 ) k_1123 k_1125 k_34 k_111 k_1126 (by decide +kernel) ⟨Nat.le_of_ble_eq_true rfl, Nat.le_of_ble_eq_true rfl⟩ 32 0 rfl rfl (rfl) hl.1 rfl (Nat.le_of_ble_eq_true rfl) dX0_painted_29 (fun r8 u H locs hw hP hD hS => ?_)
          rcases hw with ⟨g9⟩ | ⟨g9⟩
          · skip
            subst g9
            refine lv_if_eq (tgt := 58) hx hb dX0_painted_32 (by decide) (fun c0 => absurd c0 (by decide)) (fun _ => ?_)
            refine lv_aload_n hx hb dX0_painted_35 rfl (lv_at hl 1 rfl) ?_
            refine lv_iload_n hx hb dX0_painted_36 rfl (lv_at hl 2 rfl) ?_
            refine va_put (D := (dC, dI)) (ci := 0) (v := .int 2) (ty := tyX0 3) (C := RX0) (T := TX0) (N := 8) hx hb hts inB_0 tyX0 tyX0_ok nmX0 hown hE.1 hP hD hS 32 rfl rfl 3 (by decide) (hts _ k_433) (fun _ h9 => h9) rfl (tyX0_ok 3 (by decide)) rfl rfl (Nat.le_of_ble_eq_true rfl) dX0_painted_37 (fun H locs hP hD hS => ?_)
            have hP : va_P (dC, dI) vwCl (XW cy x0 x (upd v2 38 2) f2) H := hP
            have hD : va_D A (XW cy x0 x (upd v2 38 2) f2) := hD
            refine lv_aload_n hx hb dX0_painted_40 rfl (lv_at hl 1 rfl) ?_
            refine lv_iload_n hx hb dX0_painted_41 rfl (lv_at hl 0 rfl) ?_
            refine cbVv (n := 1) (rest := []) hx hb hml hown hts hE hP hD hS hA (sX_X0_lay_1 l dC dI cy x0 x l3_2 (upd v2 38 2) f2 (XI.upd (j := 38) (x := 2) hIv2 (by decide) (by decide)) ) k_995 k_997 k_26 k_111 k_998 (by decide +kernel) ⟨Nat.le_of_ble_eq_true rfl, Nat.le_of_ble_eq_true rfl⟩ 32 0 rfl rfl (rfl) hl.1 rfl (Nat.le_of_ble_eq_true rfl) dX0_painted_42 (fun u H locs hw hP hD hS => ?_)
            obtain ⟨v10, f11⟩ := u
            obtain ⟨kV_v10, kF_f11, hIv10, hk0_v10, hk1_v10, hk7_v10, hk8_v10, hk9_v10, hk10_v10, hk31_v10, hk32_v10⟩ := hw
            have hM_v10 : KV [38] v10 v := KV.tr kV_v10 (KV.up (j := 38) (x := 2) hM_v2 rfl) rfl
            have hA_f11 : KF [20] f11 f := KF.tr kF_f11 hA_f2 rfl
            have hP : va_P (dC, dI) vwCl (XW cy x0 x v10 f11) H := hP
            have hD : va_D A (XW cy x0 x v10 f11) := hD
            have hq0_v10 : v10 0 = (v 0) := hk0_v10.trans hq0_v2
            have hq1_v10 : v10 1 = (v 1) := hk1_v10.trans hq1_v2
            have hq7_v10 : v10 7 = (v 7) := hk7_v10.trans hq7_v2
            have hq8_v10 : v10 8 = (v 8) := hk8_v10.trans hq8_v2
            have hq9_v10 : v10 9 = (v 9) := hk9_v10.trans hq9_v2
            have hq10_v10 : v10 10 = (v 10) := hk10_v10.trans hq10_v2
            have hq31_v10 : v10 31 = (v 31) := hk31_v10.trans hq31_v2
            have hq32_v10 : v10 32 = (v 32) := hk32_v10.trans hq32_v2
            refine lv_aload_n hx hb dX0_painted_45 rfl (lv_at hl 1 rfl) ?_
            refine lv_iload_n hx hb dX0_painted_46 rfl (lv_at hl 2 rfl) ?_
            refine lv_iconst (v := 1) hx hb dX0_painted_47 (by decide) ?_
            refine lv_iadd hx hb dX0_painted_48 ?_
            refine tI (y := 3) (by decide) ?_
            refine lv_iload_n hx hb dX0_painted_49 rfl (lv_at hl 3 rfl) ?_
            refine cbVi (n := 2) (rest := []) hx hb hml hown hts hE hP hD hS hA (sX_X0_painted_4 l dC dI cy x0 x p2 v10 f11 hIv10 ) k_1119 k_1121 k_33 k_111 k_1122 (by decide +kernel) ⟨Nat.le_of_ble_eq_true rfl, Nat.le_of_ble_eq_true rfl⟩ 32 0 rfl rfl (rfl) hl.1 rfl (Nat.le_of_ble_eq_true rfl) dX0_painted_50 (fun r12 u H locs hw hP hD hS => ?_)
            obtain ⟨v13, f14⟩ := u
            obtain ⟨kV_v13, kF_f14, hIv13, hk0_v13, hk1_v13, hk7_v13, hk8_v13, hk9_v13, hk10_v13, hk31_v13, hk32_v13, hw⟩ := hw
            have hM_v13 : KV [38] v13 v := KV.tr kV_v13 hM_v10 rfl
            have hA_f14 : KF [20] f14 f := KF.tr kF_f14 hA_f11 rfl
            have hP : va_P (dC, dI) vwCl (XW cy x0 x v13 f14) H := hP
            have hD : va_D A (XW cy x0 x v13 f14) := hD
            have hq0_v13 : v13 0 = (v 0) := hk0_v13.trans hq0_v10
            have hq1_v13 : v13 1 = (v 1) := hk1_v13.trans hq1_v10
            have hq7_v13 : v13 7 = (v 7) := hk7_v13.trans hq7_v10
            have hq8_v13 : v13 8 = (v 8) := hk8_v13.trans hq8_v10
            have hq9_v13 : v13 9 = (v 9) := hk9_v13.trans hq9_v10
            have hq10_v13 : v13 10 = (v 10) := hk10_v13.trans hq10_v10
            have hq31_v13 : v13 31 = (v 31) := hk31_v13.trans hq31_v10
            have hq32_v13 : v13 32 = (v 32) := hk32_v13.trans hq32_v10
            rcases hw with ⟨g15⟩ | ⟨g15⟩
            · skip
              subst g15
              refine lv_if_eq (tgt := 58) hx hb dX0_painted_53 (by decide) (fun c0 => absurd c0 (by decide)) (fun _ => ?_)
              refine lv_iconst (v := 1) hx hb dX0_painted_56 (by decide) ?_
              exact ret 1 (v13, f14) _ _ _ _ _ _ rfl ⟨hM_v13, hA_f14, hIv13, (hk0_v13.trans (hk0_v10.trans (show v2 0 = v 0 from hq0_v2))), (hk1_v13.trans (hk1_v10.trans (show v2 1 = v 1 from hq1_v2))), (hk7_v13.trans (hk7_v10.trans (show v2 7 = v 7 from hq7_v2))), (hk8_v13.trans (hk8_v10.trans (show v2 8 = v 8 from hq8_v2))), (hk9_v13.trans (hk9_v10.trans (show v2 9 = v 9 from hq9_v2))), (hk10_v13.trans (hk10_v10.trans (show v2 10 = v 10 from hq10_v2))), (hk31_v13.trans (hk31_v10.trans (show v2 31 = v 31 from hq31_v2))), (hk32_v13.trans (hk32_v10.trans (show v2 32 = v 32 from hq32_v2))), (Or.inl rfl)⟩ hP hD hS dX0_painted_57 (Nat.le_refl _) (Nat.le_refl _)
            · skip
              subst g15
              refine lv_if_eq (tgt := 58) hx hb dX0_painted_53 (by decide) (fun _ => ?_) (fun c0 => absurd (by decide) c0)
              obtain ⟨t16, et16⟩ : ∃ y : Int32, y = l3_2 + 1 := ⟨_, rfl⟩
              have zt16 : t16.toInt = l3_2.toInt + 1 := by rw [et16]; exact add_i rfl (by decide) (by omega) (by omega)
              refine lv_iinc (v := t16) (lv' := [(3, .int t16), (0, .ref (x 31)), (1, .int 2), (2, .int p2)]) hx hb dX0_painted_58 hl (k := 0) rfl (by rw [et16]; rfl) (by decide) rfl (fun ls hl => ?_)
              refine lv_goto (tgt := 21) hx hb dX0_painted_61 (by decide) ?_
              have rg17 := fb_rng t16
              exact ih2 t16 v13 f14 hIv13 hq0_v13 hq1_v13 hq7_v13 hq8_v13 hq9_v13 hq10_v13 hq31_v13 hq32_v13 ⟨show (0 : Int) ≤ t16.toInt by omega, show t16.toInt ≤ (2147483647 : Int) by omega⟩ hM_v13 hA_f14 (by show (2147483647 - t16.toInt).toNat < n2; omega) _ _ _ hP hD hS (lv_sub hl [0, 1, 2, 3] rfl)
          · skip
            subst g9
            refine lv_if_eq (tgt := 58) hx hb dX0_painted_32 (by decide) (fun _ => ?_) (fun c0 => absurd (by decide) c0)
            obtain ⟨t18, et18⟩ : ∃ y : Int32, y = l3_2 + 1 := ⟨_, rfl⟩
            have zt18 : t18.toInt = l3_2.toInt + 1 := by rw [et18]; exact add_i rfl (by decide) (by omega) (by omega)
            refine lv_iinc (v := t18) (lv' := [(3, .int t18), (0, .ref (x 31)), (1, .int 2), (2, .int p2)]) hx hb dX0_painted_58 hl (k := 0) rfl (by rw [et18]; rfl) (by decide) rfl (fun ls hl => ?_)
            refine lv_goto (tgt := 21) hx hb dX0_painted_61 (by decide) ?_
            have rg19 := fb_rng t18
            exact ih2 t18 v2 f2 hIv2 hq0_v2 hq1_v2 hq7_v2 hq8_v2 hq9_v2 hq10_v2 hq31_v2 hq32_v2 ⟨show (0 : Int) ≤ t18.toInt by omega, show t18.toInt ≤ (2147483647 : Int) by omega⟩ hM_v2 hA_f2 (by show (2147483647 - t18.toInt).toNat < n2; omega) _ _ _ hP hD hS (lv_sub hl [0, 1, 2, 3] rfl)
    exact lp2 _ 0 v f hIv rfl rfl rfl rfl rfl rfl rfl rfl ⟨by decide, by decide⟩ hM_v hA_f (Nat.lt_succ_self _) _ _ _ hP hD hS (lv_sub hl [0, 1, 2, 3] rfl)
set_option maxHeartbeats 4000000 in
set_option maxRecDepth 100000 in
theorem sX_X0_painted_2 (l : Launch) (dC : Nat → ClassId) (dI : Nat → Nat → Nat) (cy : Nat → ClassId) (x0 : Nat) (x : Nat → Nat) (p2 : Int32) (v : Nat → Int32) (f : Nat → Nat → Int32) (hIv : XI v)  : ctI l (dC, dI) cy yX0_painted cX0_painted 4 .boolean 8 220 0 0 ((Nat → Int32) × (Nat → Nat → Int32)) [.ref (x 31), .int 1, .int p2] (XW cy x0 x v f) (fun r u => KV [38] u.1 v ∧ KF [20] u.2 f ∧ XI u.1 ∧ u.1 0 = v 0 ∧ u.1 1 = v 1 ∧ u.1 7 = v 7 ∧ u.1 8 = v 8 ∧ u.1 9 = v 9 ∧ u.1 10 = v 10 ∧ u.1 31 = v 31 ∧ u.1 32 = v 32 ∧ ((r = 1) ∨ (r = 0))) (fun u => XW cy x0 x u.1 u.2) := by
  refine ctI_of (by decide) (Nat.le_of_ble_eq_true rfl) (fun p e s m below meth c A ls Q hx hb hml hts hown hE hP hD hA hl ret => ?_)
  have hM_v : KV [38] v v := fun _ _ => rfl
  have hA_f : KF [20] f f := fun _ _ => rfl
  have hown : s.vm.findClass RX0 = some m.cls := hown
  have hS : va_S A s.heap s.heap [] := va_S.rf
  have hl : lv_has ls 4 [(0, .ref (x 31)), (1, .int 1), (2, .int p2)] := hl
  refine lv_iload_n hx hb dX0_painted_0 rfl (lv_at hl 1 rfl) ?_
  refine lv_aload_n hx hb dX0_painted_1 rfl (lv_at hl 0 rfl) ?_
  refine va_get (D := (dC, dI)) (ci := 0) (v := .ref (x 26)) (C := RX0) (T := TX0) (N := 8) hx hb hts inB_0 hown hE.1 hP 32 rfl rfl 0 (by decide) (hts _ k_430) (fun _ h9 => h9) rfl dX0_painted_2 ?_
  refine va_getN (D := (dC, dI)) (ci := 7) (v := .int (v 31)) (C := RX7) (T := TX7) (N := 10) hx hb hts inB_7 hown hE.1 hP 27 rfl rfl 3 (by decide) (va_Nw.use rfl (hE.2 _ k_216)) (fun _ h9 => h9) rfl dX0_painted_5 ?_
  have b31_v : 0 ≤ (v 31).toInt ∧ (v 31).toInt ≤ 6 := XI.b hIv 31 (by decide)
  refine lv_icmp_ge (tgt := 17) hx hb dX0_painted_8 (by decide) (fun c1 => ?_) (fun c1 => ?_)
  · skip
    have zc1 : (v 31).toInt ≤ 1 := by rw [fa_le, show (1 : Int32).toInt = 1 from by decide] at c1; exact c1
    refine lv_iconst (v := 1) hx hb dX0_painted_17 (by decide) ?_
    exact ret 1 (v, f) _ _ _ _ _ _ rfl ⟨hM_v, hA_f, hIv, rfl, rfl, rfl, rfl, rfl, rfl, rfl, rfl, (Or.inl rfl)⟩ hP hD hS dX0_painted_18 (Nat.le_refl _) (Nat.le_refl _)
  · skip
    have zc1 : ¬ ((v 31).toInt ≤ 1) := by rw [fa_le, show (1 : Int32).toInt = 1 from by decide] at c1; exact c1
    refine lv_iload_n hx hb dX0_painted_11 rfl (lv_at hl 1 rfl) ?_
    refine lv_bipush (v := 6) hx hb dX0_painted_12 (by decide) ?_
    refine lv_icmp_lt (tgt := 19) hx hb dX0_painted_14 (by decide) (fun _ => ?_) (fun c0 => absurd (by decide) c0)
    refine lv_iconst (v := 0) hx hb dX0_painted_19 (by decide) ?_
    refine lv_istore_n (lv' := [(3, .int 0), (0, .ref (x 31)), (1, .int 1), (2, .int p2)]) hx hb dX0_painted_20 rfl hl (by decide) rfl (fun ls hl => ?_)
    have lp2 : ∀ (n2 : Nat) (l3_2 : Int32) (v2 : Nat → Int32) (f2 : Nat → Nat → Int32), XI v2 → v2 0 = (v 0) → v2 1 = (v 1) → v2 7 = (v 7) → v2 8 = (v 8) → v2 9 = (v 9) → v2 10 = (v 10) → v2 31 = (v 31) → v2 32 = (v 32) → ((0 : Int) ≤ l3_2.toInt ∧ l3_2.toInt ≤ 2147483647) → KV [38] v2 v → KF [20] f2 f → (2147483647 - l3_2.toInt).toNat < n2 → ∀ (H : Heap) (locs : List Loc) (ls : Array Slot), va_P (dC, dI) vwCl (XW cy x0 x v2 f2) H → va_D A (XW cy x0 x v2 f2) → va_S A s.heap H locs → lv_has ls 4 [(3, .int l3_2), (0, .ref (x 31)), (1, .int 1), (2, .int p2)] → W p l e { frames := 8, cells := 0, slots := 0, locals := 220 } s m ([.ref (x 31), .int 1, .int p2] : List Value).toArray below meth c H locs 0 0 Q (F0 m 21 ls []) := by
      intro n2
      induction n2 with
      | zero => intro l3_2 v2 f2 hIv2 hq0_v2 hq1_v2 hq7_v2 hq8_v2 hq9_v2 hq10_v2 hq31_v2 hq32_v2 hr3_2 hM_v2 hA_f2 hm; exact absurd hm (Nat.not_lt_zero _)
      | succ n2 ih2 =>
        intro l3_2 v2 f2 hIv2 hq0_v2 hq1_v2 hq7_v2 hq8_v2 hq9_v2 hq10_v2 hq31_v2 hq32_v2 hr3_2 hM_v2 hA_f2 hm2 H locs ls hP hD hS hl
        refine lv_iload_n hx hb dX0_painted_21 rfl (lv_at hl 0 rfl) ?_
        refine lv_iload_n hx hb dX0_painted_22 rfl (lv_at hl 3 rfl) ?_
        refine lv_icmp_ge (tgt := 64) hx hb dX0_painted_23 (by decide) (fun c3 => ?_) (fun c3 => ?_)
        · skip
          have zc3 : p2.toInt ≤ l3_2.toInt := by rw [fa_le] at c3; exact c3
          have rg4 := fb_rng l3_2
          have rg5 := fb_rng p2
          refine lv_iconst (v := 0) hx hb dX0_painted_64 (by decide) ?_
          exact ret 0 (v2, f2) _ _ _ _ _ _ rfl ⟨hM_v2, hA_f2, hIv2, (show v2 0 = v 0 from hq0_v2), (show v2 1 = v 1 from hq1_v2), (show v2 7 = v 7 from hq7_v2), (show v2 8 = v 8 from hq8_v2), (show v2 9 = v 9 from hq9_v2), (show v2 10 = v 10 from hq10_v2), (show v2 31 = v 31 from hq31_v2), (show v2 32 = v 32 from hq32_v2), (Or.inr rfl)⟩ hP hD hS dX0_painted_65 (Nat.le_refl _) (Nat.le_refl _)
        · skip
          have zc3 : ¬ (p2.toInt ≤ l3_2.toInt) := by rw [fa_le] at c3; exact c3
          have rg6 := fb_rng l3_2
          have rg7 := fb_rng p2
          refine lv_aload_n hx hb dX0_painted_26 rfl (lv_at hl 1 rfl) ?_
          refine lv_iload_n hx hb dX0_painted_27 rfl (lv_at hl 2 rfl) ?_
          refine lv_iload_n hx hb dX0_painted_28 rfl (lv_at hl 0 rfl) ?_
          refine cbVi (n := 2) (rest := []) hx hb hml hown hts hE hP hD hS hA (sX_X0_isClear_1 l dC dI cy x0 x 1 l3_2 v2 f2 hIv2 ) k_1123 k_1125 k_34 k_111 k_1126 (by decide +kernel) ⟨Nat.le_of_ble_eq_true rfl, Nat.le_of_ble_eq_true rfl⟩ 32 0 rfl rfl (rfl) hl.1 rfl (Nat.le_of_ble_eq_true rfl) dX0_painted_29 (fun r8 u H locs hw hP hD hS => ?_)
          rcases hw with ⟨g9⟩ | ⟨g9⟩
          · skip
            subst g9
            refine lv_if_eq (tgt := 58) hx hb dX0_painted_32 (by decide) (fun c0 => absurd c0 (by decide)) (fun _ => ?_)
            refine lv_aload_n hx hb dX0_painted_35 rfl (lv_at hl 1 rfl) ?_
            refine lv_iload_n hx hb dX0_painted_36 rfl (lv_at hl 2 rfl) ?_
            refine va_put (D := (dC, dI)) (ci := 0) (v := .int 1) (ty := tyX0 3) (C := RX0) (T := TX0) (N := 8) hx hb hts inB_0 tyX0 tyX0_ok nmX0 hown hE.1 hP hD hS 32 rfl rfl 3 (by decide) (hts _ k_433) (fun _ h9 => h9) rfl (tyX0_ok 3 (by decide)) rfl rfl (Nat.le_of_ble_eq_true rfl) dX0_painted_37 (fun H locs hP hD hS => ?_)
            have hP : va_P (dC, dI) vwCl (XW cy x0 x (upd v2 38 1) f2) H := hP
            have hD : va_D A (XW cy x0 x (upd v2 38 1) f2) := hD
            refine lv_aload_n hx hb dX0_painted_40 rfl (lv_at hl 1 rfl) ?_
            refine lv_iload_n hx hb dX0_painted_41 rfl (lv_at hl 0 rfl) ?_
            refine cbVv (n := 1) (rest := []) hx hb hml hown hts hE hP hD hS hA (sX_X0_lay_1 l dC dI cy x0 x l3_2 (upd v2 38 1) f2 (XI.upd (j := 38) (x := 1) hIv2 (by decide) (by decide)) ) k_995 k_997 k_26 k_111 k_998 (by decide +kernel) ⟨Nat.le_of_ble_eq_true rfl, Nat.le_of_ble_eq_true rfl⟩ 32 0 rfl rfl (rfl) hl.1 rfl (Nat.le_of_ble_eq_true rfl) dX0_painted_42 (fun u H locs hw hP hD hS => ?_)
            obtain ⟨v10, f11⟩ := u
            obtain ⟨kV_v10, kF_f11, hIv10, hk0_v10, hk1_v10, hk7_v10, hk8_v10, hk9_v10, hk10_v10, hk31_v10, hk32_v10⟩ := hw
            have hM_v10 : KV [38] v10 v := KV.tr kV_v10 (KV.up (j := 38) (x := 1) hM_v2 rfl) rfl
            have hA_f11 : KF [20] f11 f := KF.tr kF_f11 hA_f2 rfl
            have hP : va_P (dC, dI) vwCl (XW cy x0 x v10 f11) H := hP
            have hD : va_D A (XW cy x0 x v10 f11) := hD
            have hq0_v10 : v10 0 = (v 0) := hk0_v10.trans hq0_v2
            have hq1_v10 : v10 1 = (v 1) := hk1_v10.trans hq1_v2
            have hq7_v10 : v10 7 = (v 7) := hk7_v10.trans hq7_v2
            have hq8_v10 : v10 8 = (v 8) := hk8_v10.trans hq8_v2
            have hq9_v10 : v10 9 = (v 9) := hk9_v10.trans hq9_v2
            have hq10_v10 : v10 10 = (v 10) := hk10_v10.trans hq10_v2
            have hq31_v10 : v10 31 = (v 31) := hk31_v10.trans hq31_v2
            have hq32_v10 : v10 32 = (v 32) := hk32_v10.trans hq32_v2
            refine lv_aload_n hx hb dX0_painted_45 rfl (lv_at hl 1 rfl) ?_
            refine lv_iload_n hx hb dX0_painted_46 rfl (lv_at hl 2 rfl) ?_
            refine lv_iconst (v := 1) hx hb dX0_painted_47 (by decide) ?_
            refine lv_iadd hx hb dX0_painted_48 ?_
            refine tI (y := 2) (by decide) ?_
            refine lv_iload_n hx hb dX0_painted_49 rfl (lv_at hl 3 rfl) ?_
            refine cbVi (n := 2) (rest := []) hx hb hml hown hts hE hP hD hS hA (sX_X0_painted_3 l dC dI cy x0 x p2 v10 f11 hIv10 ) k_1119 k_1121 k_33 k_111 k_1122 (by decide +kernel) ⟨Nat.le_of_ble_eq_true rfl, Nat.le_of_ble_eq_true rfl⟩ 32 0 rfl rfl (rfl) hl.1 rfl (Nat.le_of_ble_eq_true rfl) dX0_painted_50 (fun r12 u H locs hw hP hD hS => ?_)
            obtain ⟨v13, f14⟩ := u
            obtain ⟨kV_v13, kF_f14, hIv13, hk0_v13, hk1_v13, hk7_v13, hk8_v13, hk9_v13, hk10_v13, hk31_v13, hk32_v13, hw⟩ := hw
            have hM_v13 : KV [38] v13 v := KV.tr kV_v13 hM_v10 rfl
            have hA_f14 : KF [20] f14 f := KF.tr kF_f14 hA_f11 rfl
            have hP : va_P (dC, dI) vwCl (XW cy x0 x v13 f14) H := hP
            have hD : va_D A (XW cy x0 x v13 f14) := hD
            have hq0_v13 : v13 0 = (v 0) := hk0_v13.trans hq0_v10
            have hq1_v13 : v13 1 = (v 1) := hk1_v13.trans hq1_v10
            have hq7_v13 : v13 7 = (v 7) := hk7_v13.trans hq7_v10
            have hq8_v13 : v13 8 = (v 8) := hk8_v13.trans hq8_v10
            have hq9_v13 : v13 9 = (v 9) := hk9_v13.trans hq9_v10
            have hq10_v13 : v13 10 = (v 10) := hk10_v13.trans hq10_v10
            have hq31_v13 : v13 31 = (v 31) := hk31_v13.trans hq31_v10
            have hq32_v13 : v13 32 = (v 32) := hk32_v13.trans hq32_v10
            rcases hw with ⟨g15⟩ | ⟨g15⟩
            · skip
              subst g15
              refine lv_if_eq (tgt := 58) hx hb dX0_painted_53 (by decide) (fun c0 => absurd c0 (by decide)) (fun _ => ?_)
              refine lv_iconst (v := 1) hx hb dX0_painted_56 (by decide) ?_
              exact ret 1 (v13, f14) _ _ _ _ _ _ rfl ⟨hM_v13, hA_f14, hIv13, (hk0_v13.trans (hk0_v10.trans (show v2 0 = v 0 from hq0_v2))), (hk1_v13.trans (hk1_v10.trans (show v2 1 = v 1 from hq1_v2))), (hk7_v13.trans (hk7_v10.trans (show v2 7 = v 7 from hq7_v2))), (hk8_v13.trans (hk8_v10.trans (show v2 8 = v 8 from hq8_v2))), (hk9_v13.trans (hk9_v10.trans (show v2 9 = v 9 from hq9_v2))), (hk10_v13.trans (hk10_v10.trans (show v2 10 = v 10 from hq10_v2))), (hk31_v13.trans (hk31_v10.trans (show v2 31 = v 31 from hq31_v2))), (hk32_v13.trans (hk32_v10.trans (show v2 32 = v 32 from hq32_v2))), (Or.inl rfl)⟩ hP hD hS dX0_painted_57 (Nat.le_refl _) (Nat.le_refl _)
            · skip
              subst g15
              refine lv_if_eq (tgt := 58) hx hb dX0_painted_53 (by decide) (fun _ => ?_) (fun c0 => absurd (by decide) c0)
              obtain ⟨t16, et16⟩ : ∃ y : Int32, y = l3_2 + 1 := ⟨_, rfl⟩
              have zt16 : t16.toInt = l3_2.toInt + 1 := by rw [et16]; exact add_i rfl (by decide) (by omega) (by omega)
              refine lv_iinc (v := t16) (lv' := [(3, .int t16), (0, .ref (x 31)), (1, .int 1), (2, .int p2)]) hx hb dX0_painted_58 hl (k := 0) rfl (by rw [et16]; rfl) (by decide) rfl (fun ls hl => ?_)
              refine lv_goto (tgt := 21) hx hb dX0_painted_61 (by decide) ?_
              have rg17 := fb_rng t16
              exact ih2 t16 v13 f14 hIv13 hq0_v13 hq1_v13 hq7_v13 hq8_v13 hq9_v13 hq10_v13 hq31_v13 hq32_v13 ⟨show (0 : Int) ≤ t16.toInt by omega, show t16.toInt ≤ (2147483647 : Int) by omega⟩ hM_v13 hA_f14 (by show (2147483647 - t16.toInt).toNat < n2; omega) _ _ _ hP hD hS (lv_sub hl [0, 1, 2, 3] rfl)
          · skip
            subst g9
            refine lv_if_eq (tgt := 58) hx hb dX0_painted_32 (by decide) (fun _ => ?_) (fun c0 => absurd (by decide) c0)
            obtain ⟨t18, et18⟩ : ∃ y : Int32, y = l3_2 + 1 := ⟨_, rfl⟩
            have zt18 : t18.toInt = l3_2.toInt + 1 := by rw [et18]; exact add_i rfl (by decide) (by omega) (by omega)
            refine lv_iinc (v := t18) (lv' := [(3, .int t18), (0, .ref (x 31)), (1, .int 1), (2, .int p2)]) hx hb dX0_painted_58 hl (k := 0) rfl (by rw [et18]; rfl) (by decide) rfl (fun ls hl => ?_)
            refine lv_goto (tgt := 21) hx hb dX0_painted_61 (by decide) ?_
            have rg19 := fb_rng t18
            exact ih2 t18 v2 f2 hIv2 hq0_v2 hq1_v2 hq7_v2 hq8_v2 hq9_v2 hq10_v2 hq31_v2 hq32_v2 ⟨show (0 : Int) ≤ t18.toInt by omega, show t18.toInt ≤ (2147483647 : Int) by omega⟩ hM_v2 hA_f2 (by show (2147483647 - t18.toInt).toNat < n2; omega) _ _ _ hP hD hS (lv_sub hl [0, 1, 2, 3] rfl)
    exact lp2 _ 0 v f hIv rfl rfl rfl rfl rfl rfl rfl rfl ⟨by decide, by decide⟩ hM_v hA_f (Nat.lt_succ_self _) _ _ _ hP hD hS (lv_sub hl [0, 1, 2, 3] rfl)
set_option maxHeartbeats 4000000 in
set_option maxRecDepth 100000 in
theorem sX_X0_painted_1 (l : Launch) (dC : Nat → ClassId) (dI : Nat → Nat → Nat) (cy : Nat → ClassId) (x0 : Nat) (x : Nat → Nat) (p2 : Int32) (v : Nat → Int32) (f : Nat → Nat → Int32) (hIv : XI v)  : ctI l (dC, dI) cy yX0_painted cX0_painted 4 .boolean 9 243 0 0 ((Nat → Int32) × (Nat → Nat → Int32)) [.ref (x 31), .int 0, .int p2] (XW cy x0 x v f) (fun r u => KV [38] u.1 v ∧ KF [20] u.2 f ∧ XI u.1 ∧ u.1 0 = v 0 ∧ u.1 1 = v 1 ∧ u.1 7 = v 7 ∧ u.1 8 = v 8 ∧ u.1 9 = v 9 ∧ u.1 10 = v 10 ∧ u.1 31 = v 31 ∧ u.1 32 = v 32 ∧ ((r = 1) ∨ (r = 0))) (fun u => XW cy x0 x u.1 u.2) := by
  refine ctI_of (by decide) (Nat.le_of_ble_eq_true rfl) (fun p e s m below meth c A ls Q hx hb hml hts hown hE hP hD hA hl ret => ?_)
  have hM_v : KV [38] v v := fun _ _ => rfl
  have hA_f : KF [20] f f := fun _ _ => rfl
  have hown : s.vm.findClass RX0 = some m.cls := hown
  have hS : va_S A s.heap s.heap [] := va_S.rf
  have hl : lv_has ls 4 [(0, .ref (x 31)), (1, .int 0), (2, .int p2)] := hl
  refine lv_iload_n hx hb dX0_painted_0 rfl (lv_at hl 1 rfl) ?_
  refine lv_aload_n hx hb dX0_painted_1 rfl (lv_at hl 0 rfl) ?_
  refine va_get (D := (dC, dI)) (ci := 0) (v := .ref (x 26)) (C := RX0) (T := TX0) (N := 8) hx hb hts inB_0 hown hE.1 hP 32 rfl rfl 0 (by decide) (hts _ k_430) (fun _ h9 => h9) rfl dX0_painted_2 ?_
  refine va_getN (D := (dC, dI)) (ci := 7) (v := .int (v 31)) (C := RX7) (T := TX7) (N := 10) hx hb hts inB_7 hown hE.1 hP 27 rfl rfl 3 (by decide) (va_Nw.use rfl (hE.2 _ k_216)) (fun _ h9 => h9) rfl dX0_painted_5 ?_
  have b31_v : 0 ≤ (v 31).toInt ∧ (v 31).toInt ≤ 6 := XI.b hIv 31 (by decide)
  refine lv_icmp_ge (tgt := 17) hx hb dX0_painted_8 (by decide) (fun c1 => ?_) (fun c1 => ?_)
  · skip
    have zc1 : (v 31).toInt ≤ 0 := by rw [fa_le, show (0 : Int32).toInt = 0 from by decide] at c1; exact c1
    refine lv_iconst (v := 1) hx hb dX0_painted_17 (by decide) ?_
    exact ret 1 (v, f) _ _ _ _ _ _ rfl ⟨hM_v, hA_f, hIv, rfl, rfl, rfl, rfl, rfl, rfl, rfl, rfl, (Or.inl rfl)⟩ hP hD hS dX0_painted_18 (Nat.le_refl _) (Nat.le_refl _)
  · skip
    have zc1 : ¬ ((v 31).toInt ≤ 0) := by rw [fa_le, show (0 : Int32).toInt = 0 from by decide] at c1; exact c1
    refine lv_iload_n hx hb dX0_painted_11 rfl (lv_at hl 1 rfl) ?_
    refine lv_bipush (v := 6) hx hb dX0_painted_12 (by decide) ?_
    refine lv_icmp_lt (tgt := 19) hx hb dX0_painted_14 (by decide) (fun _ => ?_) (fun c0 => absurd (by decide) c0)
    refine lv_iconst (v := 0) hx hb dX0_painted_19 (by decide) ?_
    refine lv_istore_n (lv' := [(3, .int 0), (0, .ref (x 31)), (1, .int 0), (2, .int p2)]) hx hb dX0_painted_20 rfl hl (by decide) rfl (fun ls hl => ?_)
    have lp2 : ∀ (n2 : Nat) (l3_2 : Int32) (v2 : Nat → Int32) (f2 : Nat → Nat → Int32), XI v2 → v2 0 = (v 0) → v2 1 = (v 1) → v2 7 = (v 7) → v2 8 = (v 8) → v2 9 = (v 9) → v2 10 = (v 10) → v2 31 = (v 31) → v2 32 = (v 32) → ((0 : Int) ≤ l3_2.toInt ∧ l3_2.toInt ≤ 2147483647) → KV [38] v2 v → KF [20] f2 f → (2147483647 - l3_2.toInt).toNat < n2 → ∀ (H : Heap) (locs : List Loc) (ls : Array Slot), va_P (dC, dI) vwCl (XW cy x0 x v2 f2) H → va_D A (XW cy x0 x v2 f2) → va_S A s.heap H locs → lv_has ls 4 [(3, .int l3_2), (0, .ref (x 31)), (1, .int 0), (2, .int p2)] → W p l e { frames := 9, cells := 0, slots := 0, locals := 243 } s m ([.ref (x 31), .int 0, .int p2] : List Value).toArray below meth c H locs 0 0 Q (F0 m 21 ls []) := by
      intro n2
      induction n2 with
      | zero => intro l3_2 v2 f2 hIv2 hq0_v2 hq1_v2 hq7_v2 hq8_v2 hq9_v2 hq10_v2 hq31_v2 hq32_v2 hr3_2 hM_v2 hA_f2 hm; exact absurd hm (Nat.not_lt_zero _)
      | succ n2 ih2 =>
        intro l3_2 v2 f2 hIv2 hq0_v2 hq1_v2 hq7_v2 hq8_v2 hq9_v2 hq10_v2 hq31_v2 hq32_v2 hr3_2 hM_v2 hA_f2 hm2 H locs ls hP hD hS hl
        refine lv_iload_n hx hb dX0_painted_21 rfl (lv_at hl 0 rfl) ?_
        refine lv_iload_n hx hb dX0_painted_22 rfl (lv_at hl 3 rfl) ?_
        refine lv_icmp_ge (tgt := 64) hx hb dX0_painted_23 (by decide) (fun c3 => ?_) (fun c3 => ?_)
        · skip
          have zc3 : p2.toInt ≤ l3_2.toInt := by rw [fa_le] at c3; exact c3
          have rg4 := fb_rng l3_2
          have rg5 := fb_rng p2
          refine lv_iconst (v := 0) hx hb dX0_painted_64 (by decide) ?_
          exact ret 0 (v2, f2) _ _ _ _ _ _ rfl ⟨hM_v2, hA_f2, hIv2, (show v2 0 = v 0 from hq0_v2), (show v2 1 = v 1 from hq1_v2), (show v2 7 = v 7 from hq7_v2), (show v2 8 = v 8 from hq8_v2), (show v2 9 = v 9 from hq9_v2), (show v2 10 = v 10 from hq10_v2), (show v2 31 = v 31 from hq31_v2), (show v2 32 = v 32 from hq32_v2), (Or.inr rfl)⟩ hP hD hS dX0_painted_65 (Nat.le_refl _) (Nat.le_refl _)
        · skip
          have zc3 : ¬ (p2.toInt ≤ l3_2.toInt) := by rw [fa_le] at c3; exact c3
          have rg6 := fb_rng l3_2
          have rg7 := fb_rng p2
          refine lv_aload_n hx hb dX0_painted_26 rfl (lv_at hl 1 rfl) ?_
          refine lv_iload_n hx hb dX0_painted_27 rfl (lv_at hl 2 rfl) ?_
          refine lv_iload_n hx hb dX0_painted_28 rfl (lv_at hl 0 rfl) ?_
          refine cbVi (n := 2) (rest := []) hx hb hml hown hts hE hP hD hS hA (sX_X0_isClear_1 l dC dI cy x0 x 0 l3_2 v2 f2 hIv2 ) k_1123 k_1125 k_34 k_111 k_1126 (by decide +kernel) ⟨Nat.le_of_ble_eq_true rfl, Nat.le_of_ble_eq_true rfl⟩ 32 0 rfl rfl (rfl) hl.1 rfl (Nat.le_of_ble_eq_true rfl) dX0_painted_29 (fun r8 u H locs hw hP hD hS => ?_)
          rcases hw with ⟨g9⟩ | ⟨g9⟩
          · skip
            subst g9
            refine lv_if_eq (tgt := 58) hx hb dX0_painted_32 (by decide) (fun c0 => absurd c0 (by decide)) (fun _ => ?_)
            refine lv_aload_n hx hb dX0_painted_35 rfl (lv_at hl 1 rfl) ?_
            refine lv_iload_n hx hb dX0_painted_36 rfl (lv_at hl 2 rfl) ?_
            refine va_put (D := (dC, dI)) (ci := 0) (v := .int 0) (ty := tyX0 3) (C := RX0) (T := TX0) (N := 8) hx hb hts inB_0 tyX0 tyX0_ok nmX0 hown hE.1 hP hD hS 32 rfl rfl 3 (by decide) (hts _ k_433) (fun _ h9 => h9) rfl (tyX0_ok 3 (by decide)) rfl rfl (Nat.le_of_ble_eq_true rfl) dX0_painted_37 (fun H locs hP hD hS => ?_)
            have hP : va_P (dC, dI) vwCl (XW cy x0 x (upd v2 38 0) f2) H := hP
            have hD : va_D A (XW cy x0 x (upd v2 38 0) f2) := hD
            refine lv_aload_n hx hb dX0_painted_40 rfl (lv_at hl 1 rfl) ?_
            refine lv_iload_n hx hb dX0_painted_41 rfl (lv_at hl 0 rfl) ?_
            refine cbVv (n := 1) (rest := []) hx hb hml hown hts hE hP hD hS hA (sX_X0_lay_1 l dC dI cy x0 x l3_2 (upd v2 38 0) f2 (XI.upd (j := 38) (x := 0) hIv2 (by decide) (by decide)) ) k_995 k_997 k_26 k_111 k_998 (by decide +kernel) ⟨Nat.le_of_ble_eq_true rfl, Nat.le_of_ble_eq_true rfl⟩ 32 0 rfl rfl (rfl) hl.1 rfl (Nat.le_of_ble_eq_true rfl) dX0_painted_42 (fun u H locs hw hP hD hS => ?_)
            obtain ⟨v10, f11⟩ := u
            obtain ⟨kV_v10, kF_f11, hIv10, hk0_v10, hk1_v10, hk7_v10, hk8_v10, hk9_v10, hk10_v10, hk31_v10, hk32_v10⟩ := hw
            have hM_v10 : KV [38] v10 v := KV.tr kV_v10 (KV.up (j := 38) (x := 0) hM_v2 rfl) rfl
            have hA_f11 : KF [20] f11 f := KF.tr kF_f11 hA_f2 rfl
            have hP : va_P (dC, dI) vwCl (XW cy x0 x v10 f11) H := hP
            have hD : va_D A (XW cy x0 x v10 f11) := hD
            have hq0_v10 : v10 0 = (v 0) := hk0_v10.trans hq0_v2
            have hq1_v10 : v10 1 = (v 1) := hk1_v10.trans hq1_v2
            have hq7_v10 : v10 7 = (v 7) := hk7_v10.trans hq7_v2
            have hq8_v10 : v10 8 = (v 8) := hk8_v10.trans hq8_v2
            have hq9_v10 : v10 9 = (v 9) := hk9_v10.trans hq9_v2
            have hq10_v10 : v10 10 = (v 10) := hk10_v10.trans hq10_v2
            have hq31_v10 : v10 31 = (v 31) := hk31_v10.trans hq31_v2
            have hq32_v10 : v10 32 = (v 32) := hk32_v10.trans hq32_v2
            refine lv_aload_n hx hb dX0_painted_45 rfl (lv_at hl 1 rfl) ?_
            refine lv_iload_n hx hb dX0_painted_46 rfl (lv_at hl 2 rfl) ?_
            refine lv_iconst (v := 1) hx hb dX0_painted_47 (by decide) ?_
            refine lv_iadd hx hb dX0_painted_48 ?_
            refine tI (y := 1) (by decide) ?_
            refine lv_iload_n hx hb dX0_painted_49 rfl (lv_at hl 3 rfl) ?_
            refine cbVi (n := 2) (rest := []) hx hb hml hown hts hE hP hD hS hA (sX_X0_painted_2 l dC dI cy x0 x p2 v10 f11 hIv10 ) k_1119 k_1121 k_33 k_111 k_1122 (by decide +kernel) ⟨Nat.le_of_ble_eq_true rfl, Nat.le_of_ble_eq_true rfl⟩ 32 0 rfl rfl (rfl) hl.1 rfl (Nat.le_of_ble_eq_true rfl) dX0_painted_50 (fun r12 u H locs hw hP hD hS => ?_)
            obtain ⟨v13, f14⟩ := u
            obtain ⟨kV_v13, kF_f14, hIv13, hk0_v13, hk1_v13, hk7_v13, hk8_v13, hk9_v13, hk10_v13, hk31_v13, hk32_v13, hw⟩ := hw
            have hM_v13 : KV [38] v13 v := KV.tr kV_v13 hM_v10 rfl
            have hA_f14 : KF [20] f14 f := KF.tr kF_f14 hA_f11 rfl
            have hP : va_P (dC, dI) vwCl (XW cy x0 x v13 f14) H := hP
            have hD : va_D A (XW cy x0 x v13 f14) := hD
            have hq0_v13 : v13 0 = (v 0) := hk0_v13.trans hq0_v10
            have hq1_v13 : v13 1 = (v 1) := hk1_v13.trans hq1_v10
            have hq7_v13 : v13 7 = (v 7) := hk7_v13.trans hq7_v10
            have hq8_v13 : v13 8 = (v 8) := hk8_v13.trans hq8_v10
            have hq9_v13 : v13 9 = (v 9) := hk9_v13.trans hq9_v10
            have hq10_v13 : v13 10 = (v 10) := hk10_v13.trans hq10_v10
            have hq31_v13 : v13 31 = (v 31) := hk31_v13.trans hq31_v10
            have hq32_v13 : v13 32 = (v 32) := hk32_v13.trans hq32_v10
            rcases hw with ⟨g15⟩ | ⟨g15⟩
            · skip
              subst g15
              refine lv_if_eq (tgt := 58) hx hb dX0_painted_53 (by decide) (fun c0 => absurd c0 (by decide)) (fun _ => ?_)
              refine lv_iconst (v := 1) hx hb dX0_painted_56 (by decide) ?_
              exact ret 1 (v13, f14) _ _ _ _ _ _ rfl ⟨hM_v13, hA_f14, hIv13, (hk0_v13.trans (hk0_v10.trans (show v2 0 = v 0 from hq0_v2))), (hk1_v13.trans (hk1_v10.trans (show v2 1 = v 1 from hq1_v2))), (hk7_v13.trans (hk7_v10.trans (show v2 7 = v 7 from hq7_v2))), (hk8_v13.trans (hk8_v10.trans (show v2 8 = v 8 from hq8_v2))), (hk9_v13.trans (hk9_v10.trans (show v2 9 = v 9 from hq9_v2))), (hk10_v13.trans (hk10_v10.trans (show v2 10 = v 10 from hq10_v2))), (hk31_v13.trans (hk31_v10.trans (show v2 31 = v 31 from hq31_v2))), (hk32_v13.trans (hk32_v10.trans (show v2 32 = v 32 from hq32_v2))), (Or.inl rfl)⟩ hP hD hS dX0_painted_57 (Nat.le_refl _) (Nat.le_refl _)
            · skip
              subst g15
              refine lv_if_eq (tgt := 58) hx hb dX0_painted_53 (by decide) (fun _ => ?_) (fun c0 => absurd (by decide) c0)
              obtain ⟨t16, et16⟩ : ∃ y : Int32, y = l3_2 + 1 := ⟨_, rfl⟩
              have zt16 : t16.toInt = l3_2.toInt + 1 := by rw [et16]; exact add_i rfl (by decide) (by omega) (by omega)
              refine lv_iinc (v := t16) (lv' := [(3, .int t16), (0, .ref (x 31)), (1, .int 0), (2, .int p2)]) hx hb dX0_painted_58 hl (k := 0) rfl (by rw [et16]; rfl) (by decide) rfl (fun ls hl => ?_)
              refine lv_goto (tgt := 21) hx hb dX0_painted_61 (by decide) ?_
              have rg17 := fb_rng t16
              exact ih2 t16 v13 f14 hIv13 hq0_v13 hq1_v13 hq7_v13 hq8_v13 hq9_v13 hq10_v13 hq31_v13 hq32_v13 ⟨show (0 : Int) ≤ t16.toInt by omega, show t16.toInt ≤ (2147483647 : Int) by omega⟩ hM_v13 hA_f14 (by show (2147483647 - t16.toInt).toNat < n2; omega) _ _ _ hP hD hS (lv_sub hl [0, 1, 2, 3] rfl)
          · skip
            subst g9
            refine lv_if_eq (tgt := 58) hx hb dX0_painted_32 (by decide) (fun _ => ?_) (fun c0 => absurd (by decide) c0)
            obtain ⟨t18, et18⟩ : ∃ y : Int32, y = l3_2 + 1 := ⟨_, rfl⟩
            have zt18 : t18.toInt = l3_2.toInt + 1 := by rw [et18]; exact add_i rfl (by decide) (by omega) (by omega)
            refine lv_iinc (v := t18) (lv' := [(3, .int t18), (0, .ref (x 31)), (1, .int 0), (2, .int p2)]) hx hb dX0_painted_58 hl (k := 0) rfl (by rw [et18]; rfl) (by decide) rfl (fun ls hl => ?_)
            refine lv_goto (tgt := 21) hx hb dX0_painted_61 (by decide) ?_
            have rg19 := fb_rng t18
            exact ih2 t18 v2 f2 hIv2 hq0_v2 hq1_v2 hq7_v2 hq8_v2 hq9_v2 hq10_v2 hq31_v2 hq32_v2 ⟨show (0 : Int) ≤ t18.toInt by omega, show t18.toInt ≤ (2147483647 : Int) by omega⟩ hM_v2 hA_f2 (by show (2147483647 - t18.toInt).toNat < n2; omega) _ _ _ hP hD hS (lv_sub hl [0, 1, 2, 3] rfl)
    exact lp2 _ 0 v f hIv rfl rfl rfl rfl rfl rfl rfl rfl ⟨by decide, by decide⟩ hM_v hA_f (Nat.lt_succ_self _) _ _ _ hP hD hS (lv_sub hl [0, 1, 2, 3] rfl)
set_option maxHeartbeats 4000000 in
set_option maxRecDepth 100000 in
theorem sX_X0_layColours_1 (l : Launch) (dC : Nat → ClassId) (dI : Nat → Nat → Nat) (cy : Nat → ClassId) (x0 : Nat) (x : Nat → Nat)  (v : Nat → Int32) (f : Nat → Nat → Int32) (hIv : XI v)  : ctI l (dC, dI) cy yX0_layColours cX0_layColours 2 .int 10 266 0 0 ((Nat → Int32) × (Nat → Nat → Int32)) [.ref (x 31)] (XW cy x0 x v f) (fun r u => KV [38] u.1 v ∧ KF [20] u.2 f ∧ XI u.1 ∧ u.1 0 = v 0 ∧ u.1 1 = v 1 ∧ u.1 7 = v 7 ∧ u.1 8 = v 8 ∧ u.1 9 = v 9 ∧ u.1 10 = v 10 ∧ u.1 31 = v 31 ∧ u.1 32 = v 32) (fun u => XW cy x0 x u.1 u.2) := by
  refine ctI_of (by decide) (Nat.le_of_ble_eq_true rfl) (fun p e s m below meth c A ls Q hx hb hml hts hown hE hP hD hA hl ret => ?_)
  have hM_v : KV [38] v v := fun _ _ => rfl
  have hA_f : KF [20] f f := fun _ _ => rfl
  have hown : s.vm.findClass RX0 = some m.cls := hown
  have hS : va_S A s.heap s.heap [] := va_S.rf
  have hl : lv_has ls 2 [(0, .ref (x 31))] := hl
  refine lv_aload_n hx hb dX0_layColours_0 rfl (lv_at hl 0 rfl) ?_
  refine cbVv (n := 0) (rest := []) hx hb hml hown hts hE hP hD hS hA (sX_X0_clear_1 0 l dC dI cy x0 x  v f hIv ) k_990 k_787 k_788 k_111 k_789 (by decide +kernel) ⟨Nat.le_of_ble_eq_true rfl, Nat.le_of_ble_eq_true rfl⟩ 32 0 rfl rfl (rfl) hl.1 rfl (Nat.le_of_ble_eq_true rfl) dX0_layColours_1 (fun u H locs hw hP hD hS => ?_)
  obtain ⟨hG1, hw⟩ := hw
  obtain ⟨v2, f3⟩ := u
  obtain ⟨kV_v2, kF_f3, hIv2, hk0_v2, hk1_v2, hk7_v2, hk8_v2, hk9_v2, hk10_v2, hk31_v2, hk32_v2⟩ := hw
  have hM_v2 : KV [38] v2 v := KV.tr kV_v2 hM_v rfl
  have hA_f3 : KF [20] f3 f := KF.tr kF_f3 hA_f rfl
  have hP : va_P (dC, dI) vwCl (XW cy x0 x v2 f3) H := hP
  have hD : va_D A (XW cy x0 x v2 f3) := hD
  have hq0_v2 : v2 0 = (v 0) := hk0_v2
  have hq1_v2 : v2 1 = (v 1) := hk1_v2
  have hq7_v2 : v2 7 = (v 7) := hk7_v2
  have hq8_v2 : v2 8 = (v 8) := hk8_v2
  have hq9_v2 : v2 9 = (v 9) := hk9_v2
  have hq10_v2 : v2 10 = (v 10) := hk10_v2
  have hq31_v2 : v2 31 = (v 31) := hk31_v2
  have hq32_v2 : v2 32 = (v 32) := hk32_v2
  refine lv_iconst (v := 0) hx hb dX0_layColours_4 (by decide) ?_
  refine lv_istore_n (lv' := [(1, .int 0), (0, .ref (x 31))]) hx hb dX0_layColours_5 rfl hl (by decide) rfl (fun ls hl => ?_)
  have lp4 : ∀ (n4 : Nat) (l1_4 : Int32) (v4 : Nat → Int32) (f4 : Nat → Nat → Int32), XI v4 → v4 0 = (v 0) → v4 1 = (v 1) → v4 7 = (v 7) → v4 8 = (v 8) → v4 9 = (v 9) → v4 10 = (v 10) → v4 31 = (v 31) → v4 32 = (v 32) → ((0 : Int) ≤ l1_4.toInt ∧ l1_4.toInt ≤ 2147483647) → KV [38] v4 v → KF [20] f4 f → (2147483647 - l1_4.toInt).toNat < n4 → ∀ (H : Heap) (locs : List Loc) (ls : Array Slot), va_P (dC, dI) vwCl (XW cy x0 x v4 f4) H → va_D A (XW cy x0 x v4 f4) → va_S A s.heap H locs → lv_has ls 2 [(1, .int l1_4), (0, .ref (x 31))] → W p l e { frames := 10, cells := 0, slots := 0, locals := 266 } s m ([.ref (x 31)] : List Value).toArray below meth c H locs 0 0 Q (F0 m 6 ls []) := by
    intro n4
    induction n4 with
    | zero => intro l1_4 v4 f4 hIv4 hq0_v4 hq1_v4 hq7_v4 hq8_v4 hq9_v4 hq10_v4 hq31_v4 hq32_v4 hr1_4 hM_v4 hA_f4 hm; exact absurd hm (Nat.not_lt_zero _)
    | succ n4 ih4 =>
      intro l1_4 v4 f4 hIv4 hq0_v4 hq1_v4 hq7_v4 hq8_v4 hq9_v4 hq10_v4 hq31_v4 hq32_v4 hr1_4 hM_v4 hA_f4 hm4 H locs ls hP hD hS hl
      refine lv_iload_n hx hb dX0_layColours_6 rfl (lv_at hl 0 rfl) ?_
      refine lv_aload_n hx hb dX0_layColours_7 rfl (lv_at hl 1 rfl) ?_
      refine va_get (D := (dC, dI)) (ci := 0) (v := .ref (x 26)) (C := RX0) (T := TX0) (N := 8) hx hb hts inB_0 hown hE.1 hP 32 rfl rfl 0 (by decide) (hts _ k_430) (fun _ h9 => h9) rfl dX0_layColours_8 ?_
      refine va_getN (D := (dC, dI)) (ci := 7) (v := .int (v4 31)) (C := RX7) (T := TX7) (N := 10) hx hb hts inB_7 hown hE.1 hP 27 rfl rfl 3 (by decide) (va_Nw.use rfl (hE.2 _ k_216)) (fun _ h9 => h9) rfl dX0_layColours_11 ?_
      refine tI (y := (v 31)) hq31_v4 ?_
      have b31_v : 0 ≤ (v 31).toInt ∧ (v 31).toInt ≤ 6 := XI.b hIv 31 (by decide)
      refine lv_icmp_gt (tgt := 34) hx hb dX0_layColours_14 (by decide) (fun c5 => ?_) (fun c5 => ?_)
      · skip
        have zc5 : (v 31).toInt < l1_4.toInt := by rw [fa_lt] at c5; exact c5
        have rg6 := fb_rng l1_4
        have rg7 := fb_rng (v 31)
        refine lv_aload_n hx hb dX0_layColours_34 rfl (lv_at hl 1 rfl) ?_
        refine va_get (D := (dC, dI)) (ci := 0) (v := .ref (x 26)) (C := RX0) (T := TX0) (N := 8) hx hb hts inB_0 hown hE.1 hP 32 rfl rfl 0 (by decide) (hts _ k_430) (fun _ h9 => h9) rfl dX0_layColours_35 ?_
        refine va_getN (D := (dC, dI)) (ci := 7) (v := .int (v4 31)) (C := RX7) (T := TX7) (N := 10) hx hb hts inB_7 hown hE.1 hP 27 rfl rfl 3 (by decide) (va_Nw.use rfl (hE.2 _ k_216)) (fun _ h9 => h9) rfl dX0_layColours_38 ?_
        refine tI (y := (v 31)) hq31_v4 ?_
        exact ret (v 31) (v4, f4) _ _ _ _ _ _ rfl ⟨hM_v4, hA_f4, hIv4, hq0_v4, hq1_v4, hq7_v4, hq8_v4, hq9_v4, hq10_v4, hq31_v4, hq32_v4⟩ hP hD hS dX0_layColours_41 (Nat.le_refl _) (Nat.le_refl _)
      · skip
        have zc5 : ¬ ((v 31).toInt < l1_4.toInt) := by rw [fa_lt] at c5; exact c5
        have rg8 := fb_rng l1_4
        have rg9 := fb_rng (v 31)
        refine lv_aload_n hx hb dX0_layColours_17 rfl (lv_at hl 1 rfl) ?_
        refine lv_iconst (v := 0) hx hb dX0_layColours_18 (by decide) ?_
        refine lv_iload_n hx hb dX0_layColours_19 rfl (lv_at hl 0 rfl) ?_
        refine cbVi (n := 2) (rest := []) hx hb hml hown hts hE hP hD hS hA (sX_X0_painted_1 l dC dI cy x0 x l1_4 v4 f4 hIv4 ) k_1119 k_1121 k_33 k_111 k_1122 (by decide +kernel) ⟨Nat.le_of_ble_eq_true rfl, Nat.le_of_ble_eq_true rfl⟩ 32 0 rfl rfl (rfl) hl.1 rfl (Nat.le_of_ble_eq_true rfl) dX0_layColours_20 (fun r10 u H locs hw hP hD hS => ?_)
        obtain ⟨v11, f12⟩ := u
        obtain ⟨kV_v11, kF_f12, hIv11, hk0_v11, hk1_v11, hk7_v11, hk8_v11, hk9_v11, hk10_v11, hk31_v11, hk32_v11, hw⟩ := hw
        have hM_v11 : KV [38] v11 v := KV.tr kV_v11 hM_v4 rfl
        have hA_f12 : KF [20] f12 f := KF.tr kF_f12 hA_f4 rfl
        have hP : va_P (dC, dI) vwCl (XW cy x0 x v11 f12) H := hP
        have hD : va_D A (XW cy x0 x v11 f12) := hD
        have hq0_v11 : v11 0 = (v 0) := hk0_v11.trans hq0_v4
        have hq1_v11 : v11 1 = (v 1) := hk1_v11.trans hq1_v4
        have hq7_v11 : v11 7 = (v 7) := hk7_v11.trans hq7_v4
        have hq8_v11 : v11 8 = (v 8) := hk8_v11.trans hq8_v4
        have hq9_v11 : v11 9 = (v 9) := hk9_v11.trans hq9_v4
        have hq10_v11 : v11 10 = (v 10) := hk10_v11.trans hq10_v4
        have hq31_v11 : v11 31 = (v 31) := hk31_v11.trans hq31_v4
        have hq32_v11 : v11 32 = (v 32) := hk32_v11.trans hq32_v4
        rcases hw with ⟨g13⟩ | ⟨g13⟩
        · skip
          subst g13
          refine lv_if_eq (tgt := 28) hx hb dX0_layColours_23 (by decide) (fun c0 => absurd c0 (by decide)) (fun _ => ?_)
          refine lv_iload_n hx hb dX0_layColours_26 rfl (lv_at hl 0 rfl) ?_
          exact ret l1_4 (v11, f12) _ _ _ _ _ _ rfl ⟨hM_v11, hA_f12, hIv11, (hk0_v11.trans hq0_v4), (hk1_v11.trans hq1_v4), (hk7_v11.trans hq7_v4), (hk8_v11.trans hq8_v4), (hk9_v11.trans hq9_v4), (hk10_v11.trans hq10_v4), (hk31_v11.trans hq31_v4), (hk32_v11.trans hq32_v4)⟩ hP hD hS dX0_layColours_27 (Nat.le_refl _) (Nat.le_refl _)
        · skip
          subst g13
          refine lv_if_eq (tgt := 28) hx hb dX0_layColours_23 (by decide) (fun _ => ?_) (fun c0 => absurd (by decide) c0)
          obtain ⟨t14, et14⟩ : ∃ y : Int32, y = l1_4 + 1 := ⟨_, rfl⟩
          have zt14 : t14.toInt = l1_4.toInt + 1 := by rw [et14]; exact add_i rfl (by decide) (by omega) (by omega)
          refine lv_iinc (v := t14) (lv' := [(1, .int t14), (0, .ref (x 31))]) hx hb dX0_layColours_28 hl (k := 0) rfl (by rw [et14]; rfl) (by decide) rfl (fun ls hl => ?_)
          refine lv_goto (tgt := 6) hx hb dX0_layColours_31 (by decide) ?_
          have rg15 := fb_rng t14
          exact ih4 t14 v11 f12 hIv11 hq0_v11 hq1_v11 hq7_v11 hq8_v11 hq9_v11 hq10_v11 hq31_v11 hq32_v11 ⟨show (0 : Int) ≤ t14.toInt by omega, show t14.toInt ≤ (2147483647 : Int) by omega⟩ hM_v11 hA_f12 (by show (2147483647 - t14.toInt).toNat < n4; omega) _ _ _ hP hD hS (lv_sub hl [0, 1] rfl)
  exact lp4 _ 0 v2 f3 hIv2 hq0_v2 hq1_v2 hq7_v2 hq8_v2 hq9_v2 hq10_v2 hq31_v2 hq32_v2 ⟨by decide, by decide⟩ hM_v2 hA_f3 (Nat.lt_succ_self _) _ _ _ hP hD hS (lv_sub hl [0, 1] rfl)
set_option maxHeartbeats 4000000 in
set_option maxRecDepth 100000 in
theorem sX_X10_buttons_1 (l : Launch) (dC : Nat → ClassId) (dI : Nat → Nat → Nat) (cy : Nat → ClassId) (x0 : Nat) (x : Nat → Nat)  (v : Nat → Int32) (f : Nat → Nat → Int32) (hIv : XI v)  : ctI l (dC, dI) cy yX10_buttons cX10_buttons 1 .int 11 287 0 0 ((Nat → Int32) × (Nat → Nat → Int32)) [.ref x0] (XW cy x0 x v f) (fun r u => KV [38] u.1 v ∧ KF [20] u.2 f ∧ XI u.1 ∧ u.1 0 = v 0 ∧ u.1 1 = v 1 ∧ u.1 7 = v 7 ∧ u.1 8 = v 8 ∧ u.1 9 = v 9 ∧ u.1 10 = v 10 ∧ u.1 31 = v 31 ∧ u.1 32 = v 32) (fun u => XW cy x0 x u.1 u.2) := by
  refine ctI_of (by decide) (Nat.le_of_ble_eq_true rfl) (fun p e s m below meth c A ls Q hx hb hml hts hown hE hP hD hA hl ret => ?_)
  have hM_v : KV [38] v v := fun _ _ => rfl
  have hA_f : KF [20] f f := fun _ _ => rfl
  have hown : s.vm.findClass RX10 = some m.cls := hown
  have hS : va_S A s.heap s.heap [] := va_S.rf
  have hl : lv_has ls 1 [(0, .ref x0)] := hl
  refine lv_aload_n hx hb dX10_buttons_0 rfl (lv_at hl 0 rfl) ?_
  refine va_get (D := (dC, dI)) (ci := 10) (v := .ref (x 31)) (C := RX10) (T := TX10) (N := 10) hx hb hts inB_10 hown hE.1 hP 0 rfl rfl 7 (by decide) (hts _ k_498) (fun _ h9 => h9) rfl dX10_buttons_1 ?_
  refine cbVi (n := 0) (rest := []) hx hb hml hown hts hE hP hD hS hA (sX_X0_layColours_1 l dC dI cy x0 x  v f hIv ) k_1115 k_1116 k_1117 k_111 k_1118 (by decide +kernel) ⟨Nat.le_of_ble_eq_true rfl, Nat.le_of_ble_eq_true rfl⟩ 32 0 rfl rfl (rfl) hl.1 rfl (Nat.le_of_ble_eq_true rfl) dX10_buttons_4 (fun r1 u H locs hw hP hD hS => ?_)
  obtain ⟨v2, f3⟩ := u
  obtain ⟨kV_v2, kF_f3, hIv2, hk0_v2, hk1_v2, hk7_v2, hk8_v2, hk9_v2, hk10_v2, hk31_v2, hk32_v2⟩ := hw
  have hM_v2 : KV [38] v2 v := KV.tr kV_v2 hM_v rfl
  have hA_f3 : KF [20] f3 f := KF.tr kF_f3 hA_f rfl
  have hP : va_P (dC, dI) vwCl (XW cy x0 x v2 f3) H := hP
  have hD : va_D A (XW cy x0 x v2 f3) := hD
  have hq0_v2 : v2 0 = (v 0) := hk0_v2
  have hq1_v2 : v2 1 = (v 1) := hk1_v2
  have hq7_v2 : v2 7 = (v 7) := hk7_v2
  have hq8_v2 : v2 8 = (v 8) := hk8_v2
  have hq9_v2 : v2 9 = (v 9) := hk9_v2
  have hq10_v2 : v2 10 = (v 10) := hk10_v2
  have hq31_v2 : v2 31 = (v 31) := hk31_v2
  have hq32_v2 : v2 32 = (v 32) := hk32_v2
  exact ret r1 (v2, f3) _ _ _ _ _ _ rfl ⟨hM_v2, hA_f3, hIv2, hk0_v2, hk1_v2, hk7_v2, hk8_v2, hk9_v2, hk10_v2, hk31_v2, hk32_v2⟩ hP hD hS dX10_buttons_7 (Nat.le_refl _) (Nat.le_refl _)
set_option maxHeartbeats 4000000 in
set_option maxRecDepth 100000 in
theorem sX_X0_isFree_1 (l : Launch) (dC : Nat → ClassId) (dI : Nat → Nat → Nat) (cy : Nat → ClassId) (x0 : Nat) (x : Nat → Nat) (p1 : Int32) (v : Nat → Int32) (f : Nat → Nat → Int32) (hIv : XI v)  : ctI l (dC, dI) cy yX0_isFree cX0_isFree 2 .boolean 4 124 0 0 Unit [.ref (x 31), .int p1] (XW cy x0 x v f) (fun r u => ((r = 1) ∨ (r = 0))) (fun u => XW cy x0 x v f) := by
  refine ctI_of (by decide) (Nat.le_of_ble_eq_true rfl) (fun p e s m below meth c A ls Q hx hb hml hts hown hE hP hD hA hl ret => ?_)
  have hown : s.vm.findClass RX0 = some m.cls := hown
  have hS : va_S A s.heap s.heap [] := va_S.rf
  have hl : lv_has ls 2 [(0, .ref (x 31)), (1, .int p1)] := hl
  refine lv_aload_n hx hb dX0_isFree_0 rfl (lv_at hl 0 rfl) ?_
  refine va_get (D := (dC, dI)) (ci := 0) (v := .ref (x 21)) (C := RX0) (T := TX0) (N := 8) hx hb hts inB_0 hown hE.1 hP 32 rfl rfl 1 (by decide) (hts _ k_431) (fun _ h9 => h9) rfl dX0_isFree_1 ?_
  refine lv_iload_n hx hb dX0_isFree_4 rfl (lv_at hl 1 rfl) ?_
  refine cbVi (n := 1) (rest := []) hx hb hml hown hts hE hP hD hS hA (sX_X1_wearer_1 l dC dI cy x0 x p1 v f hIv ) k_1141 k_850 k_851 k_106 k_852 (by decide +kernel) ⟨Nat.le_of_ble_eq_true rfl, Nat.le_of_ble_eq_true rfl⟩ 22 1 rfl rfl (rfl) hl.1 rfl (Nat.le_of_ble_eq_true rfl) dX0_isFree_5 (fun r1 u H locs hw hP hD hS => ?_)
  refine lv_iconst (v := (-1)) hx hb dX0_isFree_8 (by decide) ?_
  refine lv_icmp_ne (tgt := 16) hx hb dX0_isFree_9 (by decide) (fun c2 => ?_) (fun c2 => ?_)
  · skip
    have zc2 : ¬ (r1.toInt = (-1)) := by rw [fa_eq, show ((-1) : Int32).toInt = -1 from by decide] at c2; exact c2
    refine lv_iconst (v := 0) hx hb dX0_isFree_16 (by decide) ?_
    exact ret 0 () _ _ _ _ _ _ rfl (Or.inr rfl) hP hD hS dX0_isFree_17 (Nat.le_refl _) (Nat.le_refl _)
  · skip
    have zc2 : r1.toInt = (-1) := by rw [fa_eq, show ((-1) : Int32).toInt = -1 from by decide] at c2; exact c2
    refine lv_iconst (v := 1) hx hb dX0_isFree_12 (by decide) ?_
    refine lv_goto (tgt := 17) hx hb dX0_isFree_13 (by decide) ?_
    exact ret 1 () _ _ _ _ _ _ rfl (Or.inl rfl) hP hD hS dX0_isFree_17 (Nat.le_refl _) (Nat.le_refl _)
set_option maxHeartbeats 4000000 in
set_option maxRecDepth 100000 in
theorem sX_X0_illGetting_1 (l : Launch) (dC : Nat → ClassId) (dI : Nat → Nat → Nat) (cy : Nat → ClassId) (x0 : Nat) (x : Nat → Nat) (p1 : Int32) (p2 : Int32) (p3 : Int32) (v : Nat → Int32) (f : Nat → Nat → Int32) (hIv : XI v)  : ctI l (dC, dI) cy yX0_illGetting cX0_illGetting 4 .int 4 133 0 0 ((Nat → Int32) × (Nat → Nat → Int32)) [.ref (x 31), .int p1, .int p2, .int p3] (XW cy x0 x v f) (fun r u => KV [] u.1 v ∧ KF [13, 14] u.2 f ∧ XI u.1 ∧ u.1 0 = v 0 ∧ u.1 1 = v 1 ∧ u.1 7 = v 7 ∧ u.1 8 = v 8 ∧ u.1 9 = v 9 ∧ u.1 10 = v 10 ∧ u.1 31 = v 31 ∧ u.1 32 = v 32) (fun u => XW cy x0 x u.1 u.2) := by
  refine ctI_of (by decide) (Nat.le_of_ble_eq_true rfl) (fun p e s m below meth c A ls Q hx hb hml hts hown hE hP hD hA hl ret => ?_)
  have hM_v : KV [] v v := fun _ _ => rfl
  have hA_f : KF [13, 14] f f := fun _ _ => rfl
  have hown : s.vm.findClass RX0 = some m.cls := hown
  have hS : va_S A s.heap s.heap [] := va_S.rf
  have hl : lv_has ls 4 [(0, .ref (x 31)), (1, .int p1), (2, .int p2), (3, .int p3)] := hl
  refine lv_iload_n hx hb dX0_illGetting_0 rfl (lv_at hl 2 rfl) ?_
  refine lv_iload_n hx hb dX0_illGetting_1 rfl (lv_at hl 3 rfl) ?_
  refine lv_icmp_ne (tgt := 11) hx hb dX0_illGetting_2 (by decide) (fun c1 => ?_) (fun c1 => ?_)
  · skip
    have zc1 : ¬ (p2.toInt = p3.toInt) := by rw [fa_eq] at c1; exact c1
    have rg2 := fb_rng p2
    have rg3 := fb_rng p3
    refine lv_aload_n hx hb dX0_illGetting_11 rfl (lv_at hl 0 rfl) ?_
    refine va_get (D := (dC, dI)) (ci := 0) (v := .ref (x 21)) (C := RX0) (T := TX0) (N := 8) hx hb hts inB_0 hown hE.1 hP 32 rfl rfl 1 (by decide) (hts _ k_431) (fun _ h9 => h9) rfl dX0_illGetting_12 ?_
    refine lv_iload_n hx hb dX0_illGetting_15 rfl (lv_at hl 1 rfl) ?_
    refine lv_iload_n hx hb dX0_illGetting_16 rfl (lv_at hl 2 rfl) ?_
    refine cbVi (n := 2) (rest := []) hx hb hml hown hts hE hP hD hS hA (sX_X1_illness_1 l dC dI cy x0 x p1 p2 v f hIv ) k_979 k_823 k_824 k_106 k_825 (by decide +kernel) ⟨Nat.le_of_ble_eq_true rfl, Nat.le_of_ble_eq_true rfl⟩ 22 1 rfl rfl (rfl) hl.1 rfl (Nat.le_of_ble_eq_true rfl) dX0_illGetting_17 (fun r4 u H locs hw hP hD hS => ?_)
    obtain ⟨v5, f6⟩ := u
    obtain ⟨kV_v5, kF_f6, hIv5, hk0_v5, hk1_v5, hk7_v5, hk8_v5, hk9_v5, hk10_v5, hk31_v5, hk32_v5⟩ := hw
    have hM_v5 : KV [] v5 v := KV.tr kV_v5 hM_v rfl
    have hA_f6 : KF [13, 14] f6 f := KF.tr kF_f6 hA_f rfl
    have hP : va_P (dC, dI) vwCl (XW cy x0 x v5 f6) H := hP
    have hD : va_D A (XW cy x0 x v5 f6) := hD
    have hq0_v5 : v5 0 = (v 0) := hk0_v5
    have hq1_v5 : v5 1 = (v 1) := hk1_v5
    have hq7_v5 : v5 7 = (v 7) := hk7_v5
    have hq8_v5 : v5 8 = (v 8) := hk8_v5
    have hq9_v5 : v5 9 = (v 9) := hk9_v5
    have hq10_v5 : v5 10 = (v 10) := hk10_v5
    have hq31_v5 : v5 31 = (v 31) := hk31_v5
    have hq32_v5 : v5 32 = (v 32) := hk32_v5
    exact ret r4 (v5, f6) _ _ _ _ _ _ rfl ⟨hM_v5, hA_f6, hIv5, hk0_v5, hk1_v5, hk7_v5, hk8_v5, hk9_v5, hk10_v5, hk31_v5, hk32_v5⟩ hP hD hS dX0_illGetting_20 (Nat.le_refl _) (Nat.le_refl _)
  · skip
    have zc1 : p2.toInt = p3.toInt := by rw [fa_eq] at c1; exact c1
    have rg7 := fb_rng p2
    have rg8 := fb_rng p3
    refine lv_sipush (v := 1000) hx hb dX0_illGetting_5 (by decide) ?_
    refine lv_goto (tgt := 20) hx hb dX0_illGetting_8 (by decide) ?_
    exact ret 1000 (v, f) _ _ _ _ _ _ rfl ⟨hM_v, hA_f, hIv, rfl, rfl, rfl, rfl, rfl, rfl, rfl, rfl⟩ hP hD hS dX0_illGetting_20 (Nat.le_refl _) (Nat.le_refl _)
set_option maxHeartbeats 4000000 in
set_option maxRecDepth 100000 in
theorem sX_X0_isContent_1 (l : Launch) (dC : Nat → ClassId) (dI : Nat → Nat → Nat) (cy : Nat → ClassId) (x0 : Nat) (x : Nat → Nat) (p1 : Int32) (p2 : Int32) (p3 : Int32) (v : Nat → Int32) (f : Nat → Nat → Int32) (hIv : XI v)  : ctI l (dC, dI) cy yX0_isContent cX0_isContent 6 .boolean 5 156 0 0 ((Nat → Int32) × (Nat → Nat → Int32)) [.ref (x 31), .int p1, .int p2, .int p3] (XW cy x0 x v f) (fun r u => KV [] u.1 v ∧ KF [13, 14] u.2 f ∧ XI u.1 ∧ u.1 0 = v 0 ∧ u.1 1 = v 1 ∧ u.1 7 = v 7 ∧ u.1 8 = v 8 ∧ u.1 9 = v 9 ∧ u.1 10 = v 10 ∧ u.1 31 = v 31 ∧ u.1 32 = v 32 ∧ ((r = 1) ∨ (r = 0))) (fun u => XW cy x0 x u.1 u.2) := by
  refine ctI_of (by decide) (Nat.le_of_ble_eq_true rfl) (fun p e s m below meth c A ls Q hx hb hml hts hown hE hP hD hA hl ret => ?_)
  have hM_v : KV [] v v := fun _ _ => rfl
  have hA_f : KF [13, 14] f f := fun _ _ => rfl
  have hown : s.vm.findClass RX0 = some m.cls := hown
  have hS : va_S A s.heap s.heap [] := va_S.rf
  have hl : lv_has ls 6 [(0, .ref (x 31)), (1, .int p1), (2, .int p2), (3, .int p3)] := hl
  refine lv_aload_n hx hb dX0_isContent_0 rfl (lv_at hl 0 rfl) ?_
  refine lv_iload_n hx hb dX0_isContent_1 rfl (lv_at hl 1 rfl) ?_
  refine lv_iload_n hx hb dX0_isContent_2 rfl (lv_at hl 2 rfl) ?_
  refine lv_iload_n hx hb dX0_isContent_3 rfl (lv_at hl 3 rfl) ?_
  refine cbVi (n := 3) (rest := []) hx hb hml hown hts hE hP hD hS hA (sX_X0_illGetting_1 l dC dI cy x0 x p1 p2 p3 v f hIv ) k_1146 k_1148 k_37 k_111 k_1149 (by decide +kernel) ⟨Nat.le_of_ble_eq_true rfl, Nat.le_of_ble_eq_true rfl⟩ 32 0 rfl rfl (rfl) hl.1 rfl (Nat.le_of_ble_eq_true rfl) dX0_isContent_4 (fun r1 u H locs hw hP hD hS => ?_)
  obtain ⟨v2, f3⟩ := u
  obtain ⟨kV_v2, kF_f3, hIv2, hk0_v2, hk1_v2, hk7_v2, hk8_v2, hk9_v2, hk10_v2, hk31_v2, hk32_v2⟩ := hw
  have hM_v2 : KV [] v2 v := KV.tr kV_v2 hM_v rfl
  have hA_f3 : KF [13, 14] f3 f := KF.tr kF_f3 hA_f rfl
  have hP : va_P (dC, dI) vwCl (XW cy x0 x v2 f3) H := hP
  have hD : va_D A (XW cy x0 x v2 f3) := hD
  have hq0_v2 : v2 0 = (v 0) := hk0_v2
  have hq1_v2 : v2 1 = (v 1) := hk1_v2
  have hq7_v2 : v2 7 = (v 7) := hk7_v2
  have hq8_v2 : v2 8 = (v 8) := hk8_v2
  have hq9_v2 : v2 9 = (v 9) := hk9_v2
  have hq10_v2 : v2 10 = (v 10) := hk10_v2
  have hq31_v2 : v2 31 = (v 31) := hk31_v2
  have hq32_v2 : v2 32 = (v 32) := hk32_v2
  refine lv_istore (lv' := [(4, .int r1), (0, .ref (x 31)), (1, .int p1), (2, .int p2), (3, .int p3)]) hx hb dX0_isContent_7 hl (by decide) rfl (fun ls hl => ?_)
  refine lv_iconst (v := 0) hx hb dX0_isContent_9 (by decide) ?_
  refine lv_istore (lv' := [(5, .int 0), (4, .int r1), (0, .ref (x 31)), (1, .int p1), (2, .int p2), (3, .int p3)]) hx hb dX0_isContent_10 hl (by decide) rfl (fun ls hl => ?_)
  have lp4 : ∀ (n4 : Nat) (l5_4 : Int32) (v4 : Nat → Int32) (f4 : Nat → Nat → Int32), XI v4 → v4 0 = (v 0) → v4 1 = (v 1) → v4 7 = (v 7) → v4 8 = (v 8) → v4 9 = (v 9) → v4 10 = (v 10) → v4 31 = (v 31) → v4 32 = (v 32) → ((0 : Int) ≤ l5_4.toInt ∧ l5_4.toInt ≤ 2147483647) → KV [] v4 v → KF [13, 14] f4 f → (2147483647 - l5_4.toInt).toNat < n4 → ∀ (H : Heap) (locs : List Loc) (ls : Array Slot), va_P (dC, dI) vwCl (XW cy x0 x v4 f4) H → va_D A (XW cy x0 x v4 f4) → va_S A s.heap H locs → lv_has ls 6 [(5, .int l5_4), (4, .int r1), (0, .ref (x 31)), (1, .int p1), (2, .int p2), (3, .int p3)] → W p l e { frames := 5, cells := 0, slots := 0, locals := 156 } s m ([.ref (x 31), .int p1, .int p2, .int p3] : List Value).toArray below meth c H locs 0 0 Q (F0 m 12 ls []) := by
    intro n4
    induction n4 with
    | zero => intro l5_4 v4 f4 hIv4 hq0_v4 hq1_v4 hq7_v4 hq8_v4 hq9_v4 hq10_v4 hq31_v4 hq32_v4 hr5_4 hM_v4 hA_f4 hm; exact absurd hm (Nat.not_lt_zero _)
    | succ n4 ih4 =>
      intro l5_4 v4 f4 hIv4 hq0_v4 hq1_v4 hq7_v4 hq8_v4 hq9_v4 hq10_v4 hq31_v4 hq32_v4 hr5_4 hM_v4 hA_f4 hm4 H locs ls hP hD hS hl
      refine lv_iload hx hb dX0_isContent_12 (lv_at hl 0 rfl) ?_
      refine lv_aload_n hx hb dX0_isContent_14 rfl (lv_at hl 2 rfl) ?_
      refine va_get (D := (dC, dI)) (ci := 0) (v := .ref (x 26)) (C := RX0) (T := TX0) (N := 8) hx hb hts inB_0 hown hE.1 hP 32 rfl rfl 0 (by decide) (hts _ k_430) (fun _ h9 => h9) rfl dX0_isContent_15 ?_
      refine va_getN (D := (dC, dI)) (ci := 7) (v := .int (v4 32)) (C := RX7) (T := TX7) (N := 10) hx hb hts inB_7 hown hE.1 hP 27 rfl rfl 4 (by decide) (va_Nw.use rfl (hE.2 _ k_222)) (fun _ h9 => h9) rfl dX0_isContent_18 ?_
      refine tI (y := (v 32)) hq32_v4 ?_
      have b32_v : 0 ≤ (v 32).toInt ∧ (v 32).toInt ≤ 6 := XI.b hIv 32 (by decide)
      refine lv_icmp_ge (tgt := 54) hx hb dX0_isContent_21 (by decide) (fun c5 => ?_) (fun c5 => ?_)
      · skip
        have zc5 : (v 32).toInt ≤ l5_4.toInt := by rw [fa_le] at c5; exact c5
        have rg6 := fb_rng l5_4
        have rg7 := fb_rng (v 32)
        refine lv_iconst (v := 1) hx hb dX0_isContent_54 (by decide) ?_
        exact ret 1 (v4, f4) _ _ _ _ _ _ rfl ⟨hM_v4, hA_f4, hIv4, hq0_v4, hq1_v4, hq7_v4, hq8_v4, hq9_v4, hq10_v4, hq31_v4, hq32_v4, (Or.inl rfl)⟩ hP hD hS dX0_isContent_55 (Nat.le_refl _) (Nat.le_refl _)
      · skip
        have zc5 : ¬ ((v 32).toInt ≤ l5_4.toInt) := by rw [fa_le] at c5; exact c5
        have rg8 := fb_rng l5_4
        have rg9 := fb_rng (v 32)
        refine lv_aload_n hx hb dX0_isContent_24 rfl (lv_at hl 2 rfl) ?_
        refine lv_iload hx hb dX0_isContent_25 (lv_at hl 0 rfl) ?_
        refine cbVi (n := 1) (rest := []) hx hb hml hown hts hE hP hD hS hA (sX_X0_isFree_1 l dC dI cy x0 x l5_4 v4 f4 hIv4 ) k_1137 k_1139 k_35 k_111 k_1140 (by decide +kernel) ⟨Nat.le_of_ble_eq_true rfl, Nat.le_of_ble_eq_true rfl⟩ 32 0 rfl rfl (rfl) hl.1 rfl (Nat.le_of_ble_eq_true rfl) dX0_isContent_27 (fun r10 u H locs hw hP hD hS => ?_)
        rcases hw with ⟨g11⟩ | ⟨g11⟩
        · skip
          subst g11
          refine lv_if_eq (tgt := 48) hx hb dX0_isContent_30 (by decide) (fun c0 => absurd c0 (by decide)) (fun _ => ?_)
          refine lv_aload_n hx hb dX0_isContent_33 rfl (lv_at hl 2 rfl) ?_
          refine lv_iload_n hx hb dX0_isContent_34 rfl (lv_at hl 3 rfl) ?_
          refine lv_iload hx hb dX0_isContent_35 (lv_at hl 0 rfl) ?_
          refine lv_iload_n hx hb dX0_isContent_37 rfl (lv_at hl 5 rfl) ?_
          refine cbVi (n := 3) (rest := []) hx hb hml hown hts hE hP hD hS hA (sX_X0_illGetting_1 l dC dI cy x0 x p1 l5_4 p3 v4 f4 hIv4 ) k_1146 k_1148 k_37 k_111 k_1149 (by decide +kernel) ⟨Nat.le_of_ble_eq_true rfl, Nat.le_of_ble_eq_true rfl⟩ 32 0 rfl rfl (rfl) hl.1 rfl (Nat.le_of_ble_eq_true rfl) dX0_isContent_38 (fun r12 u H locs hw hP hD hS => ?_)
          obtain ⟨v13, f14⟩ := u
          obtain ⟨kV_v13, kF_f14, hIv13, hk0_v13, hk1_v13, hk7_v13, hk8_v13, hk9_v13, hk10_v13, hk31_v13, hk32_v13⟩ := hw
          have hM_v13 : KV [] v13 v := KV.tr kV_v13 hM_v4 rfl
          have hA_f14 : KF [13, 14] f14 f := KF.tr kF_f14 hA_f4 rfl
          have hP : va_P (dC, dI) vwCl (XW cy x0 x v13 f14) H := hP
          have hD : va_D A (XW cy x0 x v13 f14) := hD
          have hq0_v13 : v13 0 = (v 0) := hk0_v13.trans hq0_v4
          have hq1_v13 : v13 1 = (v 1) := hk1_v13.trans hq1_v4
          have hq7_v13 : v13 7 = (v 7) := hk7_v13.trans hq7_v4
          have hq8_v13 : v13 8 = (v 8) := hk8_v13.trans hq8_v4
          have hq9_v13 : v13 9 = (v 9) := hk9_v13.trans hq9_v4
          have hq10_v13 : v13 10 = (v 10) := hk10_v13.trans hq10_v4
          have hq31_v13 : v13 31 = (v 31) := hk31_v13.trans hq31_v4
          have hq32_v13 : v13 32 = (v 32) := hk32_v13.trans hq32_v4
          refine lv_iload hx hb dX0_isContent_41 (lv_at hl 1 rfl) ?_
          refine lv_icmp_ge (tgt := 48) hx hb dX0_isContent_43 (by decide) (fun c15 => ?_) (fun c15 => ?_)
          · skip
            have zc15 : r1.toInt ≤ r12.toInt := by rw [fa_le] at c15; exact c15
            have rg16 := fb_rng r12
            have rg17 := fb_rng r1
            obtain ⟨t18, et18⟩ : ∃ y : Int32, y = l5_4 + 1 := ⟨_, rfl⟩
            have zt18 : t18.toInt = l5_4.toInt + 1 := by rw [et18]; exact add_i rfl (by decide) (by omega) (by omega)
            refine lv_iinc (v := t18) (lv' := [(5, .int t18), (4, .int r1), (0, .ref (x 31)), (1, .int p1), (2, .int p2), (3, .int p3)]) hx hb dX0_isContent_48 hl (k := 0) rfl (by rw [et18]; rfl) (by decide) rfl (fun ls hl => ?_)
            refine lv_goto (tgt := 12) hx hb dX0_isContent_51 (by decide) ?_
            have rg19 := fb_rng t18
            exact ih4 t18 v13 f14 hIv13 hq0_v13 hq1_v13 hq7_v13 hq8_v13 hq9_v13 hq10_v13 hq31_v13 hq32_v13 ⟨show (0 : Int) ≤ t18.toInt by omega, show t18.toInt ≤ (2147483647 : Int) by omega⟩ hM_v13 hA_f14 (by show (2147483647 - t18.toInt).toNat < n4; omega) _ _ _ hP hD hS (lv_sub hl [0, 1, 2, 3, 4, 5] rfl)
          · skip
            have zc15 : ¬ (r1.toInt ≤ r12.toInt) := by rw [fa_le] at c15; exact c15
            have rg20 := fb_rng r12
            have rg21 := fb_rng r1
            refine lv_iconst (v := 0) hx hb dX0_isContent_46 (by decide) ?_
            exact ret 0 (v13, f14) _ _ _ _ _ _ rfl ⟨hM_v13, hA_f14, hIv13, (hk0_v13.trans hq0_v4), (hk1_v13.trans hq1_v4), (hk7_v13.trans hq7_v4), (hk8_v13.trans hq8_v4), (hk9_v13.trans hq9_v4), (hk10_v13.trans hq10_v4), (hk31_v13.trans hq31_v4), (hk32_v13.trans hq32_v4), (Or.inr rfl)⟩ hP hD hS dX0_isContent_47 (Nat.le_refl _) (Nat.le_refl _)
        · skip
          subst g11
          refine lv_if_eq (tgt := 48) hx hb dX0_isContent_30 (by decide) (fun _ => ?_) (fun c0 => absurd (by decide) c0)
          obtain ⟨t22, et22⟩ : ∃ y : Int32, y = l5_4 + 1 := ⟨_, rfl⟩
          have zt22 : t22.toInt = l5_4.toInt + 1 := by rw [et22]; exact add_i rfl (by decide) (by omega) (by omega)
          refine lv_iinc (v := t22) (lv' := [(5, .int t22), (4, .int r1), (0, .ref (x 31)), (1, .int p1), (2, .int p2), (3, .int p3)]) hx hb dX0_isContent_48 hl (k := 0) rfl (by rw [et22]; rfl) (by decide) rfl (fun ls hl => ?_)
          refine lv_goto (tgt := 12) hx hb dX0_isContent_51 (by decide) ?_
          have rg23 := fb_rng t22
          exact ih4 t22 v4 f4 hIv4 hq0_v4 hq1_v4 hq7_v4 hq8_v4 hq9_v4 hq10_v4 hq31_v4 hq32_v4 ⟨show (0 : Int) ≤ t22.toInt by omega, show t22.toInt ≤ (2147483647 : Int) by omega⟩ hM_v4 hA_f4 (by show (2147483647 - t22.toInt).toNat < n4; omega) _ _ _ hP hD hS (lv_sub hl [0, 1, 2, 3, 4, 5] rfl)
  exact lp4 _ 0 v2 f3 hIv2 hq0_v2 hq1_v2 hq7_v2 hq8_v2 hq9_v2 hq10_v2 hq31_v2 hq32_v2 ⟨by decide, by decide⟩ hM_v2 hA_f3 (Nat.lt_succ_self _) _ _ _ hP hD hS (lv_sub hl [0, 1, 2, 3, 4, 5] rfl)
set_option maxHeartbeats 4000000 in
set_option maxRecDepth 100000 in
theorem sX_X0_layRest_1 (l : Launch) (dC : Nat → ClassId) (dI : Nat → Nat → Nat) (cy : Nat → ClassId) (x0 : Nat) (x : Nat → Nat) (p1 : Int32) (p2 : Int32) (v : Nat → Int32) (f : Nat → Nat → Int32) (hIv : XI v)  : ctI l (dC, dI) cy yX0_layRest cX0_layRest 8 .int 6 181 0 0 ((Nat → Int32) × (Nat → Nat → Int32)) [.ref (x 31), .int p1, .int p2] (XW cy x0 x v f) (fun r u => KV [38] u.1 v ∧ KF [13, 14, 20] u.2 f ∧ XI u.1 ∧ u.1 0 = v 0 ∧ u.1 1 = v 1 ∧ u.1 7 = v 7 ∧ u.1 8 = v 8 ∧ u.1 9 = v 9 ∧ u.1 10 = v 10 ∧ u.1 31 = v 31 ∧ u.1 32 = v 32) (fun u => XW cy x0 x u.1 u.2) := by
  refine ctI_of (by decide) (Nat.le_of_ble_eq_true rfl) (fun p e s m below meth c A ls Q hx hb hml hts hown hE hP hD hA hl ret => ?_)
  have hM_v : KV [38] v v := fun _ _ => rfl
  have hA_f : KF [13, 14, 20] f f := fun _ _ => rfl
  have hown : s.vm.findClass RX0 = some m.cls := hown
  have hS : va_S A s.heap s.heap [] := va_S.rf
  have hl : lv_has ls 8 [(0, .ref (x 31)), (1, .int p1), (2, .int p2)] := hl
  refine lv_iconst (v := 0) hx hb dX0_layRest_0 (by decide) ?_
  refine lv_istore_n (lv' := [(3, .int 0), (0, .ref (x 31)), (1, .int p1), (2, .int p2)]) hx hb dX0_layRest_1 rfl hl (by decide) rfl (fun ls hl => ?_)
  refine lv_iconst (v := 0) hx hb dX0_layRest_2 (by decide) ?_
  refine lv_istore (lv' := [(4, .int 0), (3, .int 0), (0, .ref (x 31)), (1, .int p1), (2, .int p2)]) hx hb dX0_layRest_3 hl (by decide) rfl (fun ls hl => ?_)
  refine lv_iconst (v := 0) hx hb dX0_layRest_5 (by decide) ?_
  refine lv_istore (lv' := [(5, .int 0), (4, .int 0), (3, .int 0), (0, .ref (x 31)), (1, .int p1), (2, .int p2)]) hx hb dX0_layRest_6 hl (by decide) rfl (fun ls hl => ?_)
  have lp1 : ∀ (n1 : Nat) (l3_1 : Int32) (l4_1 : Int32) (l5_1 : Int32) (v1 : Nat → Int32) (f1 : Nat → Nat → Int32), XI v1 → v1 0 = (v 0) → v1 1 = (v 1) → v1 7 = (v 7) → v1 8 = (v 8) → v1 9 = (v 9) → v1 10 = (v 10) → v1 31 = (v 31) → v1 32 = (v 32) → ((0 : Int) ≤ l5_1.toInt ∧ l5_1.toInt ≤ 2147483647) → KV [38] v1 v → KF [13, 14, 20] f1 f → (2147483647 - l5_1.toInt).toNat < n1 → ∀ (H : Heap) (locs : List Loc) (ls : Array Slot), va_P (dC, dI) vwCl (XW cy x0 x v1 f1) H → va_D A (XW cy x0 x v1 f1) → va_S A s.heap H locs → lv_has ls 8 [(5, .int l5_1), (4, .int l4_1), (3, .int l3_1), (0, .ref (x 31)), (1, .int p1), (2, .int p2)] → W p l e { frames := 6, cells := 0, slots := 0, locals := 181 } s m ([.ref (x 31), .int p1, .int p2] : List Value).toArray below meth c H locs 0 0 Q (F0 m 8 ls []) := by
    intro n1
    induction n1 with
    | zero => intro l3_1 l4_1 l5_1 v1 f1 hIv1 hq0_v1 hq1_v1 hq7_v1 hq8_v1 hq9_v1 hq10_v1 hq31_v1 hq32_v1 hr5_1 hM_v1 hA_f1 hm; exact absurd hm (Nat.not_lt_zero _)
    | succ n1 ih1 =>
      intro l3_1 l4_1 l5_1 v1 f1 hIv1 hq0_v1 hq1_v1 hq7_v1 hq8_v1 hq9_v1 hq10_v1 hq31_v1 hq32_v1 hr5_1 hM_v1 hA_f1 hm1 H locs ls hP hD hS hl
      refine lv_iload hx hb dX0_layRest_8 (lv_at hl 0 rfl) ?_
      refine lv_aload_n hx hb dX0_layRest_10 rfl (lv_at hl 3 rfl) ?_
      refine va_get (D := (dC, dI)) (ci := 0) (v := .ref (x 26)) (C := RX0) (T := TX0) (N := 8) hx hb hts inB_0 hown hE.1 hP 32 rfl rfl 0 (by decide) (hts _ k_430) (fun _ h9 => h9) rfl dX0_layRest_11 ?_
      refine va_getN (D := (dC, dI)) (ci := 7) (v := .int (v1 32)) (C := RX7) (T := TX7) (N := 10) hx hb hts inB_7 hown hE.1 hP 27 rfl rfl 4 (by decide) (va_Nw.use rfl (hE.2 _ k_222)) (fun _ h9 => h9) rfl dX0_layRest_14 ?_
      refine tI (y := (v 32)) hq32_v1 ?_
      have b32_v : 0 ≤ (v 32).toInt ∧ (v 32).toInt ≤ 6 := XI.b hIv 32 (by decide)
      refine lv_icmp_ge (tgt := 128) hx hb dX0_layRest_17 (by decide) (fun c2 => ?_) (fun c2 => ?_)
      · skip
        have zc2 : (v 32).toInt ≤ l5_1.toInt := by rw [fa_le] at c2; exact c2
        have rg3 := fb_rng l5_1
        have rg4 := fb_rng (v 32)
        refine lv_iload hx hb dX0_layRest_128 (lv_at hl 1 rfl) ?_
        refine lv_if_eq (tgt := 137) hx hb dX0_layRest_130 (by decide) (fun c5 => ?_) (fun c5 => ?_)
        · skip
          have zc5 : l4_1.toInt = 0 := by rw [fa_eq, show (0 : Int32).toInt = 0 from by decide] at c5; exact c5
          refine lv_iconst (v := (-1)) hx hb dX0_layRest_137 (by decide) ?_
          exact ret (-1) (v1, f1) _ _ _ _ _ _ rfl ⟨hM_v1, hA_f1, hIv1, (show v1 0 = v 0 from hq0_v1), (show v1 1 = v 1 from hq1_v1), (show v1 7 = v 7 from hq7_v1), (show v1 8 = v 8 from hq8_v1), (show v1 9 = v 9 from hq9_v1), (show v1 10 = v 10 from hq10_v1), (show v1 31 = v 31 from hq31_v1), (show v1 32 = v 32 from hq32_v1)⟩ hP hD hS dX0_layRest_138 (Nat.le_refl _) (Nat.le_refl _)
        · skip
          have zc5 : ¬ (l4_1.toInt = 0) := by rw [fa_eq, show (0 : Int32).toInt = 0 from by decide] at c5; exact c5
          refine lv_iload_n hx hb dX0_layRest_133 rfl (lv_at hl 2 rfl) ?_
          refine lv_goto (tgt := 138) hx hb dX0_layRest_134 (by decide) ?_
          exact ret l3_1 (v1, f1) _ _ _ _ _ _ rfl ⟨hM_v1, hA_f1, hIv1, (show v1 0 = v 0 from hq0_v1), (show v1 1 = v 1 from hq1_v1), (show v1 7 = v 7 from hq7_v1), (show v1 8 = v 8 from hq8_v1), (show v1 9 = v 9 from hq9_v1), (show v1 10 = v 10 from hq10_v1), (show v1 31 = v 31 from hq31_v1), (show v1 32 = v 32 from hq32_v1)⟩ hP hD hS dX0_layRest_138 (Nat.le_refl _) (Nat.le_refl _)
      · skip
        have zc2 : ¬ ((v 32).toInt ≤ l5_1.toInt) := by rw [fa_le] at c2; exact c2
        have rg6 := fb_rng l5_1
        have rg7 := fb_rng (v 32)
        refine lv_iconst (v := 0) hx hb dX0_layRest_20 (by decide) ?_
        refine lv_istore (lv' := [(6, .int 0), (5, .int l5_1), (4, .int l4_1), (3, .int l3_1), (0, .ref (x 31)), (1, .int p1), (2, .int p2)]) hx hb dX0_layRest_21 hl (by decide) rfl (fun ls hl => ?_)
        have lp8 : ∀ (n8 : Nat) (l3_8 : Int32) (l4_8 : Int32) (l6_8 : Int32) (v8 : Nat → Int32) (f8 : Nat → Nat → Int32), XI v8 → v8 0 = (v 0) → v8 1 = (v 1) → v8 7 = (v 7) → v8 8 = (v 8) → v8 9 = (v 9) → v8 10 = (v 10) → v8 31 = (v 31) → v8 32 = (v 32) → ((0 : Int) ≤ l6_8.toInt ∧ l6_8.toInt ≤ 2147483647) → KV [38] v8 v → KF [13, 14, 20] f8 f → (2147483647 - l6_8.toInt).toNat < n8 → ∀ (H : Heap) (locs : List Loc) (ls : Array Slot), va_P (dC, dI) vwCl (XW cy x0 x v8 f8) H → va_D A (XW cy x0 x v8 f8) → va_S A s.heap H locs → lv_has ls 8 [(6, .int l6_8), (5, .int l5_1), (4, .int l4_8), (3, .int l3_8), (0, .ref (x 31)), (1, .int p1), (2, .int p2)] → W p l e { frames := 6, cells := 0, slots := 0, locals := 181 } s m ([.ref (x 31), .int p1, .int p2] : List Value).toArray below meth c H locs 0 0 Q (F0 m 23 ls []) := by
          intro n8
          induction n8 with
          | zero => intro l3_8 l4_8 l6_8 v8 f8 hIv8 hq0_v8 hq1_v8 hq7_v8 hq8_v8 hq9_v8 hq10_v8 hq31_v8 hq32_v8 hr6_8 hM_v8 hA_f8 hm; exact absurd hm (Nat.not_lt_zero _)
          | succ n8 ih8 =>
            intro l3_8 l4_8 l6_8 v8 f8 hIv8 hq0_v8 hq1_v8 hq7_v8 hq8_v8 hq9_v8 hq10_v8 hq31_v8 hq32_v8 hr6_8 hM_v8 hA_f8 hm8 H locs ls hP hD hS hl
            refine lv_iload hx hb dX0_layRest_23 (lv_at hl 0 rfl) ?_
            refine lv_aload_n hx hb dX0_layRest_25 rfl (lv_at hl 4 rfl) ?_
            refine va_get (D := (dC, dI)) (ci := 0) (v := .ref (x 26)) (C := RX0) (T := TX0) (N := 8) hx hb hts inB_0 hown hE.1 hP 32 rfl rfl 0 (by decide) (hts _ k_430) (fun _ h9 => h9) rfl dX0_layRest_26 ?_
            refine va_getN (D := (dC, dI)) (ci := 7) (v := .int (v8 32)) (C := RX7) (T := TX7) (N := 10) hx hb hts inB_7 hown hE.1 hP 27 rfl rfl 4 (by decide) (va_Nw.use rfl (hE.2 _ k_222)) (fun _ h9 => h9) rfl dX0_layRest_29 ?_
            refine tI (y := (v 32)) hq32_v8 ?_
            have b32_v : 0 ≤ (v 32).toInt ∧ (v 32).toInt ≤ 6 := XI.b hIv 32 (by decide)
            refine lv_icmp_ge (tgt := 122) hx hb dX0_layRest_32 (by decide) (fun c9 => ?_) (fun c9 => ?_)
            · skip
              have zc9 : (v 32).toInt ≤ l6_8.toInt := by rw [fa_le] at c9; exact c9
              have rg10 := fb_rng l6_8
              obtain ⟨t11, et11⟩ : ∃ y : Int32, y = l5_1 + 1 := ⟨_, rfl⟩
              have zt11 : t11.toInt = l5_1.toInt + 1 := by rw [et11]; exact add_i rfl (by decide) (by omega) (by omega)
              refine lv_iinc (v := t11) (lv' := [(5, .int t11), (6, .int l6_8), (4, .int l4_8), (3, .int l3_8), (0, .ref (x 31)), (1, .int p1), (2, .int p2)]) hx hb dX0_layRest_122 hl (k := 1) rfl (by rw [et11]; rfl) (by decide) rfl (fun ls hl => ?_)
              refine lv_goto (tgt := 8) hx hb dX0_layRest_125 (by decide) ?_
              have rg12 := fb_rng t11
              exact ih1 l3_8 l4_8 t11 v8 f8 hIv8 hq0_v8 hq1_v8 hq7_v8 hq8_v8 hq9_v8 hq10_v8 hq31_v8 hq32_v8 ⟨show (0 : Int) ≤ t11.toInt by omega, show t11.toInt ≤ (2147483647 : Int) by omega⟩ hM_v8 hA_f8 (by show (2147483647 - t11.toInt).toNat < n1; omega) _ _ _ hP hD hS (lv_sub hl [0, 2, 3, 4, 5, 6] rfl)
            · skip
              have zc9 : ¬ ((v 32).toInt ≤ l6_8.toInt) := by rw [fa_le] at c9; exact c9
              have rg13 := fb_rng l6_8
              refine lv_aload_n hx hb dX0_layRest_35 rfl (lv_at hl 4 rfl) ?_
              refine lv_iload hx hb dX0_layRest_36 (lv_at hl 1 rfl) ?_
              refine cbVi (n := 1) (rest := []) hx hb hml hown hts hE hP hD hS hA (sX_X0_isFree_1 l dC dI cy x0 x l5_1 v8 f8 hIv8 ) k_1137 k_1139 k_35 k_111 k_1140 (by decide +kernel) ⟨Nat.le_of_ble_eq_true rfl, Nat.le_of_ble_eq_true rfl⟩ 32 0 rfl rfl (rfl) hl.1 rfl (Nat.le_of_ble_eq_true rfl) dX0_layRest_38 (fun r14 u H locs hw hP hD hS => ?_)
              rcases hw with ⟨g15⟩ | ⟨g15⟩
              · skip
                subst g15
                refine lv_if_eq (tgt := 57) hx hb dX0_layRest_41 (by decide) (fun c0 => absurd c0 (by decide)) (fun _ => ?_)
                refine lv_aload_n hx hb dX0_layRest_44 rfl (lv_at hl 4 rfl) ?_
                refine lv_iload hx hb dX0_layRest_45 (lv_at hl 0 rfl) ?_
                refine cbVi (n := 1) (rest := []) hx hb hml hown hts hE hP hD hS hA (sX_X0_isFree_1 l dC dI cy x0 x l6_8 v8 f8 hIv8 ) k_1137 k_1139 k_35 k_111 k_1140 (by decide +kernel) ⟨Nat.le_of_ble_eq_true rfl, Nat.le_of_ble_eq_true rfl⟩ 32 0 rfl rfl (rfl) hl.1 rfl (Nat.le_of_ble_eq_true rfl) dX0_layRest_47 (fun r16 u H locs hw hP hD hS => ?_)
                rcases hw with ⟨g17⟩ | ⟨g17⟩
                · skip
                  subst g17
                  refine lv_if_eq (tgt := 57) hx hb dX0_layRest_50 (by decide) (fun c0 => absurd c0 (by decide)) (fun _ => ?_)
                  refine lv_iconst (v := 1) hx hb dX0_layRest_53 (by decide) ?_
                  refine lv_goto (tgt := 58) hx hb dX0_layRest_54 (by decide) ?_
                  refine lv_istore (lv' := [(7, .int 1), (6, .int l6_8), (5, .int l5_1), (4, .int l4_8), (3, .int l3_8), (0, .ref (x 31)), (1, .int p1), (2, .int p2)]) hx hb dX0_layRest_58 hl (by decide) rfl (fun ls hl => ?_)
                  refine lv_iload hx hb dX0_layRest_60 (lv_at hl 3 rfl) ?_
                  refine lv_iload hx hb dX0_layRest_62 (lv_at hl 0 rfl) ?_
                  refine lv_ior hx hb dX0_layRest_64 ?_
                  refine lv_topi (fun t18 et18 => ?_)
                  refine lv_istore (lv' := [(4, .int t18), (7, .int 1), (6, .int l6_8), (5, .int l5_1), (3, .int l3_8), (0, .ref (x 31)), (1, .int p1), (2, .int p2)]) hx hb dX0_layRest_65 hl (by decide) rfl (fun ls hl => ?_)
                  refine lv_iload hx hb dX0_layRest_67 (lv_at hl 1 rfl) ?_
                  refine lv_if_eq (tgt := 116) hx hb dX0_layRest_69 (by decide) (fun c0 => absurd c0 (by decide)) (fun _ => ?_)
                  refine lv_aload_n hx hb dX0_layRest_72 rfl (lv_at hl 5 rfl) ?_
                  refine lv_iload_n hx hb dX0_layRest_73 rfl (lv_at hl 6 rfl) ?_
                  refine lv_iload hx hb dX0_layRest_74 (lv_at hl 3 rfl) ?_
                  refine lv_iload hx hb dX0_layRest_76 (lv_at hl 2 rfl) ?_
                  refine cbVi (n := 3) (rest := []) hx hb hml hown hts hE hP hD hS hA (sX_X0_isContent_1 l dC dI cy x0 x p1 l5_1 l6_8 v8 f8 hIv8 ) k_1142 k_1144 k_36 k_111 k_1145 (by decide +kernel) ⟨Nat.le_of_ble_eq_true rfl, Nat.le_of_ble_eq_true rfl⟩ 32 0 rfl rfl (rfl) hl.1 rfl (Nat.le_of_ble_eq_true rfl) dX0_layRest_78 (fun r19 u H locs hw hP hD hS => ?_)
                  obtain ⟨v20, f21⟩ := u
                  obtain ⟨kV_v20, kF_f21, hIv20, hk0_v20, hk1_v20, hk7_v20, hk8_v20, hk9_v20, hk10_v20, hk31_v20, hk32_v20, hw⟩ := hw
                  have hM_v20 : KV [38] v20 v := KV.tr kV_v20 hM_v8 rfl
                  have hA_f21 : KF [13, 14, 20] f21 f := KF.tr kF_f21 hA_f8 rfl
                  have hP : va_P (dC, dI) vwCl (XW cy x0 x v20 f21) H := hP
                  have hD : va_D A (XW cy x0 x v20 f21) := hD
                  have hq0_v20 : v20 0 = (v 0) := hk0_v20.trans hq0_v8
                  have hq1_v20 : v20 1 = (v 1) := hk1_v20.trans hq1_v8
                  have hq7_v20 : v20 7 = (v 7) := hk7_v20.trans hq7_v8
                  have hq8_v20 : v20 8 = (v 8) := hk8_v20.trans hq8_v8
                  have hq9_v20 : v20 9 = (v 9) := hk9_v20.trans hq9_v8
                  have hq10_v20 : v20 10 = (v 10) := hk10_v20.trans hq10_v8
                  have hq31_v20 : v20 31 = (v 31) := hk31_v20.trans hq31_v8
                  have hq32_v20 : v20 32 = (v 32) := hk32_v20.trans hq32_v8
                  rcases hw with ⟨g22⟩ | ⟨g22⟩
                  · skip
                    subst g22
                    refine lv_if_eq (tgt := 116) hx hb dX0_layRest_81 (by decide) (fun c0 => absurd c0 (by decide)) (fun _ => ?_)
                    refine lv_aload_n hx hb dX0_layRest_84 rfl (lv_at hl 5 rfl) ?_
                    refine lv_iload_n hx hb dX0_layRest_85 rfl (lv_at hl 7 rfl) ?_
                    refine lv_iload hx hb dX0_layRest_86 (lv_at hl 2 rfl) ?_
                    refine lv_iload hx hb dX0_layRest_88 (lv_at hl 3 rfl) ?_
                    refine cbVi (n := 3) (rest := []) hx hb hml hown hts hE hP hD hS hA (sX_X0_isContent_1 l dC dI cy x0 x p2 l6_8 l5_1 v20 f21 hIv20 ) k_1142 k_1144 k_36 k_111 k_1145 (by decide +kernel) ⟨Nat.le_of_ble_eq_true rfl, Nat.le_of_ble_eq_true rfl⟩ 32 0 rfl rfl (rfl) hl.1 rfl (Nat.le_of_ble_eq_true rfl) dX0_layRest_90 (fun r23 u H locs hw hP hD hS => ?_)
                    obtain ⟨v24, f25⟩ := u
                    obtain ⟨kV_v24, kF_f25, hIv24, hk0_v24, hk1_v24, hk7_v24, hk8_v24, hk9_v24, hk10_v24, hk31_v24, hk32_v24, hw⟩ := hw
                    have hM_v24 : KV [38] v24 v := KV.tr kV_v24 hM_v20 rfl
                    have hA_f25 : KF [13, 14, 20] f25 f := KF.tr kF_f25 hA_f21 rfl
                    have hP : va_P (dC, dI) vwCl (XW cy x0 x v24 f25) H := hP
                    have hD : va_D A (XW cy x0 x v24 f25) := hD
                    have hq0_v24 : v24 0 = (v 0) := hk0_v24.trans hq0_v20
                    have hq1_v24 : v24 1 = (v 1) := hk1_v24.trans hq1_v20
                    have hq7_v24 : v24 7 = (v 7) := hk7_v24.trans hq7_v20
                    have hq8_v24 : v24 8 = (v 8) := hk8_v24.trans hq8_v20
                    have hq9_v24 : v24 9 = (v 9) := hk9_v24.trans hq9_v20
                    have hq10_v24 : v24 10 = (v 10) := hk10_v24.trans hq10_v20
                    have hq31_v24 : v24 31 = (v 31) := hk31_v24.trans hq31_v20
                    have hq32_v24 : v24 32 = (v 32) := hk32_v24.trans hq32_v20
                    rcases hw with ⟨g26⟩ | ⟨g26⟩
                    · skip
                      subst g26
                      refine lv_if_eq (tgt := 116) hx hb dX0_layRest_93 (by decide) (fun c0 => absurd c0 (by decide)) (fun _ => ?_)
                      obtain ⟨t27, et27⟩ : ∃ y : Int32, y = l3_8 + 1 := ⟨_, rfl⟩
                      refine lv_iinc (v := t27) (lv' := [(3, .int t27), (4, .int t18), (7, .int 1), (6, .int l6_8), (5, .int l5_1), (0, .ref (x 31)), (1, .int p1), (2, .int p2)]) hx hb dX0_layRest_96 hl (k := 4) rfl (by rw [et27]; rfl) (by decide) rfl (fun ls hl => ?_)
                      refine lv_iload_n hx hb dX0_layRest_99 rfl (lv_at hl 0 rfl) ?_
                      refine lv_iconst (v := 1) hx hb dX0_layRest_100 (by decide) ?_
                      refine lv_icmp_ne (tgt := 116) hx hb dX0_layRest_101 (by decide) (fun c28 => ?_) (fun c28 => ?_)
                      · skip
                        have zc28 : ¬ (t27.toInt = 1) := by rw [fa_eq, show (1 : Int32).toInt = 1 from by decide] at c28; exact c28
                        obtain ⟨t29, et29⟩ : ∃ y : Int32, y = l6_8 + 1 := ⟨_, rfl⟩
                        have zt29 : t29.toInt = l6_8.toInt + 1 := by rw [et29]; exact add_i rfl (by decide) (by omega) (by omega)
                        refine lv_iinc (v := t29) (lv' := [(6, .int t29), (3, .int t27), (4, .int t18), (7, .int 1), (5, .int l5_1), (0, .ref (x 31)), (1, .int p1), (2, .int p2)]) hx hb dX0_layRest_116 hl (k := 3) rfl (by rw [et29]; rfl) (by decide) rfl (fun ls hl => ?_)
                        refine lv_goto (tgt := 23) hx hb dX0_layRest_119 (by decide) ?_
                        have rg30 := fb_rng t29
                        exact ih8 t27 t18 t29 v24 f25 hIv24 hq0_v24 hq1_v24 hq7_v24 hq8_v24 hq9_v24 hq10_v24 hq31_v24 hq32_v24 ⟨show (0 : Int) ≤ t29.toInt by omega, show t29.toInt ≤ (2147483647 : Int) by omega⟩ hM_v24 hA_f25 (by show (2147483647 - t29.toInt).toNat < n8; omega) _ _ _ hP hD hS (lv_sub hl [0, 4, 2, 1, 5, 6, 7] rfl)
                      · skip
                        have zc28 : t27.toInt = 1 := by rw [fa_eq, show (1 : Int32).toInt = 1 from by decide] at c28; exact c28
                        refine lv_aload_n hx hb dX0_layRest_104 rfl (lv_at hl 5 rfl) ?_
                        refine lv_iload hx hb dX0_layRest_105 (lv_at hl 4 rfl) ?_
                        refine cbVv (n := 1) (rest := []) hx hb hml hown hts hE hP hD hS hA (sX_X0_lay_1 l dC dI cy x0 x l5_1 v24 f25 hIv24 ) k_995 k_997 k_26 k_111 k_998 (by decide +kernel) ⟨Nat.le_of_ble_eq_true rfl, Nat.le_of_ble_eq_true rfl⟩ 32 0 rfl rfl (rfl) hl.1 rfl (Nat.le_of_ble_eq_true rfl) dX0_layRest_107 (fun u H locs hw hP hD hS => ?_)
                        obtain ⟨v31, f32⟩ := u
                        obtain ⟨kV_v31, kF_f32, hIv31, hk0_v31, hk1_v31, hk7_v31, hk8_v31, hk9_v31, hk10_v31, hk31_v31, hk32_v31⟩ := hw
                        have hM_v31 : KV [38] v31 v := KV.tr kV_v31 hM_v24 rfl
                        have hA_f32 : KF [13, 14, 20] f32 f := KF.tr kF_f32 hA_f25 rfl
                        have hP : va_P (dC, dI) vwCl (XW cy x0 x v31 f32) H := hP
                        have hD : va_D A (XW cy x0 x v31 f32) := hD
                        have hq0_v31 : v31 0 = (v 0) := hk0_v31.trans hq0_v24
                        have hq1_v31 : v31 1 = (v 1) := hk1_v31.trans hq1_v24
                        have hq7_v31 : v31 7 = (v 7) := hk7_v31.trans hq7_v24
                        have hq8_v31 : v31 8 = (v 8) := hk8_v31.trans hq8_v24
                        have hq9_v31 : v31 9 = (v 9) := hk9_v31.trans hq9_v24
                        have hq10_v31 : v31 10 = (v 10) := hk10_v31.trans hq10_v24
                        have hq31_v31 : v31 31 = (v 31) := hk31_v31.trans hq31_v24
                        have hq32_v31 : v31 32 = (v 32) := hk32_v31.trans hq32_v24
                        refine lv_aload_n hx hb dX0_layRest_110 rfl (lv_at hl 5 rfl) ?_
                        refine lv_iload hx hb dX0_layRest_111 (lv_at hl 3 rfl) ?_
                        refine cbVv (n := 1) (rest := []) hx hb hml hown hts hE hP hD hS hA (sX_X0_lay_1 l dC dI cy x0 x l6_8 v31 f32 hIv31 ) k_995 k_997 k_26 k_111 k_998 (by decide +kernel) ⟨Nat.le_of_ble_eq_true rfl, Nat.le_of_ble_eq_true rfl⟩ 32 0 rfl rfl (rfl) hl.1 rfl (Nat.le_of_ble_eq_true rfl) dX0_layRest_113 (fun u H locs hw hP hD hS => ?_)
                        obtain ⟨v33, f34⟩ := u
                        obtain ⟨kV_v33, kF_f34, hIv33, hk0_v33, hk1_v33, hk7_v33, hk8_v33, hk9_v33, hk10_v33, hk31_v33, hk32_v33⟩ := hw
                        have hM_v33 : KV [38] v33 v := KV.tr kV_v33 hM_v31 rfl
                        have hA_f34 : KF [13, 14, 20] f34 f := KF.tr kF_f34 hA_f32 rfl
                        have hP : va_P (dC, dI) vwCl (XW cy x0 x v33 f34) H := hP
                        have hD : va_D A (XW cy x0 x v33 f34) := hD
                        have hq0_v33 : v33 0 = (v 0) := hk0_v33.trans hq0_v31
                        have hq1_v33 : v33 1 = (v 1) := hk1_v33.trans hq1_v31
                        have hq7_v33 : v33 7 = (v 7) := hk7_v33.trans hq7_v31
                        have hq8_v33 : v33 8 = (v 8) := hk8_v33.trans hq8_v31
                        have hq9_v33 : v33 9 = (v 9) := hk9_v33.trans hq9_v31
                        have hq10_v33 : v33 10 = (v 10) := hk10_v33.trans hq10_v31
                        have hq31_v33 : v33 31 = (v 31) := hk31_v33.trans hq31_v31
                        have hq32_v33 : v33 32 = (v 32) := hk32_v33.trans hq32_v31
                        obtain ⟨t35, et35⟩ : ∃ y : Int32, y = l6_8 + 1 := ⟨_, rfl⟩
                        have zt35 : t35.toInt = l6_8.toInt + 1 := by rw [et35]; exact add_i rfl (by decide) (by omega) (by omega)
                        refine lv_iinc (v := t35) (lv' := [(6, .int t35), (3, .int t27), (4, .int t18), (7, .int 1), (5, .int l5_1), (0, .ref (x 31)), (1, .int p1), (2, .int p2)]) hx hb dX0_layRest_116 hl (k := 3) rfl (by rw [et35]; rfl) (by decide) rfl (fun ls hl => ?_)
                        refine lv_goto (tgt := 23) hx hb dX0_layRest_119 (by decide) ?_
                        have rg36 := fb_rng t35
                        exact ih8 t27 t18 t35 v33 f34 hIv33 hq0_v33 hq1_v33 hq7_v33 hq8_v33 hq9_v33 hq10_v33 hq31_v33 hq32_v33 ⟨show (0 : Int) ≤ t35.toInt by omega, show t35.toInt ≤ (2147483647 : Int) by omega⟩ hM_v33 hA_f34 (by show (2147483647 - t35.toInt).toNat < n8; omega) _ _ _ hP hD hS (lv_sub hl [0, 4, 2, 1, 5, 6, 7] rfl)
                    · skip
                      subst g26
                      refine lv_if_eq (tgt := 116) hx hb dX0_layRest_93 (by decide) (fun _ => ?_) (fun c0 => absurd (by decide) c0)
                      obtain ⟨t37, et37⟩ : ∃ y : Int32, y = l6_8 + 1 := ⟨_, rfl⟩
                      have zt37 : t37.toInt = l6_8.toInt + 1 := by rw [et37]; exact add_i rfl (by decide) (by omega) (by omega)
                      refine lv_iinc (v := t37) (lv' := [(6, .int t37), (4, .int t18), (7, .int 1), (5, .int l5_1), (3, .int l3_8), (0, .ref (x 31)), (1, .int p1), (2, .int p2)]) hx hb dX0_layRest_116 hl (k := 2) rfl (by rw [et37]; rfl) (by decide) rfl (fun ls hl => ?_)
                      refine lv_goto (tgt := 23) hx hb dX0_layRest_119 (by decide) ?_
                      have rg38 := fb_rng t37
                      exact ih8 l3_8 t18 t37 v24 f25 hIv24 hq0_v24 hq1_v24 hq7_v24 hq8_v24 hq9_v24 hq10_v24 hq31_v24 hq32_v24 ⟨show (0 : Int) ≤ t37.toInt by omega, show t37.toInt ≤ (2147483647 : Int) by omega⟩ hM_v24 hA_f25 (by show (2147483647 - t37.toInt).toNat < n8; omega) _ _ _ hP hD hS (lv_sub hl [0, 3, 1, 4, 5, 6, 7] rfl)
                  · skip
                    subst g22
                    refine lv_if_eq (tgt := 116) hx hb dX0_layRest_81 (by decide) (fun _ => ?_) (fun c0 => absurd (by decide) c0)
                    obtain ⟨t39, et39⟩ : ∃ y : Int32, y = l6_8 + 1 := ⟨_, rfl⟩
                    have zt39 : t39.toInt = l6_8.toInt + 1 := by rw [et39]; exact add_i rfl (by decide) (by omega) (by omega)
                    refine lv_iinc (v := t39) (lv' := [(6, .int t39), (4, .int t18), (7, .int 1), (5, .int l5_1), (3, .int l3_8), (0, .ref (x 31)), (1, .int p1), (2, .int p2)]) hx hb dX0_layRest_116 hl (k := 2) rfl (by rw [et39]; rfl) (by decide) rfl (fun ls hl => ?_)
                    refine lv_goto (tgt := 23) hx hb dX0_layRest_119 (by decide) ?_
                    have rg40 := fb_rng t39
                    exact ih8 l3_8 t18 t39 v20 f21 hIv20 hq0_v20 hq1_v20 hq7_v20 hq8_v20 hq9_v20 hq10_v20 hq31_v20 hq32_v20 ⟨show (0 : Int) ≤ t39.toInt by omega, show t39.toInt ≤ (2147483647 : Int) by omega⟩ hM_v20 hA_f21 (by show (2147483647 - t39.toInt).toNat < n8; omega) _ _ _ hP hD hS (lv_sub hl [0, 3, 1, 4, 5, 6, 7] rfl)
                · skip
                  subst g17
                  refine lv_if_eq (tgt := 57) hx hb dX0_layRest_50 (by decide) (fun _ => ?_) (fun c0 => absurd (by decide) c0)
                  refine lv_iconst (v := 0) hx hb dX0_layRest_57 (by decide) ?_
                  refine lv_istore (lv' := [(7, .int 0), (6, .int l6_8), (5, .int l5_1), (4, .int l4_8), (3, .int l3_8), (0, .ref (x 31)), (1, .int p1), (2, .int p2)]) hx hb dX0_layRest_58 hl (by decide) rfl (fun ls hl => ?_)
                  refine lv_iload hx hb dX0_layRest_60 (lv_at hl 3 rfl) ?_
                  refine lv_iload hx hb dX0_layRest_62 (lv_at hl 0 rfl) ?_
                  refine lv_ior hx hb dX0_layRest_64 ?_
                  refine lv_topi (fun t41 et41 => ?_)
                  refine lv_istore (lv' := [(4, .int t41), (7, .int 0), (6, .int l6_8), (5, .int l5_1), (3, .int l3_8), (0, .ref (x 31)), (1, .int p1), (2, .int p2)]) hx hb dX0_layRest_65 hl (by decide) rfl (fun ls hl => ?_)
                  refine lv_iload hx hb dX0_layRest_67 (lv_at hl 1 rfl) ?_
                  refine lv_if_eq (tgt := 116) hx hb dX0_layRest_69 (by decide) (fun _ => ?_) (fun c0 => absurd (by decide) c0)
                  obtain ⟨t42, et42⟩ : ∃ y : Int32, y = l6_8 + 1 := ⟨_, rfl⟩
                  have zt42 : t42.toInt = l6_8.toInt + 1 := by rw [et42]; exact add_i rfl (by decide) (by omega) (by omega)
                  refine lv_iinc (v := t42) (lv' := [(6, .int t42), (4, .int t41), (7, .int 0), (5, .int l5_1), (3, .int l3_8), (0, .ref (x 31)), (1, .int p1), (2, .int p2)]) hx hb dX0_layRest_116 hl (k := 2) rfl (by rw [et42]; rfl) (by decide) rfl (fun ls hl => ?_)
                  refine lv_goto (tgt := 23) hx hb dX0_layRest_119 (by decide) ?_
                  have rg43 := fb_rng t42
                  exact ih8 l3_8 t41 t42 v8 f8 hIv8 hq0_v8 hq1_v8 hq7_v8 hq8_v8 hq9_v8 hq10_v8 hq31_v8 hq32_v8 ⟨show (0 : Int) ≤ t42.toInt by omega, show t42.toInt ≤ (2147483647 : Int) by omega⟩ hM_v8 hA_f8 (by show (2147483647 - t42.toInt).toNat < n8; omega) _ _ _ hP hD hS (lv_sub hl [0, 3, 1, 4, 5, 6, 7] rfl)
              · skip
                subst g15
                refine lv_if_eq (tgt := 57) hx hb dX0_layRest_41 (by decide) (fun _ => ?_) (fun c0 => absurd (by decide) c0)
                refine lv_iconst (v := 0) hx hb dX0_layRest_57 (by decide) ?_
                refine lv_istore (lv' := [(7, .int 0), (6, .int l6_8), (5, .int l5_1), (4, .int l4_8), (3, .int l3_8), (0, .ref (x 31)), (1, .int p1), (2, .int p2)]) hx hb dX0_layRest_58 hl (by decide) rfl (fun ls hl => ?_)
                refine lv_iload hx hb dX0_layRest_60 (lv_at hl 3 rfl) ?_
                refine lv_iload hx hb dX0_layRest_62 (lv_at hl 0 rfl) ?_
                refine lv_ior hx hb dX0_layRest_64 ?_
                refine lv_topi (fun t44 et44 => ?_)
                refine lv_istore (lv' := [(4, .int t44), (7, .int 0), (6, .int l6_8), (5, .int l5_1), (3, .int l3_8), (0, .ref (x 31)), (1, .int p1), (2, .int p2)]) hx hb dX0_layRest_65 hl (by decide) rfl (fun ls hl => ?_)
                refine lv_iload hx hb dX0_layRest_67 (lv_at hl 1 rfl) ?_
                refine lv_if_eq (tgt := 116) hx hb dX0_layRest_69 (by decide) (fun _ => ?_) (fun c0 => absurd (by decide) c0)
                obtain ⟨t45, et45⟩ : ∃ y : Int32, y = l6_8 + 1 := ⟨_, rfl⟩
                have zt45 : t45.toInt = l6_8.toInt + 1 := by rw [et45]; exact add_i rfl (by decide) (by omega) (by omega)
                refine lv_iinc (v := t45) (lv' := [(6, .int t45), (4, .int t44), (7, .int 0), (5, .int l5_1), (3, .int l3_8), (0, .ref (x 31)), (1, .int p1), (2, .int p2)]) hx hb dX0_layRest_116 hl (k := 2) rfl (by rw [et45]; rfl) (by decide) rfl (fun ls hl => ?_)
                refine lv_goto (tgt := 23) hx hb dX0_layRest_119 (by decide) ?_
                have rg46 := fb_rng t45
                exact ih8 l3_8 t44 t45 v8 f8 hIv8 hq0_v8 hq1_v8 hq7_v8 hq8_v8 hq9_v8 hq10_v8 hq31_v8 hq32_v8 ⟨show (0 : Int) ≤ t45.toInt by omega, show t45.toInt ≤ (2147483647 : Int) by omega⟩ hM_v8 hA_f8 (by show (2147483647 - t45.toInt).toNat < n8; omega) _ _ _ hP hD hS (lv_sub hl [0, 3, 1, 4, 5, 6, 7] rfl)
        exact lp8 _ l3_1 l4_1 0 v1 f1 hIv1 hq0_v1 hq1_v1 hq7_v1 hq8_v1 hq9_v1 hq10_v1 hq31_v1 hq32_v1 ⟨by decide, by decide⟩ hM_v1 hA_f1 (Nat.lt_succ_self _) _ _ _ hP hD hS (lv_sub hl [0, 1, 2, 3, 4, 5, 6] rfl)
  exact lp1 _ 0 0 0 v f hIv rfl rfl rfl rfl rfl rfl rfl rfl ⟨by decide, by decide⟩ hM_v hA_f (Nat.lt_succ_self _) _ _ _ hP hD hS (lv_sub hl [0, 1, 2, 3, 4, 5] rfl)
set_option maxHeartbeats 4000000 in
set_option maxRecDepth 100000 in
theorem sX_X10_reach_1 (l : Launch) (dC : Nat → ClassId) (dI : Nat → Nat → Nat) (cy : Nat → ClassId) (x0 : Nat) (x : Nat → Nat) (p1 : Int32) (p2 : Int32) (v : Nat → Int32) (f : Nat → Nat → Int32) (hIv : XI v)  : ctI l (dC, dI) cy yX10_reach cX10_reach 3 .int 7 208 0 0 ((Nat → Int32) × (Nat → Nat → Int32)) [.ref x0, .int p1, .int p2] (XW cy x0 x v f) (fun r u => KV [38] u.1 v ∧ KF [13, 14, 20] u.2 f ∧ XI u.1 ∧ u.1 0 = v 0 ∧ u.1 1 = v 1 ∧ u.1 7 = v 7 ∧ u.1 8 = v 8 ∧ u.1 9 = v 9 ∧ u.1 10 = v 10 ∧ u.1 31 = v 31 ∧ u.1 32 = v 32) (fun u => XW cy x0 x u.1 u.2) := by
  refine ctI_of (by decide) (Nat.le_of_ble_eq_true rfl) (fun p e s m below meth c A ls Q hx hb hml hts hown hE hP hD hA hl ret => ?_)
  have hM_v : KV [38] v v := fun _ _ => rfl
  have hA_f : KF [13, 14, 20] f f := fun _ _ => rfl
  have hown : s.vm.findClass RX10 = some m.cls := hown
  have hS : va_S A s.heap s.heap [] := va_S.rf
  have hl : lv_has ls 3 [(0, .ref x0), (1, .int p1), (2, .int p2)] := hl
  refine lv_aload_n hx hb dX10_reach_0 rfl (lv_at hl 0 rfl) ?_
  refine va_get (D := (dC, dI)) (ci := 10) (v := .ref (x 31)) (C := RX10) (T := TX10) (N := 10) hx hb hts inB_10 hown hE.1 hP 0 rfl rfl 7 (by decide) (hts _ k_498) (fun _ h9 => h9) rfl dX10_reach_1 ?_
  refine cbVv (n := 0) (rest := []) hx hb hml hown hts hE hP hD hS hA (sX_X0_clear_1 0 l dC dI cy x0 x  v f hIv ) k_786 k_787 k_788 k_111 k_789 (by decide +kernel) ⟨Nat.le_of_ble_eq_true rfl, Nat.le_of_ble_eq_true rfl⟩ 32 0 rfl rfl (rfl) hl.1 rfl (Nat.le_of_ble_eq_true rfl) dX10_reach_4 (fun u H locs hw hP hD hS => ?_)
  obtain ⟨hG1, hw⟩ := hw
  obtain ⟨v2, f3⟩ := u
  obtain ⟨kV_v2, kF_f3, hIv2, hk0_v2, hk1_v2, hk7_v2, hk8_v2, hk9_v2, hk10_v2, hk31_v2, hk32_v2⟩ := hw
  have hM_v2 : KV [38] v2 v := KV.tr kV_v2 hM_v rfl
  have hA_f3 : KF [13, 14, 20] f3 f := KF.tr kF_f3 hA_f rfl
  have hP : va_P (dC, dI) vwCl (XW cy x0 x v2 f3) H := hP
  have hD : va_D A (XW cy x0 x v2 f3) := hD
  have hq0_v2 : v2 0 = (v 0) := hk0_v2
  have hq1_v2 : v2 1 = (v 1) := hk1_v2
  have hq7_v2 : v2 7 = (v 7) := hk7_v2
  have hq8_v2 : v2 8 = (v 8) := hk8_v2
  have hq9_v2 : v2 9 = (v 9) := hk9_v2
  have hq10_v2 : v2 10 = (v 10) := hk10_v2
  have hq31_v2 : v2 31 = (v 31) := hk31_v2
  have hq32_v2 : v2 32 = (v 32) := hk32_v2
  refine lv_iload_n hx hb dX10_reach_7 rfl (lv_at hl 1 rfl) ?_
  refine lv_iload_n hx hb dX10_reach_8 rfl (lv_at hl 2 rfl) ?_
  refine lv_icmp_eq (tgt := 34) hx hb dX10_reach_9 (by decide) (fun c4 => ?_) (fun c4 => ?_)
  · skip
    have zc4 : p1.toInt = p2.toInt := by rw [fa_eq] at c4; exact c4
    have rg5 := fb_rng p1
    have rg6 := fb_rng p2
    refine lv_iconst (v := (-1)) hx hb dX10_reach_34 (by decide) ?_
    exact ret (-1) (v2, f3) _ _ _ _ _ _ rfl ⟨hM_v2, hA_f3, hIv2, hk0_v2, hk1_v2, hk7_v2, hk8_v2, hk9_v2, hk10_v2, hk31_v2, hk32_v2⟩ hP hD hS dX10_reach_35 (Nat.le_refl _) (Nat.le_refl _)
  · skip
    have zc4 : ¬ (p1.toInt = p2.toInt) := by rw [fa_eq] at c4; exact c4
    have rg7 := fb_rng p1
    have rg8 := fb_rng p2
    refine lv_aload_n hx hb dX10_reach_12 rfl (lv_at hl 0 rfl) ?_
    refine va_get (D := (dC, dI)) (ci := 10) (v := .ref (x 26)) (C := RX10) (T := TX10) (N := 10) hx hb hts inB_10 hown hE.1 hP 0 rfl rfl 2 (by decide) (hts _ k_493) (fun _ h9 => h9) rfl dX10_reach_13 ?_
    refine lv_iload_n hx hb dX10_reach_16 rfl (lv_at hl 1 rfl) ?_
    refine cbVi (n := 1) (rest := []) hx hb hml hown hts hE hP hD hS hA (sX_X7_hasMan_1 0 l dC dI cy x0 x p1 v2 f3 hIv2 ) k_802 k_307 k_308 k_104 k_309 (by decide +kernel) ⟨Nat.le_of_ble_eq_true rfl, Nat.le_of_ble_eq_true rfl⟩ 27 7 rfl rfl (rfl) hl.1 rfl (Nat.le_of_ble_eq_true rfl) dX10_reach_17 (fun r9 u H locs hw hP hD hS => ?_)
    obtain ⟨hG10, hw⟩ := hw
    rcases hw with ⟨g11, g11_0, g11_1, g11_2⟩ | ⟨g11⟩
    · skip
      subst g11
      refine lv_if_eq (tgt := 34) hx hb dX10_reach_20 (by decide) (fun c0 => absurd c0 (by decide)) (fun _ => ?_)
      refine lv_aload_n hx hb dX10_reach_23 rfl (lv_at hl 0 rfl) ?_
      refine va_get (D := (dC, dI)) (ci := 10) (v := .ref (x 26)) (C := RX10) (T := TX10) (N := 10) hx hb hts inB_10 hown hE.1 hP 0 rfl rfl 2 (by decide) (hts _ k_493) (fun _ h9 => h9) rfl dX10_reach_24 ?_
      refine lv_iload_n hx hb dX10_reach_27 rfl (lv_at hl 2 rfl) ?_
      refine cbVi (n := 1) (rest := []) hx hb hml hown hts hE hP hD hS hA (sX_X7_hasMan_1 0 l dC dI cy x0 x p2 v2 f3 hIv2 ) k_802 k_307 k_308 k_104 k_309 (by decide +kernel) ⟨Nat.le_of_ble_eq_true rfl, Nat.le_of_ble_eq_true rfl⟩ 27 7 rfl rfl (rfl) hl.1 rfl (Nat.le_of_ble_eq_true rfl) dX10_reach_28 (fun r12 u H locs hw hP hD hS => ?_)
      obtain ⟨hG13, hw⟩ := hw
      rcases hw with ⟨g14, g14_0, g14_1, g14_2⟩ | ⟨g14⟩
      · skip
        subst g14
        refine lv_if_ne (tgt := 36) hx hb dX10_reach_31 (by decide) (fun _ => ?_) (fun c0 => absurd c0 (by decide))
        refine lv_aload_n hx hb dX10_reach_36 rfl (lv_at hl 0 rfl) ?_
        refine va_get (D := (dC, dI)) (ci := 10) (v := .ref (x 31)) (C := RX10) (T := TX10) (N := 10) hx hb hts inB_10 hown hE.1 hP 0 rfl rfl 7 (by decide) (hts _ k_498) (fun _ h9 => h9) rfl dX10_reach_37 ?_
        refine lv_iload_n hx hb dX10_reach_40 rfl (lv_at hl 1 rfl) ?_
        refine lv_iload_n hx hb dX10_reach_41 rfl (lv_at hl 2 rfl) ?_
        refine cbVi (n := 2) (rest := []) hx hb hml hown hts hE hP hD hS hA (sX_X0_layRest_1 l dC dI cy x0 x p1 p2 v2 f3 hIv2 ) k_1133 k_1134 k_1135 k_111 k_1136 (by decide +kernel) ⟨Nat.le_of_ble_eq_true rfl, Nat.le_of_ble_eq_true rfl⟩ 32 0 rfl rfl (rfl) hl.1 rfl (Nat.le_of_ble_eq_true rfl) dX10_reach_42 (fun r15 u H locs hw hP hD hS => ?_)
        obtain ⟨v16, f17⟩ := u
        obtain ⟨kV_v16, kF_f17, hIv16, hk0_v16, hk1_v16, hk7_v16, hk8_v16, hk9_v16, hk10_v16, hk31_v16, hk32_v16⟩ := hw
        have hM_v16 : KV [38] v16 v := KV.tr kV_v16 hM_v2 rfl
        have hA_f17 : KF [13, 14, 20] f17 f := KF.tr kF_f17 hA_f3 rfl
        have hP : va_P (dC, dI) vwCl (XW cy x0 x v16 f17) H := hP
        have hD : va_D A (XW cy x0 x v16 f17) := hD
        have hq0_v16 : v16 0 = (v 0) := hk0_v16.trans hq0_v2
        have hq1_v16 : v16 1 = (v 1) := hk1_v16.trans hq1_v2
        have hq7_v16 : v16 7 = (v 7) := hk7_v16.trans hq7_v2
        have hq8_v16 : v16 8 = (v 8) := hk8_v16.trans hq8_v2
        have hq9_v16 : v16 9 = (v 9) := hk9_v16.trans hq9_v2
        have hq10_v16 : v16 10 = (v 10) := hk10_v16.trans hq10_v2
        have hq31_v16 : v16 31 = (v 31) := hk31_v16.trans hq31_v2
        have hq32_v16 : v16 32 = (v 32) := hk32_v16.trans hq32_v2
        exact ret r15 (v16, f17) _ _ _ _ _ _ rfl ⟨hM_v16, hA_f17, hIv16, (hk0_v16.trans hk0_v2), (hk1_v16.trans hk1_v2), (hk7_v16.trans hk7_v2), (hk8_v16.trans hk8_v2), (hk9_v16.trans hk9_v2), (hk10_v16.trans hk10_v2), (hk31_v16.trans hk31_v2), (hk32_v16.trans hk32_v2)⟩ hP hD hS dX10_reach_45 (Nat.le_refl _) (Nat.le_refl _)
      · skip
        subst g14
        refine lv_if_ne (tgt := 36) hx hb dX10_reach_31 (by decide) (fun c0 => absurd (by decide) c0) (fun _ => ?_)
        refine lv_iconst (v := (-1)) hx hb dX10_reach_34 (by decide) ?_
        exact ret (-1) (v2, f3) _ _ _ _ _ _ rfl ⟨hM_v2, hA_f3, hIv2, hk0_v2, hk1_v2, hk7_v2, hk8_v2, hk9_v2, hk10_v2, hk31_v2, hk32_v2⟩ hP hD hS dX10_reach_35 (Nat.le_refl _) (Nat.le_refl _)
    · skip
      subst g11
      refine lv_if_eq (tgt := 34) hx hb dX10_reach_20 (by decide) (fun _ => ?_) (fun c0 => absurd (by decide) c0)
      refine lv_iconst (v := (-1)) hx hb dX10_reach_34 (by decide) ?_
      exact ret (-1) (v2, f3) _ _ _ _ _ _ rfl ⟨hM_v2, hA_f3, hIv2, hk0_v2, hk1_v2, hk7_v2, hk8_v2, hk9_v2, hk10_v2, hk31_v2, hk32_v2⟩ hP hD hS dX10_reach_35 (Nat.le_refl _) (Nat.le_refl _)
set_option maxHeartbeats 4000000 in
set_option maxRecDepth 100000 in
theorem sX_X1_fittedMen_2 (l : Launch) (dC : Nat → ClassId) (dI : Nat → Nat → Nat) (cy : Nat → ClassId) (x0 : Nat) (x : Nat → Nat)  (v : Nat → Int32) (f : Nat → Nat → Int32) (hIv : XI v)  : ctI l (dC, dI) cy yX1_fittedMen cX1_fittedMen 3 .int 5 155 0 0 ((Nat → Int32) × (Nat → Nat → Int32)) [.ref (x 27)] (XW cy x0 x v f) (fun r u => KV [] u.1 v ∧ KF [13, 14] u.2 f ∧ XI u.1 ∧ u.1 0 = v 0 ∧ u.1 1 = v 1 ∧ u.1 7 = v 7 ∧ u.1 8 = v 8 ∧ u.1 9 = v 9 ∧ u.1 10 = v 10 ∧ u.1 31 = v 31 ∧ u.1 32 = v 32) (fun u => XW cy x0 x u.1 u.2) := by
  refine ctI_of (by decide) (Nat.le_of_ble_eq_true rfl) (fun p e s m below meth c A ls Q hx hb hml hts hown hE hP hD hA hl ret => ?_)
  have hM_v : KV [] v v := fun _ _ => rfl
  have hA_f : KF [13, 14] f f := fun _ _ => rfl
  have hown : s.vm.findClass RX1 = some m.cls := hown
  have hS : va_S A s.heap s.heap [] := va_S.rf
  have hl : lv_has ls 3 [(0, .ref (x 27))] := hl
  refine lv_iconst (v := 0) hx hb dX1_fittedMen_0 (by decide) ?_
  refine lv_istore_n (lv' := [(1, .int 0), (0, .ref (x 27))]) hx hb dX1_fittedMen_1 rfl hl (by decide) rfl (fun ls hl => ?_)
  refine lv_iconst (v := 0) hx hb dX1_fittedMen_2 (by decide) ?_
  refine lv_istore_n (lv' := [(2, .int 0), (1, .int 0), (0, .ref (x 27))]) hx hb dX1_fittedMen_3 rfl hl (by decide) rfl (fun ls hl => ?_)
  have lp1 : ∀ (n1 : Nat) (l1_1 : Int32) (l2_1 : Int32) (v1 : Nat → Int32) (f1 : Nat → Nat → Int32), XI v1 → v1 0 = (v 0) → v1 1 = (v 1) → v1 7 = (v 7) → v1 8 = (v 8) → v1 9 = (v 9) → v1 10 = (v 10) → v1 31 = (v 31) → v1 32 = (v 32) → ((0 : Int) ≤ l2_1.toInt ∧ l2_1.toInt ≤ 2147483647) → KV [] v1 v → KF [13, 14] f1 f → (2147483647 - l2_1.toInt).toNat < n1 → ∀ (H : Heap) (locs : List Loc) (ls : Array Slot), va_P (dC, dI) vwCl (XW cy x0 x v1 f1) H → va_D A (XW cy x0 x v1 f1) → va_S A s.heap H locs → lv_has ls 3 [(2, .int l2_1), (1, .int l1_1), (0, .ref (x 27))] → W p l e { frames := 5, cells := 0, slots := 0, locals := 155 } s m ([.ref (x 27)] : List Value).toArray below meth c H locs 0 0 Q (F0 m 4 ls []) := by
    intro n1
    induction n1 with
    | zero => intro l1_1 l2_1 v1 f1 hIv1 hq0_v1 hq1_v1 hq7_v1 hq8_v1 hq9_v1 hq10_v1 hq31_v1 hq32_v1 hr2_1 hM_v1 hA_f1 hm; exact absurd hm (Nat.not_lt_zero _)
    | succ n1 ih1 =>
      intro l1_1 l2_1 v1 f1 hIv1 hq0_v1 hq1_v1 hq7_v1 hq8_v1 hq9_v1 hq10_v1 hq31_v1 hq32_v1 hr2_1 hM_v1 hA_f1 hm1 H locs ls hP hD hS hl
      refine lv_iload_n hx hb dX1_fittedMen_4 rfl (lv_at hl 0 rfl) ?_
      refine lv_aload_n hx hb dX1_fittedMen_5 rfl (lv_at hl 2 rfl) ?_
      refine va_get (D := (dC, dI)) (ci := 1) (v := .ref (x 26)) (C := RX1) (T := TX1) (N := 2) hx hb hts inB_1 hown hE.1 hP 28 rfl rfl 0 (by decide) (hts _ k_318) (fun _ h9 => h9) rfl dX1_fittedMen_6 ?_
      refine va_getN (D := (dC, dI)) (ci := 7) (v := .int (v1 31)) (C := RX7) (T := TX7) (N := 10) hx hb hts inB_7 hown hE.1 hP 27 rfl rfl 3 (by decide) (va_Nw.use rfl (hE.2 _ k_219)) (fun _ h9 => h9) rfl dX1_fittedMen_9 ?_
      refine tI (y := (v 31)) hq31_v1 ?_
      have b31_v : 0 ≤ (v 31).toInt ∧ (v 31).toInt ≤ 6 := XI.b hIv 31 (by decide)
      refine lv_icmp_ge (tgt := 40) hx hb dX1_fittedMen_12 (by decide) (fun c2 => ?_) (fun c2 => ?_)
      · skip
        have zc2 : (v 31).toInt ≤ l2_1.toInt := by rw [fa_le] at c2; exact c2
        have rg3 := fb_rng l2_1
        have rg4 := fb_rng (v 31)
        refine lv_iload_n hx hb dX1_fittedMen_40 rfl (lv_at hl 1 rfl) ?_
        exact ret l1_1 (v1, f1) _ _ _ _ _ _ rfl ⟨hM_v1, hA_f1, hIv1, (show v1 0 = v 0 from hq0_v1), (show v1 1 = v 1 from hq1_v1), (show v1 7 = v 7 from hq7_v1), (show v1 8 = v 8 from hq8_v1), (show v1 9 = v 9 from hq9_v1), (show v1 10 = v 10 from hq10_v1), (show v1 31 = v 31 from hq31_v1), (show v1 32 = v 32 from hq32_v1)⟩ hP hD hS dX1_fittedMen_41 (Nat.le_refl _) (Nat.le_refl _)
      · skip
        have zc2 : ¬ ((v 31).toInt ≤ l2_1.toInt) := by rw [fa_le] at c2; exact c2
        have rg5 := fb_rng l2_1
        have rg6 := fb_rng (v 31)
        refine lv_aload_n hx hb dX1_fittedMen_15 rfl (lv_at hl 2 rfl) ?_
        refine lv_iload_n hx hb dX1_fittedMen_16 rfl (lv_at hl 0 rfl) ?_
        refine lv_aload_n hx hb dX1_fittedMen_17 rfl (lv_at hl 2 rfl) ?_
        refine lv_iload_n hx hb dX1_fittedMen_18 rfl (lv_at hl 0 rfl) ?_
        refine cbVi (n := 1) (rest := [.int l2_1, .ref (x 27)]) hx hb hml hown hts hE hP hD hS hA (sX_X1_wears_2 l dC dI cy x0 x l2_1 v1 f1 hIv1 ) k_853 k_810 k_811 k_106 k_812 (by decide +kernel) ⟨Nat.le_of_ble_eq_true rfl, Nat.le_of_ble_eq_true rfl⟩ 28 1 rfl rfl (rfl) hl.1 rfl (Nat.le_of_ble_eq_true rfl) dX1_fittedMen_19 (fun r7 u H locs hw hP hD hS => ?_)
        refine cbVi (n := 2) (rest := []) hx hb hml hown hts hE hP hD hS hA (sX_X1_fits_2 l dC dI cy x0 x l2_1 r7 v1 f1 hIv1 ) k_817 k_818 k_819 k_106 k_820 (by decide +kernel) ⟨Nat.le_of_ble_eq_true rfl, Nat.le_of_ble_eq_true rfl⟩ 28 1 rfl rfl (rfl) hl.1 rfl (Nat.le_of_ble_eq_true rfl) dX1_fittedMen_22 (fun r8 u H locs hw hP hD hS => ?_)
        obtain ⟨v9, f10⟩ := u
        obtain ⟨kV_v9, kF_f10, hIv9, hk0_v9, hk1_v9, hk7_v9, hk8_v9, hk9_v9, hk10_v9, hk31_v9, hk32_v9, hw⟩ := hw
        have hM_v9 : KV [] v9 v := KV.tr kV_v9 hM_v1 rfl
        have hA_f10 : KF [13, 14] f10 f := KF.tr kF_f10 hA_f1 rfl
        have hP : va_P (dC, dI) vwCl (XW cy x0 x v9 f10) H := hP
        have hD : va_D A (XW cy x0 x v9 f10) := hD
        have hq0_v9 : v9 0 = (v 0) := hk0_v9.trans hq0_v1
        have hq1_v9 : v9 1 = (v 1) := hk1_v9.trans hq1_v1
        have hq7_v9 : v9 7 = (v 7) := hk7_v9.trans hq7_v1
        have hq8_v9 : v9 8 = (v 8) := hk8_v9.trans hq8_v1
        have hq9_v9 : v9 9 = (v 9) := hk9_v9.trans hq9_v1
        have hq10_v9 : v9 10 = (v 10) := hk10_v9.trans hq10_v1
        have hq31_v9 : v9 31 = (v 31) := hk31_v9.trans hq31_v1
        have hq32_v9 : v9 32 = (v 32) := hk32_v9.trans hq32_v1
        rcases hw with ⟨g11⟩ | ⟨g11⟩
        · skip
          subst g11
          refine lv_if_eq (tgt := 34) hx hb dX1_fittedMen_25 (by decide) (fun c0 => absurd c0 (by decide)) (fun _ => ?_)
          refine lv_iload_n hx hb dX1_fittedMen_28 rfl (lv_at hl 1 rfl) ?_
          refine lv_iconst (v := 1) hx hb dX1_fittedMen_29 (by decide) ?_
          refine lv_iload_n hx hb dX1_fittedMen_30 rfl (lv_at hl 0 rfl) ?_
          refine lv_ishl hx hb dX1_fittedMen_31 ?_
          refine lv_topi (fun t12 et12 => ?_)
          have zt12 : 1 ≤ t12.toInt ∧ t12.toInt ≤ 32 := by rw [et12]; exact shl1_rng (by omega) (by omega)
          refine lv_ior hx hb dX1_fittedMen_32 ?_
          refine lv_topi (fun t13 et13 => ?_)
          refine lv_istore_n (lv' := [(1, .int t13), (2, .int l2_1), (0, .ref (x 27))]) hx hb dX1_fittedMen_33 rfl hl (by decide) rfl (fun ls hl => ?_)
          obtain ⟨t14, et14⟩ : ∃ y : Int32, y = l2_1 + 1 := ⟨_, rfl⟩
          have zt14 : t14.toInt = l2_1.toInt + 1 := by rw [et14]; exact add_i rfl (by decide) (by omega) (by omega)
          refine lv_iinc (v := t14) (lv' := [(2, .int t14), (1, .int t13), (0, .ref (x 27))]) hx hb dX1_fittedMen_34 hl (k := 1) rfl (by rw [et14]; rfl) (by decide) rfl (fun ls hl => ?_)
          refine lv_goto (tgt := 4) hx hb dX1_fittedMen_37 (by decide) ?_
          have rg15 := fb_rng t14
          exact ih1 t13 t14 v9 f10 hIv9 hq0_v9 hq1_v9 hq7_v9 hq8_v9 hq9_v9 hq10_v9 hq31_v9 hq32_v9 ⟨show (0 : Int) ≤ t14.toInt by omega, show t14.toInt ≤ (2147483647 : Int) by omega⟩ hM_v9 hA_f10 (by show (2147483647 - t14.toInt).toNat < n1; omega) _ _ _ hP hD hS (lv_sub hl [0, 1, 2] rfl)
        · skip
          subst g11
          refine lv_if_eq (tgt := 34) hx hb dX1_fittedMen_25 (by decide) (fun _ => ?_) (fun c0 => absurd (by decide) c0)
          obtain ⟨t16, et16⟩ : ∃ y : Int32, y = l2_1 + 1 := ⟨_, rfl⟩
          have zt16 : t16.toInt = l2_1.toInt + 1 := by rw [et16]; exact add_i rfl (by decide) (by omega) (by omega)
          refine lv_iinc (v := t16) (lv' := [(2, .int t16), (1, .int l1_1), (0, .ref (x 27))]) hx hb dX1_fittedMen_34 hl (k := 0) rfl (by rw [et16]; rfl) (by decide) rfl (fun ls hl => ?_)
          refine lv_goto (tgt := 4) hx hb dX1_fittedMen_37 (by decide) ?_
          have rg17 := fb_rng t16
          exact ih1 l1_1 t16 v9 f10 hIv9 hq0_v9 hq1_v9 hq7_v9 hq8_v9 hq9_v9 hq10_v9 hq31_v9 hq32_v9 ⟨show (0 : Int) ≤ t16.toInt by omega, show t16.toInt ≤ (2147483647 : Int) by omega⟩ hM_v9 hA_f10 (by show (2147483647 - t16.toInt).toNat < n1; omega) _ _ _ hP hD hS (lv_sub hl [0, 1, 2] rfl)
  exact lp1 _ 0 0 v f hIv rfl rfl rfl rfl rfl rfl rfl rfl ⟨by decide, by decide⟩ hM_v hA_f (Nat.lt_succ_self _) _ _ _ hP hD hS (lv_sub hl [0, 1, 2] rfl)
