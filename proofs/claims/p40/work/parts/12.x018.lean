set_option maxHeartbeats 4000000 in
set_option maxRecDepth 100000 in
theorem sX_X2_frontOf_1 (l : Launch) (dC : Nat → ClassId) (dI : Nat → Nat → Nat) (cy : Nat → ClassId) (x0 : Nat) (x : Nat → Nat) (p1 : Int32) (v : Nat → Int32) (f : Nat → Nat → Int32) (hIv : XI v)  : ctI l (dC, dI) cy yX2_frontOf cX2_frontOf 6 .int 4 127 0 0 Unit [.ref (x 29), .int p1] (XW cy x0 x v f) (fun r u => True) (fun u => XW cy x0 x v f) := by
  refine ctI_of (by decide) (Nat.le_of_ble_eq_true rfl) (fun p e s m below meth c A ls Q hx hb hml hts hown hE hP hD hA hl ret => ?_)
  have hown : s.vm.findClass RX2 = some m.cls := hown
  have hS : va_S A s.heap s.heap [] := va_S.rf
  have hl : lv_has ls 6 [(0, .ref (x 29)), (1, .int p1)] := hl
  refine lv_iconst (v := (-1)) hx hb dX2_frontOf_0 (by decide) ?_
  refine lv_istore_n (lv' := [(2, .int (-1)), (0, .ref (x 29)), (1, .int p1)]) hx hb dX2_frontOf_1 rfl hl (by decide) rfl (fun ls hl => ?_)
  refine lv_aload_n hx hb dX2_frontOf_2 rfl (lv_at hl 1 rfl) ?_
  refine va_get (D := (dC, dI)) (ci := 2) (v := .ref (x 21)) (C := RX2) (T := TX2) (N := 3) hx hb hts inB_2 hown hE.1 hP 30 rfl rfl 1 (by decide) (hts _ k_415) (fun _ h9 => h9) rfl dX2_frontOf_3 ?_
  refine cbVi (n := 0) (rest := []) hx hb hml hown hts hE hP hD hS hA (sX_X1_wearers_1 l dC dI cy x0 x  v f hIv ) k_1060 k_1061 k_1062 k_106 k_1063 (by decide +kernel) ⟨Nat.le_of_ble_eq_true rfl, Nat.le_of_ble_eq_true rfl⟩ 22 1 rfl rfl (rfl) hl.1 rfl (Nat.le_of_ble_eq_true rfl) dX2_frontOf_6 (fun r1 u H locs hw hP hD hS => ?_)
  refine lv_iconst (v := (-1)) hx hb dX2_frontOf_9 (by decide) ?_
  refine lv_ixor hx hb dX2_frontOf_10 ?_
  refine lv_topi (fun t2 et2 => ?_)
  refine lv_istore_n (lv' := [(3, .int t2), (2, .int (-1)), (0, .ref (x 29)), (1, .int p1)]) hx hb dX2_frontOf_11 rfl hl (by decide) rfl (fun ls hl => ?_)
  refine lv_iconst (v := 0) hx hb dX2_frontOf_12 (by decide) ?_
  refine lv_istore (lv' := [(4, .int 0), (3, .int t2), (2, .int (-1)), (0, .ref (x 29)), (1, .int p1)]) hx hb dX2_frontOf_13 hl (by decide) rfl (fun ls hl => ?_)
  have lp3 : ∀ (n3 : Nat) (l2_3 : Int32) (l4_3 : Int32), ((0 : Int) ≤ l4_3.toInt ∧ l4_3.toInt ≤ 2147483647) → (2147483647 - l4_3.toInt).toNat < n3 → ∀ (H : Heap) (locs : List Loc) (ls : Array Slot), va_P (dC, dI) vwCl (XW cy x0 x v f) H → va_D A (XW cy x0 x v f) → va_S A s.heap H locs → lv_has ls 6 [(4, .int l4_3), (3, .int t2), (2, .int l2_3), (0, .ref (x 29)), (1, .int p1)] → W p l e { frames := 4, cells := 0, slots := 0, locals := 127 } s m ([.ref (x 29), .int p1] : List Value).toArray below meth c H locs 0 0 Q (F0 m 15 ls []) := by
    intro n3
    induction n3 with
    | zero => intro l2_3 l4_3 hr4_3 hm; exact absurd hm (Nat.not_lt_zero _)
    | succ n3 ih3 =>
      intro l2_3 l4_3 hr4_3 hm3 H locs ls hP hD hS hl
      refine lv_iload hx hb dX2_frontOf_15 (lv_at hl 0 rfl) ?_
      refine lv_bipush (v := 64) hx hb dX2_frontOf_17 (by decide) ?_
      refine lv_icmp_ge (tgt := 77) hx hb dX2_frontOf_19 (by decide) (fun c4 => ?_) (fun c4 => ?_)
      · skip
        have zc4 : 64 ≤ l4_3.toInt := by rw [fa_le, show (64 : Int32).toInt = 64 from by decide] at c4; exact c4
        refine lv_iload_n hx hb dX2_frontOf_77 rfl (lv_at hl 2 rfl) ?_
        exact ret l2_3 () _ _ _ _ _ _ rfl trivial hP hD hS dX2_frontOf_78 (Nat.le_refl _) (Nat.le_refl _)
      · skip
        have zc4 : ¬ (64 ≤ l4_3.toInt) := by rw [fa_le, show (64 : Int32).toInt = 64 from by decide] at c4; exact c4
        refine lv_iload_n hx hb dX2_frontOf_22 rfl (lv_at hl 2 rfl) ?_
        refine lv_iconst (v := (-1)) hx hb dX2_frontOf_23 (by decide) ?_
        refine lv_icmp_eq (tgt := 39) hx hb dX2_frontOf_24 (by decide) (fun c5 => ?_) (fun c5 => ?_)
        · skip
          have zc5 : l2_3.toInt = (-1) := by rw [fa_eq, show ((-1) : Int32).toInt = -1 from by decide] at c5; exact c5
          refine lv_iconst (v := 1) hx hb dX2_frontOf_39 (by decide) ?_
          refine lv_goto (tgt := 44) hx hb dX2_frontOf_40 (by decide) ?_
          refine lv_istore (lv' := [(5, .int 1), (4, .int l4_3), (3, .int t2), (2, .int l2_3), (0, .ref (x 29)), (1, .int p1)]) hx hb dX2_frontOf_44 hl (by decide) rfl (fun ls hl => ?_)
          refine lv_iload hx hb dX2_frontOf_46 (lv_at hl 1 rfl) ?_
          refine lv_iload_n hx hb dX2_frontOf_48 rfl (lv_at hl 2 rfl) ?_
          refine lv_iand hx hb dX2_frontOf_49 ?_
          refine lv_topi (fun t6 et6 => ?_)
          refine lv_if_ne (tgt := 71) hx hb dX2_frontOf_50 (by decide) (fun c7 => ?_) (fun c7 => ?_)
          · skip
            have zc7 : ¬ (t6.toInt = 0) := by rw [fa_eq, show (0 : Int32).toInt = 0 from by decide] at c7; exact c7
            obtain ⟨t8, et8⟩ : ∃ y : Int32, y = l4_3 + 1 := ⟨_, rfl⟩
            have rg9 := fb_rng l4_3
            have zt8 : t8.toInt = l4_3.toInt + 1 := by rw [et8]; exact add_i rfl (by decide) (by omega) (by omega)
            refine lv_iinc (v := t8) (lv' := [(4, .int t8), (5, .int 1), (3, .int t2), (2, .int l2_3), (0, .ref (x 29)), (1, .int p1)]) hx hb dX2_frontOf_71 hl (k := 1) rfl (by rw [et8]; rfl) (by decide) rfl (fun ls hl => ?_)
            refine lv_goto (tgt := 15) hx hb dX2_frontOf_74 (by decide) ?_
            have rg10 := fb_rng t8
            exact ih3 l2_3 t8 ⟨show (0 : Int) ≤ t8.toInt by omega, show t8.toInt ≤ (2147483647 : Int) by omega⟩ (by show (2147483647 - t8.toInt).toNat < n3; omega) _ _ _ hP hD hS (lv_sub hl [0, 2, 3, 4, 5] rfl)
          · skip
            have zc7 : t6.toInt = 0 := by rw [fa_eq, show (0 : Int32).toInt = 0 from by decide] at c7; exact c7
            refine lv_iload hx hb dX2_frontOf_53 (lv_at hl 0 rfl) ?_
            refine lv_if_eq (tgt := 71) hx hb dX2_frontOf_55 (by decide) (fun c0 => absurd c0 (by decide)) (fun _ => ?_)
            refine lv_aload_n hx hb dX2_frontOf_58 rfl (lv_at hl 4 rfl) ?_
            refine lv_iload hx hb dX2_frontOf_59 (lv_at hl 1 rfl) ?_
            refine cbVi (n := 1) (rest := []) hx hb hml hown hts hE hP hD hS hA (sX_X2_wideTogether_1 l dC dI cy x0 x l4_3 v f hIv ) k_1065 k_1066 k_1067 k_110 k_1068 (by decide +kernel) ⟨Nat.le_of_ble_eq_true rfl, Nat.le_of_ble_eq_true rfl⟩ 30 2 rfl rfl (rfl) hl.1 rfl (Nat.le_of_ble_eq_true rfl) dX2_frontOf_61 (fun r11 u H locs hw hP hD hS => ?_)
            refine lv_iload_n hx hb dX2_frontOf_64 rfl (lv_at hl 5 rfl) ?_
            refine lv_icmp_lt (tgt := 71) hx hb dX2_frontOf_65 (by decide) (fun c12 => ?_) (fun c12 => ?_)
            · skip
              have zc12 : r11.toInt < p1.toInt := by rw [fa_lt] at c12; exact c12
              have rg13 := fb_rng r11
              have rg14 := fb_rng p1
              obtain ⟨t15, et15⟩ : ∃ y : Int32, y = l4_3 + 1 := ⟨_, rfl⟩
              have rg16 := fb_rng l4_3
              have zt15 : t15.toInt = l4_3.toInt + 1 := by rw [et15]; exact add_i rfl (by decide) (by omega) (by omega)
              refine lv_iinc (v := t15) (lv' := [(4, .int t15), (5, .int 1), (3, .int t2), (2, .int l2_3), (0, .ref (x 29)), (1, .int p1)]) hx hb dX2_frontOf_71 hl (k := 1) rfl (by rw [et15]; rfl) (by decide) rfl (fun ls hl => ?_)
              refine lv_goto (tgt := 15) hx hb dX2_frontOf_74 (by decide) ?_
              have rg17 := fb_rng t15
              exact ih3 l2_3 t15 ⟨show (0 : Int) ≤ t15.toInt by omega, show t15.toInt ≤ (2147483647 : Int) by omega⟩ (by show (2147483647 - t15.toInt).toNat < n3; omega) _ _ _ hP hD hS (lv_sub hl [0, 2, 3, 4, 5] rfl)
            · skip
              have zc12 : ¬ (r11.toInt < p1.toInt) := by rw [fa_lt] at c12; exact c12
              have rg18 := fb_rng r11
              have rg19 := fb_rng p1
              refine lv_iload hx hb dX2_frontOf_68 (lv_at hl 1 rfl) ?_
              refine lv_istore_n (lv' := [(2, .int l4_3), (5, .int 1), (4, .int l4_3), (3, .int t2), (0, .ref (x 29)), (1, .int p1)]) hx hb dX2_frontOf_70 rfl hl (by decide) rfl (fun ls hl => ?_)
              obtain ⟨t20, et20⟩ : ∃ y : Int32, y = l4_3 + 1 := ⟨_, rfl⟩
              have rg21 := fb_rng l4_3
              have zt20 : t20.toInt = l4_3.toInt + 1 := by rw [et20]; exact add_i rfl (by decide) (by omega) (by omega)
              refine lv_iinc (v := t20) (lv' := [(4, .int t20), (2, .int l4_3), (5, .int 1), (3, .int t2), (0, .ref (x 29)), (1, .int p1)]) hx hb dX2_frontOf_71 hl (k := 2) rfl (by rw [et20]; rfl) (by decide) rfl (fun ls hl => ?_)
              refine lv_goto (tgt := 15) hx hb dX2_frontOf_74 (by decide) ?_
              have rg22 := fb_rng t20
              exact ih3 l4_3 t20 ⟨show (0 : Int) ≤ t20.toInt by omega, show t20.toInt ≤ (2147483647 : Int) by omega⟩ (by show (2147483647 - t20.toInt).toNat < n3; omega) _ _ _ hP hD hS (lv_sub hl [0, 3, 1, 4, 5] rfl)
        · skip
          have zc5 : ¬ (l2_3.toInt = (-1)) := by rw [fa_eq, show ((-1) : Int32).toInt = -1 from by decide] at c5; exact c5
          refine lv_iload hx hb dX2_frontOf_27 (lv_at hl 0 rfl) ?_
          refine cbSi (n := 1) (rest := []) hx hb hml hown hts hE hP hD hS hA (sX_J6_bitCount_0f7a4_1 l dC dI cy x0 x l4_3 v f hIv ) k_1064 k_1043 k_121 k_1044 (by decide +kernel) ⟨Nat.le_of_ble_eq_true rfl, Nat.le_of_ble_eq_true rfl⟩ (rfl) hl.1 rfl (Nat.le_of_ble_eq_true rfl) dX2_frontOf_29 (fun r23 u H locs hw hP hD hS => ?_)
          refine lv_iload_n hx hb dX2_frontOf_32 rfl (lv_at hl 2 rfl) ?_
          refine cbSi (n := 1) (rest := [.int r23]) hx hb hml hown hts hE hP hD hS hA (sX_J6_bitCount_0f7a4_1 l dC dI cy x0 x l2_3 v f hIv ) k_1064 k_1043 k_121 k_1044 (by decide +kernel) ⟨Nat.le_of_ble_eq_true rfl, Nat.le_of_ble_eq_true rfl⟩ (rfl) hl.1 rfl (Nat.le_of_ble_eq_true rfl) dX2_frontOf_33 (fun r24 u H locs hw hP hD hS => ?_)
          refine lv_icmp_ge (tgt := 43) hx hb dX2_frontOf_36 (by decide) (fun c25 => ?_) (fun c25 => ?_)
          · skip
            have zc25 : r24.toInt ≤ r23.toInt := by rw [fa_le] at c25; exact c25
            have rg26 := fb_rng r23
            have rg27 := fb_rng r24
            refine lv_iconst (v := 0) hx hb dX2_frontOf_43 (by decide) ?_
            refine lv_istore (lv' := [(5, .int 0), (4, .int l4_3), (3, .int t2), (2, .int l2_3), (0, .ref (x 29)), (1, .int p1)]) hx hb dX2_frontOf_44 hl (by decide) rfl (fun ls hl => ?_)
            refine lv_iload hx hb dX2_frontOf_46 (lv_at hl 1 rfl) ?_
            refine lv_iload_n hx hb dX2_frontOf_48 rfl (lv_at hl 2 rfl) ?_
            refine lv_iand hx hb dX2_frontOf_49 ?_
            refine lv_topi (fun t28 et28 => ?_)
            refine lv_if_ne (tgt := 71) hx hb dX2_frontOf_50 (by decide) (fun c29 => ?_) (fun c29 => ?_)
            · skip
              have zc29 : ¬ (t28.toInt = 0) := by rw [fa_eq, show (0 : Int32).toInt = 0 from by decide] at c29; exact c29
              obtain ⟨t30, et30⟩ : ∃ y : Int32, y = l4_3 + 1 := ⟨_, rfl⟩
              have rg31 := fb_rng l4_3
              have zt30 : t30.toInt = l4_3.toInt + 1 := by rw [et30]; exact add_i rfl (by decide) (by omega) (by omega)
              refine lv_iinc (v := t30) (lv' := [(4, .int t30), (5, .int 0), (3, .int t2), (2, .int l2_3), (0, .ref (x 29)), (1, .int p1)]) hx hb dX2_frontOf_71 hl (k := 1) rfl (by rw [et30]; rfl) (by decide) rfl (fun ls hl => ?_)
              refine lv_goto (tgt := 15) hx hb dX2_frontOf_74 (by decide) ?_
              have rg32 := fb_rng t30
              exact ih3 l2_3 t30 ⟨show (0 : Int) ≤ t30.toInt by omega, show t30.toInt ≤ (2147483647 : Int) by omega⟩ (by show (2147483647 - t30.toInt).toNat < n3; omega) _ _ _ hP hD hS (lv_sub hl [0, 2, 3, 4, 5] rfl)
            · skip
              have zc29 : t28.toInt = 0 := by rw [fa_eq, show (0 : Int32).toInt = 0 from by decide] at c29; exact c29
              refine lv_iload hx hb dX2_frontOf_53 (lv_at hl 0 rfl) ?_
              refine lv_if_eq (tgt := 71) hx hb dX2_frontOf_55 (by decide) (fun _ => ?_) (fun c0 => absurd (by decide) c0)
              obtain ⟨t33, et33⟩ : ∃ y : Int32, y = l4_3 + 1 := ⟨_, rfl⟩
              have rg34 := fb_rng l4_3
              have zt33 : t33.toInt = l4_3.toInt + 1 := by rw [et33]; exact add_i rfl (by decide) (by omega) (by omega)
              refine lv_iinc (v := t33) (lv' := [(4, .int t33), (5, .int 0), (3, .int t2), (2, .int l2_3), (0, .ref (x 29)), (1, .int p1)]) hx hb dX2_frontOf_71 hl (k := 1) rfl (by rw [et33]; rfl) (by decide) rfl (fun ls hl => ?_)
              refine lv_goto (tgt := 15) hx hb dX2_frontOf_74 (by decide) ?_
              have rg35 := fb_rng t33
              exact ih3 l2_3 t33 ⟨show (0 : Int) ≤ t33.toInt by omega, show t33.toInt ≤ (2147483647 : Int) by omega⟩ (by show (2147483647 - t33.toInt).toNat < n3; omega) _ _ _ hP hD hS (lv_sub hl [0, 2, 3, 4, 5] rfl)
          · skip
            have zc25 : ¬ (r24.toInt ≤ r23.toInt) := by rw [fa_le] at c25; exact c25
            have rg36 := fb_rng r23
            have rg37 := fb_rng r24
            refine lv_iconst (v := 1) hx hb dX2_frontOf_39 (by decide) ?_
            refine lv_goto (tgt := 44) hx hb dX2_frontOf_40 (by decide) ?_
            refine lv_istore (lv' := [(5, .int 1), (4, .int l4_3), (3, .int t2), (2, .int l2_3), (0, .ref (x 29)), (1, .int p1)]) hx hb dX2_frontOf_44 hl (by decide) rfl (fun ls hl => ?_)
            refine lv_iload hx hb dX2_frontOf_46 (lv_at hl 1 rfl) ?_
            refine lv_iload_n hx hb dX2_frontOf_48 rfl (lv_at hl 2 rfl) ?_
            refine lv_iand hx hb dX2_frontOf_49 ?_
            refine lv_topi (fun t38 et38 => ?_)
            refine lv_if_ne (tgt := 71) hx hb dX2_frontOf_50 (by decide) (fun c39 => ?_) (fun c39 => ?_)
            · skip
              have zc39 : ¬ (t38.toInt = 0) := by rw [fa_eq, show (0 : Int32).toInt = 0 from by decide] at c39; exact c39
              obtain ⟨t40, et40⟩ : ∃ y : Int32, y = l4_3 + 1 := ⟨_, rfl⟩
              have rg41 := fb_rng l4_3
              have zt40 : t40.toInt = l4_3.toInt + 1 := by rw [et40]; exact add_i rfl (by decide) (by omega) (by omega)
              refine lv_iinc (v := t40) (lv' := [(4, .int t40), (5, .int 1), (3, .int t2), (2, .int l2_3), (0, .ref (x 29)), (1, .int p1)]) hx hb dX2_frontOf_71 hl (k := 1) rfl (by rw [et40]; rfl) (by decide) rfl (fun ls hl => ?_)
              refine lv_goto (tgt := 15) hx hb dX2_frontOf_74 (by decide) ?_
              have rg42 := fb_rng t40
              exact ih3 l2_3 t40 ⟨show (0 : Int) ≤ t40.toInt by omega, show t40.toInt ≤ (2147483647 : Int) by omega⟩ (by show (2147483647 - t40.toInt).toNat < n3; omega) _ _ _ hP hD hS (lv_sub hl [0, 2, 3, 4, 5] rfl)
            · skip
              have zc39 : t38.toInt = 0 := by rw [fa_eq, show (0 : Int32).toInt = 0 from by decide] at c39; exact c39
              refine lv_iload hx hb dX2_frontOf_53 (lv_at hl 0 rfl) ?_
              refine lv_if_eq (tgt := 71) hx hb dX2_frontOf_55 (by decide) (fun c0 => absurd c0 (by decide)) (fun _ => ?_)
              refine lv_aload_n hx hb dX2_frontOf_58 rfl (lv_at hl 4 rfl) ?_
              refine lv_iload hx hb dX2_frontOf_59 (lv_at hl 1 rfl) ?_
              refine cbVi (n := 1) (rest := []) hx hb hml hown hts hE hP hD hS hA (sX_X2_wideTogether_1 l dC dI cy x0 x l4_3 v f hIv ) k_1065 k_1066 k_1067 k_110 k_1068 (by decide +kernel) ⟨Nat.le_of_ble_eq_true rfl, Nat.le_of_ble_eq_true rfl⟩ 30 2 rfl rfl (rfl) hl.1 rfl (Nat.le_of_ble_eq_true rfl) dX2_frontOf_61 (fun r43 u H locs hw hP hD hS => ?_)
              refine lv_iload_n hx hb dX2_frontOf_64 rfl (lv_at hl 5 rfl) ?_
              refine lv_icmp_lt (tgt := 71) hx hb dX2_frontOf_65 (by decide) (fun c44 => ?_) (fun c44 => ?_)
              · skip
                have zc44 : r43.toInt < p1.toInt := by rw [fa_lt] at c44; exact c44
                have rg45 := fb_rng r43
                have rg46 := fb_rng p1
                obtain ⟨t47, et47⟩ : ∃ y : Int32, y = l4_3 + 1 := ⟨_, rfl⟩
                have rg48 := fb_rng l4_3
                have zt47 : t47.toInt = l4_3.toInt + 1 := by rw [et47]; exact add_i rfl (by decide) (by omega) (by omega)
                refine lv_iinc (v := t47) (lv' := [(4, .int t47), (5, .int 1), (3, .int t2), (2, .int l2_3), (0, .ref (x 29)), (1, .int p1)]) hx hb dX2_frontOf_71 hl (k := 1) rfl (by rw [et47]; rfl) (by decide) rfl (fun ls hl => ?_)
                refine lv_goto (tgt := 15) hx hb dX2_frontOf_74 (by decide) ?_
                have rg49 := fb_rng t47
                exact ih3 l2_3 t47 ⟨show (0 : Int) ≤ t47.toInt by omega, show t47.toInt ≤ (2147483647 : Int) by omega⟩ (by show (2147483647 - t47.toInt).toNat < n3; omega) _ _ _ hP hD hS (lv_sub hl [0, 2, 3, 4, 5] rfl)
              · skip
                have zc44 : ¬ (r43.toInt < p1.toInt) := by rw [fa_lt] at c44; exact c44
                have rg50 := fb_rng r43
                have rg51 := fb_rng p1
                refine lv_iload hx hb dX2_frontOf_68 (lv_at hl 1 rfl) ?_
                refine lv_istore_n (lv' := [(2, .int l4_3), (5, .int 1), (4, .int l4_3), (3, .int t2), (0, .ref (x 29)), (1, .int p1)]) hx hb dX2_frontOf_70 rfl hl (by decide) rfl (fun ls hl => ?_)
                obtain ⟨t52, et52⟩ : ∃ y : Int32, y = l4_3 + 1 := ⟨_, rfl⟩
                have rg53 := fb_rng l4_3
                have zt52 : t52.toInt = l4_3.toInt + 1 := by rw [et52]; exact add_i rfl (by decide) (by omega) (by omega)
                refine lv_iinc (v := t52) (lv' := [(4, .int t52), (2, .int l4_3), (5, .int 1), (3, .int t2), (0, .ref (x 29)), (1, .int p1)]) hx hb dX2_frontOf_71 hl (k := 2) rfl (by rw [et52]; rfl) (by decide) rfl (fun ls hl => ?_)
                refine lv_goto (tgt := 15) hx hb dX2_frontOf_74 (by decide) ?_
                have rg54 := fb_rng t52
                exact ih3 l4_3 t52 ⟨show (0 : Int) ≤ t52.toInt by omega, show t52.toInt ≤ (2147483647 : Int) by omega⟩ (by show (2147483647 - t52.toInt).toNat < n3; omega) _ _ _ hP hD hS (lv_sub hl [0, 3, 1, 4, 5] rfl)
  exact lp3 _ (-1) 0 ⟨by decide, by decide⟩ (Nat.lt_succ_self _) _ _ _ hP hD hS (lv_sub hl [0, 1, 2, 3, 4] rfl)
set_option maxHeartbeats 4000000 in
set_option maxRecDepth 100000 in
theorem sX_X10_front_1 (l : Launch) (dC : Nat → ClassId) (dI : Nat → Nat → Nat) (cy : Nat → ClassId) (x0 : Nat) (x : Nat → Nat) (p1 : Int32) (p2 : Int32) (v : Nat → Int32) (f : Nat → Nat → Int32) (hIv : XI v)  : ctI l (dC, dI) cy yX10_front cX10_front 4 .int 5 152 0 0 Unit [.ref x0, .int p1, .int p2] (XW cy x0 x v f) (fun r u => True) (fun u => XW cy x0 x v f) := by
  refine ctI_of (by decide) (Nat.le_of_ble_eq_true rfl) (fun p e s m below meth c A ls Q hx hb hml hts hown hE hP hD hA hl ret => ?_)
  have hown : s.vm.findClass RX10 = some m.cls := hown
  have hS : va_S A s.heap s.heap [] := va_S.rf
  have hl : lv_has ls 4 [(0, .ref x0), (1, .int p1), (2, .int p2)] := hl
  refine lv_iload_n hx hb dX10_front_0 rfl (lv_at hl 1 rfl) ?_
  refine lv_if_lt (tgt := 20) hx hb dX10_front_1 (by decide) (fun c1 => ?_) (fun c1 => ?_)
  · skip
    have zc1 : p1.toInt < 0 := by rw [fa_lt, show (0 : Int32).toInt = 0 from by decide] at c1; exact c1
    refine lv_iconst (v := (-1)) hx hb dX10_front_20 (by decide) ?_
    exact ret (-1) () _ _ _ _ _ _ rfl trivial hP hD hS dX10_front_21 (Nat.le_refl _) (Nat.le_refl _)
  · skip
    have zc1 : ¬ (p1.toInt < 0) := by rw [fa_lt, show (0 : Int32).toInt = 0 from by decide] at c1; exact c1
    refine lv_iload_n hx hb dX10_front_4 rfl (lv_at hl 1 rfl) ?_
    refine lv_sipush (v := 999) hx hb dX10_front_5 (by decide) ?_
    refine lv_icmp_gt (tgt := 20) hx hb dX10_front_8 (by decide) (fun c2 => ?_) (fun c2 => ?_)
    · skip
      have zc2 : 999 < p1.toInt := by rw [fa_lt, show (999 : Int32).toInt = 999 from by decide] at c2; exact c2
      refine lv_iconst (v := (-1)) hx hb dX10_front_20 (by decide) ?_
      exact ret (-1) () _ _ _ _ _ _ rfl trivial hP hD hS dX10_front_21 (Nat.le_refl _) (Nat.le_refl _)
    · skip
      have zc2 : ¬ (999 < p1.toInt) := by rw [fa_lt, show (999 : Int32).toInt = 999 from by decide] at c2; exact c2
      refine lv_iload_n hx hb dX10_front_11 rfl (lv_at hl 2 rfl) ?_
      refine lv_if_lt (tgt := 20) hx hb dX10_front_12 (by decide) (fun c3 => ?_) (fun c3 => ?_)
      · skip
        have zc3 : p2.toInt < 0 := by rw [fa_lt, show (0 : Int32).toInt = 0 from by decide] at c3; exact c3
        refine lv_iconst (v := (-1)) hx hb dX10_front_20 (by decide) ?_
        exact ret (-1) () _ _ _ _ _ _ rfl trivial hP hD hS dX10_front_21 (Nat.le_refl _) (Nat.le_refl _)
      · skip
        have zc3 : ¬ (p2.toInt < 0) := by rw [fa_lt, show (0 : Int32).toInt = 0 from by decide] at c3; exact c3
        refine lv_iload_n hx hb dX10_front_15 rfl (lv_at hl 2 rfl) ?_
        refine lv_iconst (v := 1) hx hb dX10_front_16 (by decide) ?_
        refine lv_icmp_le (tgt := 22) hx hb dX10_front_17 (by decide) (fun c4 => ?_) (fun c4 => ?_)
        · skip
          have zc4 : p2.toInt ≤ 1 := by rw [fa_le, show (1 : Int32).toInt = 1 from by decide] at c4; exact c4
          refine lv_aload_n hx hb dX10_front_22 rfl (lv_at hl 0 rfl) ?_
          refine va_get (D := (dC, dI)) (ci := 10) (v := .ref (x 29)) (C := RX10) (T := TX10) (N := 10) hx hb hts inB_10 hown hE.1 hP 0 rfl rfl 6 (by decide) (hts _ k_497) (fun _ h9 => h9) rfl dX10_front_23 ?_
          refine lv_iload_n hx hb dX10_front_26 rfl (lv_at hl 1 rfl) ?_
          refine cbVi (n := 1) (rest := []) hx hb hml hown hts hE hP hD hS hA (sX_X2_frontOf_1 l dC dI cy x0 x p1 v f hIv ) k_1056 k_1057 k_1058 k_110 k_1059 (by decide +kernel) ⟨Nat.le_of_ble_eq_true rfl, Nat.le_of_ble_eq_true rfl⟩ 30 2 rfl rfl (rfl) hl.1 rfl (Nat.le_of_ble_eq_true rfl) dX10_front_27 (fun r5 u H locs hw hP hD hS => ?_)
          refine lv_istore_n (lv' := [(3, .int r5), (0, .ref x0), (1, .int p1), (2, .int p2)]) hx hb dX10_front_30 rfl hl (by decide) rfl (fun ls hl => ?_)
          refine lv_iload_n hx hb dX10_front_31 rfl (lv_at hl 3 rfl) ?_
          refine lv_iconst (v := 1) hx hb dX10_front_32 (by decide) ?_
          refine lv_icmp_eq (tgt := 41) hx hb dX10_front_33 (by decide) (fun c6 => ?_) (fun c6 => ?_)
          · skip
            have zc6 : p2.toInt = 1 := by rw [fa_eq, show (1 : Int32).toInt = 1 from by decide] at c6; exact c6
            refine lv_iload_n hx hb dX10_front_41 rfl (lv_at hl 0 rfl) ?_
            refine lv_goto (tgt := 49) hx hb dX10_front_42 (by decide) ?_
            exact ret r5 () _ _ _ _ _ _ rfl trivial hP hD hS dX10_front_49 (Nat.le_refl _) (Nat.le_refl _)
          · skip
            have zc6 : ¬ (p2.toInt = 1) := by rw [fa_eq, show (1 : Int32).toInt = 1 from by decide] at c6; exact c6
            refine lv_iload_n hx hb dX10_front_36 rfl (lv_at hl 0 rfl) ?_
            refine lv_iconst (v := (-1)) hx hb dX10_front_37 (by decide) ?_
            refine lv_icmp_ne (tgt := 45) hx hb dX10_front_38 (by decide) (fun c7 => ?_) (fun c7 => ?_)
            · skip
              have zc7 : ¬ (r5.toInt = (-1)) := by rw [fa_eq, show ((-1) : Int32).toInt = -1 from by decide] at c7; exact c7
              refine lv_iload_n hx hb dX10_front_45 rfl (lv_at hl 0 rfl) ?_
              refine cbSi (n := 1) (rest := []) hx hb hml hown hts hE hP hD hS hA (sX_J6_bitCount_0f7a4_1 l dC dI cy x0 x r5 v f hIv ) k_1071 k_1043 k_121 k_1044 (by decide +kernel) ⟨Nat.le_of_ble_eq_true rfl, Nat.le_of_ble_eq_true rfl⟩ (rfl) hl.1 rfl (Nat.le_of_ble_eq_true rfl) dX10_front_46 (fun r8 u H locs hw hP hD hS => ?_)
              exact ret r8 () _ _ _ _ _ _ rfl trivial hP hD hS dX10_front_49 (Nat.le_refl _) (Nat.le_refl _)
            · skip
              have zc7 : r5.toInt = (-1) := by rw [fa_eq, show ((-1) : Int32).toInt = -1 from by decide] at c7; exact c7
              refine lv_iload_n hx hb dX10_front_41 rfl (lv_at hl 0 rfl) ?_
              refine lv_goto (tgt := 49) hx hb dX10_front_42 (by decide) ?_
              exact ret r5 () _ _ _ _ _ _ rfl trivial hP hD hS dX10_front_49 (Nat.le_refl _) (Nat.le_refl _)
        · skip
          have zc4 : ¬ (p2.toInt ≤ 1) := by rw [fa_le, show (1 : Int32).toInt = 1 from by decide] at c4; exact c4
          refine lv_iconst (v := (-1)) hx hb dX10_front_20 (by decide) ?_
          exact ret (-1) () _ _ _ _ _ _ rfl trivial hP hD hS dX10_front_21 (Nat.le_refl _) (Nat.le_refl _)
set_option maxHeartbeats 4000000 in
set_option maxRecDepth 100000 in
theorem sX_J6_lowestOneBit_0f7a4_1 (l : Launch) (dC : Nat → ClassId) (dI : Nat → Nat → Nat) (cy : Nat → ClassId) (x0 : Nat) (x : Nat → Nat) (p0 : Int32) (v : Nat → Int32) (f : Nat → Nat → Int32) (hIv : XI v)  : ctI l (dC, dI) cy yJ6_lowestOneBit_0f7a4 cJ6_lowestOneBit_0f7a4 1 .int 1 60 0 0 Unit [.int p0] (XW cy x0 x v f) (fun r u => True) (fun u => XW cy x0 x v f) := by
  refine ctI_of (by decide) (Nat.le_of_ble_eq_true rfl) (fun p e s m below meth c A ls Q hx hb hml hts hown hE hP hD hA hl ret => ?_)
  have hown : s.vm.findClass RJ6 = some m.cls := hown
  have hS : va_S A s.heap s.heap [] := va_S.rf
  have hl : lv_has ls 1 [(0, .int p0)] := hl
  refine lv_iload_n hx hb dJ6_lowestOneBit_0f7a4_0 rfl (lv_at hl 0 rfl) ?_
  refine lv_iload_n hx hb dJ6_lowestOneBit_0f7a4_1 rfl (lv_at hl 0 rfl) ?_
  refine lv_ineg hx hb dJ6_lowestOneBit_0f7a4_2 ?_
  refine lv_topi (fun t1 et1 => ?_)
  refine lv_iand hx hb dJ6_lowestOneBit_0f7a4_3 ?_
  refine lv_topi (fun t2 et2 => ?_)
  exact ret t2 () _ _ _ _ _ _ rfl trivial hP hD hS dJ6_lowestOneBit_0f7a4_4 (Nat.le_refl _) (Nat.le_refl _)
set_option maxHeartbeats 4000000 in
set_option maxRecDepth 100000 in
theorem sX_X2_difference_1 (l : Launch) (dC : Nat → ClassId) (dI : Nat → Nat → Nat) (cy : Nat → ClassId) (x0 : Nat) (x : Nat → Nat) (p1 : Int32) (v : Nat → Int32) (f : Nat → Nat → Int32) (hIv : XI v)  : ctI l (dC, dI) cy yX2_difference cX2_difference 2 .int 4 127 0 0 Unit [.ref (x 29), .int p1] (XW cy x0 x v f) (fun r u => True) (fun u => XW cy x0 x v f) := by
  refine ctI_of (by decide) (Nat.le_of_ble_eq_true rfl) (fun p e s m below meth c A ls Q hx hb hml hts hown hE hP hD hA hl ret => ?_)
  have hown : s.vm.findClass RX2 = some m.cls := hown
  have hS : va_S A s.heap s.heap [] := va_S.rf
  have hl : lv_has ls 2 [(0, .ref (x 29)), (1, .int p1)] := hl
  refine lv_aload_n hx hb dX2_difference_0 rfl (lv_at hl 0 rfl) ?_
  refine lv_aload_n hx hb dX2_difference_1 rfl (lv_at hl 0 rfl) ?_
  refine va_get (D := (dC, dI)) (ci := 2) (v := .ref (x 21)) (C := RX2) (T := TX2) (N := 3) hx hb hts inB_2 hown hE.1 hP 30 rfl rfl 1 (by decide) (hts _ k_415) (fun _ h9 => h9) rfl dX2_difference_2 ?_
  refine cbVi (n := 0) (rest := [.ref (x 29)]) hx hb hml hown hts hE hP hD hS hA (sX_X1_wearers_1 l dC dI cy x0 x  v f hIv ) k_1060 k_1061 k_1062 k_106 k_1063 (by decide +kernel) ⟨Nat.le_of_ble_eq_true rfl, Nat.le_of_ble_eq_true rfl⟩ 22 1 rfl rfl (rfl) hl.1 rfl (Nat.le_of_ble_eq_true rfl) dX2_difference_5 (fun r1 u H locs hw hP hD hS => ?_)
  refine cbVi (n := 1) (rest := []) hx hb hml hown hts hE hP hD hS hA (sX_X2_wideTogether_1 l dC dI cy x0 x r1 v f hIv ) k_1065 k_1066 k_1067 k_110 k_1068 (by decide +kernel) ⟨Nat.le_of_ble_eq_true rfl, Nat.le_of_ble_eq_true rfl⟩ 30 2 rfl rfl (rfl) hl.1 rfl (Nat.le_of_ble_eq_true rfl) dX2_difference_8 (fun r2 u H locs hw hP hD hS => ?_)
  refine lv_iconst (v := 2) hx hb dX2_difference_11 (by decide) ?_
  refine lv_aload_n hx hb dX2_difference_12 rfl (lv_at hl 0 rfl) ?_
  refine lv_iload_n hx hb dX2_difference_13 rfl (lv_at hl 1 rfl) ?_
  refine cbVi (n := 1) (rest := [.int 2, .int r2]) hx hb hml hown hts hE hP hD hS hA (sX_X2_wideTogether_1 l dC dI cy x0 x p1 v f hIv ) k_1065 k_1066 k_1067 k_110 k_1068 (by decide +kernel) ⟨Nat.le_of_ble_eq_true rfl, Nat.le_of_ble_eq_true rfl⟩ 30 2 rfl rfl (rfl) hl.1 rfl (Nat.le_of_ble_eq_true rfl) dX2_difference_14 (fun r3 u H locs hw hP hD hS => ?_)
  refine lv_imul hx hb dX2_difference_17 ?_
  refine lv_topi (fun t4 et4 => ?_)
  refine lv_isub hx hb dX2_difference_18 ?_
  refine lv_topi (fun t5 et5 => ?_)
  refine va_mabs hx hb (by rw [hml]; exact hl.1.symm) hown (hts _ k_1091) (hts _ k_1018) (hts _ k_119) (hts _ k_1019) (Nat.le_of_ble_eq_true rfl) (Nat.le_of_ble_eq_true rfl) (Nat.le_of_ble_eq_true rfl) (Nat.le_of_ble_eq_true rfl) dX2_difference_19 ?_
  refine lv_topi (fun t6 et6 => ?_)
  exact ret t6 () _ _ _ _ _ _ rfl trivial hP hD hS dX2_difference_22 (Nat.le_refl _) (Nat.le_refl _)
set_option maxHeartbeats 4000000 in
set_option maxRecDepth 100000 in
theorem sX_X2_isEvener_1 (l : Launch) (dC : Nat → ClassId) (dI : Nat → Nat → Nat) (cy : Nat → ClassId) (x0 : Nat) (x : Nat → Nat) (p1 : Int32) (p2 : Int32) (v : Nat → Int32) (f : Nat → Nat → Int32) (hIv : XI v)  : ctI l (dC, dI) cy yX2_isEvener cX2_isEvener 4 .boolean 5 148 0 0 Unit [.ref (x 29), .int p1, .int p2] (XW cy x0 x v f) (fun r u => ((r = 1) ∨ (r = 0))) (fun u => XW cy x0 x v f) := by
  refine ctI_of (by decide) (Nat.le_of_ble_eq_true rfl) (fun p e s m below meth c A ls Q hx hb hml hts hown hE hP hD hA hl ret => ?_)
  have hown : s.vm.findClass RX2 = some m.cls := hown
  have hS : va_S A s.heap s.heap [] := va_S.rf
  have hl : lv_has ls 4 [(0, .ref (x 29)), (1, .int p1), (2, .int p2)] := hl
  refine lv_aload_n hx hb dX2_isEvener_0 rfl (lv_at hl 0 rfl) ?_
  refine lv_iload_n hx hb dX2_isEvener_1 rfl (lv_at hl 1 rfl) ?_
  refine cbVi (n := 1) (rest := []) hx hb hml hown hts hE hP hD hS hA (sX_X2_difference_1 l dC dI cy x0 x p1 v f hIv ) k_1087 k_1088 k_1089 k_110 k_1090 (by decide +kernel) ⟨Nat.le_of_ble_eq_true rfl, Nat.le_of_ble_eq_true rfl⟩ 30 2 rfl rfl (rfl) hl.1 rfl (Nat.le_of_ble_eq_true rfl) dX2_isEvener_2 (fun r1 u H locs hw hP hD hS => ?_)
  refine lv_aload_n hx hb dX2_isEvener_5 rfl (lv_at hl 0 rfl) ?_
  refine lv_iload_n hx hb dX2_isEvener_6 rfl (lv_at hl 2 rfl) ?_
  refine cbVi (n := 1) (rest := [.int r1]) hx hb hml hown hts hE hP hD hS hA (sX_X2_difference_1 l dC dI cy x0 x p2 v f hIv ) k_1087 k_1088 k_1089 k_110 k_1090 (by decide +kernel) ⟨Nat.le_of_ble_eq_true rfl, Nat.le_of_ble_eq_true rfl⟩ 30 2 rfl rfl (rfl) hl.1 rfl (Nat.le_of_ble_eq_true rfl) dX2_isEvener_7 (fun r2 u H locs hw hP hD hS => ?_)
  refine lv_isub hx hb dX2_isEvener_10 ?_
  refine lv_topi (fun t3 et3 => ?_)
  refine lv_istore_n (lv' := [(3, .int t3), (0, .ref (x 29)), (1, .int p1), (2, .int p2)]) hx hb dX2_isEvener_11 rfl hl (by decide) rfl (fun ls hl => ?_)
  refine lv_iload_n hx hb dX2_isEvener_12 rfl (lv_at hl 0 rfl) ?_
  refine lv_if_lt (tgt := 25) hx hb dX2_isEvener_13 (by decide) (fun c4 => ?_) (fun c4 => ?_)
  · skip
    have zc4 : t3.toInt < 0 := by rw [fa_lt, show (0 : Int32).toInt = 0 from by decide] at c4; exact c4
    refine lv_iconst (v := 1) hx hb dX2_isEvener_25 (by decide) ?_
    refine lv_goto (tgt := 30) hx hb dX2_isEvener_26 (by decide) ?_
    exact ret 1 () _ _ _ _ _ _ rfl (Or.inl rfl) hP hD hS dX2_isEvener_30 (Nat.le_refl _) (Nat.le_refl _)
  · skip
    have zc4 : ¬ (t3.toInt < 0) := by rw [fa_lt, show (0 : Int32).toInt = 0 from by decide] at c4; exact c4
    refine lv_iload_n hx hb dX2_isEvener_16 rfl (lv_at hl 0 rfl) ?_
    refine lv_if_ne (tgt := 29) hx hb dX2_isEvener_17 (by decide) (fun c5 => ?_) (fun c5 => ?_)
    · skip
      have zc5 : ¬ (t3.toInt = 0) := by rw [fa_eq, show (0 : Int32).toInt = 0 from by decide] at c5; exact c5
      refine lv_iconst (v := 0) hx hb dX2_isEvener_29 (by decide) ?_
      exact ret 0 () _ _ _ _ _ _ rfl (Or.inr rfl) hP hD hS dX2_isEvener_30 (Nat.le_refl _) (Nat.le_refl _)
    · skip
      have zc5 : t3.toInt = 0 := by rw [fa_eq, show (0 : Int32).toInt = 0 from by decide] at c5; exact c5
      refine lv_iload_n hx hb dX2_isEvener_20 rfl (lv_at hl 2 rfl) ?_
      refine lv_iload_n hx hb dX2_isEvener_21 rfl (lv_at hl 3 rfl) ?_
      refine lv_icmp_ge (tgt := 29) hx hb dX2_isEvener_22 (by decide) (fun c6 => ?_) (fun c6 => ?_)
      · skip
        have zc6 : p2.toInt ≤ p1.toInt := by rw [fa_le] at c6; exact c6
        have rg7 := fb_rng p1
        have rg8 := fb_rng p2
        refine lv_iconst (v := 0) hx hb dX2_isEvener_29 (by decide) ?_
        exact ret 0 () _ _ _ _ _ _ rfl (Or.inr rfl) hP hD hS dX2_isEvener_30 (Nat.le_refl _) (Nat.le_refl _)
      · skip
        have zc6 : ¬ (p2.toInt ≤ p1.toInt) := by rw [fa_le] at c6; exact c6
        have rg9 := fb_rng p1
        have rg10 := fb_rng p2
        refine lv_iconst (v := 1) hx hb dX2_isEvener_25 (by decide) ?_
        refine lv_goto (tgt := 30) hx hb dX2_isEvener_26 (by decide) ?_
        exact ret 1 () _ _ _ _ _ _ rfl (Or.inl rfl) hP hD hS dX2_isEvener_30 (Nat.le_refl _) (Nat.le_refl _)
set_option maxHeartbeats 4000000 in
set_option maxRecDepth 100000 in
theorem sX_X2_leftWing_1 (l : Launch) (dC : Nat → ClassId) (dI : Nat → Nat → Nat) (cy : Nat → ClassId) (x0 : Nat) (x : Nat → Nat)  (v : Nat → Int32) (f : Nat → Nat → Int32) (hIv : XI v)  : ctI l (dC, dI) cy yX2_leftWing cX2_leftWing 6 .int 6 171 0 0 Unit [.ref (x 29)] (XW cy x0 x v f) (fun r u => True) (fun u => XW cy x0 x v f) := by
  refine ctI_of (by decide) (Nat.le_of_ble_eq_true rfl) (fun p e s m below meth c A ls Q hx hb hml hts hown hE hP hD hA hl ret => ?_)
  have hown : s.vm.findClass RX2 = some m.cls := hown
  have hS : va_S A s.heap s.heap [] := va_S.rf
  have hl : lv_has ls 6 [(0, .ref (x 29))] := hl
  refine lv_aload_n hx hb dX2_leftWing_0 rfl (lv_at hl 0 rfl) ?_
  refine va_get (D := (dC, dI)) (ci := 2) (v := .ref (x 21)) (C := RX2) (T := TX2) (N := 3) hx hb hts inB_2 hown hE.1 hP 30 rfl rfl 1 (by decide) (hts _ k_415) (fun _ h9 => h9) rfl dX2_leftWing_1 ?_
  refine cbVi (n := 0) (rest := []) hx hb hml hown hts hE hP hD hS hA (sX_X1_wearers_1 l dC dI cy x0 x  v f hIv ) k_1060 k_1061 k_1062 k_106 k_1063 (by decide +kernel) ⟨Nat.le_of_ble_eq_true rfl, Nat.le_of_ble_eq_true rfl⟩ 22 1 rfl rfl (rfl) hl.1 rfl (Nat.le_of_ble_eq_true rfl) dX2_leftWing_4 (fun r1 u H locs hw hP hD hS => ?_)
  refine lv_istore_n (lv' := [(1, .int r1), (0, .ref (x 29))]) hx hb dX2_leftWing_7 rfl hl (by decide) rfl (fun ls hl => ?_)
  refine lv_iload_n hx hb dX2_leftWing_8 rfl (lv_at hl 0 rfl) ?_
  refine cbSi (n := 1) (rest := []) hx hb hml hown hts hE hP hD hS hA (sX_J6_lowestOneBit_0f7a4_1 l dC dI cy x0 x r1 v f hIv ) k_1080 k_1081 k_121 k_1082 (by decide +kernel) ⟨Nat.le_of_ble_eq_true rfl, Nat.le_of_ble_eq_true rfl⟩ (rfl) hl.1 rfl (Nat.le_of_ble_eq_true rfl) dX2_leftWing_9 (fun r2 u H locs hw hP hD hS => ?_)
  refine lv_istore_n (lv' := [(2, .int r2), (1, .int r1), (0, .ref (x 29))]) hx hb dX2_leftWing_12 rfl hl (by decide) rfl (fun ls hl => ?_)
  refine lv_iload_n hx hb dX2_leftWing_13 rfl (lv_at hl 1 rfl) ?_
  refine lv_istore_n (lv' := [(3, .int r1), (2, .int r2), (1, .int r1), (0, .ref (x 29))]) hx hb dX2_leftWing_14 rfl hl (by decide) rfl (fun ls hl => ?_)
  refine lv_iconst (v := 0) hx hb dX2_leftWing_15 (by decide) ?_
  refine lv_istore (lv' := [(4, .int 0), (3, .int r1), (2, .int r2), (1, .int r1), (0, .ref (x 29))]) hx hb dX2_leftWing_16 hl (by decide) rfl (fun ls hl => ?_)
  have lp3 : ∀ (n3 : Nat) (l3_3 : Int32) (l4_3 : Int32), ((0 : Int) ≤ l4_3.toInt ∧ l4_3.toInt ≤ 2147483647) → (2147483647 - l4_3.toInt).toNat < n3 → ∀ (H : Heap) (locs : List Loc) (ls : Array Slot), va_P (dC, dI) vwCl (XW cy x0 x v f) H → va_D A (XW cy x0 x v f) → va_S A s.heap H locs → lv_has ls 6 [(4, .int l4_3), (3, .int l3_3), (2, .int r2), (1, .int r1), (0, .ref (x 29))] → W p l e { frames := 6, cells := 0, slots := 0, locals := 171 } s m ([.ref (x 29)] : List Value).toArray below meth c H locs 0 0 Q (F0 m 18 ls []) := by
    intro n3
    induction n3 with
    | zero => intro l3_3 l4_3 hr4_3 hm; exact absurd hm (Nat.not_lt_zero _)
    | succ n3 ih3 =>
      intro l3_3 l4_3 hr4_3 hm3 H locs ls hP hD hS hl
      refine lv_iload hx hb dX2_leftWing_18 (lv_at hl 0 rfl) ?_
      refine lv_bipush (v := 64) hx hb dX2_leftWing_20 (by decide) ?_
      refine lv_icmp_ge (tgt := 73) hx hb dX2_leftWing_22 (by decide) (fun c4 => ?_) (fun c4 => ?_)
      · skip
        have zc4 : 64 ≤ l4_3.toInt := by rw [fa_le, show (64 : Int32).toInt = 64 from by decide] at c4; exact c4
        refine lv_iload_n hx hb dX2_leftWing_73 rfl (lv_at hl 1 rfl) ?_
        exact ret l3_3 () _ _ _ _ _ _ rfl trivial hP hD hS dX2_leftWing_74 (Nat.le_refl _) (Nat.le_refl _)
      · skip
        have zc4 : ¬ (64 ≤ l4_3.toInt) := by rw [fa_le, show (64 : Int32).toInt = 64 from by decide] at c4; exact c4
        refine lv_iload hx hb dX2_leftWing_25 (lv_at hl 0 rfl) ?_
        refine lv_iload_n hx hb dX2_leftWing_27 rfl (lv_at hl 3 rfl) ?_
        refine lv_iconst (v := (-1)) hx hb dX2_leftWing_28 (by decide) ?_
        refine lv_ixor hx hb dX2_leftWing_29 ?_
        refine lv_topi (fun t5 et5 => ?_)
        refine lv_iand hx hb dX2_leftWing_30 ?_
        refine lv_topi (fun t6 et6 => ?_)
        refine lv_if_ne (tgt := 46) hx hb dX2_leftWing_31 (by decide) (fun c7 => ?_) (fun c7 => ?_)
        · skip
          have zc7 : ¬ (t6.toInt = 0) := by rw [fa_eq, show (0 : Int32).toInt = 0 from by decide] at c7; exact c7
          refine lv_iconst (v := 0) hx hb dX2_leftWing_46 (by decide) ?_
          refine lv_istore (lv' := [(5, .int 0), (4, .int l4_3), (3, .int l3_3), (2, .int r2), (1, .int r1), (0, .ref (x 29))]) hx hb dX2_leftWing_47 hl (by decide) rfl (fun ls hl => ?_)
          refine lv_iload hx hb dX2_leftWing_49 (lv_at hl 0 rfl) ?_
          refine lv_if_eq (tgt := 67) hx hb dX2_leftWing_51 (by decide) (fun _ => ?_) (fun c0 => absurd (by decide) c0)
          obtain ⟨t8, et8⟩ : ∃ y : Int32, y = l4_3 + 1 := ⟨_, rfl⟩
          have rg9 := fb_rng l4_3
          have zt8 : t8.toInt = l4_3.toInt + 1 := by rw [et8]; exact add_i rfl (by decide) (by omega) (by omega)
          refine lv_iinc (v := t8) (lv' := [(4, .int t8), (5, .int 0), (3, .int l3_3), (2, .int r2), (1, .int r1), (0, .ref (x 29))]) hx hb dX2_leftWing_67 hl (k := 1) rfl (by rw [et8]; rfl) (by decide) rfl (fun ls hl => ?_)
          refine lv_goto (tgt := 18) hx hb dX2_leftWing_70 (by decide) ?_
          have rg10 := fb_rng t8
          exact ih3 l3_3 t8 ⟨show (0 : Int) ≤ t8.toInt by omega, show t8.toInt ≤ (2147483647 : Int) by omega⟩ (by show (2147483647 - t8.toInt).toNat < n3; omega) _ _ _ hP hD hS (lv_sub hl [0, 2, 3, 4, 5] rfl)
        · skip
          have zc7 : t6.toInt = 0 := by rw [fa_eq, show (0 : Int32).toInt = 0 from by decide] at c7; exact c7
          refine lv_iload hx hb dX2_leftWing_34 (lv_at hl 0 rfl) ?_
          refine lv_iload_n hx hb dX2_leftWing_36 rfl (lv_at hl 2 rfl) ?_
          refine lv_iand hx hb dX2_leftWing_37 ?_
          refine lv_topi (fun t11 et11 => ?_)
          refine lv_iload_n hx hb dX2_leftWing_38 rfl (lv_at hl 2 rfl) ?_
          refine lv_icmp_ne (tgt := 46) hx hb dX2_leftWing_39 (by decide) (fun c12 => ?_) (fun c12 => ?_)
          · skip
            have zc12 : ¬ (t11.toInt = r2.toInt) := by rw [fa_eq] at c12; exact c12
            have rg13 := fb_rng t11
            have rg14 := fb_rng r2
            refine lv_iconst (v := 0) hx hb dX2_leftWing_46 (by decide) ?_
            refine lv_istore (lv' := [(5, .int 0), (4, .int l4_3), (3, .int l3_3), (2, .int r2), (1, .int r1), (0, .ref (x 29))]) hx hb dX2_leftWing_47 hl (by decide) rfl (fun ls hl => ?_)
            refine lv_iload hx hb dX2_leftWing_49 (lv_at hl 0 rfl) ?_
            refine lv_if_eq (tgt := 67) hx hb dX2_leftWing_51 (by decide) (fun _ => ?_) (fun c0 => absurd (by decide) c0)
            obtain ⟨t15, et15⟩ : ∃ y : Int32, y = l4_3 + 1 := ⟨_, rfl⟩
            have rg16 := fb_rng l4_3
            have zt15 : t15.toInt = l4_3.toInt + 1 := by rw [et15]; exact add_i rfl (by decide) (by omega) (by omega)
            refine lv_iinc (v := t15) (lv' := [(4, .int t15), (5, .int 0), (3, .int l3_3), (2, .int r2), (1, .int r1), (0, .ref (x 29))]) hx hb dX2_leftWing_67 hl (k := 1) rfl (by rw [et15]; rfl) (by decide) rfl (fun ls hl => ?_)
            refine lv_goto (tgt := 18) hx hb dX2_leftWing_70 (by decide) ?_
            have rg17 := fb_rng t15
            exact ih3 l3_3 t15 ⟨show (0 : Int) ≤ t15.toInt by omega, show t15.toInt ≤ (2147483647 : Int) by omega⟩ (by show (2147483647 - t15.toInt).toNat < n3; omega) _ _ _ hP hD hS (lv_sub hl [0, 2, 3, 4, 5] rfl)
          · skip
            have zc12 : t11.toInt = r2.toInt := by rw [fa_eq] at c12; exact c12
            have rg18 := fb_rng t11
            have rg19 := fb_rng r2
            refine lv_iconst (v := 1) hx hb dX2_leftWing_42 (by decide) ?_
            refine lv_goto (tgt := 47) hx hb dX2_leftWing_43 (by decide) ?_
            refine lv_istore (lv' := [(5, .int 1), (4, .int l4_3), (3, .int l3_3), (2, .int r2), (1, .int r1), (0, .ref (x 29))]) hx hb dX2_leftWing_47 hl (by decide) rfl (fun ls hl => ?_)
            refine lv_iload hx hb dX2_leftWing_49 (lv_at hl 0 rfl) ?_
            refine lv_if_eq (tgt := 67) hx hb dX2_leftWing_51 (by decide) (fun c0 => absurd c0 (by decide)) (fun _ => ?_)
            refine lv_aload_n hx hb dX2_leftWing_54 rfl (lv_at hl 5 rfl) ?_
            refine lv_iload hx hb dX2_leftWing_55 (lv_at hl 1 rfl) ?_
            refine lv_iload_n hx hb dX2_leftWing_57 rfl (lv_at hl 2 rfl) ?_
            refine cbVi (n := 2) (rest := []) hx hb hml hown hts hE hP hD hS hA (sX_X2_isEvener_1 l dC dI cy x0 x l4_3 l3_3 v f hIv ) k_1083 k_1085 k_30 k_110 k_1086 (by decide +kernel) ⟨Nat.le_of_ble_eq_true rfl, Nat.le_of_ble_eq_true rfl⟩ 30 2 rfl rfl (rfl) hl.1 rfl (Nat.le_of_ble_eq_true rfl) dX2_leftWing_58 (fun r20 u H locs hw hP hD hS => ?_)
            rcases hw with ⟨g21⟩ | ⟨g21⟩
            · skip
              subst g21
              refine lv_if_eq (tgt := 67) hx hb dX2_leftWing_61 (by decide) (fun c0 => absurd c0 (by decide)) (fun _ => ?_)
              refine lv_iload hx hb dX2_leftWing_64 (lv_at hl 1 rfl) ?_
              refine lv_istore_n (lv' := [(3, .int l4_3), (5, .int 1), (4, .int l4_3), (2, .int r2), (1, .int r1), (0, .ref (x 29))]) hx hb dX2_leftWing_66 rfl hl (by decide) rfl (fun ls hl => ?_)
              obtain ⟨t22, et22⟩ : ∃ y : Int32, y = l4_3 + 1 := ⟨_, rfl⟩
              have rg23 := fb_rng l4_3
              have zt22 : t22.toInt = l4_3.toInt + 1 := by rw [et22]; exact add_i rfl (by decide) (by omega) (by omega)
              refine lv_iinc (v := t22) (lv' := [(4, .int t22), (3, .int l4_3), (5, .int 1), (2, .int r2), (1, .int r1), (0, .ref (x 29))]) hx hb dX2_leftWing_67 hl (k := 2) rfl (by rw [et22]; rfl) (by decide) rfl (fun ls hl => ?_)
              refine lv_goto (tgt := 18) hx hb dX2_leftWing_70 (by decide) ?_
              have rg24 := fb_rng t22
              exact ih3 l4_3 t22 ⟨show (0 : Int) ≤ t22.toInt by omega, show t22.toInt ≤ (2147483647 : Int) by omega⟩ (by show (2147483647 - t22.toInt).toNat < n3; omega) _ _ _ hP hD hS (lv_sub hl [0, 1, 3, 4, 5] rfl)
            · skip
              subst g21
              refine lv_if_eq (tgt := 67) hx hb dX2_leftWing_61 (by decide) (fun _ => ?_) (fun c0 => absurd (by decide) c0)
              obtain ⟨t25, et25⟩ : ∃ y : Int32, y = l4_3 + 1 := ⟨_, rfl⟩
              have rg26 := fb_rng l4_3
              have zt25 : t25.toInt = l4_3.toInt + 1 := by rw [et25]; exact add_i rfl (by decide) (by omega) (by omega)
              refine lv_iinc (v := t25) (lv' := [(4, .int t25), (5, .int 1), (3, .int l3_3), (2, .int r2), (1, .int r1), (0, .ref (x 29))]) hx hb dX2_leftWing_67 hl (k := 1) rfl (by rw [et25]; rfl) (by decide) rfl (fun ls hl => ?_)
              refine lv_goto (tgt := 18) hx hb dX2_leftWing_70 (by decide) ?_
              have rg27 := fb_rng t25
              exact ih3 l3_3 t25 ⟨show (0 : Int) ≤ t25.toInt by omega, show t25.toInt ≤ (2147483647 : Int) by omega⟩ (by show (2147483647 - t25.toInt).toNat < n3; omega) _ _ _ hP hD hS (lv_sub hl [0, 2, 3, 4, 5] rfl)
  exact lp3 _ r1 0 ⟨by decide, by decide⟩ (Nat.lt_succ_self _) _ _ _ hP hD hS (lv_sub hl [0, 1, 2, 3, 4] rfl)
set_option maxHeartbeats 4000000 in
set_option maxRecDepth 100000 in
theorem sX_X10_wings_1 (l : Launch) (dC : Nat → ClassId) (dI : Nat → Nat → Nat) (cy : Nat → ClassId) (x0 : Nat) (x : Nat → Nat) (p1 : Int32) (v : Nat → Int32) (f : Nat → Nat → Int32) (hIv : XI v)  : ctI l (dC, dI) cy yX10_wings cX10_wings 3 .int 7 196 0 0 Unit [.ref x0, .int p1] (XW cy x0 x v f) (fun r u => True) (fun u => XW cy x0 x v f) := by
  refine ctI_of (by decide) (Nat.le_of_ble_eq_true rfl) (fun p e s m below meth c A ls Q hx hb hml hts hown hE hP hD hA hl ret => ?_)
  have hown : s.vm.findClass RX10 = some m.cls := hown
  have hS : va_S A s.heap s.heap [] := va_S.rf
  have hl : lv_has ls 3 [(0, .ref x0), (1, .int p1)] := hl
  refine lv_iload_n hx hb dX10_wings_0 rfl (lv_at hl 1 rfl) ?_
  refine lv_if_lt (tgt := 9) hx hb dX10_wings_1 (by decide) (fun c1 => ?_) (fun c1 => ?_)
  · skip
    have zc1 : p1.toInt < 0 := by rw [fa_lt, show (0 : Int32).toInt = 0 from by decide] at c1; exact c1
    refine lv_iconst (v := (-1)) hx hb dX10_wings_9 (by decide) ?_
    exact ret (-1) () _ _ _ _ _ _ rfl trivial hP hD hS dX10_wings_10 (Nat.le_refl _) (Nat.le_refl _)
  · skip
    have zc1 : ¬ (p1.toInt < 0) := by rw [fa_lt, show (0 : Int32).toInt = 0 from by decide] at c1; exact c1
    refine lv_iload_n hx hb dX10_wings_4 rfl (lv_at hl 1 rfl) ?_
    refine lv_iconst (v := 1) hx hb dX10_wings_5 (by decide) ?_
    refine lv_icmp_le (tgt := 11) hx hb dX10_wings_6 (by decide) (fun c2 => ?_) (fun c2 => ?_)
    · skip
      have zc2 : p1.toInt ≤ 1 := by rw [fa_le, show (1 : Int32).toInt = 1 from by decide] at c2; exact c2
      refine lv_aload_n hx hb dX10_wings_11 rfl (lv_at hl 0 rfl) ?_
      refine va_get (D := (dC, dI)) (ci := 10) (v := .ref (x 29)) (C := RX10) (T := TX10) (N := 10) hx hb hts inB_10 hown hE.1 hP 0 rfl rfl 6 (by decide) (hts _ k_497) (fun _ h9 => h9) rfl dX10_wings_12 ?_
      refine cbVi (n := 0) (rest := []) hx hb hml hown hts hE hP hD hS hA (sX_X2_leftWing_1 l dC dI cy x0 x  v f hIv ) k_1076 k_1077 k_1078 k_110 k_1079 (by decide +kernel) ⟨Nat.le_of_ble_eq_true rfl, Nat.le_of_ble_eq_true rfl⟩ 30 2 rfl rfl (rfl) hl.1 rfl (Nat.le_of_ble_eq_true rfl) dX10_wings_15 (fun r3 u H locs hw hP hD hS => ?_)
      refine lv_istore_n (lv' := [(2, .int r3), (0, .ref x0), (1, .int p1)]) hx hb dX10_wings_18 rfl hl (by decide) rfl (fun ls hl => ?_)
      refine lv_iload_n hx hb dX10_wings_19 rfl (lv_at hl 2 rfl) ?_
      refine lv_iconst (v := 1) hx hb dX10_wings_20 (by decide) ?_
      refine lv_icmp_ne (tgt := 28) hx hb dX10_wings_21 (by decide) (fun c4 => ?_) (fun c4 => ?_)
      · skip
        have zc4 : ¬ (p1.toInt = 1) := by rw [fa_eq, show (1 : Int32).toInt = 1 from by decide] at c4; exact c4
        refine lv_aload_n hx hb dX10_wings_28 rfl (lv_at hl 1 rfl) ?_
        refine va_get (D := (dC, dI)) (ci := 10) (v := .ref (x 29)) (C := RX10) (T := TX10) (N := 10) hx hb hts inB_10 hown hE.1 hP 0 rfl rfl 6 (by decide) (hts _ k_497) (fun _ h9 => h9) rfl dX10_wings_29 ?_
        refine lv_iload_n hx hb dX10_wings_32 rfl (lv_at hl 0 rfl) ?_
        refine cbVi (n := 1) (rest := []) hx hb hml hown hts hE hP hD hS hA (sX_X2_difference_1 l dC dI cy x0 x r3 v f hIv ) k_1092 k_1088 k_1089 k_110 k_1090 (by decide +kernel) ⟨Nat.le_of_ble_eq_true rfl, Nat.le_of_ble_eq_true rfl⟩ 30 2 rfl rfl (rfl) hl.1 rfl (Nat.le_of_ble_eq_true rfl) dX10_wings_33 (fun r5 u H locs hw hP hD hS => ?_)
        exact ret r5 () _ _ _ _ _ _ rfl trivial hP hD hS dX10_wings_36 (Nat.le_refl _) (Nat.le_refl _)
      · skip
        have zc4 : p1.toInt = 1 := by rw [fa_eq, show (1 : Int32).toInt = 1 from by decide] at c4; exact c4
        refine lv_iload_n hx hb dX10_wings_24 rfl (lv_at hl 0 rfl) ?_
        refine lv_goto (tgt := 36) hx hb dX10_wings_25 (by decide) ?_
        exact ret r3 () _ _ _ _ _ _ rfl trivial hP hD hS dX10_wings_36 (Nat.le_refl _) (Nat.le_refl _)
    · skip
      have zc2 : ¬ (p1.toInt ≤ 1) := by rw [fa_le, show (1 : Int32).toInt = 1 from by decide] at c2; exact c2
      refine lv_iconst (v := (-1)) hx hb dX10_wings_9 (by decide) ?_
      exact ret (-1) () _ _ _ _ _ _ rfl trivial hP hD hS dX10_wings_10 (Nat.le_refl _) (Nat.le_refl _)
set_option maxHeartbeats 4000000 in
set_option maxRecDepth 100000 in
theorem sX_X2_rowLength_1 (l : Launch) (dC : Nat → ClassId) (dI : Nat → Nat → Nat) (cy : Nat → ClassId) (x0 : Nat) (x : Nat → Nat) (p1 : Int32) (v : Nat → Int32) (f : Nat → Nat → Int32) (hIv : XI v)  : ctI l (dC, dI) cy yX2_rowLength cX2_rowLength 5 .int 3 104 0 0 Unit [.ref (x 29), .int p1] (XW cy x0 x v f) (fun r u => True) (fun u => XW cy x0 x v f) := by
  refine ctI_of (by decide) (Nat.le_of_ble_eq_true rfl) (fun p e s m below meth c A ls Q hx hb hml hts hown hE hP hD hA hl ret => ?_)
  have hown : s.vm.findClass RX2 = some m.cls := hown
  have hS : va_S A s.heap s.heap [] := va_S.rf
  have hl : lv_has ls 5 [(0, .ref (x 29)), (1, .int p1)] := hl
  refine lv_iconst (v := 0) hx hb dX2_rowLength_0 (by decide) ?_
  refine lv_istore_n (lv' := [(2, .int 0), (0, .ref (x 29)), (1, .int p1)]) hx hb dX2_rowLength_1 rfl hl (by decide) rfl (fun ls hl => ?_)
  refine lv_iconst (v := 0) hx hb dX2_rowLength_2 (by decide) ?_
  refine lv_istore_n (lv' := [(3, .int 0), (2, .int 0), (0, .ref (x 29)), (1, .int p1)]) hx hb dX2_rowLength_3 rfl hl (by decide) rfl (fun ls hl => ?_)
  refine lv_iconst (v := 0) hx hb dX2_rowLength_4 (by decide) ?_
  refine lv_istore (lv' := [(4, .int 0), (3, .int 0), (2, .int 0), (0, .ref (x 29)), (1, .int p1)]) hx hb dX2_rowLength_5 hl (by decide) rfl (fun ls hl => ?_)
  have lp1 : ∀ (n1 : Nat) (l2_1 : Int32) (l3_1 : Int32) (l4_1 : Int32), ((0 : Int) ≤ l4_1.toInt ∧ l4_1.toInt ≤ 2147483647) → (2147483647 - l4_1.toInt).toNat < n1 → ∀ (H : Heap) (locs : List Loc) (ls : Array Slot), va_P (dC, dI) vwCl (XW cy x0 x v f) H → va_D A (XW cy x0 x v f) → va_S A s.heap H locs → lv_has ls 5 [(4, .int l4_1), (3, .int l3_1), (2, .int l2_1), (0, .ref (x 29)), (1, .int p1)] → W p l e { frames := 3, cells := 0, slots := 0, locals := 104 } s m ([.ref (x 29), .int p1] : List Value).toArray below meth c H locs 0 0 Q (F0 m 7 ls []) := by
    intro n1
    induction n1 with
    | zero => intro l2_1 l3_1 l4_1 hr4_1 hm; exact absurd hm (Nat.not_lt_zero _)
    | succ n1 ih1 =>
      intro l2_1 l3_1 l4_1 hr4_1 hm1 H locs ls hP hD hS hl
      refine lv_iload hx hb dX2_rowLength_7 (lv_at hl 0 rfl) ?_
      refine lv_aload_n hx hb dX2_rowLength_9 rfl (lv_at hl 3 rfl) ?_
      refine va_get (D := (dC, dI)) (ci := 2) (v := .ref (x 26)) (C := RX2) (T := TX2) (N := 3) hx hb hts inB_2 hown hE.1 hP 30 rfl rfl 0 (by decide) (hts _ k_414) (fun _ h9 => h9) rfl dX2_rowLength_10 ?_
      refine va_getN (D := (dC, dI)) (ci := 7) (v := .int (v 32)) (C := RX7) (T := TX7) (N := 10) hx hb hts inB_7 hown hE.1 hP 27 rfl rfl 4 (by decide) (va_Nw.use rfl (hE.2 _ k_223)) (fun _ h9 => h9) rfl dX2_rowLength_13 ?_
      have b32_v : 0 ≤ (v 32).toInt ∧ (v 32).toInt ≤ 6 := XI.b hIv 32 (by decide)
      refine lv_icmp_ge (tgt := 62) hx hb dX2_rowLength_16 (by decide) (fun c2 => ?_) (fun c2 => ?_)
      · skip
        have zc2 : (v 32).toInt ≤ l4_1.toInt := by rw [fa_le] at c2; exact c2
        have rg3 := fb_rng l4_1
        have rg4 := fb_rng (v 32)
        refine lv_iload_n hx hb dX2_rowLength_62 rfl (lv_at hl 2 rfl) ?_
        refine lv_aload_n hx hb dX2_rowLength_63 rfl (lv_at hl 3 rfl) ?_
        refine va_get (D := (dC, dI)) (ci := 2) (v := .ref (x 26)) (C := RX2) (T := TX2) (N := 3) hx hb hts inB_2 hown hE.1 hP 30 rfl rfl 0 (by decide) (hts _ k_414) (fun _ h9 => h9) rfl dX2_rowLength_64 ?_
        refine va_getN (D := (dC, dI)) (ci := 7) (v := .int (v 34)) (C := RX7) (T := TX7) (N := 10) hx hb hts inB_7 hown hE.1 hP 27 rfl rfl 6 (by decide) (va_Nw.use rfl (hE.2 _ k_235)) (fun _ h9 => h9) rfl dX2_rowLength_67 ?_
        refine lv_icmp_le (tgt := 77) hx hb dX2_rowLength_70 (by decide) (fun c5 => ?_) (fun c5 => ?_)
        · skip
          have zc5 : l2_1.toInt ≤ (v 34).toInt := by rw [fa_le] at c5; exact c5
          have rg6 := fb_rng l2_1
          have rg7 := fb_rng (v 34)
          refine lv_iload_n hx hb dX2_rowLength_77 rfl (lv_at hl 1 rfl) ?_
          exact ret l3_1 () _ _ _ _ _ _ rfl trivial hP hD hS dX2_rowLength_78 (Nat.le_refl _) (Nat.le_refl _)
        · skip
          have zc5 : ¬ (l2_1.toInt ≤ (v 34).toInt) := by rw [fa_le] at c5; exact c5
          have rg8 := fb_rng l2_1
          have rg9 := fb_rng (v 34)
          refine lv_iconst (v := (-1)) hx hb dX2_rowLength_73 (by decide) ?_
          refine lv_goto (tgt := 78) hx hb dX2_rowLength_74 (by decide) ?_
          exact ret (-1) () _ _ _ _ _ _ rfl trivial hP hD hS dX2_rowLength_78 (Nat.le_refl _) (Nat.le_refl _)
      · skip
        have zc2 : ¬ ((v 32).toInt ≤ l4_1.toInt) := by rw [fa_le] at c2; exact c2
        have rg10 := fb_rng l4_1
        have rg11 := fb_rng (v 32)
        refine lv_iload_n hx hb dX2_rowLength_19 rfl (lv_at hl 4 rfl) ?_
        refine lv_iload hx hb dX2_rowLength_20 (lv_at hl 0 rfl) ?_
        refine lv_ishr hx hb dX2_rowLength_22 ?_
        refine lv_topi (fun t12 et12 => ?_)
        refine lv_iconst (v := 1) hx hb dX2_rowLength_23 (by decide) ?_
        refine lv_iand hx hb dX2_rowLength_24 ?_
        refine lv_topi (fun t13 et13 => ?_)
        have zt13 : 0 ≤ t13.toInt ∧ t13.toInt < 2 := by rw [et13]; exact and_rng _ (k := 1) (by decide) (by decide)
        refine lv_if_eq (tgt := 56) hx hb dX2_rowLength_25 (by decide) (fun c14 => ?_) (fun c14 => ?_)
        · skip
          have zc14 : t13.toInt = 0 := by rw [fa_eq, show (0 : Int32).toInt = 0 from by decide] at c14; exact c14
          obtain ⟨t15, et15⟩ : ∃ y : Int32, y = l4_1 + 1 := ⟨_, rfl⟩
          have zt15 : t15.toInt = l4_1.toInt + 1 := by rw [et15]; exact add_i rfl (by decide) (by omega) (by omega)
          refine lv_iinc (v := t15) (lv' := [(4, .int t15), (3, .int l3_1), (2, .int l2_1), (0, .ref (x 29)), (1, .int p1)]) hx hb dX2_rowLength_56 hl (k := 0) rfl (by rw [et15]; rfl) (by decide) rfl (fun ls hl => ?_)
          refine lv_goto (tgt := 7) hx hb dX2_rowLength_59 (by decide) ?_
          have rg16 := fb_rng t15
          exact ih1 l2_1 l3_1 t15 ⟨show (0 : Int) ≤ t15.toInt by omega, show t15.toInt ≤ (2147483647 : Int) by omega⟩ (by show (2147483647 - t15.toInt).toNat < n1; omega) _ _ _ hP hD hS (lv_sub hl [0, 1, 2, 3, 4] rfl)
        · skip
          have zc14 : ¬ (t13.toInt = 0) := by rw [fa_eq, show (0 : Int32).toInt = 0 from by decide] at c14; exact c14
          refine lv_iload_n hx hb dX2_rowLength_28 rfl (lv_at hl 2 rfl) ?_
          refine lv_aload_n hx hb dX2_rowLength_29 rfl (lv_at hl 3 rfl) ?_
          refine va_get (D := (dC, dI)) (ci := 2) (v := .ref (x 21)) (C := RX2) (T := TX2) (N := 3) hx hb hts inB_2 hown hE.1 hP 30 rfl rfl 1 (by decide) (hts _ k_415) (fun _ h9 => h9) rfl dX2_rowLength_30 ?_
          refine lv_iconst (v := 1) hx hb dX2_rowLength_33 (by decide) ?_
          refine lv_iload hx hb dX2_rowLength_34 (lv_at hl 0 rfl) ?_
          refine cbVi (n := 2) (rest := [.int l2_1]) hx hb hml hown hts hE hP hD hS hA (sX_X1_part_1 l dC dI cy x0 x 1 l4_1 v f hIv ) k_1070 k_828 k_829 k_106 k_830 (by decide +kernel) ⟨Nat.le_of_ble_eq_true rfl, Nat.le_of_ble_eq_true rfl⟩ 22 1 rfl rfl (rfl) hl.1 rfl (Nat.le_of_ble_eq_true rfl) dX2_rowLength_36 (fun r17 u H locs hw hP hD hS => ?_)
          refine lv_iadd hx hb dX2_rowLength_39 ?_
          refine lv_topi (fun t18 et18 => ?_)
          refine lv_istore_n (lv' := [(2, .int t18), (4, .int l4_1), (3, .int l3_1), (0, .ref (x 29)), (1, .int p1)]) hx hb dX2_rowLength_40 rfl hl (by decide) rfl (fun ls hl => ?_)
          refine lv_iload_n hx hb dX2_rowLength_41 rfl (lv_at hl 2 rfl) ?_
          refine lv_aload_n hx hb dX2_rowLength_42 rfl (lv_at hl 3 rfl) ?_
          refine va_get (D := (dC, dI)) (ci := 2) (v := .ref (x 21)) (C := RX2) (T := TX2) (N := 3) hx hb hts inB_2 hown hE.1 hP 30 rfl rfl 1 (by decide) (hts _ k_415) (fun _ h9 => h9) rfl dX2_rowLength_43 ?_
          refine lv_iconst (v := 0) hx hb dX2_rowLength_46 (by decide) ?_
          refine lv_iload hx hb dX2_rowLength_47 (lv_at hl 1 rfl) ?_
          refine cbVi (n := 2) (rest := [.int l3_1]) hx hb hml hown hts hE hP hD hS hA (sX_X1_part_1 l dC dI cy x0 x 0 l4_1 v f hIv ) k_1070 k_828 k_829 k_106 k_830 (by decide +kernel) ⟨Nat.le_of_ble_eq_true rfl, Nat.le_of_ble_eq_true rfl⟩ 22 1 rfl rfl (rfl) hl.1 rfl (Nat.le_of_ble_eq_true rfl) dX2_rowLength_49 (fun r19 u H locs hw hP hD hS => ?_)
          refine va_mmax hx hb (by rw [hml]; exact hl.1.symm) hown (hts _ k_1109) (hts _ k_640) (hts _ k_119) (hts _ k_641) (Nat.le_of_ble_eq_true rfl) (Nat.le_of_ble_eq_true rfl) (Nat.le_of_ble_eq_true rfl) (Nat.le_of_ble_eq_true rfl) dX2_rowLength_52 ?_
          refine lv_topi (fun t20 et20 => ?_)
          have zt20 : t20.toInt = max (l3_1.toInt) (r19.toInt) := by rw [et20]; exact mmax_i rfl rfl
          refine lv_istore_n (lv' := [(3, .int t20), (2, .int t18), (4, .int l4_1), (0, .ref (x 29)), (1, .int p1)]) hx hb dX2_rowLength_55 rfl hl (by decide) rfl (fun ls hl => ?_)
          obtain ⟨t21, et21⟩ : ∃ y : Int32, y = l4_1 + 1 := ⟨_, rfl⟩
          have zt21 : t21.toInt = l4_1.toInt + 1 := by rw [et21]; exact add_i rfl (by decide) (by omega) (by omega)
          refine lv_iinc (v := t21) (lv' := [(4, .int t21), (3, .int t20), (2, .int t18), (0, .ref (x 29)), (1, .int p1)]) hx hb dX2_rowLength_56 hl (k := 2) rfl (by rw [et21]; rfl) (by decide) rfl (fun ls hl => ?_)
          refine lv_goto (tgt := 7) hx hb dX2_rowLength_59 (by decide) ?_
          have rg22 := fb_rng t21
          exact ih1 t18 t20 t21 ⟨show (0 : Int) ≤ t21.toInt by omega, show t21.toInt ≤ (2147483647 : Int) by omega⟩ (by show (2147483647 - t21.toInt).toNat < n1; omega) _ _ _ hP hD hS (lv_sub hl [0, 1, 2, 3, 4] rfl)
  exact lp1 _ 0 0 0 ⟨by decide, by decide⟩ (Nat.lt_succ_self _) _ _ _ hP hD hS (lv_sub hl [0, 1, 2, 3, 4] rfl)
set_option maxHeartbeats 4000000 in
set_option maxRecDepth 100000 in
theorem sX_X2_leastLength_1 (l : Launch) (dC : Nat → ClassId) (dI : Nat → Nat → Nat) (cy : Nat → ClassId) (x0 : Nat) (x : Nat → Nat) (p1 : Int32) (v : Nat → Int32) (f : Nat → Nat → Int32) (hIv : XI v) (hp1 : (0 : Int) ≤ p1.toInt ∧ p1.toInt ≤ 63) : ctI l (dC, dI) cy yX2_leastLength cX2_leastLength 6 .int 4 128 0 0 Unit [.ref (x 29), .int p1] (XW cy x0 x v f) (fun r u => True) (fun u => XW cy x0 x v f) := by
  refine ctI_of (by decide) (Nat.le_of_ble_eq_true rfl) (fun p e s m below meth c A ls Q hx hb hml hts hown hE hP hD hA hl ret => ?_)
  have hown : s.vm.findClass RX2 = some m.cls := hown
  have hS : va_S A s.heap s.heap [] := va_S.rf
  have hl : lv_has ls 6 [(0, .ref (x 29)), (1, .int p1)] := hl
  refine lv_sipush (v := 1000) hx hb dX2_leastLength_0 (by decide) ?_
  refine lv_istore_n (lv' := [(2, .int 1000), (0, .ref (x 29)), (1, .int p1)]) hx hb dX2_leastLength_3 rfl hl (by decide) rfl (fun ls hl => ?_)
  refine lv_iload_n hx hb dX2_leastLength_4 rfl (lv_at hl 2 rfl) ?_
  refine cbSi (n := 1) (rest := []) hx hb hml hown hts hE hP hD hS hA (sX_J6_lowestOneBit_0f7a4_1 l dC dI cy x0 x p1 v f hIv ) k_1080 k_1081 k_121 k_1082 (by decide +kernel) ⟨Nat.le_of_ble_eq_true rfl, Nat.le_of_ble_eq_true rfl⟩ (rfl) hl.1 rfl (Nat.le_of_ble_eq_true rfl) dX2_leastLength_5 (fun r1 u H locs hw hP hD hS => ?_)
  refine lv_istore_n (lv' := [(3, .int r1), (2, .int 1000), (0, .ref (x 29)), (1, .int p1)]) hx hb dX2_leastLength_8 rfl hl (by decide) rfl (fun ls hl => ?_)
  refine lv_iload_n hx hb dX2_leastLength_9 rfl (lv_at hl 0 rfl) ?_
  refine lv_istore (lv' := [(4, .int r1), (3, .int r1), (2, .int 1000), (0, .ref (x 29)), (1, .int p1)]) hx hb dX2_leastLength_10 hl (by decide) rfl (fun ls hl => ?_)
  have lp2 : ∀ (n2 : Nat) (l2_2 : Int32) (l4_2 : Int32), (2147483647 - l4_2.toInt).toNat < n2 → ∀ (H : Heap) (locs : List Loc) (ls : Array Slot), va_P (dC, dI) vwCl (XW cy x0 x v f) H → va_D A (XW cy x0 x v f) → va_S A s.heap H locs → lv_has ls 6 [(4, .int l4_2), (3, .int r1), (2, .int l2_2), (0, .ref (x 29)), (1, .int p1)] → W p l e { frames := 4, cells := 0, slots := 0, locals := 128 } s m ([.ref (x 29), .int p1] : List Value).toArray below meth c H locs 0 0 Q (F0 m 12 ls []) := by
    intro n2
    induction n2 with
    | zero => intro l2_2 l4_2 hm; exact absurd hm (Nat.not_lt_zero _)
    | succ n2 ih2 =>
      intro l2_2 l4_2 hm2 H locs ls hP hD hS hl
      refine lv_iload hx hb dX2_leastLength_12 (lv_at hl 0 rfl) ?_
      refine lv_iload_n hx hb dX2_leastLength_14 rfl (lv_at hl 4 rfl) ?_
      refine lv_icmp_gt (tgt := 76) hx hb dX2_leastLength_15 (by decide) (fun c3 => ?_) (fun c3 => ?_)
      · skip
        have zc3 : p1.toInt < l4_2.toInt := by rw [fa_lt] at c3; exact c3
        have rg4 := fb_rng l4_2
        have rg5 := fb_rng p1
        refine lv_iload_n hx hb dX2_leastLength_76 rfl (lv_at hl 2 rfl) ?_
        exact ret l2_2 () _ _ _ _ _ _ rfl trivial hP hD hS dX2_leastLength_77 (Nat.le_refl _) (Nat.le_refl _)
      · skip
        have zc3 : ¬ (p1.toInt < l4_2.toInt) := by rw [fa_lt] at c3; exact c3
        have rg6 := fb_rng l4_2
        have rg7 := fb_rng p1
        refine lv_iload hx hb dX2_leastLength_18 (lv_at hl 0 rfl) ?_
        refine lv_iload_n hx hb dX2_leastLength_20 rfl (lv_at hl 4 rfl) ?_
        refine lv_iconst (v := (-1)) hx hb dX2_leastLength_21 (by decide) ?_
        refine lv_ixor hx hb dX2_leastLength_22 ?_
        refine lv_topi (fun t8 et8 => ?_)
        refine lv_iand hx hb dX2_leastLength_23 ?_
        refine lv_topi (fun t9 et9 => ?_)
        refine lv_if_ne (tgt := 70) hx hb dX2_leastLength_24 (by decide) (fun c10 => ?_) (fun c10 => ?_)
        · skip
          have zc10 : ¬ (t9.toInt = 0) := by rw [fa_eq, show (0 : Int32).toInt = 0 from by decide] at c10; exact c10
          obtain ⟨t11, et11⟩ : ∃ y : Int32, y = l4_2 + 1 := ⟨_, rfl⟩
          have zt11 : t11.toInt = l4_2.toInt + 1 := by rw [et11]; exact add_i rfl (by decide) (by omega) (by omega)
          refine lv_iinc (v := t11) (lv' := [(4, .int t11), (3, .int r1), (2, .int l2_2), (0, .ref (x 29)), (1, .int p1)]) hx hb dX2_leastLength_70 hl (k := 0) rfl (by rw [et11]; rfl) (by decide) rfl (fun ls hl => ?_)
          refine lv_goto (tgt := 12) hx hb dX2_leastLength_73 (by decide) ?_
          exact ih2 l2_2 t11  (by show (2147483647 - t11.toInt).toNat < n2; omega) _ _ _ hP hD hS (lv_sub hl [0, 1, 2, 3, 4] rfl)
        · skip
          have zc10 : t9.toInt = 0 := by rw [fa_eq, show (0 : Int32).toInt = 0 from by decide] at c10; exact c10
          refine lv_iload hx hb dX2_leastLength_27 (lv_at hl 0 rfl) ?_
          refine lv_iload_n hx hb dX2_leastLength_29 rfl (lv_at hl 1 rfl) ?_
          refine lv_iand hx hb dX2_leastLength_30 ?_
          refine lv_topi (fun t12 et12 => ?_)
          refine lv_if_eq (tgt := 70) hx hb dX2_leastLength_31 (by decide) (fun c13 => ?_) (fun c13 => ?_)
          · skip
            have zc13 : t12.toInt = 0 := by rw [fa_eq, show (0 : Int32).toInt = 0 from by decide] at c13; exact c13
            obtain ⟨t14, et14⟩ : ∃ y : Int32, y = l4_2 + 1 := ⟨_, rfl⟩
            have zt14 : t14.toInt = l4_2.toInt + 1 := by rw [et14]; exact add_i rfl (by decide) (by omega) (by omega)
            refine lv_iinc (v := t14) (lv' := [(4, .int t14), (3, .int r1), (2, .int l2_2), (0, .ref (x 29)), (1, .int p1)]) hx hb dX2_leastLength_70 hl (k := 0) rfl (by rw [et14]; rfl) (by decide) rfl (fun ls hl => ?_)
            refine lv_goto (tgt := 12) hx hb dX2_leastLength_73 (by decide) ?_
            exact ih2 l2_2 t14  (by show (2147483647 - t14.toInt).toNat < n2; omega) _ _ _ hP hD hS (lv_sub hl [0, 1, 2, 3, 4] rfl)
          · skip
            have zc13 : ¬ (t12.toInt = 0) := by rw [fa_eq, show (0 : Int32).toInt = 0 from by decide] at c13; exact c13
            refine lv_aload_n hx hb dX2_leastLength_34 rfl (lv_at hl 3 rfl) ?_
            refine lv_iload hx hb dX2_leastLength_35 (lv_at hl 0 rfl) ?_
            refine cbVi (n := 1) (rest := []) hx hb hml hown hts hE hP hD hS hA (sX_X2_rowLength_1 l dC dI cy x0 x l4_2 v f hIv ) k_1105 k_1107 k_32 k_110 k_1108 (by decide +kernel) ⟨Nat.le_of_ble_eq_true rfl, Nat.le_of_ble_eq_true rfl⟩ 30 2 rfl rfl (rfl) hl.1 rfl (Nat.le_of_ble_eq_true rfl) dX2_leastLength_37 (fun r15 u H locs hw hP hD hS => ?_)
            refine lv_istore (lv' := [(5, .int r15), (4, .int l4_2), (3, .int r1), (2, .int l2_2), (0, .ref (x 29)), (1, .int p1)]) hx hb dX2_leastLength_40 hl (by decide) rfl (fun ls hl => ?_)
            refine lv_iload hx hb dX2_leastLength_42 (lv_at hl 0 rfl) ?_
            refine lv_iconst (v := (-1)) hx hb dX2_leastLength_44 (by decide) ?_
            refine lv_icmp_eq (tgt := 70) hx hb dX2_leastLength_45 (by decide) (fun c16 => ?_) (fun c16 => ?_)
            · skip
              have zc16 : r15.toInt = (-1) := by rw [fa_eq, show ((-1) : Int32).toInt = -1 from by decide] at c16; exact c16
              obtain ⟨t17, et17⟩ : ∃ y : Int32, y = l4_2 + 1 := ⟨_, rfl⟩
              have zt17 : t17.toInt = l4_2.toInt + 1 := by rw [et17]; exact add_i rfl (by decide) (by omega) (by omega)
              refine lv_iinc (v := t17) (lv' := [(4, .int t17), (5, .int r15), (3, .int r1), (2, .int l2_2), (0, .ref (x 29)), (1, .int p1)]) hx hb dX2_leastLength_70 hl (k := 1) rfl (by rw [et17]; rfl) (by decide) rfl (fun ls hl => ?_)
              refine lv_goto (tgt := 12) hx hb dX2_leastLength_73 (by decide) ?_
              exact ih2 l2_2 t17  (by show (2147483647 - t17.toInt).toNat < n2; omega) _ _ _ hP hD hS (lv_sub hl [0, 2, 3, 4, 5] rfl)
            · skip
              have zc16 : ¬ (r15.toInt = (-1)) := by rw [fa_eq, show ((-1) : Int32).toInt = -1 from by decide] at c16; exact c16
              refine lv_iload_n hx hb dX2_leastLength_48 rfl (lv_at hl 3 rfl) ?_
              refine lv_iload hx hb dX2_leastLength_49 (lv_at hl 0 rfl) ?_
              refine lv_aload_n hx hb dX2_leastLength_51 rfl (lv_at hl 4 rfl) ?_
              refine va_get (D := (dC, dI)) (ci := 2) (v := .ref (x 30)) (C := RX2) (T := TX2) (N := 3) hx hb hts inB_2 hown hE.1 hP 30 rfl rfl 2 (by decide) (hts _ k_416) (fun _ h9 => h9) rfl dX2_leastLength_52 ?_
              refine lv_iload_n hx hb dX2_leastLength_55 rfl (lv_at hl 5 rfl) ?_
              refine lv_iload hx hb dX2_leastLength_56 (lv_at hl 1 rfl) ?_
              refine lv_iconst (v := (-1)) hx hb dX2_leastLength_58 (by decide) ?_
              refine lv_ixor hx hb dX2_leastLength_59 ?_
              refine lv_topi (fun t18 et18 => ?_)
              refine lv_iand hx hb dX2_leastLength_60 ?_
              refine lv_topi (fun t19 et19 => ?_)
              refine lv_bipush (v := 63) hx hb dX2_leastLength_61 (by decide) ?_
              refine lv_iand hx hb dX2_leastLength_63 ?_
              refine lv_topi (fun t20 et20 => ?_)
              have zt20 : 0 ≤ t20.toInt ∧ t20.toInt < 64 := by rw [et20]; exact and_rng _ (k := 6) (by decide) (by decide)
              refine ldI hx hb hE hP 31 rfl (vp_in_iff.mpr ⟨by omega, by omega⟩) rfl rfl dX2_leastLength_64 ?_
              refine lv_topi (fun t21 et21 => ?_)
              refine lv_iadd hx hb dX2_leastLength_65 ?_
              refine lv_topi (fun t22 et22 => ?_)
              refine va_mmin hx hb (by rw [hml]; exact hl.1.symm) hown (hts _ k_1110) (hts _ k_643) (hts _ k_119) (hts _ k_644) (Nat.le_of_ble_eq_true rfl) (Nat.le_of_ble_eq_true rfl) (Nat.le_of_ble_eq_true rfl) (Nat.le_of_ble_eq_true rfl) dX2_leastLength_66 ?_
              refine lv_topi (fun t23 et23 => ?_)
              have zt23 : t23.toInt = min (l2_2.toInt) (t22.toInt) := by rw [et23]; exact mmin_i rfl rfl
              refine lv_istore_n (lv' := [(2, .int t23), (5, .int r15), (4, .int l4_2), (3, .int r1), (0, .ref (x 29)), (1, .int p1)]) hx hb dX2_leastLength_69 rfl hl (by decide) rfl (fun ls hl => ?_)
              obtain ⟨t24, et24⟩ : ∃ y : Int32, y = l4_2 + 1 := ⟨_, rfl⟩
              have zt24 : t24.toInt = l4_2.toInt + 1 := by rw [et24]; exact add_i rfl (by decide) (by omega) (by omega)
              refine lv_iinc (v := t24) (lv' := [(4, .int t24), (2, .int t23), (5, .int r15), (3, .int r1), (0, .ref (x 29)), (1, .int p1)]) hx hb dX2_leastLength_70 hl (k := 2) rfl (by rw [et24]; rfl) (by decide) rfl (fun ls hl => ?_)
              refine lv_goto (tgt := 12) hx hb dX2_leastLength_73 (by decide) ?_
              exact ih2 t23 t24  (by show (2147483647 - t24.toInt).toNat < n2; omega) _ _ _ hP hD hS (lv_sub hl [0, 3, 1, 4, 5] rfl)
  exact lp2 _ 1000 r1  (Nat.lt_succ_self _) _ _ _ hP hD hS (lv_sub hl [0, 1, 2, 3, 4] rfl)
set_option maxHeartbeats 4000000 in
set_option maxRecDepth 100000 in
theorem sX_X2_leastCloth_1 (l : Launch) (dC : Nat → ClassId) (dI : Nat → Nat → Nat) (cy : Nat → ClassId) (x0 : Nat) (x : Nat → Nat)  (v : Nat → Int32) (f : Nat → Nat → Int32) (hIv : XI v)  : ctI l (dC, dI) cy yX2_leastCloth cX2_leastCloth 3 .int 5 153 0 0 ((Nat → Int32) × (Nat → Nat → Int32)) [.ref (x 29)] (XW cy x0 x v f) (fun r u => KV [] u.1 v ∧ KF [19] u.2 f ∧ XI u.1 ∧ u.1 0 = v 0 ∧ u.1 1 = v 1 ∧ u.1 7 = v 7 ∧ u.1 8 = v 8 ∧ u.1 9 = v 9 ∧ u.1 10 = v 10 ∧ u.1 31 = v 31 ∧ u.1 32 = v 32) (fun u => XW cy x0 x u.1 u.2) := by
  refine ctI_of (by decide) (Nat.le_of_ble_eq_true rfl) (fun p e s m below meth c A ls Q hx hb hml hts hown hE hP hD hA hl ret => ?_)
  have hM_v : KV [] v v := fun _ _ => rfl
  have hA_f : KF [19] f f := fun _ _ => rfl
  have hown : s.vm.findClass RX2 = some m.cls := hown
  have hS : va_S A s.heap s.heap [] := va_S.rf
  have hl : lv_has ls 3 [(0, .ref (x 29))] := hl
  refine lv_iconst (v := 1) hx hb dX2_leastCloth_0 (by decide) ?_
  refine lv_aload_n hx hb dX2_leastCloth_1 rfl (lv_at hl 0 rfl) ?_
  refine va_get (D := (dC, dI)) (ci := 2) (v := .ref (x 26)) (C := RX2) (T := TX2) (N := 3) hx hb hts inB_2 hown hE.1 hP 30 rfl rfl 0 (by decide) (hts _ k_414) (fun _ h9 => h9) rfl dX2_leastCloth_2 ?_
  refine va_getN (D := (dC, dI)) (ci := 7) (v := .int (v 32)) (C := RX7) (T := TX7) (N := 10) hx hb hts inB_7 hown hE.1 hP 27 rfl rfl 4 (by decide) (va_Nw.use rfl (hE.2 _ k_223)) (fun _ h9 => h9) rfl dX2_leastCloth_5 ?_
  have b32_v : 0 ≤ (v 32).toInt ∧ (v 32).toInt ≤ 6 := XI.b hIv 32 (by decide)
  refine lv_ishl hx hb dX2_leastCloth_8 ?_
  refine lv_topi (fun t1 et1 => ?_)
  refine lv_iconst (v := 1) hx hb dX2_leastCloth_9 (by decide) ?_
  refine lv_isub hx hb dX2_leastCloth_10 ?_
  refine lv_topi (fun t2 et2 => ?_)
  refine lv_istore_n (lv' := [(1, .int t2), (0, .ref (x 29))]) hx hb dX2_leastCloth_11 rfl hl (by decide) rfl (fun ls hl => ?_)
  refine lv_iconst (v := 0) hx hb dX2_leastCloth_12 (by decide) ?_
  refine lv_istore_n (lv' := [(2, .int 0), (1, .int t2), (0, .ref (x 29))]) hx hb dX2_leastCloth_13 rfl hl (by decide) rfl (fun ls hl => ?_)
  have lp3 : ∀ (n3 : Nat) (l2_3 : Int32), ((0 : Int) ≤ l2_3.toInt ∧ l2_3.toInt ≤ 2147483647) → (2147483647 - l2_3.toInt).toNat < n3 → ∀ (H : Heap) (locs : List Loc) (ls : Array Slot), va_P (dC, dI) vwCl (XW cy x0 x v f) H → va_D A (XW cy x0 x v f) → va_S A s.heap H locs → lv_has ls 3 [(2, .int l2_3), (1, .int t2), (0, .ref (x 29))] → W p l e { frames := 5, cells := 0, slots := 0, locals := 153 } s m ([.ref (x 29)] : List Value).toArray below meth c H locs 0 0 Q (F0 m 14 ls []) := by
    intro n3
    induction n3 with
    | zero => intro l2_3 hr2_3 hm; exact absurd hm (Nat.not_lt_zero _)
    | succ n3 ih3 =>
      intro l2_3 hr2_3 hm3 H locs ls hP hD hS hl
      refine lv_iload_n hx hb dX2_leastCloth_14 rfl (lv_at hl 0 rfl) ?_
      refine lv_aload_n hx hb dX2_leastCloth_15 rfl (lv_at hl 2 rfl) ?_
      refine va_get (D := (dC, dI)) (ci := 2) (v := .ref (x 26)) (C := RX2) (T := TX2) (N := 3) hx hb hts inB_2 hown hE.1 hP 30 rfl rfl 0 (by decide) (hts _ k_414) (fun _ h9 => h9) rfl dX2_leastCloth_16 ?_
      refine va_getN (D := (dC, dI)) (ci := 7) (v := .int (v 32)) (C := RX7) (T := TX7) (N := 10) hx hb hts inB_7 hown hE.1 hP 27 rfl rfl 4 (by decide) (va_Nw.use rfl (hE.2 _ k_223)) (fun _ h9 => h9) rfl dX2_leastCloth_19 ?_
      refine lv_icmp_ge (tgt := 52) hx hb dX2_leastCloth_22 (by decide) (fun c4 => ?_) (fun c4 => ?_)
      · skip
        have zc4 : (v 32).toInt ≤ l2_3.toInt := by rw [fa_le] at c4; exact c4
        have rg5 := fb_rng l2_3
        have rg6 := fb_rng (v 32)
        refine lv_aload_n hx hb dX2_leastCloth_52 rfl (lv_at hl 2 rfl) ?_
        refine va_get (D := (dC, dI)) (ci := 2) (v := .ref (x 30)) (C := RX2) (T := TX2) (N := 3) hx hb hts inB_2 hown hE.1 hP 30 rfl rfl 2 (by decide) (hts _ k_416) (fun _ h9 => h9) rfl dX2_leastCloth_53 ?_
        refine lv_iconst (v := 0) hx hb dX2_leastCloth_56 (by decide) ?_
        refine lv_iconst (v := 0) hx hb dX2_leastCloth_57 (by decide) ?_
        refine stI hx hb hE hP hD hS 31 rfl (vp_in_nI (n := 0) (by decide) (by decide)) rfl dX2_leastCloth_58 (fun H locs hP hD hS => ?_)
        obtain ⟨f7, ef7, hP, hD⟩ : ∃ fz9, fz9 = upd2 f 19 (upd (f 19) (0 : Int32).toNatClampNeg 0) ∧ va_P (dC, dI) vwCl (XW cy x0 x v fz9) H ∧ va_D A (XW cy x0 x v fz9) := ⟨_, rfl, hP, hD⟩
        have hA_f7 : KF [19] f7 f := by rw [ef7]; exact KF.up hA_f rfl
        refine lv_iconst (v := 1) hx hb dX2_leastCloth_59 (by decide) ?_
        refine lv_istore_n (lv' := [(2, .int 1), (1, .int t2), (0, .ref (x 29))]) hx hb dX2_leastCloth_60 rfl hl (by decide) rfl (fun ls hl => ?_)
        have lp8 : ∀ (n8 : Nat) (l2_8 : Int32) (v8 : Nat → Int32) (f8 : Nat → Nat → Int32), XI v8 → v8 0 = (v 0) → v8 1 = (v 1) → v8 7 = (v 7) → v8 8 = (v 8) → v8 9 = (v 9) → v8 10 = (v 10) → v8 31 = (v 31) → v8 32 = (v 32) → ((1 : Int) ≤ l2_8.toInt ∧ l2_8.toInt ≤ 2147483647) → KV [] v8 v → KF [19] f8 f → (2147483647 - l2_8.toInt).toNat < n8 → ∀ (H : Heap) (locs : List Loc) (ls : Array Slot), va_P (dC, dI) vwCl (XW cy x0 x v8 f8) H → va_D A (XW cy x0 x v8 f8) → va_S A s.heap H locs → lv_has ls 3 [(2, .int l2_8), (1, .int t2), (0, .ref (x 29))] → W p l e { frames := 5, cells := 0, slots := 0, locals := 153 } s m ([.ref (x 29)] : List Value).toArray below meth c H locs 0 0 Q (F0 m 61 ls []) := by
          intro n8
          induction n8 with
          | zero => intro l2_8 v8 f8 hIv8 hq0_v8 hq1_v8 hq7_v8 hq8_v8 hq9_v8 hq10_v8 hq31_v8 hq32_v8 hr2_8 hM_v8 hA_f8 hm; exact absurd hm (Nat.not_lt_zero _)
          | succ n8 ih8 =>
            intro l2_8 v8 f8 hIv8 hq0_v8 hq1_v8 hq7_v8 hq8_v8 hq9_v8 hq10_v8 hq31_v8 hq32_v8 hr2_8 hM_v8 hA_f8 hm8 H locs ls hP hD hS hl
            refine lv_iload_n hx hb dX2_leastCloth_61 rfl (lv_at hl 0 rfl) ?_
            refine lv_iload_n hx hb dX2_leastCloth_62 rfl (lv_at hl 1 rfl) ?_
            refine lv_icmp_gt (tgt := 89) hx hb dX2_leastCloth_63 (by decide) (fun c9 => ?_) (fun c9 => ?_)
            · skip
              have zc9 : t2.toInt < l2_8.toInt := by rw [fa_lt] at c9; exact c9
              have rg10 := fb_rng l2_8
              have rg11 := fb_rng t2
              refine lv_iload_n hx hb dX2_leastCloth_89 rfl (lv_at hl 1 rfl) ?_
              refine lv_if_lt (tgt := 108) hx hb dX2_leastCloth_90 (by decide) (fun c12 => ?_) (fun c12 => ?_)
              · skip
                have zc12 : t2.toInt < 0 := by rw [fa_lt, show (0 : Int32).toInt = 0 from by decide] at c12; exact c12
                refine lv_iconst (v := (-1)) hx hb dX2_leastCloth_108 (by decide) ?_
                exact ret (-1) (v8, f8) _ _ _ _ _ _ rfl ⟨hM_v8, hA_f8, hIv8, (show v8 0 = v 0 from hq0_v8), (show v8 1 = v 1 from hq1_v8), (show v8 7 = v 7 from hq7_v8), (show v8 8 = v 8 from hq8_v8), (show v8 9 = v 9 from hq9_v8), (show v8 10 = v 10 from hq10_v8), (show v8 31 = v 31 from hq31_v8), (show v8 32 = v 32 from hq32_v8)⟩ hP hD hS dX2_leastCloth_109 (Nat.le_refl _) (Nat.le_refl _)
              · skip
                have zc12 : ¬ (t2.toInt < 0) := by rw [fa_lt, show (0 : Int32).toInt = 0 from by decide] at c12; exact c12
                refine lv_iload_n hx hb dX2_leastCloth_93 rfl (lv_at hl 1 rfl) ?_
                refine lv_bipush (v := 64) hx hb dX2_leastCloth_94 (by decide) ?_
                refine lv_icmp_ge (tgt := 108) hx hb dX2_leastCloth_96 (by decide) (fun c13 => ?_) (fun c13 => ?_)
                · skip
                  have zc13 : 64 ≤ t2.toInt := by rw [fa_le, show (64 : Int32).toInt = 64 from by decide] at c13; exact c13
                  refine lv_iconst (v := (-1)) hx hb dX2_leastCloth_108 (by decide) ?_
                  exact ret (-1) (v8, f8) _ _ _ _ _ _ rfl ⟨hM_v8, hA_f8, hIv8, (show v8 0 = v 0 from hq0_v8), (show v8 1 = v 1 from hq1_v8), (show v8 7 = v 7 from hq7_v8), (show v8 8 = v 8 from hq8_v8), (show v8 9 = v 9 from hq9_v8), (show v8 10 = v 10 from hq10_v8), (show v8 31 = v 31 from hq31_v8), (show v8 32 = v 32 from hq32_v8)⟩ hP hD hS dX2_leastCloth_109 (Nat.le_refl _) (Nat.le_refl _)
                · skip
                  have zc13 : ¬ (64 ≤ t2.toInt) := by rw [fa_le, show (64 : Int32).toInt = 64 from by decide] at c13; exact c13
                  refine lv_aload_n hx hb dX2_leastCloth_99 rfl (lv_at hl 2 rfl) ?_
                  refine va_get (D := (dC, dI)) (ci := 2) (v := .ref (x 30)) (C := RX2) (T := TX2) (N := 3) hx hb hts inB_2 hown hE.1 hP 30 rfl rfl 2 (by decide) (hts _ k_416) (fun _ h9 => h9) rfl dX2_leastCloth_100 ?_
                  refine lv_iload_n hx hb dX2_leastCloth_103 rfl (lv_at hl 1 rfl) ?_
                  refine ldI hx hb hE hP 31 rfl (vp_in_iff.mpr ⟨by omega, by omega⟩) rfl rfl dX2_leastCloth_104 ?_
                  refine lv_topi (fun t14 et14 => ?_)
                  refine lv_goto (tgt := 109) hx hb dX2_leastCloth_105 (by decide) ?_
                  exact ret t14 (v8, f8) _ _ _ _ _ _ rfl ⟨hM_v8, hA_f8, hIv8, (show v8 0 = v 0 from hq0_v8), (show v8 1 = v 1 from hq1_v8), (show v8 7 = v 7 from hq7_v8), (show v8 8 = v 8 from hq8_v8), (show v8 9 = v 9 from hq9_v8), (show v8 10 = v 10 from hq10_v8), (show v8 31 = v 31 from hq31_v8), (show v8 32 = v 32 from hq32_v8)⟩ hP hD hS dX2_leastCloth_109 (Nat.le_refl _) (Nat.le_refl _)
            · skip
              have zc9 : ¬ (t2.toInt < l2_8.toInt) := by rw [fa_lt] at c9; exact c9
              have rg15 := fb_rng l2_8
              have rg16 := fb_rng t2
              refine lv_iload_n hx hb dX2_leastCloth_66 rfl (lv_at hl 0 rfl) ?_
              refine lv_bipush (v := 64) hx hb dX2_leastCloth_67 (by decide) ?_
              refine lv_icmp_ge (tgt := 89) hx hb dX2_leastCloth_69 (by decide) (fun c17 => ?_) (fun c17 => ?_)
              · skip
                have zc17 : 64 ≤ l2_8.toInt := by rw [fa_le, show (64 : Int32).toInt = 64 from by decide] at c17; exact c17
                refine lv_iload_n hx hb dX2_leastCloth_89 rfl (lv_at hl 1 rfl) ?_
                refine lv_if_lt (tgt := 108) hx hb dX2_leastCloth_90 (by decide) (fun c18 => ?_) (fun c18 => ?_)
                · skip
                  have zc18 : t2.toInt < 0 := by rw [fa_lt, show (0 : Int32).toInt = 0 from by decide] at c18; exact c18
                  refine lv_iconst (v := (-1)) hx hb dX2_leastCloth_108 (by decide) ?_
                  exact ret (-1) (v8, f8) _ _ _ _ _ _ rfl ⟨hM_v8, hA_f8, hIv8, (show v8 0 = v 0 from hq0_v8), (show v8 1 = v 1 from hq1_v8), (show v8 7 = v 7 from hq7_v8), (show v8 8 = v 8 from hq8_v8), (show v8 9 = v 9 from hq9_v8), (show v8 10 = v 10 from hq10_v8), (show v8 31 = v 31 from hq31_v8), (show v8 32 = v 32 from hq32_v8)⟩ hP hD hS dX2_leastCloth_109 (Nat.le_refl _) (Nat.le_refl _)
                · skip
                  have zc18 : ¬ (t2.toInt < 0) := by rw [fa_lt, show (0 : Int32).toInt = 0 from by decide] at c18; exact c18
                  refine lv_iload_n hx hb dX2_leastCloth_93 rfl (lv_at hl 1 rfl) ?_
                  refine lv_bipush (v := 64) hx hb dX2_leastCloth_94 (by decide) ?_
                  refine lv_icmp_ge (tgt := 108) hx hb dX2_leastCloth_96 (by decide) (fun c19 => ?_) (fun c19 => ?_)
                  · skip
                    have zc19 : 64 ≤ t2.toInt := by rw [fa_le, show (64 : Int32).toInt = 64 from by decide] at c19; exact c19
                    refine lv_iconst (v := (-1)) hx hb dX2_leastCloth_108 (by decide) ?_
                    exact ret (-1) (v8, f8) _ _ _ _ _ _ rfl ⟨hM_v8, hA_f8, hIv8, (show v8 0 = v 0 from hq0_v8), (show v8 1 = v 1 from hq1_v8), (show v8 7 = v 7 from hq7_v8), (show v8 8 = v 8 from hq8_v8), (show v8 9 = v 9 from hq9_v8), (show v8 10 = v 10 from hq10_v8), (show v8 31 = v 31 from hq31_v8), (show v8 32 = v 32 from hq32_v8)⟩ hP hD hS dX2_leastCloth_109 (Nat.le_refl _) (Nat.le_refl _)
                  · skip
                    have zc19 : ¬ (64 ≤ t2.toInt) := by rw [fa_le, show (64 : Int32).toInt = 64 from by decide] at c19; exact c19
                    refine lv_aload_n hx hb dX2_leastCloth_99 rfl (lv_at hl 2 rfl) ?_
                    refine va_get (D := (dC, dI)) (ci := 2) (v := .ref (x 30)) (C := RX2) (T := TX2) (N := 3) hx hb hts inB_2 hown hE.1 hP 30 rfl rfl 2 (by decide) (hts _ k_416) (fun _ h9 => h9) rfl dX2_leastCloth_100 ?_
                    refine lv_iload_n hx hb dX2_leastCloth_103 rfl (lv_at hl 1 rfl) ?_
                    refine ldI hx hb hE hP 31 rfl (vp_in_iff.mpr ⟨by omega, by omega⟩) rfl rfl dX2_leastCloth_104 ?_
                    refine lv_topi (fun t20 et20 => ?_)
                    refine lv_goto (tgt := 109) hx hb dX2_leastCloth_105 (by decide) ?_
                    exact ret t20 (v8, f8) _ _ _ _ _ _ rfl ⟨hM_v8, hA_f8, hIv8, (show v8 0 = v 0 from hq0_v8), (show v8 1 = v 1 from hq1_v8), (show v8 7 = v 7 from hq7_v8), (show v8 8 = v 8 from hq8_v8), (show v8 9 = v 9 from hq9_v8), (show v8 10 = v 10 from hq10_v8), (show v8 31 = v 31 from hq31_v8), (show v8 32 = v 32 from hq32_v8)⟩ hP hD hS dX2_leastCloth_109 (Nat.le_refl _) (Nat.le_refl _)
              · skip
                have zc17 : ¬ (64 ≤ l2_8.toInt) := by rw [fa_le, show (64 : Int32).toInt = 64 from by decide] at c17; exact c17
                refine lv_aload_n hx hb dX2_leastCloth_72 rfl (lv_at hl 2 rfl) ?_
                refine va_get (D := (dC, dI)) (ci := 2) (v := .ref (x 30)) (C := RX2) (T := TX2) (N := 3) hx hb hts inB_2 hown hE.1 hP 30 rfl rfl 2 (by decide) (hts _ k_416) (fun _ h9 => h9) rfl dX2_leastCloth_73 ?_
                refine lv_iload_n hx hb dX2_leastCloth_76 rfl (lv_at hl 0 rfl) ?_
                refine lv_aload_n hx hb dX2_leastCloth_77 rfl (lv_at hl 2 rfl) ?_
                refine lv_iload_n hx hb dX2_leastCloth_78 rfl (lv_at hl 0 rfl) ?_
                refine cbVi (n := 1) (rest := [.int l2_8, .ref (x 30)]) hx hb hml hown hts hE hP hD hS hA (sX_X2_leastLength_1 l dC dI cy x0 x l2_8 v8 f8 hIv8 ⟨show (0 : Int) ≤ l2_8.toInt by omega, show l2_8.toInt ≤ (63 : Int) by omega⟩) k_1101 k_1103 k_31 k_110 k_1104 (by decide +kernel) ⟨Nat.le_of_ble_eq_true rfl, Nat.le_of_ble_eq_true rfl⟩ 30 2 rfl rfl (rfl) hl.1 rfl (Nat.le_of_ble_eq_true rfl) dX2_leastCloth_79 (fun r21 u H locs hw hP hD hS => ?_)
                refine stI hx hb hE hP hD hS 31 rfl (vp_in_iff.mpr ⟨by omega, by omega⟩) rfl dX2_leastCloth_82 (fun H locs hP hD hS => ?_)
                obtain ⟨f22, ef22, hP, hD⟩ : ∃ fz9, fz9 = upd2 f8 19 (upd (f8 19) l2_8.toNatClampNeg r21) ∧ va_P (dC, dI) vwCl (XW cy x0 x v8 fz9) H ∧ va_D A (XW cy x0 x v8 fz9) := ⟨_, rfl, hP, hD⟩
                have hA_f22 : KF [19] f22 f := by rw [ef22]; exact KF.up hA_f8 rfl
                obtain ⟨t23, et23⟩ : ∃ y : Int32, y = l2_8 + 1 := ⟨_, rfl⟩
                have zt23 : t23.toInt = l2_8.toInt + 1 := by rw [et23]; exact add_i rfl (by decide) (by omega) (by omega)
                refine lv_iinc (v := t23) (lv' := [(2, .int t23), (1, .int t2), (0, .ref (x 29))]) hx hb dX2_leastCloth_83 hl (k := 0) rfl (by rw [et23]; rfl) (by decide) rfl (fun ls hl => ?_)
                refine lv_goto (tgt := 61) hx hb dX2_leastCloth_86 (by decide) ?_
                have rg24 := fb_rng t23
                exact ih8 t23 v8 f22 hIv8 hq0_v8 hq1_v8 hq7_v8 hq8_v8 hq9_v8 hq10_v8 hq31_v8 hq32_v8 ⟨show (1 : Int) ≤ t23.toInt by omega, show t23.toInt ≤ (2147483647 : Int) by omega⟩ hM_v8 hA_f22 (by show (2147483647 - t23.toInt).toNat < n8; omega) _ _ _ hP hD hS (lv_sub hl [0, 1, 2] rfl)
        exact lp8 _ 1 v f7 hIv rfl rfl rfl rfl rfl rfl rfl rfl ⟨by decide, by decide⟩ hM_v hA_f7 (Nat.lt_succ_self _) _ _ _ hP hD hS (lv_sub hl [0, 1, 2] rfl)
      · skip
        have zc4 : ¬ ((v 32).toInt ≤ l2_3.toInt) := by rw [fa_le] at c4; exact c4
        have rg25 := fb_rng l2_3
        have rg26 := fb_rng (v 32)
        refine lv_aload_n hx hb dX2_leastCloth_25 rfl (lv_at hl 2 rfl) ?_
        refine va_get (D := (dC, dI)) (ci := 2) (v := .ref (x 21)) (C := RX2) (T := TX2) (N := 3) hx hb hts inB_2 hown hE.1 hP 30 rfl rfl 1 (by decide) (hts _ k_415) (fun _ h9 => h9) rfl dX2_leastCloth_26 ?_
        refine lv_iconst (v := 1) hx hb dX2_leastCloth_29 (by decide) ?_
        refine lv_iload_n hx hb dX2_leastCloth_30 rfl (lv_at hl 0 rfl) ?_
        refine cbVi (n := 2) (rest := []) hx hb hml hown hts hE hP hD hS hA (sX_X1_part_1 l dC dI cy x0 x 1 l2_3 v f hIv ) k_1070 k_828 k_829 k_106 k_830 (by decide +kernel) ⟨Nat.le_of_ble_eq_true rfl, Nat.le_of_ble_eq_true rfl⟩ 22 1 rfl rfl (rfl) hl.1 rfl (Nat.le_of_ble_eq_true rfl) dX2_leastCloth_31 (fun r27 u H locs hw hP hD hS => ?_)
        refine lv_aload_n hx hb dX2_leastCloth_34 rfl (lv_at hl 2 rfl) ?_
        refine va_get (D := (dC, dI)) (ci := 2) (v := .ref (x 26)) (C := RX2) (T := TX2) (N := 3) hx hb hts inB_2 hown hE.1 hP 30 rfl rfl 0 (by decide) (hts _ k_414) (fun _ h9 => h9) rfl dX2_leastCloth_35 ?_
        refine va_getN (D := (dC, dI)) (ci := 7) (v := .int (v 34)) (C := RX7) (T := TX7) (N := 10) hx hb hts inB_7 hown hE.1 hP 27 rfl rfl 6 (by decide) (va_Nw.use rfl (hE.2 _ k_235)) (fun _ h9 => h9) rfl dX2_leastCloth_38 ?_
        refine lv_icmp_le (tgt := 46) hx hb dX2_leastCloth_41 (by decide) (fun c28 => ?_) (fun c28 => ?_)
        · skip
          have zc28 : r27.toInt ≤ (v 34).toInt := by rw [fa_le] at c28; exact c28
          have rg29 := fb_rng r27
          have rg30 := fb_rng (v 34)
          obtain ⟨t31, et31⟩ : ∃ y : Int32, y = l2_3 + 1 := ⟨_, rfl⟩
          have zt31 : t31.toInt = l2_3.toInt + 1 := by rw [et31]; exact add_i rfl (by decide) (by omega) (by omega)
          refine lv_iinc (v := t31) (lv' := [(2, .int t31), (1, .int t2), (0, .ref (x 29))]) hx hb dX2_leastCloth_46 hl (k := 0) rfl (by rw [et31]; rfl) (by decide) rfl (fun ls hl => ?_)
          refine lv_goto (tgt := 14) hx hb dX2_leastCloth_49 (by decide) ?_
          have rg32 := fb_rng t31
          exact ih3 t31 ⟨show (0 : Int) ≤ t31.toInt by omega, show t31.toInt ≤ (2147483647 : Int) by omega⟩ (by show (2147483647 - t31.toInt).toNat < n3; omega) _ _ _ hP hD hS (lv_sub hl [0, 1, 2] rfl)
        · skip
          have zc28 : ¬ (r27.toInt ≤ (v 34).toInt) := by rw [fa_le] at c28; exact c28
          have rg33 := fb_rng r27
          have rg34 := fb_rng (v 34)
          refine lv_iconst (v := (-1)) hx hb dX2_leastCloth_44 (by decide) ?_
          exact ret (-1) (v, f) _ _ _ _ _ _ rfl ⟨hM_v, hA_f, hIv, rfl, rfl, rfl, rfl, rfl, rfl, rfl, rfl⟩ hP hD hS dX2_leastCloth_45 (Nat.le_refl _) (Nat.le_refl _)
  exact lp3 _ 0 ⟨by decide, by decide⟩ (Nat.lt_succ_self _) _ _ _ hP hD hS (lv_sub hl [0, 1, 2] rfl)
set_option maxHeartbeats 4000000 in
set_option maxRecDepth 100000 in
theorem sX_X10_cloth_1 (l : Launch) (dC : Nat → ClassId) (dI : Nat → Nat → Nat) (cy : Nat → ClassId) (x0 : Nat) (x : Nat → Nat)  (v : Nat → Int32) (f : Nat → Nat → Int32) (hIv : XI v)  : ctI l (dC, dI) cy yX10_cloth cX10_cloth 1 .int 6 175 0 0 ((Nat → Int32) × (Nat → Nat → Int32)) [.ref x0] (XW cy x0 x v f) (fun r u => KV [] u.1 v ∧ KF [19] u.2 f ∧ XI u.1 ∧ u.1 0 = v 0 ∧ u.1 1 = v 1 ∧ u.1 7 = v 7 ∧ u.1 8 = v 8 ∧ u.1 9 = v 9 ∧ u.1 10 = v 10 ∧ u.1 31 = v 31 ∧ u.1 32 = v 32) (fun u => XW cy x0 x u.1 u.2) := by
  refine ctI_of (by decide) (Nat.le_of_ble_eq_true rfl) (fun p e s m below meth c A ls Q hx hb hml hts hown hE hP hD hA hl ret => ?_)
  have hM_v : KV [] v v := fun _ _ => rfl
  have hA_f : KF [19] f f := fun _ _ => rfl
  have hown : s.vm.findClass RX10 = some m.cls := hown
  have hS : va_S A s.heap s.heap [] := va_S.rf
  have hl : lv_has ls 1 [(0, .ref x0)] := hl
  refine lv_aload_n hx hb dX10_cloth_0 rfl (lv_at hl 0 rfl) ?_
  refine va_get (D := (dC, dI)) (ci := 10) (v := .ref (x 29)) (C := RX10) (T := TX10) (N := 10) hx hb hts inB_10 hown hE.1 hP 0 rfl rfl 6 (by decide) (hts _ k_497) (fun _ h9 => h9) rfl dX10_cloth_1 ?_
  refine cbVi (n := 0) (rest := []) hx hb hml hown hts hE hP hD hS hA (sX_X2_leastCloth_1 l dC dI cy x0 x  v f hIv ) k_1097 k_1098 k_1099 k_110 k_1100 (by decide +kernel) ⟨Nat.le_of_ble_eq_true rfl, Nat.le_of_ble_eq_true rfl⟩ 30 2 rfl rfl (rfl) hl.1 rfl (Nat.le_of_ble_eq_true rfl) dX10_cloth_4 (fun r1 u H locs hw hP hD hS => ?_)
  obtain ⟨v2, f3⟩ := u
  obtain ⟨kV_v2, kF_f3, hIv2, hk0_v2, hk1_v2, hk7_v2, hk8_v2, hk9_v2, hk10_v2, hk31_v2, hk32_v2⟩ := hw
  have hM_v2 : KV [] v2 v := KV.tr kV_v2 hM_v rfl
  have hA_f3 : KF [19] f3 f := KF.tr kF_f3 hA_f rfl
  have hP : va_P (dC, dI) vwCl (XW cy x0 x v2 f3) H := hP
  have hD : va_D A (XW cy x0 x v2 f3) := hD
  have hq0_v2 : v2 0 = (v 0) := hk0_v2
  have hq1_v2 : v2 1 = (v 1) := hk1_v2
  have hq7_v2 : v2 7 = (v 7) := hk7_v2
  have hq8_v2 : v2 8 = (v 8) := hk8_v2
  have hq9_v2 : v2 9 = (v 9) := hk9_v2
  have hq10_v2 : v2 10 = (v 10) := hk10_v2
  have hq31_v2 : v2 31 = (v 31) := hk31_v2
  have hq32_v2 : v2 32 = (v 32) := hk32_v2
  exact ret r1 (v2, f3) _ _ _ _ _ _ rfl ⟨hM_v2, hA_f3, hIv2, hk0_v2, hk1_v2, hk7_v2, hk8_v2, hk9_v2, hk10_v2, hk31_v2, hk32_v2⟩ hP hD hS dX10_cloth_7 (Nat.le_refl _) (Nat.le_refl _)
set_option maxHeartbeats 4000000 in
set_option maxRecDepth 100000 in
theorem sX_X0_isClear_1 (l : Launch) (dC : Nat → ClassId) (dI : Nat → Nat → Nat) (cy : Nat → ClassId) (x0 : Nat) (x : Nat → Nat) (p1 : Int32) (p2 : Int32) (v : Nat → Int32) (f : Nat → Nat → Int32) (hIv : XI v)  : ctI l (dC, dI) cy yX0_isClear cX0_isClear 6 .boolean 3 103 0 0 Unit [.ref (x 31), .int p1, .int p2] (XW cy x0 x v f) (fun r u => ((r = 1) ∨ (r = 0))) (fun u => XW cy x0 x v f) := by
  refine ctI_of (by decide) (Nat.le_of_ble_eq_true rfl) (fun p e s m below meth c A ls Q hx hb hml hts hown hE hP hD hA hl ret => ?_)
  have hown : s.vm.findClass RX0 = some m.cls := hown
  have hS : va_S A s.heap s.heap [] := va_S.rf
  have hl : lv_has ls 6 [(0, .ref (x 31)), (1, .int p1), (2, .int p2)] := hl
  refine lv_aload_n hx hb dX0_isClear_0 rfl (lv_at hl 0 rfl) ?_
  refine va_get (D := (dC, dI)) (ci := 0) (v := .ref (x 26)) (C := RX0) (T := TX0) (N := 8) hx hb hts inB_0 hown hE.1 hP 32 rfl rfl 0 (by decide) (hts _ k_430) (fun _ h9 => h9) rfl dX0_isClear_1 ?_
  refine lv_iconst (v := 0) hx hb dX0_isClear_4 (by decide) ?_
  refine lv_iload_n hx hb dX0_isClear_5 rfl (lv_at hl 1 rfl) ?_
  refine cbVi (n := 2) (rest := []) hx hb hml hown hts hE hP hD hS hA (sX_X7_manPart_1 0 l dC dI cy x0 x 0 p1 v f hIv ) k_1127 k_303 k_304 k_104 k_305 (by decide +kernel) ⟨Nat.le_of_ble_eq_true rfl, Nat.le_of_ble_eq_true rfl⟩ 27 7 rfl rfl (rfl) hl.1 rfl (Nat.le_of_ble_eq_true rfl) dX0_isClear_6 (fun r1 u H locs hw hP hD hS => ?_)
  have hG2 := hw
  refine lv_istore_n (lv' := [(3, .int r1), (0, .ref (x 31)), (1, .int p1), (2, .int p2)]) hx hb dX0_isClear_9 rfl hl (by decide) rfl (fun ls hl => ?_)
  refine lv_iconst (v := 0) hx hb dX0_isClear_10 (by decide) ?_
  refine lv_istore (lv' := [(4, .int 0), (3, .int r1), (0, .ref (x 31)), (1, .int p1), (2, .int p2)]) hx hb dX0_isClear_11 hl (by decide) rfl (fun ls hl => ?_)
  have lp3 : ∀ (n3 : Nat) (l4_3 : Int32), ((0 : Int) ≤ l4_3.toInt ∧ l4_3.toInt ≤ 2147483647) → (2147483647 - l4_3.toInt).toNat < n3 → ∀ (H : Heap) (locs : List Loc) (ls : Array Slot), va_P (dC, dI) vwCl (XW cy x0 x v f) H → va_D A (XW cy x0 x v f) → va_S A s.heap H locs → lv_has ls 6 [(4, .int l4_3), (3, .int r1), (0, .ref (x 31)), (1, .int p1), (2, .int p2)] → W p l e { frames := 3, cells := 0, slots := 0, locals := 103 } s m ([.ref (x 31), .int p1, .int p2] : List Value).toArray below meth c H locs 0 0 Q (F0 m 13 ls []) := by
    intro n3
    induction n3 with
    | zero => intro l4_3 hr4_3 hm; exact absurd hm (Nat.not_lt_zero _)
    | succ n3 ih3 =>
      intro l4_3 hr4_3 hm3 H locs ls hP hD hS hl
      refine lv_iload hx hb dX0_isClear_13 (lv_at hl 0 rfl) ?_
      refine lv_iload_n hx hb dX0_isClear_15 rfl (lv_at hl 3 rfl) ?_
      refine lv_icmp_ge (tgt := 77) hx hb dX0_isClear_16 (by decide) (fun c4 => ?_) (fun c4 => ?_)
      · skip
        have zc4 : p1.toInt ≤ l4_3.toInt := by rw [fa_le] at c4; exact c4
        have rg5 := fb_rng l4_3
        have rg6 := fb_rng p1
        refine lv_iconst (v := 1) hx hb dX0_isClear_77 (by decide) ?_
        exact ret 1 () _ _ _ _ _ _ rfl (Or.inl rfl) hP hD hS dX0_isClear_78 (Nat.le_refl _) (Nat.le_refl _)
      · skip
        have zc4 : ¬ (p1.toInt ≤ l4_3.toInt) := by rw [fa_le] at c4; exact c4
        have rg7 := fb_rng l4_3
        have rg8 := fb_rng p1
        refine lv_iload hx hb dX0_isClear_19 (lv_at hl 0 rfl) ?_
        refine lv_aload_n hx hb dX0_isClear_21 rfl (lv_at hl 2 rfl) ?_
        refine va_get (D := (dC, dI)) (ci := 0) (v := .ref (x 32)) (C := RX0) (T := TX0) (N := 8) hx hb hts inB_0 hown hE.1 hP 32 rfl rfl 2 (by decide) (hts _ k_432) (fun _ h9 => h9) rfl dX0_isClear_22 ?_
        refine va_alen (v := 6) hx hb hE.1 hP 33 1 rfl rfl rfl dX0_isClear_25 ?_
        refine lv_icmp_ge (tgt := 77) hx hb dX0_isClear_26 (by decide) (fun c9 => ?_) (fun c9 => ?_)
        · skip
          have zc9 : 6 ≤ l4_3.toInt := by rw [fa_le, show (6 : Int32).toInt = 6 from by decide] at c9; exact c9
          refine lv_iconst (v := 1) hx hb dX0_isClear_77 (by decide) ?_
          exact ret 1 () _ _ _ _ _ _ rfl (Or.inl rfl) hP hD hS dX0_isClear_78 (Nat.le_refl _) (Nat.le_refl _)
        · skip
          have zc9 : ¬ (6 ≤ l4_3.toInt) := by rw [fa_le, show (6 : Int32).toInt = 6 from by decide] at c9; exact c9
          refine lv_iload_n hx hb dX0_isClear_29 rfl (lv_at hl 1 rfl) ?_
          refine lv_aload_n hx hb dX0_isClear_30 rfl (lv_at hl 2 rfl) ?_
          refine va_get (D := (dC, dI)) (ci := 0) (v := .ref (x 26)) (C := RX0) (T := TX0) (N := 8) hx hb hts inB_0 hown hE.1 hP 32 rfl rfl 0 (by decide) (hts _ k_430) (fun _ h9 => h9) rfl dX0_isClear_31 ?_
          refine lv_iconst (v := 0) hx hb dX0_isClear_34 (by decide) ?_
          refine lv_iload hx hb dX0_isClear_35 (lv_at hl 0 rfl) ?_
          refine cbVi (n := 2) (rest := [.int r1]) hx hb hml hown hts hE hP hD hS hA (sX_X7_manPart_1 0 l dC dI cy x0 x 0 l4_3 v f hIv ) k_1127 k_303 k_304 k_104 k_305 (by decide +kernel) ⟨Nat.le_of_ble_eq_true rfl, Nat.le_of_ble_eq_true rfl⟩ 27 7 rfl rfl (rfl) hl.1 rfl (Nat.le_of_ble_eq_true rfl) dX0_isClear_37 (fun r10 u H locs hw hP hD hS => ?_)
          have hG11 := hw
          refine lv_isub hx hb dX0_isClear_40 ?_
          refine lv_topi (fun t12 et12 => ?_)
          refine va_mabs hx hb (by rw [hml]; exact hl.1.symm) hown (hts _ k_1128) (hts _ k_1018) (hts _ k_119) (hts _ k_1019) (Nat.le_of_ble_eq_true rfl) (Nat.le_of_ble_eq_true rfl) (Nat.le_of_ble_eq_true rfl) (Nat.le_of_ble_eq_true rfl) dX0_isClear_41 ?_
          refine lv_topi (fun t13 et13 => ?_)
          refine lv_istore (lv' := [(5, .int t13), (4, .int l4_3), (3, .int r1), (0, .ref (x 31)), (1, .int p1), (2, .int p2)]) hx hb dX0_isClear_44 hl (by decide) rfl (fun ls hl => ?_)
          refine lv_aload_n hx hb dX0_isClear_46 rfl (lv_at hl 3 rfl) ?_
          refine va_get (D := (dC, dI)) (ci := 0) (v := .ref (x 32)) (C := RX0) (T := TX0) (N := 8) hx hb hts inB_0 hown hE.1 hP 32 rfl rfl 2 (by decide) (hts _ k_432) (fun _ h9 => h9) rfl dX0_isClear_47 ?_
          refine lv_iload hx hb dX0_isClear_50 (lv_at hl 1 rfl) ?_
          refine ldI hx hb hE hP 33 rfl (vp_in_iff.mpr ⟨by omega, by omega⟩) rfl rfl dX0_isClear_52 ?_
          refine lv_topi (fun t14 et14 => ?_)
          refine lv_iload_n hx hb dX0_isClear_53 rfl (lv_at hl 5 rfl) ?_
          refine lv_icmp_ne (tgt := 71) hx hb dX0_isClear_54 (by decide) (fun c15 => ?_) (fun c15 => ?_)
          · skip
            have zc15 : ¬ (t14.toInt = p2.toInt) := by rw [fa_eq] at c15; exact c15
            have rg16 := fb_rng t14
            have rg17 := fb_rng p2
            obtain ⟨t18, et18⟩ : ∃ y : Int32, y = l4_3 + 1 := ⟨_, rfl⟩
            have zt18 : t18.toInt = l4_3.toInt + 1 := by rw [et18]; exact add_i rfl (by decide) (by omega) (by omega)
            refine lv_iinc (v := t18) (lv' := [(4, .int t18), (5, .int t13), (3, .int r1), (0, .ref (x 31)), (1, .int p1), (2, .int p2)]) hx hb dX0_isClear_71 hl (k := 1) rfl (by rw [et18]; rfl) (by decide) rfl (fun ls hl => ?_)
            refine lv_goto (tgt := 13) hx hb dX0_isClear_74 (by decide) ?_
            have rg19 := fb_rng t18
            exact ih3 t18 ⟨show (0 : Int) ≤ t18.toInt by omega, show t18.toInt ≤ (2147483647 : Int) by omega⟩ (by show (2147483647 - t18.toInt).toNat < n3; omega) _ _ _ hP hD hS (lv_sub hl [0, 2, 3, 4, 5] rfl)
          · skip
            have zc15 : t14.toInt = p2.toInt := by rw [fa_eq] at c15; exact c15
            have rg20 := fb_rng t14
            have rg21 := fb_rng p2
            refine lv_iload hx hb dX0_isClear_57 (lv_at hl 0 rfl) ?_
            refine lv_aload_n hx hb dX0_isClear_59 rfl (lv_at hl 3 rfl) ?_
            refine va_get (D := (dC, dI)) (ci := 0) (v := .ref (x 26)) (C := RX0) (T := TX0) (N := 8) hx hb hts inB_0 hown hE.1 hP 32 rfl rfl 0 (by decide) (hts _ k_430) (fun _ h9 => h9) rfl dX0_isClear_60 ?_
            refine va_getN (D := (dC, dI)) (ci := 7) (v := .int (v 35)) (C := RX7) (T := TX7) (N := 10) hx hb hts inB_7 hown hE.1 hP 27 rfl rfl 7 (by decide) (va_Nw.use rfl (hE.2 _ k_238)) (fun _ h9 => h9) rfl dX0_isClear_63 ?_
            refine lv_icmp_gt (tgt := 71) hx hb dX0_isClear_66 (by decide) (fun c22 => ?_) (fun c22 => ?_)
            · skip
              have zc22 : (v 35).toInt < t13.toInt := by rw [fa_lt] at c22; exact c22
              have rg23 := fb_rng t13
              have rg24 := fb_rng (v 35)
              obtain ⟨t25, et25⟩ : ∃ y : Int32, y = l4_3 + 1 := ⟨_, rfl⟩
              have zt25 : t25.toInt = l4_3.toInt + 1 := by rw [et25]; exact add_i rfl (by decide) (by omega) (by omega)
              refine lv_iinc (v := t25) (lv' := [(4, .int t25), (5, .int t13), (3, .int r1), (0, .ref (x 31)), (1, .int p1), (2, .int p2)]) hx hb dX0_isClear_71 hl (k := 1) rfl (by rw [et25]; rfl) (by decide) rfl (fun ls hl => ?_)
              refine lv_goto (tgt := 13) hx hb dX0_isClear_74 (by decide) ?_
              have rg26 := fb_rng t25
              exact ih3 t25 ⟨show (0 : Int) ≤ t25.toInt by omega, show t25.toInt ≤ (2147483647 : Int) by omega⟩ (by show (2147483647 - t25.toInt).toNat < n3; omega) _ _ _ hP hD hS (lv_sub hl [0, 2, 3, 4, 5] rfl)
            · skip
              have zc22 : ¬ ((v 35).toInt < t13.toInt) := by rw [fa_lt] at c22; exact c22
              have rg27 := fb_rng t13
              have rg28 := fb_rng (v 35)
              refine lv_iconst (v := 0) hx hb dX0_isClear_69 (by decide) ?_
              exact ret 0 () _ _ _ _ _ _ rfl (Or.inr rfl) hP hD hS dX0_isClear_70 (Nat.le_refl _) (Nat.le_refl _)
  exact lp3 _ 0 ⟨by decide, by decide⟩ (Nat.lt_succ_self _) _ _ _ hP hD hS (lv_sub hl [0, 1, 2, 3, 4] rfl)
set_option maxHeartbeats 4000000 in
set_option maxRecDepth 100000 in
theorem sX_X0_painted_7 (l : Launch) (dC : Nat → ClassId) (dI : Nat → Nat → Nat) (cy : Nat → ClassId) (x0 : Nat) (x : Nat → Nat) (p2 : Int32) (v : Nat → Int32) (f : Nat → Nat → Int32) (hIv : XI v)  : ctI l (dC, dI) cy yX0_painted cX0_painted 4 .boolean 1 60 0 0 ((Nat → Int32) × (Nat → Nat → Int32)) [.ref (x 31), .int 6, .int p2] (XW cy x0 x v f) (fun r u => KV [] u.1 v ∧ KF [] u.2 f ∧ XI u.1 ∧ u.1 0 = v 0 ∧ u.1 1 = v 1 ∧ u.1 7 = v 7 ∧ u.1 8 = v 8 ∧ u.1 9 = v 9 ∧ u.1 10 = v 10 ∧ u.1 31 = v 31 ∧ u.1 32 = v 32 ∧ ((r = 1) ∨ (r = 0))) (fun u => XW cy x0 x u.1 u.2) := by
  refine ctI_of (by decide) (Nat.le_of_ble_eq_true rfl) (fun p e s m below meth c A ls Q hx hb hml hts hown hE hP hD hA hl ret => ?_)
  have hM_v : KV [] v v := fun _ _ => rfl
  have hA_f : KF [] f f := fun _ _ => rfl
  have hown : s.vm.findClass RX0 = some m.cls := hown
  have hS : va_S A s.heap s.heap [] := va_S.rf
  have hl : lv_has ls 4 [(0, .ref (x 31)), (1, .int 6), (2, .int p2)] := hl
  refine lv_iload_n hx hb dX0_painted_0 rfl (lv_at hl 1 rfl) ?_
  refine lv_aload_n hx hb dX0_painted_1 rfl (lv_at hl 0 rfl) ?_
  refine va_get (D := (dC, dI)) (ci := 0) (v := .ref (x 26)) (C := RX0) (T := TX0) (N := 8) hx hb hts inB_0 hown hE.1 hP 32 rfl rfl 0 (by decide) (hts _ k_430) (fun _ h9 => h9) rfl dX0_painted_2 ?_
  refine va_getN (D := (dC, dI)) (ci := 7) (v := .int (v 31)) (C := RX7) (T := TX7) (N := 10) hx hb hts inB_7 hown hE.1 hP 27 rfl rfl 3 (by decide) (va_Nw.use rfl (hE.2 _ k_216)) (fun _ h9 => h9) rfl dX0_painted_5 ?_
  have b31_v : 0 ≤ (v 31).toInt ∧ (v 31).toInt ≤ 6 := XI.b hIv 31 (by decide)
  refine lv_icmp_ge (tgt := 17) hx hb dX0_painted_8 (by decide) (fun c1 => ?_) (fun c1 => ?_)
  · skip
    have zc1 : (v 31).toInt ≤ 6 := by rw [fa_le, show (6 : Int32).toInt = 6 from by decide] at c1; exact c1
    refine lv_iconst (v := 1) hx hb dX0_painted_17 (by decide) ?_
    exact ret 1 (v, f) _ _ _ _ _ _ rfl ⟨hM_v, hA_f, hIv, rfl, rfl, rfl, rfl, rfl, rfl, rfl, rfl, (Or.inl rfl)⟩ hP hD hS dX0_painted_18 (Nat.le_refl _) (Nat.le_refl _)
  · skip
    have zc1 : ¬ ((v 31).toInt ≤ 6) := by rw [fa_le, show (6 : Int32).toInt = 6 from by decide] at c1; exact c1
    refine lv_iload_n hx hb dX0_painted_11 rfl (lv_at hl 1 rfl) ?_
    refine lv_bipush (v := 6) hx hb dX0_painted_12 (by decide) ?_
    refine lv_icmp_lt (tgt := 19) hx hb dX0_painted_14 (by decide) (fun c0 => absurd c0 (by decide)) (fun _ => ?_)
    refine lv_iconst (v := 1) hx hb dX0_painted_17 (by decide) ?_
    exact ret 1 (v, f) _ _ _ _ _ _ rfl ⟨hM_v, hA_f, hIv, rfl, rfl, rfl, rfl, rfl, rfl, rfl, rfl, (Or.inl rfl)⟩ hP hD hS dX0_painted_18 (Nat.le_refl _) (Nat.le_refl _)
set_option maxHeartbeats 4000000 in
set_option maxRecDepth 100000 in
theorem sX_X0_painted_6 (l : Launch) (dC : Nat → ClassId) (dI : Nat → Nat → Nat) (cy : Nat → ClassId) (x0 : Nat) (x : Nat → Nat) (p2 : Int32) (v : Nat → Int32) (f : Nat → Nat → Int32) (hIv : XI v)  : ctI l (dC, dI) cy yX0_painted cX0_painted 4 .boolean 4 128 0 0 ((Nat → Int32) × (Nat → Nat → Int32)) [.ref (x 31), .int 5, .int p2] (XW cy x0 x v f) (fun r u => KV [38] u.1 v ∧ KF [20] u.2 f ∧ XI u.1 ∧ u.1 0 = v 0 ∧ u.1 1 = v 1 ∧ u.1 7 = v 7 ∧ u.1 8 = v 8 ∧ u.1 9 = v 9 ∧ u.1 10 = v 10 ∧ u.1 31 = v 31 ∧ u.1 32 = v 32 ∧ ((r = 1) ∨ (r = 0))) (fun u => XW cy x0 x u.1 u.2) := by
  refine ctI_of (by decide) (Nat.le_of_ble_eq_true rfl) (fun p e s m below meth c A ls Q hx hb hml hts hown hE hP hD hA hl ret => ?_)
  have hM_v : KV [38] v v := fun _ _ => rfl
  have hA_f : KF [20] f f := fun _ _ => rfl
  have hown : s.vm.findClass RX0 = some m.cls := hown
  have hS : va_S A s.heap s.heap [] := va_S.rf
  have hl : lv_has ls 4 [(0, .ref (x 31)), (1, .int 5), (2, .int p2)] := hl
  refine lv_iload_n hx hb dX0_painted_0 rfl (lv_at hl 1 rfl) ?_
  refine lv_aload_n hx hb dX0_painted_1 rfl (lv_at hl 0 rfl) ?_
  refine va_get (D := (dC, dI)) (ci := 0) (v := .ref (x 26)) (C := RX0) (T := TX0) (N := 8) hx hb hts inB_0 hown hE.1 hP 32 rfl rfl 0 (by decide) (hts _ k_430) (fun _ h9 => h9) rfl dX0_painted_2 ?_
  refine va_getN (D := (dC, dI)) (ci := 7) (v := .int (v 31)) (C := RX7) (T := TX7) (N := 10) hx hb hts inB_7 hown hE.1 hP 27 rfl rfl 3 (by decide) (va_Nw.use rfl (hE.2 _ k_216)) (fun _ h9 => h9) rfl dX0_painted_5 ?_
  have b31_v : 0 ≤ (v 31).toInt ∧ (v 31).toInt ≤ 6 := XI.b hIv 31 (by decide)
  refine lv_icmp_ge (tgt := 17) hx hb dX0_painted_8 (by decide) (fun c1 => ?_) (fun c1 => ?_)
  · skip
    have zc1 : (v 31).toInt ≤ 5 := by rw [fa_le, show (5 : Int32).toInt = 5 from by decide] at c1; exact c1
    refine lv_iconst (v := 1) hx hb dX0_painted_17 (by decide) ?_
    exact ret 1 (v, f) _ _ _ _ _ _ rfl ⟨hM_v, hA_f, hIv, rfl, rfl, rfl, rfl, rfl, rfl, rfl, rfl, (Or.inl rfl)⟩ hP hD hS dX0_painted_18 (Nat.le_refl _) (Nat.le_refl _)
  · skip
    have zc1 : ¬ ((v 31).toInt ≤ 5) := by rw [fa_le, show (5 : Int32).toInt = 5 from by decide] at c1; exact c1
    refine lv_iload_n hx hb dX0_painted_11 rfl (lv_at hl 1 rfl) ?_
    refine lv_bipush (v := 6) hx hb dX0_painted_12 (by decide) ?_
    refine lv_icmp_lt (tgt := 19) hx hb dX0_painted_14 (by decide) (fun _ => ?_) (fun c0 => absurd (by decide) c0)
    refine lv_iconst (v := 0) hx hb dX0_painted_19 (by decide) ?_
    refine lv_istore_n (lv' := [(3, .int 0), (0, .ref (x 31)), (1, .int 5), (2, .int p2)]) hx hb dX0_painted_20 rfl hl (by decide) rfl (fun ls hl => ?_)
    have lp2 : ∀ (n2 : Nat) (l3_2 : Int32) (v2 : Nat → Int32) (f2 : Nat → Nat → Int32), XI v2 → v2 0 = (v 0) → v2 1 = (v 1) → v2 7 = (v 7) → v2 8 = (v 8) → v2 9 = (v 9) → v2 10 = (v 10) → v2 31 = (v 31) → v2 32 = (v 32) → ((0 : Int) ≤ l3_2.toInt ∧ l3_2.toInt ≤ 2147483647) → KV [38] v2 v → KF [20] f2 f → (2147483647 - l3_2.toInt).toNat < n2 → ∀ (H : Heap) (locs : List Loc) (ls : Array Slot), va_P (dC, dI) vwCl (XW cy x0 x v2 f2) H → va_D A (XW cy x0 x v2 f2) → va_S A s.heap H locs → lv_has ls 4 [(3, .int l3_2), (0, .ref (x 31)), (1, .int 5), (2, .int p2)] → W p l e { frames := 4, cells := 0, slots := 0, locals := 128 } s m ([.ref (x 31), .int 5, .int p2] : List Value).toArray below meth c H locs 0 0 Q (F0 m 21 ls []) := by
      intro n2
      induction n2 with
      | zero => intro l3_2 v2 f2 hIv2 hq0_v2 hq1_v2 hq7_v2 hq8_v2 hq9_v2 hq10_v2 hq31_v2 hq32_v2 hr3_2 hM_v2 hA_f2 hm; exact absurd hm (Nat.not_lt_zero _)
      | succ n2 ih2 =>
        intro l3_2 v2 f2 hIv2 hq0_v2 hq1_v2 hq7_v2 hq8_v2 hq9_v2 hq10_v2 hq31_v2 hq32_v2 hr3_2 hM_v2 hA_f2 hm2 H locs ls hP hD hS hl
        refine lv_iload_n hx hb dX0_painted_21 rfl (lv_at hl 0 rfl) ?_
        refine lv_iload_n hx hb dX0_painted_22 rfl (lv_at hl 3 rfl) ?_
        refine lv_icmp_ge (tgt := 64) hx hb dX0_painted_23 (by decide) (fun c3 => ?_) (fun c3 => ?_)
        · skip
          have zc3 : p2.toInt ≤ l3_2.toInt := by rw [fa_le] at c3; exact c3
          have rg4 := fb_rng l3_2
          have rg5 := fb_rng p2
          refine lv_iconst (v := 0) hx hb dX0_painted_64 (by decide) ?_
          exact ret 0 (v2, f2) _ _ _ _ _ _ rfl ⟨hM_v2, hA_f2, hIv2, (show v2 0 = v 0 from hq0_v2), (show v2 1 = v 1 from hq1_v2), (show v2 7 = v 7 from hq7_v2), (show v2 8 = v 8 from hq8_v2), (show v2 9 = v 9 from hq9_v2), (show v2 10 = v 10 from hq10_v2), (show v2 31 = v 31 from hq31_v2), (show v2 32 = v 32 from hq32_v2), (Or.inr rfl)⟩ hP hD hS dX0_painted_65 (Nat.le_refl _) (Nat.le_refl _)
        · skip
          have zc3 : ¬ (p2.toInt ≤ l3_2.toInt) := by rw [fa_le] at c3; exact c3
          have rg6 := fb_rng l3_2
          have rg7 := fb_rng p2
          refine lv_aload_n hx hb dX0_painted_26 rfl (lv_at hl 1 rfl) ?_
          refine lv_iload_n hx hb dX0_painted_27 rfl (lv_at hl 2 rfl) ?_
          refine lv_iload_n hx hb dX0_painted_28 rfl (lv_at hl 0 rfl) ?_
          refine cbVi (n := 2) (rest := []) hx hb hml hown hts hE hP hD hS hA (sX_X0_isClear_1 l dC dI cy x0 x 5 l3_2 v2 f2 hIv2 ) k_1123 k_1125 k_34 k_111 k_1126 (by decide +kernel) ⟨Nat.le_of_ble_eq_true rfl, Nat.le_of_ble_eq_true rfl⟩ 32 0 rfl rfl (rfl) hl.1 rfl (Nat.le_of_ble_eq_true rfl) dX0_painted_29 (fun r8 u H locs hw hP hD hS => ?_)
          rcases hw with ⟨g9⟩ | ⟨g9⟩
          · skip
            subst g9
            refine lv_if_eq (tgt := 58) hx hb dX0_painted_32 (by decide) (fun c0 => absurd c0 (by decide)) (fun _ => ?_)
            refine lv_aload_n hx hb dX0_painted_35 rfl (lv_at hl 1 rfl) ?_
            refine lv_iload_n hx hb dX0_painted_36 rfl (lv_at hl 2 rfl) ?_
            refine va_put (D := (dC, dI)) (ci := 0) (v := .int 5) (ty := tyX0 3) (C := RX0) (T := TX0) (N := 8) hx hb hts inB_0 tyX0 tyX0_ok nmX0 hown hE.1 hP hD hS 32 rfl rfl 3 (by decide) (hts _ k_433) (fun _ h9 => h9) rfl (tyX0_ok 3 (by decide)) rfl rfl (Nat.le_of_ble_eq_true rfl) dX0_painted_37 (fun H locs hP hD hS => ?_)
            have hP : va_P (dC, dI) vwCl (XW cy x0 x (upd v2 38 5) f2) H := hP
            have hD : va_D A (XW cy x0 x (upd v2 38 5) f2) := hD
            refine lv_aload_n hx hb dX0_painted_40 rfl (lv_at hl 1 rfl) ?_
            refine lv_iload_n hx hb dX0_painted_41 rfl (lv_at hl 0 rfl) ?_
            refine cbVv (n := 1) (rest := []) hx hb hml hown hts hE hP hD hS hA (sX_X0_lay_1 l dC dI cy x0 x l3_2 (upd v2 38 5) f2 (XI.upd (j := 38) (x := 5) hIv2 (by decide) (by decide)) ) k_995 k_997 k_26 k_111 k_998 (by decide +kernel) ⟨Nat.le_of_ble_eq_true rfl, Nat.le_of_ble_eq_true rfl⟩ 32 0 rfl rfl (rfl) hl.1 rfl (Nat.le_of_ble_eq_true rfl) dX0_painted_42 (fun u H locs hw hP hD hS => ?_)
            obtain ⟨v10, f11⟩ := u
            obtain ⟨kV_v10, kF_f11, hIv10, hk0_v10, hk1_v10, hk7_v10, hk8_v10, hk9_v10, hk10_v10, hk31_v10, hk32_v10⟩ := hw
            have hM_v10 : KV [38] v10 v := KV.tr kV_v10 (KV.up (j := 38) (x := 5) hM_v2 rfl) rfl
            have hA_f11 : KF [20] f11 f := KF.tr kF_f11 hA_f2 rfl
            have hP : va_P (dC, dI) vwCl (XW cy x0 x v10 f11) H := hP
            have hD : va_D A (XW cy x0 x v10 f11) := hD
            have hq0_v10 : v10 0 = (v 0) := hk0_v10.trans hq0_v2
            have hq1_v10 : v10 1 = (v 1) := hk1_v10.trans hq1_v2
            have hq7_v10 : v10 7 = (v 7) := hk7_v10.trans hq7_v2
            have hq8_v10 : v10 8 = (v 8) := hk8_v10.trans hq8_v2
            have hq9_v10 : v10 9 = (v 9) := hk9_v10.trans hq9_v2
            have hq10_v10 : v10 10 = (v 10) := hk10_v10.trans hq10_v2
            have hq31_v10 : v10 31 = (v 31) := hk31_v10.trans hq31_v2
            have hq32_v10 : v10 32 = (v 32) := hk32_v10.trans hq32_v2
            refine lv_aload_n hx hb dX0_painted_45 rfl (lv_at hl 1 rfl) ?_
            refine lv_iload_n hx hb dX0_painted_46 rfl (lv_at hl 2 rfl) ?_
            refine lv_iconst (v := 1) hx hb dX0_painted_47 (by decide) ?_
            refine lv_iadd hx hb dX0_painted_48 ?_
            refine tI (y := 6) (by decide) ?_
            refine lv_iload_n hx hb dX0_painted_49 rfl (lv_at hl 3 rfl) ?_
            refine cbVi (n := 2) (rest := []) hx hb hml hown hts hE hP hD hS hA (sX_X0_painted_7 l dC dI cy x0 x p2 v10 f11 hIv10 ) k_1119 k_1121 k_33 k_111 k_1122 (by decide +kernel) ⟨Nat.le_of_ble_eq_true rfl, Nat.le_of_ble_eq_true rfl⟩ 32 0 rfl rfl (rfl) hl.1 rfl (Nat.le_of_ble_eq_true rfl) dX0_painted_50 (fun r12 u H locs hw hP hD hS => ?_)
            obtain ⟨v13, f14⟩ := u
            obtain ⟨kV_v13, kF_f14, hIv13, hk0_v13, hk1_v13, hk7_v13, hk8_v13, hk9_v13, hk10_v13, hk31_v13, hk32_v13, hw⟩ := hw
            have hM_v13 : KV [38] v13 v := KV.tr kV_v13 hM_v10 rfl
            have hA_f14 : KF [20] f14 f := KF.tr kF_f14 hA_f11 rfl
            have hP : va_P (dC, dI) vwCl (XW cy x0 x v13 f14) H := hP
            have hD : va_D A (XW cy x0 x v13 f14) := hD
            have hq0_v13 : v13 0 = (v 0) := hk0_v13.trans hq0_v10
            have hq1_v13 : v13 1 = (v 1) := hk1_v13.trans hq1_v10
            have hq7_v13 : v13 7 = (v 7) := hk7_v13.trans hq7_v10
            have hq8_v13 : v13 8 = (v 8) := hk8_v13.trans hq8_v10
            have hq9_v13 : v13 9 = (v 9) := hk9_v13.trans hq9_v10
            have hq10_v13 : v13 10 = (v 10) := hk10_v13.trans hq10_v10
            have hq31_v13 : v13 31 = (v 31) := hk31_v13.trans hq31_v10
            have hq32_v13 : v13 32 = (v 32) := hk32_v13.trans hq32_v10
            rcases hw with ⟨g15⟩ | ⟨g15⟩
            · skip
              subst g15
              refine lv_if_eq (tgt := 58) hx hb dX0_painted_53 (by decide) (fun c0 => absurd c0 (by decide)) (fun _ => ?_)
              refine lv_iconst (v := 1) hx hb dX0_painted_56 (by decide) ?_
              exact ret 1 (v13, f14) _ _ _ _ _ _ rfl ⟨hM_v13, hA_f14, hIv13, (hk0_v13.trans (hk0_v10.trans (show v2 0 = v 0 from hq0_v2))), (hk1_v13.trans (hk1_v10.trans (show v2 1 = v 1 from hq1_v2))), (hk7_v13.trans (hk7_v10.trans (show v2 7 = v 7 from hq7_v2))), (hk8_v13.trans (hk8_v10.trans (show v2 8 = v 8 from hq8_v2))), (hk9_v13.trans (hk9_v10.trans (show v2 9 = v 9 from hq9_v2))), (hk10_v13.trans (hk10_v10.trans (show v2 10 = v 10 from hq10_v2))), (hk31_v13.trans (hk31_v10.trans (show v2 31 = v 31 from hq31_v2))), (hk32_v13.trans (hk32_v10.trans (show v2 32 = v 32 from hq32_v2))), (Or.inl rfl)⟩ hP hD hS dX0_painted_57 (Nat.le_refl _) (Nat.le_refl _)
            · skip
              subst g15
              refine lv_if_eq (tgt := 58) hx hb dX0_painted_53 (by decide) (fun _ => ?_) (fun c0 => absurd (by decide) c0)
              obtain ⟨t16, et16⟩ : ∃ y : Int32, y = l3_2 + 1 := ⟨_, rfl⟩
              have zt16 : t16.toInt = l3_2.toInt + 1 := by rw [et16]; exact add_i rfl (by decide) (by omega) (by omega)
              refine lv_iinc (v := t16) (lv' := [(3, .int t16), (0, .ref (x 31)), (1, .int 5), (2, .int p2)]) hx hb dX0_painted_58 hl (k := 0) rfl (by rw [et16]; rfl) (by decide) rfl (fun ls hl => ?_)
              refine lv_goto (tgt := 21) hx hb dX0_painted_61 (by decide) ?_
              have rg17 := fb_rng t16
              exact ih2 t16 v13 f14 hIv13 hq0_v13 hq1_v13 hq7_v13 hq8_v13 hq9_v13 hq10_v13 hq31_v13 hq32_v13 ⟨show (0 : Int) ≤ t16.toInt by omega, show t16.toInt ≤ (2147483647 : Int) by omega⟩ hM_v13 hA_f14 (by show (2147483647 - t16.toInt).toNat < n2; omega) _ _ _ hP hD hS (lv_sub hl [0, 1, 2, 3] rfl)
          · skip
            subst g9
            refine lv_if_eq (tgt := 58) hx hb dX0_painted_32 (by decide) (fun _ => ?_) (fun c0 => absurd (by decide) c0)
            obtain ⟨t18, et18⟩ : ∃ y : Int32, y = l3_2 + 1 := ⟨_, rfl⟩
            have zt18 : t18.toInt = l3_2.toInt + 1 := by rw [et18]; exact add_i rfl (by decide) (by omega) (by omega)
            refine lv_iinc (v := t18) (lv' := [(3, .int t18), (0, .ref (x 31)), (1, .int 5), (2, .int p2)]) hx hb dX0_painted_58 hl (k := 0) rfl (by rw [et18]; rfl) (by decide) rfl (fun ls hl => ?_)
            refine lv_goto (tgt := 21) hx hb dX0_painted_61 (by decide) ?_
            have rg19 := fb_rng t18
            exact ih2 t18 v2 f2 hIv2 hq0_v2 hq1_v2 hq7_v2 hq8_v2 hq9_v2 hq10_v2 hq31_v2 hq32_v2 ⟨show (0 : Int) ≤ t18.toInt by omega, show t18.toInt ≤ (2147483647 : Int) by omega⟩ hM_v2 hA_f2 (by show (2147483647 - t18.toInt).toNat < n2; omega) _ _ _ hP hD hS (lv_sub hl [0, 1, 2, 3] rfl)
    exact lp2 _ 0 v f hIv rfl rfl rfl rfl rfl rfl rfl rfl ⟨by decide, by decide⟩ hM_v hA_f (Nat.lt_succ_self _) _ _ _ hP hD hS (lv_sub hl [0, 1, 2, 3] rfl)
set_option maxHeartbeats 4000000 in
set_option maxRecDepth 100000 in
theorem sX_X0_painted_5 (l : Launch) (dC : Nat → ClassId) (dI : Nat → Nat → Nat) (cy : Nat → ClassId) (x0 : Nat) (x : Nat → Nat) (p2 : Int32) (v : Nat → Int32) (f : Nat → Nat → Int32) (hIv : XI v)  : ctI l (dC, dI) cy yX0_painted cX0_painted 4 .boolean 5 151 0 0 ((Nat → Int32) × (Nat → Nat → Int32)) [.ref (x 31), .int 4, .int p2] (XW cy x0 x v f) (fun r u => KV [38] u.1 v ∧ KF [20] u.2 f ∧ XI u.1 ∧ u.1 0 = v 0 ∧ u.1 1 = v 1 ∧ u.1 7 = v 7 ∧ u.1 8 = v 8 ∧ u.1 9 = v 9 ∧ u.1 10 = v 10 ∧ u.1 31 = v 31 ∧ u.1 32 = v 32 ∧ ((r = 1) ∨ (r = 0))) (fun u => XW cy x0 x u.1 u.2) := by
  refine ctI_of (by decide) (Nat.le_of_ble_eq_true rfl) (fun p e s m below meth c A ls Q hx hb hml hts hown hE hP hD hA hl ret => ?_)
  have hM_v : KV [38] v v := fun _ _ => rfl
  have hA_f : KF [20] f f := fun _ _ => rfl
  have hown : s.vm.findClass RX0 = some m.cls := hown
  have hS : va_S A s.heap s.heap [] := va_S.rf
  have hl : lv_has ls 4 [(0, .ref (x 31)), (1, .int 4), (2, .int p2)] := hl
  refine lv_iload_n hx hb dX0_painted_0 rfl (lv_at hl 1 rfl) ?_
  refine lv_aload_n hx hb dX0_painted_1 rfl (lv_at hl 0 rfl) ?_
  refine va_get (D := (dC, dI)) (ci := 0) (v := .ref (x 26)) (C := RX0) (T := TX0) (N := 8) hx hb hts inB_0 hown hE.1 hP 32 rfl rfl 0 (by decide) (hts _ k_430) (fun _ h9 => h9) rfl dX0_painted_2 ?_
  refine va_getN (D := (dC, dI)) (ci := 7) (v := .int (v 31)) (C := RX7) (T := TX7) (N := 10) hx hb hts inB_7 hown hE.1 hP 27 rfl rfl 3 (by decide) (va_Nw.use rfl (hE.2 _ k_216)) (fun _ h9 => h9) rfl dX0_painted_5 ?_
  have b31_v : 0 ≤ (v 31).toInt ∧ (v 31).toInt ≤ 6 := XI.b hIv 31 (by decide)
  refine lv_icmp_ge (tgt := 17) hx hb dX0_painted_8 (by decide) (fun c1 => ?_) (fun c1 => ?_)
  · skip
    have zc1 : (v 31).toInt ≤ 4 := by rw [fa_le, show (4 : Int32).toInt = 4 from by decide] at c1; exact c1
    refine lv_iconst (v := 1) hx hb dX0_painted_17 (by decide) ?_
    exact ret 1 (v, f) _ _ _ _ _ _ rfl ⟨hM_v, hA_f, hIv, rfl, rfl, rfl, rfl, rfl, rfl, rfl, rfl, (Or.inl rfl)⟩ hP hD hS dX0_painted_18 (Nat.le_refl _) (Nat.le_refl _)
  · skip
    have zc1 : ¬ ((v 31).toInt ≤ 4) := by rw [fa_le, show (4 : Int32).toInt = 4 from by decide] at c1; exact c1
    refine lv_iload_n hx hb dX0_painted_11 rfl (lv_at hl 1 rfl) ?_
    refine lv_bipush (v := 6) hx hb dX0_painted_12 (by decide) ?_
    refine lv_icmp_lt (tgt := 19) hx hb dX0_painted_14 (by decide) (fun _ => ?_) (fun c0 => absurd (by decide) c0)
    refine lv_iconst (v := 0) hx hb dX0_painted_19 (by decide) ?_
    refine lv_istore_n (lv' := [(3, .int 0), (0, .ref (x 31)), (1, .int 4), (2, .int p2)]) hx hb dX0_painted_20 rfl hl (by decide) rfl (fun ls hl => ?_)
    have lp2 : ∀ (n2 : Nat) (l3_2 : Int32) (v2 : Nat → Int32) (f2 : Nat → Nat → Int32), XI v2 → v2 0 = (v 0) → v2 1 = (v 1) → v2 7 = (v 7) → v2 8 = (v 8) → v2 9 = (v 9) → v2 10 = (v 10) → v2 31 = (v 31) → v2 32 = (v 32) → ((0 : Int) ≤ l3_2.toInt ∧ l3_2.toInt ≤ 2147483647) → KV [38] v2 v → KF [20] f2 f → (2147483647 - l3_2.toInt).toNat < n2 → ∀ (H : Heap) (locs : List Loc) (ls : Array Slot), va_P (dC, dI) vwCl (XW cy x0 x v2 f2) H → va_D A (XW cy x0 x v2 f2) → va_S A s.heap H locs → lv_has ls 4 [(3, .int l3_2), (0, .ref (x 31)), (1, .int 4), (2, .int p2)] → W p l e { frames := 5, cells := 0, slots := 0, locals := 151 } s m ([.ref (x 31), .int 4, .int p2] : List Value).toArray below meth c H locs 0 0 Q (F0 m 21 ls []) := by
      intro n2
      induction n2 with
      | zero => intro l3_2 v2 f2 hIv2 hq0_v2 hq1_v2 hq7_v2 hq8_v2 hq9_v2 hq10_v2 hq31_v2 hq32_v2 hr3_2 hM_v2 hA_f2 hm; exact absurd hm (Nat.not_lt_zero _)
      | succ n2 ih2 =>
        intro l3_2 v2 f2 hIv2 hq0_v2 hq1_v2 hq7_v2 hq8_v2 hq9_v2 hq10_v2 hq31_v2 hq32_v2 hr3_2 hM_v2 hA_f2 hm2 H locs ls hP hD hS hl
        refine lv_iload_n hx hb dX0_painted_21 rfl (lv_at hl 0 rfl) ?_
        refine lv_iload_n hx hb dX0_painted_22 rfl (lv_at hl 3 rfl) ?_
        refine lv_icmp_ge (tgt := 64) hx hb dX0_painted_23 (by decide) (fun c3 => ?_) (fun c3 => ?_)
        · skip
          have zc3 : p2.toInt ≤ l3_2.toInt := by rw [fa_le] at c3; exact c3
          have rg4 := fb_rng l3_2
          have rg5 := fb_rng p2
          refine lv_iconst (v := 0) hx hb dX0_painted_64 (by decide) ?_
          exact ret 0 (v2, f2) _ _ _ _ _ _ rfl ⟨hM_v2, hA_f2, hIv2, (show v2 0 = v 0 from hq0_v2), (show v2 1 = v 1 from hq1_v2), (show v2 7 = v 7 from hq7_v2), (show v2 8 = v 8 from hq8_v2), (show v2 9 = v 9 from hq9_v2), (show v2 10 = v 10 from hq10_v2), (show v2 31 = v 31 from hq31_v2), (show v2 32 = v 32 from hq32_v2), (Or.inr rfl)⟩ hP hD hS dX0_painted_65 (Nat.le_refl _) (Nat.le_refl _)
        · skip
          have zc3 : ¬ (p2.toInt ≤ l3_2.toInt) := by rw [fa_le] at c3; exact c3
          have rg6 := fb_rng l3_2
          have rg7 := fb_rng p2
          refine lv_aload_n hx hb dX0_painted_26 rfl (lv_at hl 1 rfl) ?_
          refine lv_iload_n hx hb dX0_painted_27 rfl (lv_at hl 2 rfl) ?_
          refine lv_iload_n hx hb dX0_painted_28 rfl (lv_at hl 0 rfl) ?_
          refine cbVi (n := 2) (rest := []) hx hb hml hown hts hE hP hD hS hA (sX_X0_isClear_1 l dC dI cy x0 x 4 l3_2 v2 f2 hIv2 ) k_1123 k_1125 k_34 k_111 k_1126 (by decide +kernel) ⟨Nat.le_of_ble_eq_true rfl, Nat.le_of_ble_eq_true rfl⟩ 32 0 rfl rfl (rfl) hl.1 rfl (Nat.le_of_ble_eq_true rfl) dX0_painted_29 (fun r8 u H locs hw hP hD hS => ?_)
          rcases hw with ⟨g9⟩ | ⟨g9⟩
          · skip
            subst g9
            refine lv_if_eq (tgt := 58) hx hb dX0_painted_32 (by decide) (fun c0 => absurd c0 (by decide)) (fun _ => ?_)
            refine lv_aload_n hx hb dX0_painted_35 rfl (lv_at hl 1 rfl) ?_
            refine lv_iload_n hx hb dX0_painted_36 rfl (lv_at hl 2 rfl) ?_
            refine va_put (D := (dC, dI)) (ci := 0) (v := .int 4) (ty := tyX0 3) (C := RX0) (T := TX0) (N := 8) hx hb hts inB_0 tyX0 tyX0_ok nmX0 hown hE.1 hP hD hS 32 rfl rfl 3 (by decide) (hts _ k_433) (fun _ h9 => h9) rfl (tyX0_ok 3 (by decide)) rfl rfl (Nat.le_of_ble_eq_true rfl) dX0_painted_37 (fun H locs hP hD hS => ?_)
            have hP : va_P (dC, dI) vwCl (XW cy x0 x (upd v2 38 4) f2) H := hP
            have hD : va_D A (XW cy x0 x (upd v2 38 4) f2) := hD
            refine lv_aload_n hx hb dX0_painted_40 rfl (lv_at hl 1 rfl) ?_
            refine lv_iload_n hx hb dX0_painted_41 rfl (lv_at hl 0 rfl) ?_
            refine cbVv (n := 1) (rest := []) hx hb hml hown hts hE hP hD hS hA (sX_X0_lay_1 l dC dI cy x0 x l3_2 (upd v2 38 4) f2 (XI.upd (j := 38) (x := 4) hIv2 (by decide) (by decide)) ) k_995 k_997 k_26 k_111 k_998 (by decide +kernel) ⟨Nat.le_of_ble_eq_true rfl, Nat.le_of_ble_eq_true rfl⟩ 32 0 rfl rfl (rfl) hl.1 rfl (Nat.le_of_ble_eq_true rfl) dX0_painted_42 (fun u H locs hw hP hD hS => ?_)
            obtain ⟨v10, f11⟩ := u
            obtain ⟨kV_v10, kF_f11, hIv10, hk0_v10, hk1_v10, hk7_v10, hk8_v10, hk9_v10, hk10_v10, hk31_v10, hk32_v10⟩ := hw
            have hM_v10 : KV [38] v10 v := KV.tr kV_v10 (KV.up (j := 38) (x := 4) hM_v2 rfl) rfl
            have hA_f11 : KF [20] f11 f := KF.tr kF_f11 hA_f2 rfl
            have hP : va_P (dC, dI) vwCl (XW cy x0 x v10 f11) H := hP
            have hD : va_D A (XW cy x0 x v10 f11) := hD
            have hq0_v10 : v10 0 = (v 0) := hk0_v10.trans hq0_v2
            have hq1_v10 : v10 1 = (v 1) := hk1_v10.trans hq1_v2
            have hq7_v10 : v10 7 = (v 7) := hk7_v10.trans hq7_v2
            have hq8_v10 : v10 8 = (v 8) := hk8_v10.trans hq8_v2
            have hq9_v10 : v10 9 = (v 9) := hk9_v10.trans hq9_v2
            have hq10_v10 : v10 10 = (v 10) := hk10_v10.trans hq10_v2
            have hq31_v10 : v10 31 = (v 31) := hk31_v10.trans hq31_v2
            have hq32_v10 : v10 32 = (v 32) := hk32_v10.trans hq32_v2
            refine lv_aload_n hx hb dX0_painted_45 rfl (lv_at hl 1 rfl) ?_
            refine lv_iload_n hx hb dX0_painted_46 rfl (lv_at hl 2 rfl) ?_
            refine lv_iconst (v := 1) hx hb dX0_painted_47 (by decide) ?_
            refine lv_iadd hx hb dX0_painted_48 ?_
            refine tI (y := 5) (by decide) ?_
            refine lv_iload_n hx hb dX0_painted_49 rfl (lv_at hl 3 rfl) ?_
            refine cbVi (n := 2) (rest := []) hx hb hml hown hts hE hP hD hS hA (sX_X0_painted_6 l dC dI cy x0 x p2 v10 f11 hIv10 ) k_1119 k_1121 k_33 k_111 k_1122 (by decide +kernel) ⟨Nat.le_of_ble_eq_true rfl, Nat.le_of_ble_eq_true rfl⟩ 32 0 rfl rfl (rfl) hl.1 rfl (Nat.le_of_ble_eq_true rfl) dX0_painted_50 (fun r12 u H locs hw hP hD hS => ?_)
            obtain ⟨v13, f14⟩ := u
            obtain ⟨kV_v13, kF_f14, hIv13, hk0_v13, hk1_v13, hk7_v13, hk8_v13, hk9_v13, hk10_v13, hk31_v13, hk32_v13, hw⟩ := hw
            have hM_v13 : KV [38] v13 v := KV.tr kV_v13 hM_v10 rfl
            have hA_f14 : KF [20] f14 f := KF.tr kF_f14 hA_f11 rfl
            have hP : va_P (dC, dI) vwCl (XW cy x0 x v13 f14) H := hP
            have hD : va_D A (XW cy x0 x v13 f14) := hD
            have hq0_v13 : v13 0 = (v 0) := hk0_v13.trans hq0_v10
            have hq1_v13 : v13 1 = (v 1) := hk1_v13.trans hq1_v10
            have hq7_v13 : v13 7 = (v 7) := hk7_v13.trans hq7_v10
            have hq8_v13 : v13 8 = (v 8) := hk8_v13.trans hq8_v10
            have hq9_v13 : v13 9 = (v 9) := hk9_v13.trans hq9_v10
            have hq10_v13 : v13 10 = (v 10) := hk10_v13.trans hq10_v10
            have hq31_v13 : v13 31 = (v 31) := hk31_v13.trans hq31_v10
            have hq32_v13 : v13 32 = (v 32) := hk32_v13.trans hq32_v10
            rcases hw with ⟨g15⟩ | ⟨g15⟩
            · skip
              subst g15
              refine lv_if_eq (tgt := 58) hx hb dX0_painted_53 (by decide) (fun c0 => absurd c0 (by decide)) (fun _ => ?_)
              refine lv_iconst (v := 1) hx hb dX0_painted_56 (by decide) ?_
              exact ret 1 (v13, f14) _ _ _ _ _ _ rfl ⟨hM_v13, hA_f14, hIv13, (hk0_v13.trans (hk0_v10.trans (show v2 0 = v 0 from hq0_v2))), (hk1_v13.trans (hk1_v10.trans (show v2 1 = v 1 from hq1_v2))), (hk7_v13.trans (hk7_v10.trans (show v2 7 = v 7 from hq7_v2))), (hk8_v13.trans (hk8_v10.trans (show v2 8 = v 8 from hq8_v2))), (hk9_v13.trans (hk9_v10.trans (show v2 9 = v 9 from hq9_v2))), (hk10_v13.trans (hk10_v10.trans (show v2 10 = v 10 from hq10_v2))), (hk31_v13.trans (hk31_v10.trans (show v2 31 = v 31 from hq31_v2))), (hk32_v13.trans (hk32_v10.trans (show v2 32 = v 32 from hq32_v2))), (Or.inl rfl)⟩ hP hD hS dX0_painted_57 (Nat.le_refl _) (Nat.le_refl _)
            · skip
              subst g15
              refine lv_if_eq (tgt := 58) hx hb dX0_painted_53 (by decide) (fun _ => ?_) (fun c0 => absurd (by decide) c0)
              obtain ⟨t16, et16⟩ : ∃ y : Int32, y = l3_2 + 1 := ⟨_, rfl⟩
              have zt16 : t16.toInt = l3_2.toInt + 1 := by rw [et16]; exact add_i rfl (by decide) (by omega) (by omega)
              refine lv_iinc (v := t16) (lv' := [(3, .int t16), (0, .ref (x 31)), (1, .int 4), (2, .int p2)]) hx hb dX0_painted_58 hl (k := 0) rfl (by rw [et16]; rfl) (by decide) rfl (fun ls hl => ?_)
              refine lv_goto (tgt := 21) hx hb dX0_painted_61 (by decide) ?_
              have rg17 := fb_rng t16
              exact ih2 t16 v13 f14 hIv13 hq0_v13 hq1_v13 hq7_v13 hq8_v13 hq9_v13 hq10_v13 hq31_v13 hq32_v13 ⟨show (0 : Int) ≤ t16.toInt by omega, show t16.toInt ≤ (2147483647 : Int) by omega⟩ hM_v13 hA_f14 (by show (2147483647 - t16.toInt).toNat < n2; omega) _ _ _ hP hD hS (lv_sub hl [0, 1, 2, 3] rfl)
          · skip
            subst g9
            refine lv_if_eq (tgt := 58) hx hb dX0_painted_32 (by decide) (fun _ => ?_) (fun c0 => absurd (by decide) c0)
            obtain ⟨t18, et18⟩ : ∃ y : Int32, y = l3_2 + 1 := ⟨_, rfl⟩
            have zt18 : t18.toInt = l3_2.toInt + 1 := by rw [et18]; exact add_i rfl (by decide) (by omega) (by omega)
            refine lv_iinc (v := t18) (lv' := [(3, .int t18), (0, .ref (x 31)), (1, .int 4), (2, .int p2)]) hx hb dX0_painted_58 hl (k := 0) rfl (by rw [et18]; rfl) (by decide) rfl (fun ls hl => ?_)
            refine lv_goto (tgt := 21) hx hb dX0_painted_61 (by decide) ?_
            have rg19 := fb_rng t18
            exact ih2 t18 v2 f2 hIv2 hq0_v2 hq1_v2 hq7_v2 hq8_v2 hq9_v2 hq10_v2 hq31_v2 hq32_v2 ⟨show (0 : Int) ≤ t18.toInt by omega, show t18.toInt ≤ (2147483647 : Int) by omega⟩ hM_v2 hA_f2 (by show (2147483647 - t18.toInt).toNat < n2; omega) _ _ _ hP hD hS (lv_sub hl [0, 1, 2, 3] rfl)
    exact lp2 _ 0 v f hIv rfl rfl rfl rfl rfl rfl rfl rfl ⟨by decide, by decide⟩ hM_v hA_f (Nat.lt_succ_self _) _ _ _ hP hD hS (lv_sub hl [0, 1, 2, 3] rfl)
