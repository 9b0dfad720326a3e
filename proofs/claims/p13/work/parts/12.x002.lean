set_option maxHeartbeats 4000000 in
set_option maxRecDepth 100000 in
theorem sX_X9_wordKind_1 (NF : Nat) (l : Launch) (dC : Nat → ClassId) (dI : Nat → Nat → Nat) (cy : Nat → ClassId) (x0 : Nat) (x : Nat → Nat)  (v : Nat → Int32) (f : Nat → Nat → Int32) (hIv : XI v)  : ctIS l (dC, dI) cy yX9_wordKind cX9_wordKind 7 .int 5 145 0 0 Unit [.ref (x 0)] (XW cy x0 x v f) (fun r u => gsX_X9_wordKind_1 NF v f = r) (fun u => XW cy x0 x v f) := by
  refine ctIS_of (by decide) (Nat.le_of_ble_eq_true rfl) (fun p e s m below meth c A ls Q hx hb hml hts hown hE hF hT hP hD hA hl ret => ?_)
  have hown : s.vm.findClass RX9 = some m.cls := hown
  have hS : va_S A s.heap s.heap [] := va_S.rf
  have hl : lv_has ls 7 [(0, .ref (x 0))] := hl
  refine lv_bipush (v := 101) hx hb dX9_wordKind_0 (by decide) ?_
  refine lv_istore_n (lv' := [(1, .int 101), (0, .ref (x 0))]) hx hb dX9_wordKind_2 rfl hl (by decide) rfl (fun ls hl => ?_)
  refine lv_iconst (v := 0) hx hb dX9_wordKind_3 (by decide) ?_
  refine lv_istore_n (lv' := [(2, .int 0), (1, .int 101), (0, .ref (x 0))]) hx hb dX9_wordKind_4 rfl hl (by decide) rfl (fun ls hl => ?_)
  refine lv_iconst (v := 1) hx hb dX9_wordKind_5 (by decide) ?_
  refine lv_istore_n (lv' := [(3, .int 1), (2, .int 0), (1, .int 101), (0, .ref (x 0))]) hx hb dX9_wordKind_6 rfl hl (by decide) rfl (fun ls hl => ?_)
  refine lv_iconst (v := 0) hx hb dX9_wordKind_7 (by decide) ?_
  refine lv_istore (lv' := [(4, .int 0), (3, .int 1), (2, .int 0), (1, .int 101), (0, .ref (x 0))]) hx hb dX9_wordKind_8 hl (by decide) rfl (fun ls hl => ?_)
  have lp1 : ∀ (n1 : Nat) (l1_1 : Int32) (l2_1 : Int32) (l3_1 : Int32) (l4_1 : Int32), gsX_X9_wordKind_1_L1 NF v f n1 l1_1 l2_1 l3_1 l4_1 = (gsX_X9_wordKind_1 NF v f) → ((0 : Int) ≤ l2_1.toInt ∧ l2_1.toInt ≤ 102) → ((0 : Int) ≤ l3_1.toInt ∧ l3_1.toInt ≤ 1) → ((0 : Int) ≤ l4_1.toInt ∧ l4_1.toInt ≤ 102) → (l2_1.toInt ≤ l4_1.toInt) → (2147483647 - l4_1.toInt).toNat < n1 → ∀ (H : Heap) (locs : List Loc) (ls : Array Slot), va_P (dC, dI) vwCl (XW cy x0 x v f) H → va_D A (XW cy x0 x v f) → va_S A s.heap H locs → lv_has ls 7 [(4, .int l4_1), (3, .int l3_1), (2, .int l2_1), (1, .int l1_1), (0, .ref (x 0))] → W p l e { frames := 5, cells := 0, slots := 0, locals := 145 } s m ([.ref (x 0)] : List Value).toArray below meth c H locs 0 0 Q (F0 m 10 ls []) := by
    intro n1
    induction n1 with
    | zero => intro l1_1 l2_1 l3_1 l4_1 hT1 hr2_1 hr3_1 hr4_1 hx0_1 hm; exact absurd hm (Nat.not_lt_zero _)
    | succ n1 ih1 =>
      intro l1_1 l2_1 l3_1 l4_1 hT1 hr2_1 hr3_1 hr4_1 hx0_1 hm1 H locs ls hP hD hS hl
      refine lv_iload hx hb dX9_wordKind_10 (lv_at hl 0 rfl) ?_
      refine va_ldcS hx hb hown hF.2 dX9_wordKind_12 ?_
      refine crVi (n := 0) (rest := [.int l4_1]) hx hb hml hown hts hE hP hD hS hA hF hT (sX_J0_length_8abf5_1 NF l dC dI cy x0 x  v f hIv ) k_571 k_572 k_573 k_115 k_574 (by decide +kernel) ⟨Nat.le_of_ble_eq_true rfl, Nat.le_of_ble_eq_true rfl⟩ 1 (by decide) rfl rfl (rfl) hl.1 rfl (Nat.le_of_ble_eq_true rfl) dX9_wordKind_14 (fun r2 u H locs hw hP hD hS => ?_)
      obtain ⟨hG3, hw⟩ := hw
      refine tI (y := 102) hw ?_
      refine lv_icmp_ge (tgt := 112) hx hb dX9_wordKind_17 (by decide) (fun c4 => ?_) (fun c4 => ?_)
      · skip
        have zc4 : 102 ≤ l4_1.toInt := by rw [fa_le, show (102 : Int32).toInt = 102 from by decide] at c4; exact c4
        refine lv_iconst (v := 3) hx hb dX9_wordKind_112 (by decide) ?_
        exact ret 3 () _ _ _ _ _ _ rfl (hT1.symm.trans (gsX_X9_wordKind_1_q0 c4)) hP hD hS dX9_wordKind_113 (Nat.le_refl _) (Nat.le_refl _)
      · skip
        have zc4 : ¬ (102 ≤ l4_1.toInt) := by rw [fa_le, show (102 : Int32).toInt = 102 from by decide] at c4; exact c4
        refine va_ldcS hx hb hown hF.2 dX9_wordKind_20 ?_
        refine lv_iload hx hb dX9_wordKind_22 (lv_at hl 0 rfl) ?_
        refine crVi (n := 1) (rest := []) hx hb hml hown hts hE hP hD hS hA hF hT (sX_J0_charAt_5068e_1 NF l dC dI cy x0 x l4_1 v f hIv ⟨show (0 : Int) ≤ l4_1.toInt by omega, show l4_1.toInt ≤ (101 : Int) by omega⟩) k_581 k_582 k_583 k_115 k_584 (by decide +kernel) ⟨Nat.le_of_ble_eq_true rfl, Nat.le_of_ble_eq_true rfl⟩ 1 (by decide) rfl rfl (rfl) hl.1 rfl (Nat.le_of_ble_eq_true rfl) dX9_wordKind_24 (fun r5 u H locs hw hP hD hS => ?_)
        obtain ⟨hG6, hw⟩ := hw
        have nrr5 := hw
        refine lv_istore (lv' := [(5, .int r5), (4, .int l4_1), (3, .int l3_1), (2, .int l2_1), (1, .int l1_1), (0, .ref (x 0))]) hx hb dX9_wordKind_27 hl (by decide) rfl (fun ls hl => ?_)
        refine lv_aload_n hx hb dX9_wordKind_29 rfl (lv_at hl 5 rfl) ?_
        refine va_get (D := (dC, dI)) (ci := 9) (v := .int (v 3)) (C := RX9) (T := TX9) (N := 6) hx hb hts inB_9 hown hE.1 hP 1 rfl rfl 3 (by decide) (hts _ k_141) (fun _ h9 => h9) rfl dX9_wordKind_30 ?_
        have b3_v : 0 ≤ (v 3).toInt ∧ (v 3).toInt ≤ 1600 := XI.b hIv 3 (by decide)
        refine lv_iload hx hb dX9_wordKind_33 (lv_at hl 1 rfl) ?_
        refine lv_iadd hx hb dX9_wordKind_35 ?_
        refine lv_topi (fun t7 et7 => ?_)
        have rg8 := fb_rng (v 3)
        have rg9 := fb_rng l4_1
        have zt7 : t7.toInt = (v 3).toInt + l4_1.toInt := by rw [et7]; exact add_i rfl rfl (by omega) (by omega)
        refine lv_iload_n hx hb dX9_wordKind_36 rfl (lv_at hl 3 rfl) ?_
        refine lv_isub hx hb dX9_wordKind_37 ?_
        refine lv_topi (fun t10 et10 => ?_)
        have rg11 := fb_rng t7
        have rg12 := fb_rng l2_1
        have zt10 : t10.toInt = t7.toInt - l2_1.toInt := by rw [et10]; exact sub_i rfl rfl (by omega) (by omega)
        refine lv_istore (lv' := [(6, .int t10), (5, .int r5), (4, .int l4_1), (3, .int l3_1), (2, .int l2_1), (1, .int l1_1), (0, .ref (x 0))]) hx hb dX9_wordKind_38 hl (by decide) rfl (fun ls hl => ?_)
        refine lv_iload hx hb dX9_wordKind_40 (lv_at hl 1 rfl) ?_
        refine lv_bipush (v := 32) hx hb dX9_wordKind_42 (by decide) ?_
        refine lv_icmp_eq (tgt := 81) hx hb dX9_wordKind_44 (by decide) (fun c13 => ?_) (fun c13 => ?_)
        · skip
          have zc13 : r5.toInt = 32 := by rw [fa_eq, show (32 : Int32).toInt = 32 from by decide] at c13; exact c13
          refine lv_iload_n hx hb dX9_wordKind_81 rfl (lv_at hl 3 rfl) ?_
          refine lv_if_eq (tgt := 96) hx hb dX9_wordKind_82 (by decide) (fun c14 => ?_) (fun c14 => ?_)
          · skip
            have zc14 : l3_1.toInt = 0 := by rw [fa_eq, show (0 : Int32).toInt = 0 from by decide] at c14; exact c14
            obtain ⟨t15, et15⟩ : ∃ y : Int32, y = l1_1 + 1 := ⟨_, rfl⟩
            refine lv_iinc (v := t15) (lv' := [(1, .int t15), (6, .int t10), (5, .int r5), (4, .int l4_1), (3, .int l3_1), (2, .int l2_1), (0, .ref (x 0))]) hx hb dX9_wordKind_96 hl (k := 5) rfl (by rw [et15]; rfl) (by decide) rfl (fun ls hl => ?_)
            refine lv_iload hx hb dX9_wordKind_99 (lv_at hl 3 rfl) ?_
            refine lv_iconst (v := 1) hx hb dX9_wordKind_101 (by decide) ?_
            refine lv_iadd hx hb dX9_wordKind_102 ?_
            refine lv_topi (fun t16 et16 => ?_)
            have zt16 : t16.toInt = l4_1.toInt + 1 := by rw [et16]; exact add_i rfl (by decide) (by omega) (by omega)
            refine lv_istore_n (lv' := [(2, .int t16), (1, .int t15), (6, .int t10), (5, .int r5), (4, .int l4_1), (3, .int l3_1), (0, .ref (x 0))]) hx hb dX9_wordKind_103 rfl hl (by decide) rfl (fun ls hl => ?_)
            refine lv_iconst (v := 1) hx hb dX9_wordKind_104 (by decide) ?_
            refine lv_istore_n (lv' := [(3, .int 1), (2, .int t16), (1, .int t15), (6, .int t10), (5, .int r5), (4, .int l4_1), (0, .ref (x 0))]) hx hb dX9_wordKind_105 rfl hl (by decide) rfl (fun ls hl => ?_)
            obtain ⟨t17, et17⟩ : ∃ y : Int32, y = l4_1 + 1 := ⟨_, rfl⟩
            have zt17 : t17.toInt = l4_1.toInt + 1 := by rw [et17]; exact add_i rfl (by decide) (by omega) (by omega)
            refine lv_iinc (v := t17) (lv' := [(4, .int t17), (3, .int 1), (2, .int t16), (1, .int t15), (6, .int t10), (5, .int r5), (0, .ref (x 0))]) hx hb dX9_wordKind_106 hl (k := 5) rfl (by rw [et17]; rfl) (by decide) rfl (fun ls hl => ?_)
            refine lv_goto (tgt := 10) hx hb dX9_wordKind_109 (by decide) ?_
            have rg18 := fb_rng t16
            have rg19 := fb_rng t17
            exact ih1 t15 t16 1 t17 ((gsX_X9_wordKind_1_q1 c4 hG6.symm et7 et10 c13 c14 et15 et16 et17).symm.trans hT1) ⟨show (0 : Int) ≤ t16.toInt by omega, show t16.toInt ≤ (102 : Int) by omega⟩ ⟨by decide, by decide⟩ ⟨show (0 : Int) ≤ t17.toInt by omega, show t17.toInt ≤ (102 : Int) by omega⟩ (by show t16.toInt ≤ t17.toInt; omega) (by show (2147483647 - t17.toInt).toNat < n1; omega) _ _ _ hP hD hS (lv_sub hl [0, 1, 2, 3, 6] rfl)
          · skip
            have zc14 : ¬ (l3_1.toInt = 0) := by rw [fa_eq, show (0 : Int32).toInt = 0 from by decide] at c14; exact c14
            refine lv_iload hx hb dX9_wordKind_85 (lv_at hl 0 rfl) ?_
            refine lv_aload_n hx hb dX9_wordKind_87 rfl (lv_at hl 6 rfl) ?_
            refine va_get (D := (dC, dI)) (ci := 9) (v := .int (v 4)) (C := RX9) (T := TX9) (N := 6) hx hb hts inB_9 hown hE.1 hP 1 rfl rfl 4 (by decide) (hts _ k_143) (fun _ h9 => h9) rfl dX9_wordKind_88 ?_
            have b4_v : 0 ≤ (v 4).toInt ∧ (v 4).toInt ≤ 1600 := XI.b hIv 4 (by decide)
            refine lv_icmp_ne (tgt := 96) hx hb dX9_wordKind_91 (by decide) (fun c20 => ?_) (fun c20 => ?_)
            · skip
              have zc20 : ¬ (t10.toInt = (v 4).toInt) := by rw [fa_eq] at c20; exact c20
              have rg21 := fb_rng t10
              have rg22 := fb_rng (v 4)
              obtain ⟨t23, et23⟩ : ∃ y : Int32, y = l1_1 + 1 := ⟨_, rfl⟩
              refine lv_iinc (v := t23) (lv' := [(1, .int t23), (6, .int t10), (5, .int r5), (4, .int l4_1), (3, .int l3_1), (2, .int l2_1), (0, .ref (x 0))]) hx hb dX9_wordKind_96 hl (k := 5) rfl (by rw [et23]; rfl) (by decide) rfl (fun ls hl => ?_)
              refine lv_iload hx hb dX9_wordKind_99 (lv_at hl 3 rfl) ?_
              refine lv_iconst (v := 1) hx hb dX9_wordKind_101 (by decide) ?_
              refine lv_iadd hx hb dX9_wordKind_102 ?_
              refine lv_topi (fun t24 et24 => ?_)
              have zt24 : t24.toInt = l4_1.toInt + 1 := by rw [et24]; exact add_i rfl (by decide) (by omega) (by omega)
              refine lv_istore_n (lv' := [(2, .int t24), (1, .int t23), (6, .int t10), (5, .int r5), (4, .int l4_1), (3, .int l3_1), (0, .ref (x 0))]) hx hb dX9_wordKind_103 rfl hl (by decide) rfl (fun ls hl => ?_)
              refine lv_iconst (v := 1) hx hb dX9_wordKind_104 (by decide) ?_
              refine lv_istore_n (lv' := [(3, .int 1), (2, .int t24), (1, .int t23), (6, .int t10), (5, .int r5), (4, .int l4_1), (0, .ref (x 0))]) hx hb dX9_wordKind_105 rfl hl (by decide) rfl (fun ls hl => ?_)
              obtain ⟨t25, et25⟩ : ∃ y : Int32, y = l4_1 + 1 := ⟨_, rfl⟩
              have zt25 : t25.toInt = l4_1.toInt + 1 := by rw [et25]; exact add_i rfl (by decide) (by omega) (by omega)
              refine lv_iinc (v := t25) (lv' := [(4, .int t25), (3, .int 1), (2, .int t24), (1, .int t23), (6, .int t10), (5, .int r5), (0, .ref (x 0))]) hx hb dX9_wordKind_106 hl (k := 5) rfl (by rw [et25]; rfl) (by decide) rfl (fun ls hl => ?_)
              refine lv_goto (tgt := 10) hx hb dX9_wordKind_109 (by decide) ?_
              have rg26 := fb_rng t24
              have rg27 := fb_rng t25
              exact ih1 t23 t24 1 t25 ((gsX_X9_wordKind_1_q2 c4 hG6.symm et7 et10 c13 c14 c20 et23 et24 et25).symm.trans hT1) ⟨show (0 : Int) ≤ t24.toInt by omega, show t24.toInt ≤ (102 : Int) by omega⟩ ⟨by decide, by decide⟩ ⟨show (0 : Int) ≤ t25.toInt by omega, show t25.toInt ≤ (102 : Int) by omega⟩ (by show t24.toInt ≤ t25.toInt; omega) (by show (2147483647 - t25.toInt).toNat < n1; omega) _ _ _ hP hD hS (lv_sub hl [0, 1, 2, 3, 6] rfl)
            · skip
              have zc20 : t10.toInt = (v 4).toInt := by rw [fa_eq] at c20; exact c20
              have rg28 := fb_rng t10
              have rg29 := fb_rng (v 4)
              refine lv_iload_n hx hb dX9_wordKind_94 rfl (lv_at hl 5 rfl) ?_
              exact ret l1_1 () _ _ _ _ _ _ rfl (hT1.symm.trans (gsX_X9_wordKind_1_q3 c4 hG6.symm et7 et10 c13 c14 c20)) hP hD hS dX9_wordKind_95 (Nat.le_refl _) (Nat.le_refl _)
        · skip
          have zc13 : ¬ (r5.toInt = 32) := by rw [fa_eq, show (32 : Int32).toInt = 32 from by decide] at c13; exact c13
          refine lv_iload_n hx hb dX9_wordKind_47 rfl (lv_at hl 3 rfl) ?_
          refine lv_if_eq (tgt := 76) hx hb dX9_wordKind_48 (by decide) (fun c30 => ?_) (fun c30 => ?_)
          · skip
            have zc30 : l3_1.toInt = 0 := by rw [fa_eq, show (0 : Int32).toInt = 0 from by decide] at c30; exact c30
            refine lv_iconst (v := 0) hx hb dX9_wordKind_76 (by decide) ?_
            refine lv_istore_n (lv' := [(3, .int 0), (6, .int t10), (5, .int r5), (4, .int l4_1), (2, .int l2_1), (1, .int l1_1), (0, .ref (x 0))]) hx hb dX9_wordKind_77 rfl hl (by decide) rfl (fun ls hl => ?_)
            refine lv_goto (tgt := 106) hx hb dX9_wordKind_78 (by decide) ?_
            obtain ⟨t31, et31⟩ : ∃ y : Int32, y = l4_1 + 1 := ⟨_, rfl⟩
            have zt31 : t31.toInt = l4_1.toInt + 1 := by rw [et31]; exact add_i rfl (by decide) (by omega) (by omega)
            refine lv_iinc (v := t31) (lv' := [(4, .int t31), (3, .int 0), (6, .int t10), (5, .int r5), (2, .int l2_1), (1, .int l1_1), (0, .ref (x 0))]) hx hb dX9_wordKind_106 hl (k := 3) rfl (by rw [et31]; rfl) (by decide) rfl (fun ls hl => ?_)
            refine lv_goto (tgt := 10) hx hb dX9_wordKind_109 (by decide) ?_
            have rg32 := fb_rng t31
            exact ih1 l1_1 l2_1 0 t31 ((gsX_X9_wordKind_1_q4 c4 hG6.symm et7 et10 c13 c30 et31).symm.trans hT1) ⟨show (0 : Int) ≤ l2_1.toInt by omega, show l2_1.toInt ≤ (102 : Int) by omega⟩ ⟨by decide, by decide⟩ ⟨show (0 : Int) ≤ t31.toInt by omega, show t31.toInt ≤ (102 : Int) by omega⟩ (by show l2_1.toInt ≤ t31.toInt; omega) (by show (2147483647 - t31.toInt).toNat < n1; omega) _ _ _ hP hD hS (lv_sub hl [0, 1, 4, 5, 6] rfl)
          · skip
            have zc30 : ¬ (l3_1.toInt = 0) := by rw [fa_eq, show (0 : Int32).toInt = 0 from by decide] at c30; exact c30
            refine lv_iload hx hb dX9_wordKind_51 (lv_at hl 0 rfl) ?_
            refine lv_aload_n hx hb dX9_wordKind_53 rfl (lv_at hl 6 rfl) ?_
            refine va_get (D := (dC, dI)) (ci := 9) (v := .int (v 4)) (C := RX9) (T := TX9) (N := 6) hx hb hts inB_9 hown hE.1 hP 1 rfl rfl 4 (by decide) (hts _ k_143) (fun _ h9 => h9) rfl dX9_wordKind_54 ?_
            have b4_v : 0 ≤ (v 4).toInt ∧ (v 4).toInt ≤ 1600 := XI.b hIv 4 (by decide)
            refine lv_icmp_ge (tgt := 76) hx hb dX9_wordKind_57 (by decide) (fun c33 => ?_) (fun c33 => ?_)
            · skip
              have zc33 : (v 4).toInt ≤ t10.toInt := by rw [fa_le] at c33; exact c33
              have rg34 := fb_rng t10
              have rg35 := fb_rng (v 4)
              refine lv_iconst (v := 0) hx hb dX9_wordKind_76 (by decide) ?_
              refine lv_istore_n (lv' := [(3, .int 0), (6, .int t10), (5, .int r5), (4, .int l4_1), (2, .int l2_1), (1, .int l1_1), (0, .ref (x 0))]) hx hb dX9_wordKind_77 rfl hl (by decide) rfl (fun ls hl => ?_)
              refine lv_goto (tgt := 106) hx hb dX9_wordKind_78 (by decide) ?_
              obtain ⟨t36, et36⟩ : ∃ y : Int32, y = l4_1 + 1 := ⟨_, rfl⟩
              have zt36 : t36.toInt = l4_1.toInt + 1 := by rw [et36]; exact add_i rfl (by decide) (by omega) (by omega)
              refine lv_iinc (v := t36) (lv' := [(4, .int t36), (3, .int 0), (6, .int t10), (5, .int r5), (2, .int l2_1), (1, .int l1_1), (0, .ref (x 0))]) hx hb dX9_wordKind_106 hl (k := 3) rfl (by rw [et36]; rfl) (by decide) rfl (fun ls hl => ?_)
              refine lv_goto (tgt := 10) hx hb dX9_wordKind_109 (by decide) ?_
              have rg37 := fb_rng t36
              exact ih1 l1_1 l2_1 0 t36 ((gsX_X9_wordKind_1_q5 c4 hG6.symm et7 et10 c13 c30 c33 et36).symm.trans hT1) ⟨show (0 : Int) ≤ l2_1.toInt by omega, show l2_1.toInt ≤ (102 : Int) by omega⟩ ⟨by decide, by decide⟩ ⟨show (0 : Int) ≤ t36.toInt by omega, show t36.toInt ≤ (102 : Int) by omega⟩ (by show l2_1.toInt ≤ t36.toInt; omega) (by show (2147483647 - t36.toInt).toNat < n1; omega) _ _ _ hP hD hS (lv_sub hl [0, 1, 4, 5, 6] rfl)
            · skip
              have zc33 : ¬ ((v 4).toInt ≤ t10.toInt) := by rw [fa_le] at c33; exact c33
              have rg38 := fb_rng t10
              have rg39 := fb_rng (v 4)
              refine lv_aload_n hx hb dX9_wordKind_60 rfl (lv_at hl 6 rfl) ?_
              refine va_get (D := (dC, dI)) (ci := 9) (v := .ref (x 1)) (C := RX9) (T := TX9) (N := 6) hx hb hts inB_9 hown hE.1 hP 1 rfl rfl 0 (by decide) (hts _ k_136) (fun _ h9 => h9) rfl dX9_wordKind_61 ?_
              refine lv_iload hx hb dX9_wordKind_64 (lv_at hl 0 rfl) ?_
              refine ldB hx hb hE hP 2 rfl (vp_in_iff.mpr ⟨by omega, by omega⟩) rfl rfl dX9_wordKind_66 ?_
              refine lv_topi (fun t40 et40 => ?_)
              refine lv_iload hx hb dX9_wordKind_67 (lv_at hl 1 rfl) ?_
              refine lv_icmp_ne (tgt := 76) hx hb dX9_wordKind_69 (by decide) (fun c41 => ?_) (fun c41 => ?_)
              · skip
                have zc41 : ¬ (t40.toInt = r5.toInt) := by rw [fa_eq] at c41; exact c41
                have rg42 := fb_rng t40
                have rg43 := fb_rng r5
                refine lv_iconst (v := 0) hx hb dX9_wordKind_76 (by decide) ?_
                refine lv_istore_n (lv' := [(3, .int 0), (6, .int t10), (5, .int r5), (4, .int l4_1), (2, .int l2_1), (1, .int l1_1), (0, .ref (x 0))]) hx hb dX9_wordKind_77 rfl hl (by decide) rfl (fun ls hl => ?_)
                refine lv_goto (tgt := 106) hx hb dX9_wordKind_78 (by decide) ?_
                obtain ⟨t44, et44⟩ : ∃ y : Int32, y = l4_1 + 1 := ⟨_, rfl⟩
                have zt44 : t44.toInt = l4_1.toInt + 1 := by rw [et44]; exact add_i rfl (by decide) (by omega) (by omega)
                refine lv_iinc (v := t44) (lv' := [(4, .int t44), (3, .int 0), (6, .int t10), (5, .int r5), (2, .int l2_1), (1, .int l1_1), (0, .ref (x 0))]) hx hb dX9_wordKind_106 hl (k := 3) rfl (by rw [et44]; rfl) (by decide) rfl (fun ls hl => ?_)
                refine lv_goto (tgt := 10) hx hb dX9_wordKind_109 (by decide) ?_
                have rg45 := fb_rng t44
                exact ih1 l1_1 l2_1 0 t44 ((gsX_X9_wordKind_1_q6 c4 hG6.symm et7 et10 c13 c30 c33 et40 c41 et44).symm.trans hT1) ⟨show (0 : Int) ≤ l2_1.toInt by omega, show l2_1.toInt ≤ (102 : Int) by omega⟩ ⟨by decide, by decide⟩ ⟨show (0 : Int) ≤ t44.toInt by omega, show t44.toInt ≤ (102 : Int) by omega⟩ (by show l2_1.toInt ≤ t44.toInt; omega) (by show (2147483647 - t44.toInt).toNat < n1; omega) _ _ _ hP hD hS (lv_sub hl [0, 1, 4, 5, 6] rfl)
              · skip
                have zc41 : t40.toInt = r5.toInt := by rw [fa_eq] at c41; exact c41
                have rg46 := fb_rng t40
                have rg47 := fb_rng r5
                refine lv_iconst (v := 1) hx hb dX9_wordKind_72 (by decide) ?_
                refine lv_goto (tgt := 77) hx hb dX9_wordKind_73 (by decide) ?_
                refine lv_istore_n (lv' := [(3, .int 1), (6, .int t10), (5, .int r5), (4, .int l4_1), (2, .int l2_1), (1, .int l1_1), (0, .ref (x 0))]) hx hb dX9_wordKind_77 rfl hl (by decide) rfl (fun ls hl => ?_)
                refine lv_goto (tgt := 106) hx hb dX9_wordKind_78 (by decide) ?_
                obtain ⟨t48, et48⟩ : ∃ y : Int32, y = l4_1 + 1 := ⟨_, rfl⟩
                have zt48 : t48.toInt = l4_1.toInt + 1 := by rw [et48]; exact add_i rfl (by decide) (by omega) (by omega)
                refine lv_iinc (v := t48) (lv' := [(4, .int t48), (3, .int 1), (6, .int t10), (5, .int r5), (2, .int l2_1), (1, .int l1_1), (0, .ref (x 0))]) hx hb dX9_wordKind_106 hl (k := 3) rfl (by rw [et48]; rfl) (by decide) rfl (fun ls hl => ?_)
                refine lv_goto (tgt := 10) hx hb dX9_wordKind_109 (by decide) ?_
                have rg49 := fb_rng t48
                exact ih1 l1_1 l2_1 1 t48 ((gsX_X9_wordKind_1_q7 c4 hG6.symm et7 et10 c13 c30 c33 et40 c41 et48).symm.trans hT1) ⟨show (0 : Int) ≤ l2_1.toInt by omega, show l2_1.toInt ≤ (102 : Int) by omega⟩ ⟨by decide, by decide⟩ ⟨show (0 : Int) ≤ t48.toInt by omega, show t48.toInt ≤ (102 : Int) by omega⟩ (by show l2_1.toInt ≤ t48.toInt; omega) (by show (2147483647 - t48.toInt).toNat < n1; omega) _ _ _ hP hD hS (lv_sub hl [0, 1, 4, 5, 6] rfl)
  exact lp1 (4294967296 + NF) 101 0 1 0 gsX_X9_wordKind_1_q8.symm ⟨by decide, by decide⟩ ⟨by decide, by decide⟩ ⟨by decide, by decide⟩ (by have q4 : (0 : Int32).toInt = 0 := (by decide); have q2 : (0 : Int32).toInt = 0 := (by decide); show (0 : Int32).toInt ≤ (0 : Int32).toInt; omega) (by have q4 : (0 : Int32).toInt = 0 := (by decide); have q3 : (1 : Int32).toInt = 1 := (by decide); have q2 : (0 : Int32).toInt = 0 := (by decide); have q1 : (101 : Int32).toInt = 101 := (by decide); show (2147483647 - (0 : Int32).toInt).toNat < 4294967296 + NF; omega) _ _ _ hP hD hS (lv_sub hl [0, 1, 2, 3, 4] rfl)
set_option maxHeartbeats 4000000 in
set_option maxRecDepth 100000 in
theorem sX_X9_isDigit_1 (NF : Nat) (l : Launch) (dC : Nat → ClassId) (dI : Nat → Nat → Nat) (cy : Nat → ClassId) (x0 : Nat) (x : Nat → Nat) (p1 : Int32) (v : Nat → Int32) (f : Nat → Nat → Int32) (hIv : XI v)  : ctI l (dC, dI) cy yX9_isDigit cX9_isDigit 2 .boolean 1 60 0 0 Unit [.ref (x 0), .int p1] (XW cy x0 x v f) (fun r u => gsX_X9_isDigit_1 NF p1 v f = r ∧ ((r = 1 ∧ 0 ≤ p1.toInt ∧ p1.toInt < (v 1).toInt ∧ p1.toInt ≤ 1599) ∨ (r = 0))) (fun u => XW cy x0 x v f) := by
  refine ctI_of (by decide) (Nat.le_of_ble_eq_true rfl) (fun p e s m below meth c A ls Q hx hb hml hts hown hE hP hD hA hl ret => ?_)
  have hown : s.vm.findClass RX9 = some m.cls := hown
  have hS : va_S A s.heap s.heap [] := va_S.rf
  have hl : lv_has ls 2 [(0, .ref (x 0)), (1, .int p1)] := hl
  refine lv_iload_n hx hb dX9_isDigit_0 rfl (lv_at hl 1 rfl) ?_
  refine lv_if_lt (tgt := 38) hx hb dX9_isDigit_1 (by decide) (fun c1 => ?_) (fun c1 => ?_)
  · skip
    have zc1 : p1.toInt < 0 := by rw [fa_lt, show (0 : Int32).toInt = 0 from by decide] at c1; exact c1
    refine lv_iconst (v := 0) hx hb dX9_isDigit_38 (by decide) ?_
    exact ret 0 () _ _ _ _ _ _ rfl ⟨(gsX_X9_isDigit_1_q0 c1), (Or.inr rfl)⟩ hP hD hS dX9_isDigit_39 (Nat.le_refl _) (Nat.le_refl _)
  · skip
    have zc1 : ¬ (p1.toInt < 0) := by rw [fa_lt, show (0 : Int32).toInt = 0 from by decide] at c1; exact c1
    refine lv_iload_n hx hb dX9_isDigit_4 rfl (lv_at hl 1 rfl) ?_
    refine lv_aload_n hx hb dX9_isDigit_5 rfl (lv_at hl 0 rfl) ?_
    refine va_get (D := (dC, dI)) (ci := 9) (v := .int (v 1)) (C := RX9) (T := TX9) (N := 6) hx hb hts inB_9 hown hE.1 hP 1 rfl rfl 1 (by decide) (hts _ k_137) (fun _ h9 => h9) rfl dX9_isDigit_6 ?_
    have b1_v : 0 ≤ (v 1).toInt ∧ (v 1).toInt ≤ 1600 := XI.b hIv 1 (by decide)
    refine lv_icmp_ge (tgt := 38) hx hb dX9_isDigit_9 (by decide) (fun c2 => ?_) (fun c2 => ?_)
    · skip
      have zc2 : (v 1).toInt ≤ p1.toInt := by rw [fa_le] at c2; exact c2
      have rg3 := fb_rng p1
      have rg4 := fb_rng (v 1)
      refine lv_iconst (v := 0) hx hb dX9_isDigit_38 (by decide) ?_
      exact ret 0 () _ _ _ _ _ _ rfl ⟨(gsX_X9_isDigit_1_q1 c1 c2), (Or.inr rfl)⟩ hP hD hS dX9_isDigit_39 (Nat.le_refl _) (Nat.le_refl _)
    · skip
      have zc2 : ¬ ((v 1).toInt ≤ p1.toInt) := by rw [fa_le] at c2; exact c2
      have rg5 := fb_rng p1
      have rg6 := fb_rng (v 1)
      refine lv_aload_n hx hb dX9_isDigit_12 rfl (lv_at hl 0 rfl) ?_
      refine va_get (D := (dC, dI)) (ci := 9) (v := .ref (x 1)) (C := RX9) (T := TX9) (N := 6) hx hb hts inB_9 hown hE.1 hP 1 rfl rfl 0 (by decide) (hts _ k_136) (fun _ h9 => h9) rfl dX9_isDigit_13 ?_
      refine lv_iload_n hx hb dX9_isDigit_16 rfl (lv_at hl 1 rfl) ?_
      refine ldB hx hb hE hP 2 rfl (vp_in_iff.mpr ⟨by omega, by omega⟩) rfl rfl dX9_isDigit_17 ?_
      refine lv_topi (fun t7 et7 => ?_)
      refine lv_bipush (v := 48) hx hb dX9_isDigit_18 (by decide) ?_
      refine lv_icmp_lt (tgt := 38) hx hb dX9_isDigit_20 (by decide) (fun c8 => ?_) (fun c8 => ?_)
      · skip
        have zc8 : t7.toInt < 48 := by rw [fa_lt, show (48 : Int32).toInt = 48 from by decide] at c8; exact c8
        refine lv_iconst (v := 0) hx hb dX9_isDigit_38 (by decide) ?_
        exact ret 0 () _ _ _ _ _ _ rfl ⟨(gsX_X9_isDigit_1_q2 c1 c2 et7 c8), (Or.inr rfl)⟩ hP hD hS dX9_isDigit_39 (Nat.le_refl _) (Nat.le_refl _)
      · skip
        have zc8 : ¬ (t7.toInt < 48) := by rw [fa_lt, show (48 : Int32).toInt = 48 from by decide] at c8; exact c8
        refine lv_aload_n hx hb dX9_isDigit_23 rfl (lv_at hl 0 rfl) ?_
        refine va_get (D := (dC, dI)) (ci := 9) (v := .ref (x 1)) (C := RX9) (T := TX9) (N := 6) hx hb hts inB_9 hown hE.1 hP 1 rfl rfl 0 (by decide) (hts _ k_136) (fun _ h9 => h9) rfl dX9_isDigit_24 ?_
        refine lv_iload_n hx hb dX9_isDigit_27 rfl (lv_at hl 1 rfl) ?_
        refine ldB hx hb hE hP 2 rfl (vp_in_iff.mpr ⟨by omega, by omega⟩) rfl rfl dX9_isDigit_28 ?_
        refine lv_topi (fun t9 et9 => ?_)
        refine lv_bipush (v := 57) hx hb dX9_isDigit_29 (by decide) ?_
        refine lv_icmp_gt (tgt := 38) hx hb dX9_isDigit_31 (by decide) (fun c10 => ?_) (fun c10 => ?_)
        · skip
          have zc10 : 57 < t9.toInt := by rw [fa_lt, show (57 : Int32).toInt = 57 from by decide] at c10; exact c10
          refine lv_iconst (v := 0) hx hb dX9_isDigit_38 (by decide) ?_
          exact ret 0 () _ _ _ _ _ _ rfl ⟨(gsX_X9_isDigit_1_q3 c1 c2 et7 c8 et9 c10), (Or.inr rfl)⟩ hP hD hS dX9_isDigit_39 (Nat.le_refl _) (Nat.le_refl _)
        · skip
          have zc10 : ¬ (57 < t9.toInt) := by rw [fa_lt, show (57 : Int32).toInt = 57 from by decide] at c10; exact c10
          refine lv_iconst (v := 1) hx hb dX9_isDigit_34 (by decide) ?_
          refine lv_goto (tgt := 39) hx hb dX9_isDigit_35 (by decide) ?_
          exact ret 1 () _ _ _ _ _ _ rfl ⟨(gsX_X9_isDigit_1_q4 c1 c2 et7 c8 et9 c10), (Or.inl ⟨rfl, by omega, by omega, by omega⟩)⟩ hP hD hS dX9_isDigit_39 (Nat.le_refl _) (Nat.le_refl _)
set_option maxHeartbeats 4000000 in
set_option maxRecDepth 100000 in
theorem sX_J0_isLatin1_aae02_2 (NF : Nat) (l : Launch) (dC : Nat → ClassId) (dI : Nat → Nat → Nat) (cy : Nat → ClassId) (x0 : Nat) (x : Nat → Nat)  (v : Nat → Int32) (f : Nat → Nat → Int32) (hIv : XI v)  : ctIS l (dC, dI) cy yJ0_isLatin1_aae02 cJ0_isLatin1_aae02 1 .boolean 1 60 0 0 Unit [.ref (dI 100 0)] (XW cy x0 x v f) (fun r u => gsX_J0_isLatin1_aae02_2 NF v f = r ∧ r = 1) (fun u => XW cy x0 x v f) := by
  refine ctIS_of (by decide) (Nat.le_of_ble_eq_true rfl) (fun p e s m below meth c A ls Q hx hb hml hts hown hE hF hT hP hD hA hl ret => ?_)
  have hown : s.vm.findClass RJ0 = some m.cls := hown
  have hS : va_S A s.heap s.heap [] := va_S.rf
  have hl : lv_has ls 1 [(0, .ref (dI 100 0))] := hl
  refine va_gets hx hb hT.2.1 hS hown (hts _ k_579) (fun _ h9 => h9) dJ0_isLatin1_aae02_0 ?_
  refine lv_if_eq (tgt := 17) hx hb dJ0_isLatin1_aae02_3 (by decide) (fun c0 => absurd c0 (by decide)) (fun _ => ?_)
  refine lv_aload_n hx hb dJ0_isLatin1_aae02_6 rfl (lv_at hl 0 rfl) ?_
  refine vk_getf (q := (dI 100 0)) (v := .int 0) hx hb (hT.1.1 0 (by decide)).2.1 hS hown (hts _ k_2060) (fun _ h9 => h9) dJ0_isLatin1_aae02_7 ?_
  refine lv_if_ne (tgt := 17) hx hb dJ0_isLatin1_aae02_10 (by decide) (fun c0 => absurd (by decide) c0) (fun _ => ?_)
  refine lv_iconst (v := 1) hx hb dJ0_isLatin1_aae02_13 (by decide) ?_
  refine lv_goto (tgt := 18) hx hb dJ0_isLatin1_aae02_14 (by decide) ?_
  exact ret 1 () _ _ _ _ _ _ rfl ⟨gsX_J0_isLatin1_aae02_2_q0, rfl⟩ hP hD hS dJ0_isLatin1_aae02_18 (Nat.le_refl _) (Nat.le_refl _)
set_option maxHeartbeats 4000000 in
set_option maxRecDepth 100000 in
theorem sX_J0_coder_7d493_2 (NF : Nat) (l : Launch) (dC : Nat → ClassId) (dI : Nat → Nat → Nat) (cy : Nat → ClassId) (x0 : Nat) (x : Nat → Nat)  (v : Nat → Int32) (f : Nat → Nat → Int32) (hIv : XI v)  : ctIS l (dC, dI) cy yJ0_coder_7d493 cJ0_coder_7d493 1 .byte 1 60 0 0 Unit [.ref (dI 100 0)] (XW cy x0 x v f) (fun r u => gsX_J0_coder_7d493_2 NF v f = r ∧ r = 0) (fun u => XW cy x0 x v f) := by
  refine ctIS_of (by decide) (Nat.le_of_ble_eq_true rfl) (fun p e s m below meth c A ls Q hx hb hml hts hown hE hF hT hP hD hA hl ret => ?_)
  have hown : s.vm.findClass RJ0 = some m.cls := hown
  have hS : va_S A s.heap s.heap [] := va_S.rf
  have hl : lv_has ls 1 [(0, .ref (dI 100 0))] := hl
  refine va_gets hx hb hT.2.1 hS hown (hts _ k_579) (fun _ h9 => h9) dJ0_coder_7d493_0 ?_
  refine lv_if_eq (tgt := 13) hx hb dJ0_coder_7d493_3 (by decide) (fun c0 => absurd c0 (by decide)) (fun _ => ?_)
  refine lv_aload_n hx hb dJ0_coder_7d493_6 rfl (lv_at hl 0 rfl) ?_
  refine vk_getf (q := (dI 100 0)) (v := .int 0) hx hb (hT.1.1 0 (by decide)).2.1 hS hown (hts _ k_2060) (fun _ h9 => h9) dJ0_coder_7d493_7 ?_
  refine lv_goto (tgt := 14) hx hb dJ0_coder_7d493_10 (by decide) ?_
  exact ret 0 () _ _ _ _ _ _ rfl ⟨gsX_J0_coder_7d493_2_q0, rfl⟩ hP hD hS dJ0_coder_7d493_14 (Nat.le_refl _) (Nat.le_refl _)
set_option maxHeartbeats 4000000 in
set_option maxRecDepth 100000 in
theorem sX_J0_length_8abf5_2 (NF : Nat) (l : Launch) (dC : Nat → ClassId) (dI : Nat → Nat → Nat) (cy : Nat → ClassId) (x0 : Nat) (x : Nat → Nat)  (v : Nat → Int32) (f : Nat → Nat → Int32) (hIv : XI v)  : ctIS l (dC, dI) cy yJ0_length_8abf5 cJ0_length_8abf5 1 .int 2 80 0 0 Unit [.ref (dI 100 0)] (XW cy x0 x v f) (fun r u => gsX_J0_length_8abf5_2 NF v f = r ∧ r = 11) (fun u => XW cy x0 x v f) := by
  refine ctIS_of (by decide) (Nat.le_of_ble_eq_true rfl) (fun p e s m below meth c A ls Q hx hb hml hts hown hE hF hT hP hD hA hl ret => ?_)
  have hown : s.vm.findClass RJ0 = some m.cls := hown
  have hS : va_S A s.heap s.heap [] := va_S.rf
  have hl : lv_has ls 1 [(0, .ref (dI 100 0))] := hl
  refine lv_aload_n hx hb dJ0_length_8abf5_0 rfl (lv_at hl 0 rfl) ?_
  refine vk_getf (q := (dI 100 0)) (v := .ref (dI 101 0)) hx hb (hT.1.1 0 (by decide)).2.2.1 hS hown (hts _ k_2059) (fun _ h9 => h9) dJ0_length_8abf5_1 ?_
  refine va_tlen (v := 11) hx hb (hT.1.1 0 (by decide)).2.2.2 hS (by decide) dJ0_length_8abf5_4 ?_
  refine lv_aload_n hx hb dJ0_length_8abf5_5 rfl (lv_at hl 0 rfl) ?_
  refine crVi (n := 0) (rest := [.int 11]) hx hb hml hown hts hE hP hD hS hA hF hT (sX_J0_coder_7d493_2 NF l dC dI cy x0 x  v f hIv ) k_575 k_576 k_577 k_115 k_578 (by decide +kernel) ⟨Nat.le_of_ble_eq_true rfl, Nat.le_of_ble_eq_true rfl⟩ 0 (by decide) rfl rfl (rfl) hl.1 rfl (Nat.le_of_ble_eq_true rfl) dJ0_length_8abf5_6 (fun r1 u H locs hw hP hD hS => ?_)
  obtain ⟨hG2, hw⟩ := hw
  refine tI (y := 0) hw ?_
  refine lv_ishr hx hb dJ0_length_8abf5_9 ?_
  refine tI (y := 11) (by decide) ?_
  exact ret 11 () _ _ _ _ _ _ rfl ⟨gsX_J0_length_8abf5_2_q0, rfl⟩ hP hD hS dJ0_length_8abf5_10 (Nat.le_refl _) (Nat.le_refl _)
set_option maxHeartbeats 4000000 in
set_option maxRecDepth 100000 in
theorem sX_J1_canEncode_9a6ad_1 (NF : Nat) (l : Launch) (dC : Nat → ClassId) (dI : Nat → Nat → Nat) (cy : Nat → ClassId) (x0 : Nat) (x : Nat → Nat) (p0 : Int32) (v : Nat → Int32) (f : Nat → Nat → Int32) (hIv : XI v)  : ctIS l (dC, dI) cy yJ1_canEncode_9a6ad cJ1_canEncode_9a6ad 1 .boolean 1 60 0 0 Unit [.int p0] (XW cy x0 x v f) (fun r u => gsX_J1_canEncode_9a6ad_1 NF p0 v f = r ∧ ((r = 1) ∨ (r = 0))) (fun u => XW cy x0 x v f) := by
  refine ctIS_of (by decide) (Nat.le_of_ble_eq_true rfl) (fun p e s m below meth c A ls Q hx hb hml hts hown hE hF hT hP hD hA hl ret => ?_)
  have hown : s.vm.findClass RJ1 = some m.cls := hown
  have hS : va_S A s.heap s.heap [] := va_S.rf
  have hl : lv_has ls 1 [(0, .int p0)] := hl
  refine lv_iload_n hx hb dJ1_canEncode_9a6ad_0 rfl (lv_at hl 0 rfl) ?_
  refine lv_if_lt (tgt := 15) hx hb dJ1_canEncode_9a6ad_1 (by decide) (fun c1 => ?_) (fun c1 => ?_)
  · skip
    have zc1 : p0.toInt < 0 := by rw [fa_lt, show (0 : Int32).toInt = 0 from by decide] at c1; exact c1
    refine lv_iconst (v := 0) hx hb dJ1_canEncode_9a6ad_15 (by decide) ?_
    exact ret 0 () _ _ _ _ _ _ rfl ⟨(gsX_J1_canEncode_9a6ad_1_q0 c1), (Or.inr rfl)⟩ hP hD hS dJ1_canEncode_9a6ad_16 (Nat.le_refl _) (Nat.le_refl _)
  · skip
    have zc1 : ¬ (p0.toInt < 0) := by rw [fa_lt, show (0 : Int32).toInt = 0 from by decide] at c1; exact c1
    refine lv_iload_n hx hb dJ1_canEncode_9a6ad_4 rfl (lv_at hl 0 rfl) ?_
    refine lv_sipush (v := 255) hx hb dJ1_canEncode_9a6ad_5 (by decide) ?_
    refine lv_icmp_gt (tgt := 15) hx hb dJ1_canEncode_9a6ad_8 (by decide) (fun c2 => ?_) (fun c2 => ?_)
    · skip
      have zc2 : 255 < p0.toInt := by rw [fa_lt, show (255 : Int32).toInt = 255 from by decide] at c2; exact c2
      refine lv_iconst (v := 0) hx hb dJ1_canEncode_9a6ad_15 (by decide) ?_
      exact ret 0 () _ _ _ _ _ _ rfl ⟨(gsX_J1_canEncode_9a6ad_1_q1 c1 c2), (Or.inr rfl)⟩ hP hD hS dJ1_canEncode_9a6ad_16 (Nat.le_refl _) (Nat.le_refl _)
    · skip
      have zc2 : ¬ (255 < p0.toInt) := by rw [fa_lt, show (255 : Int32).toInt = 255 from by decide] at c2; exact c2
      refine lv_iconst (v := 1) hx hb dJ1_canEncode_9a6ad_11 (by decide) ?_
      refine lv_goto (tgt := 16) hx hb dJ1_canEncode_9a6ad_12 (by decide) ?_
      exact ret 1 () _ _ _ _ _ _ rfl ⟨(gsX_J1_canEncode_9a6ad_1_q2 c1 c2), (Or.inl rfl)⟩ hP hD hS dJ1_canEncode_9a6ad_16 (Nat.le_refl _) (Nat.le_refl _)
set_option maxHeartbeats 4000000 in
set_option maxRecDepth 100000 in
theorem sX_J1_indexOfChar_4cfef_1 (NF : Nat) (l : Launch) (dC : Nat → ClassId) (dI : Nat → Nat → Nat) (cy : Nat → ClassId) (x0 : Nat) (x : Nat → Nat) (p1 : Int32) (p2 : Int32) (p3 : Int32) (v : Nat → Int32) (f : Nat → Nat → Int32) (hIv : XI v) (hp2 : (0 : Int) ≤ p2.toInt ∧ p2.toInt ≤ 11) (hp3 : (0 : Int) ≤ p3.toInt ∧ p3.toInt ≤ 11) : ctIS l (dC, dI) cy yJ1_indexOfChar_4cfef cJ1_indexOfChar_4cfef 6 .int 1 60 0 0 Unit [.ref (dI 101 0), .int p1, .int p2, .int p3] (XW cy x0 x v f) (fun r u => gsX_J1_indexOfChar_4cfef_1 NF p1 p2 p3 v f = r) (fun u => XW cy x0 x v f) := by
  refine ctIS_of (by decide) (Nat.le_of_ble_eq_true rfl) (fun p e s m below meth c A ls Q hx hb hml hts hown hE hF hT hP hD hA hl ret => ?_)
  have hown : s.vm.findClass RJ1 = some m.cls := hown
  have hS : va_S A s.heap s.heap [] := va_S.rf
  have hl : lv_has ls 6 [(0, .ref (dI 101 0)), (1, .int p1), (2, .int p2), (3, .int p3)] := hl
  refine lv_iload_n hx hb dJ1_indexOfChar_4cfef_0 rfl (lv_at hl 1 rfl) ?_
  refine lv_i2b hx hb dJ1_indexOfChar_4cfef_1 rfl ?_
  refine lv_topi (fun t1 et1 => ?_)
  refine lv_istore (lv' := [(4, .int t1), (0, .ref (dI 101 0)), (1, .int p1), (2, .int p2), (3, .int p3)]) hx hb dJ1_indexOfChar_4cfef_2 hl (by decide) rfl (fun ls hl => ?_)
  refine lv_iload_n hx hb dJ1_indexOfChar_4cfef_4 rfl (lv_at hl 3 rfl) ?_
  refine lv_istore (lv' := [(5, .int p2), (4, .int t1), (0, .ref (dI 101 0)), (1, .int p1), (2, .int p2), (3, .int p3)]) hx hb dJ1_indexOfChar_4cfef_5 hl (by decide) rfl (fun ls hl => ?_)
  have lp2 : ∀ (n2 : Nat) (l5_2 : Int32), gsX_J1_indexOfChar_4cfef_1_L2 NF p3 t1 n2 l5_2 = (gsX_J1_indexOfChar_4cfef_1 NF p1 p2 p3 v f) → ((0 : Int) ≤ l5_2.toInt ∧ l5_2.toInt ≤ 2147483647) → (2147483647 - l5_2.toInt).toNat < n2 → ∀ (H : Heap) (locs : List Loc) (ls : Array Slot), va_P (dC, dI) vwCl (XW cy x0 x v f) H → va_D A (XW cy x0 x v f) → va_S A s.heap H locs → lv_has ls 6 [(5, .int l5_2), (4, .int t1), (0, .ref (dI 101 0)), (1, .int p1), (2, .int p2), (3, .int p3)] → W p l e { frames := 1, cells := 0, slots := 0, locals := 60 } s m ([.ref (dI 101 0), .int p1, .int p2, .int p3] : List Value).toArray below meth c H locs 0 0 Q (F0 m 7 ls []) := by
    intro n2
    induction n2 with
    | zero => intro l5_2 hT2 hr5_2 hm; exact absurd hm (Nat.not_lt_zero _)
    | succ n2 ih2 =>
      intro l5_2 hT2 hr5_2 hm2 H locs ls hP hD hS hl
      refine lv_iload hx hb dJ1_indexOfChar_4cfef_7 (lv_at hl 0 rfl) ?_
      refine lv_iload_n hx hb dJ1_indexOfChar_4cfef_9 rfl (lv_at hl 5 rfl) ?_
      refine lv_icmp_ge (tgt := 31) hx hb dJ1_indexOfChar_4cfef_10 (by decide) (fun c3 => ?_) (fun c3 => ?_)
      · skip
        have zc3 : p3.toInt ≤ l5_2.toInt := by rw [fa_le] at c3; exact c3
        have rg4 := fb_rng l5_2
        have rg5 := fb_rng p3
        refine lv_iconst (v := (-1)) hx hb dJ1_indexOfChar_4cfef_31 (by decide) ?_
        exact ret (-1) () _ _ _ _ _ _ rfl (hT2.symm.trans (gsX_J1_indexOfChar_4cfef_1_q0 c3)) hP hD hS dJ1_indexOfChar_4cfef_32 (Nat.le_refl _) (Nat.le_refl _)
      · skip
        have zc3 : ¬ (p3.toInt ≤ l5_2.toInt) := by rw [fa_le] at c3; exact c3
        have rg6 := fb_rng l5_2
        have rg7 := fb_rng p3
        refine lv_aload_n hx hb dJ1_indexOfChar_4cfef_13 rfl (lv_at hl 2 rfl) ?_
        refine lv_iload hx hb dJ1_indexOfChar_4cfef_14 (lv_at hl 0 rfl) ?_
        refine va_tb hx hb (hT.1.1 0 (by decide)).2.2.2 hS (show vp_in l5_2 11 from (vp_in_iff.mpr ⟨by omega, by omega⟩)) rfl dJ1_indexOfChar_4cfef_16 ?_
        refine lv_topi (fun t8 et8 => ?_)
        refine lv_iload hx hb dJ1_indexOfChar_4cfef_17 (lv_at hl 1 rfl) ?_
        refine lv_icmp_ne (tgt := 25) hx hb dJ1_indexOfChar_4cfef_19 (by decide) (fun c9 => ?_) (fun c9 => ?_)
        · skip
          have zc9 : ¬ (t8.toInt = t1.toInt) := by rw [fa_eq] at c9; exact c9
          have rg10 := fb_rng t8
          have rg11 := fb_rng t1
          obtain ⟨t12, et12⟩ : ∃ y : Int32, y = l5_2 + 1 := ⟨_, rfl⟩
          have zt12 : t12.toInt = l5_2.toInt + 1 := by rw [et12]; exact add_i rfl (by decide) (by omega) (by omega)
          refine lv_iinc (v := t12) (lv' := [(5, .int t12), (4, .int t1), (0, .ref (dI 101 0)), (1, .int p1), (2, .int p2), (3, .int p3)]) hx hb dJ1_indexOfChar_4cfef_25 hl (k := 0) rfl (by rw [et12]; rfl) (by decide) rfl (fun ls hl => ?_)
          refine lv_goto (tgt := 7) hx hb dJ1_indexOfChar_4cfef_28 (by decide) ?_
          have rg13 := fb_rng t12
          exact ih2 t12 ((gsX_J1_indexOfChar_4cfef_1_q1 c3 et8 c9 et12).symm.trans hT2) ⟨show (0 : Int) ≤ t12.toInt by omega, show t12.toInt ≤ (2147483647 : Int) by omega⟩ (by show (2147483647 - t12.toInt).toNat < n2; omega) _ _ _ hP hD hS (lv_sub hl [0, 1, 2, 3, 4, 5] rfl)
        · skip
          have zc9 : t8.toInt = t1.toInt := by rw [fa_eq] at c9; exact c9
          have rg14 := fb_rng t8
          have rg15 := fb_rng t1
          refine lv_iload hx hb dJ1_indexOfChar_4cfef_22 (lv_at hl 0 rfl) ?_
          exact ret l5_2 () _ _ _ _ _ _ rfl (hT2.symm.trans (gsX_J1_indexOfChar_4cfef_1_q2 c3 et8 c9)) hP hD hS dJ1_indexOfChar_4cfef_24 (Nat.le_refl _) (Nat.le_refl _)
  have rg16 := fb_rng p2
  exact lp2 (4294967296 + NF) p2 (gsX_J1_indexOfChar_4cfef_1_q3 et1).symm ⟨show (0 : Int) ≤ p2.toInt by omega, show p2.toInt ≤ (2147483647 : Int) by omega⟩ (by have qr0 := fb_rng p2; show (2147483647 - p2.toInt).toNat < 4294967296 + NF; omega) _ _ _ hP hD hS (lv_sub hl [0, 1, 2, 3, 4, 5] rfl)
set_option maxHeartbeats 4000000 in
set_option maxRecDepth 100000 in
theorem sX_J1_indexOf_4cfef_1 (NF : Nat) (l : Launch) (dC : Nat → ClassId) (dI : Nat → Nat → Nat) (cy : Nat → ClassId) (x0 : Nat) (x : Nat → Nat) (p1 : Int32) (v : Nat → Int32) (f : Nat → Nat → Int32) (hIv : XI v)  : ctIS l (dC, dI) cy yJ1_indexOf_4cfef cJ1_indexOf_4cfef 4 .int 2 85 0 0 Unit [.ref (dI 101 0), .int p1, .int 0, .int 11] (XW cy x0 x v f) (fun r u => gsX_J1_indexOf_4cfef_1 NF p1 v f = r) (fun u => XW cy x0 x v f) := by
  refine ctIS_of (by decide) (Nat.le_of_ble_eq_true rfl) (fun p e s m below meth c A ls Q hx hb hml hts hown hE hF hT hP hD hA hl ret => ?_)
  have hown : s.vm.findClass RJ1 = some m.cls := hown
  have hS : va_S A s.heap s.heap [] := va_S.rf
  have hl : lv_has ls 4 [(0, .ref (dI 101 0)), (1, .int p1), (2, .int 0), (3, .int 11)] := hl
  refine lv_iload_n hx hb dJ1_indexOf_4cfef_0 rfl (lv_at hl 1 rfl) ?_
  refine csSi (n := 1) (rest := []) hx hb hml hown hts hE hP hD hS hA hF hT (sX_J1_canEncode_9a6ad_1 NF l dC dI cy x0 x p1 v f hIv ) k_636 k_637 k_116 k_638 (by decide +kernel) ⟨Nat.le_of_ble_eq_true rfl, Nat.le_of_ble_eq_true rfl⟩ (rfl) hl.1 rfl (Nat.le_of_ble_eq_true rfl) dJ1_indexOf_4cfef_1 (fun r1 u H locs hw hP hD hS => ?_)
  obtain ⟨hG2, hw⟩ := hw
  rcases hw with ⟨g3⟩ | ⟨g3⟩
  · skip
    subst g3
    refine lv_if_ne (tgt := 9) hx hb dJ1_indexOf_4cfef_4 (by decide) (fun _ => ?_) (fun c0 => absurd c0 (by decide))
    refine lv_iload_n hx hb dJ1_indexOf_4cfef_9 rfl (lv_at hl 2 rfl) ?_
    refine lv_iconst (v := 0) hx hb dJ1_indexOf_4cfef_10 (by decide) ?_
    refine va_mmax hx hb (by rw [hml]; exact hl.1.symm) hown (hts _ k_639) (hts _ k_640) (hts _ k_119) (hts _ k_641) (Nat.le_of_ble_eq_true rfl) (Nat.le_of_ble_eq_true rfl) (Nat.le_of_ble_eq_true rfl) (Nat.le_of_ble_eq_true rfl) dJ1_indexOf_4cfef_11 ?_
    refine lv_topi (fun t4 et4 => ?_)
    have zt4 : t4.toInt = max (0) (0) := by rw [et4]; exact mmax_i (by decide) (by decide)
    refine lv_istore_n (lv' := [(2, .int t4), (0, .ref (dI 101 0)), (1, .int p1), (3, .int 11)]) hx hb dJ1_indexOf_4cfef_14 rfl hl (by decide) rfl (fun ls hl => ?_)
    refine lv_iload_n hx hb dJ1_indexOf_4cfef_15 rfl (lv_at hl 3 rfl) ?_
    refine lv_aload_n hx hb dJ1_indexOf_4cfef_16 rfl (lv_at hl 1 rfl) ?_
    refine va_tlen (v := 11) hx hb (hT.1.1 0 (by decide)).2.2.2 hS (by decide) dJ1_indexOf_4cfef_17 ?_
    refine va_mmin hx hb (by rw [hml]; exact hl.1.symm) hown (hts _ k_642) (hts _ k_643) (hts _ k_119) (hts _ k_644) (Nat.le_of_ble_eq_true rfl) (Nat.le_of_ble_eq_true rfl) (Nat.le_of_ble_eq_true rfl) (Nat.le_of_ble_eq_true rfl) dJ1_indexOf_4cfef_18 ?_
    refine lv_topi (fun t5 et5 => ?_)
    have zt5 : t5.toInt = min (11) (11) := by rw [et5]; exact mmin_i (by decide) (by decide)
    refine lv_istore_n (lv' := [(3, .int t5), (2, .int t4), (0, .ref (dI 101 0)), (1, .int p1)]) hx hb dJ1_indexOf_4cfef_21 rfl hl (by decide) rfl (fun ls hl => ?_)
    refine lv_iload_n hx hb dJ1_indexOf_4cfef_22 rfl (lv_at hl 1 rfl) ?_
    refine lv_iload_n hx hb dJ1_indexOf_4cfef_23 rfl (lv_at hl 0 rfl) ?_
    refine lv_icmp_lt (tgt := 29) hx hb dJ1_indexOf_4cfef_24 (by decide) (fun c6 => ?_) (fun c6 => ?_)
    · skip
      have zc6 : t4.toInt < t5.toInt := by rw [fa_lt] at c6; exact c6
      have rg7 := fb_rng t4
      have rg8 := fb_rng t5
      refine lv_aload_n hx hb dJ1_indexOf_4cfef_29 rfl (lv_at hl 2 rfl) ?_
      refine lv_iload_n hx hb dJ1_indexOf_4cfef_30 rfl (lv_at hl 3 rfl) ?_
      refine lv_iload_n hx hb dJ1_indexOf_4cfef_31 rfl (lv_at hl 1 rfl) ?_
      refine lv_iload_n hx hb dJ1_indexOf_4cfef_32 rfl (lv_at hl 0 rfl) ?_
      refine csSi (n := 4) (rest := []) hx hb hml hown hts hE hP hD hS hA hF hT (sX_J1_indexOfChar_4cfef_1 NF l dC dI cy x0 x p1 t4 t5 v f hIv ⟨show (0 : Int) ≤ t4.toInt by omega, show t4.toInt ≤ (11 : Int) by omega⟩ ⟨show (0 : Int) ≤ t5.toInt by omega, show t5.toInt ≤ (11 : Int) by omega⟩) k_645 k_646 k_116 k_647 (by decide +kernel) ⟨Nat.le_of_ble_eq_true rfl, Nat.le_of_ble_eq_true rfl⟩ (rfl) hl.1 rfl (Nat.le_of_ble_eq_true rfl) dJ1_indexOf_4cfef_33 (fun r9 u H locs hw hP hD hS => ?_)
      have hG10 := hw
      exact ret r9 () _ _ _ _ _ _ rfl (gsX_J1_indexOf_4cfef_1_q0 hG2 et4 et5 c6 hG10.symm) hP hD hS dJ1_indexOf_4cfef_36 (Nat.le_refl _) (Nat.le_refl _)
    · skip
      have zc6 : ¬ (t4.toInt < t5.toInt) := by rw [fa_lt] at c6; exact c6
      have rg11 := fb_rng t4
      have rg12 := fb_rng t5
      exact (show False by omega).elim
  · skip
    subst g3
    refine lv_if_ne (tgt := 9) hx hb dJ1_indexOf_4cfef_4 (by decide) (fun c0 => absurd (by decide) c0) (fun _ => ?_)
    refine lv_iconst (v := (-1)) hx hb dJ1_indexOf_4cfef_7 (by decide) ?_
    exact ret (-1) () _ _ _ _ _ _ rfl (gsX_J1_indexOf_4cfef_1_q1 hG2) hP hD hS dJ1_indexOf_4cfef_8 (Nat.le_refl _) (Nat.le_refl _)
