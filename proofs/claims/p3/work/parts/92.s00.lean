set_option maxHeartbeats 4000000 in
set_option maxRecDepth 100000 in
theorem sX_X9_isLetter_1 (l : Launch) (dC : Nat → ClassId) (dI : Nat → Nat → Nat) (cy : Nat → ClassId) (x0 : Nat) (x : Nat → Nat) (p1 : Int32) (v : Nat → Int32) (f : Nat → Nat → Int32) (hIv : XI v)  : ctI l (dC, dI) cy yX9_isLetter cX9_isLetter 2 .boolean 1 60 0 0 Unit [.ref (x 0), .int p1] (XW cy x0 x v f) (fun r u => ((r = 1 ∧ 0 ≤ p1.toInt ∧ p1.toInt < (v 1).toInt ∧ p1.toInt ≤ 1599) ∨ (r = 0))) (fun u => XW cy x0 x v f) := by
  refine ctI_of (by decide) (Nat.le_of_ble_eq_true rfl) (fun p e s m below meth c A ls Q hx hb hml hts hown hE hP hD hA hl ret => ?_)
  have hown : s.vm.findClass RX9 = some m.cls := hown
  have hS : va_S A s.heap s.heap [] := va_S.rf
  have hl : lv_has ls 2 [(0, .ref (x 0)), (1, .int p1)] := hl
  refine lv_iload_n hx hb dX9_isLetter_0 rfl (lv_at hl 1 rfl) ?_
  refine lv_if_lt (tgt := 38) hx hb dX9_isLetter_1 (by decide) (fun c1 => ?_) (fun c1 => ?_)
  · skip
    have zc1 : p1.toInt < 0 := by rw [fa_lt, show (0 : Int32).toInt = 0 from by decide] at c1; exact c1
    refine lv_iconst (v := 0) hx hb dX9_isLetter_38 (by decide) ?_
    exact ret 0 () _ _ _ _ _ _ rfl (Or.inr rfl) hP hD hS dX9_isLetter_39 (Nat.le_refl _) (Nat.le_refl _)
  · skip
    have zc1 : ¬ (p1.toInt < 0) := by rw [fa_lt, show (0 : Int32).toInt = 0 from by decide] at c1; exact c1
    refine lv_iload_n hx hb dX9_isLetter_4 rfl (lv_at hl 1 rfl) ?_
    refine lv_aload_n hx hb dX9_isLetter_5 rfl (lv_at hl 0 rfl) ?_
    refine va_get (D := (dC, dI)) (ci := 9) (v := .int (v 1)) (C := RX9) (T := TX9) (N := 6) hx hb hts inB_9 hown hE.1 hP 1 rfl rfl 1 (by decide) (hts _ k_137) (fun _ h9 => h9) rfl dX9_isLetter_6 ?_
    have b1_v : 0 ≤ (v 1).toInt ∧ (v 1).toInt ≤ 1600 := XI.b hIv 1 (by decide)
    refine lv_icmp_ge (tgt := 38) hx hb dX9_isLetter_9 (by decide) (fun c2 => ?_) (fun c2 => ?_)
    · skip
      have zc2 : (v 1).toInt ≤ p1.toInt := by rw [fa_le] at c2; exact c2
      have rg3 := fb_rng p1
      have rg4 := fb_rng (v 1)
      refine lv_iconst (v := 0) hx hb dX9_isLetter_38 (by decide) ?_
      exact ret 0 () _ _ _ _ _ _ rfl (Or.inr rfl) hP hD hS dX9_isLetter_39 (Nat.le_refl _) (Nat.le_refl _)
    · skip
      have zc2 : ¬ ((v 1).toInt ≤ p1.toInt) := by rw [fa_le] at c2; exact c2
      have rg5 := fb_rng p1
      have rg6 := fb_rng (v 1)
      refine lv_aload_n hx hb dX9_isLetter_12 rfl (lv_at hl 0 rfl) ?_
      refine va_get (D := (dC, dI)) (ci := 9) (v := .ref (x 1)) (C := RX9) (T := TX9) (N := 6) hx hb hts inB_9 hown hE.1 hP 1 rfl rfl 0 (by decide) (hts _ k_136) (fun _ h9 => h9) rfl dX9_isLetter_13 ?_
      refine lv_iload_n hx hb dX9_isLetter_16 rfl (lv_at hl 1 rfl) ?_
      refine ldB hx hb hE hP 2 rfl (vp_in_iff.mpr ⟨by omega, by omega⟩) rfl rfl dX9_isLetter_17 ?_
      refine lv_topi (fun t7 et7 => ?_)
      refine lv_bipush (v := 97) hx hb dX9_isLetter_18 (by decide) ?_
      refine lv_icmp_lt (tgt := 38) hx hb dX9_isLetter_20 (by decide) (fun c8 => ?_) (fun c8 => ?_)
      · skip
        have zc8 : t7.toInt < 97 := by rw [fa_lt, show (97 : Int32).toInt = 97 from by decide] at c8; exact c8
        refine lv_iconst (v := 0) hx hb dX9_isLetter_38 (by decide) ?_
        exact ret 0 () _ _ _ _ _ _ rfl (Or.inr rfl) hP hD hS dX9_isLetter_39 (Nat.le_refl _) (Nat.le_refl _)
      · skip
        have zc8 : ¬ (t7.toInt < 97) := by rw [fa_lt, show (97 : Int32).toInt = 97 from by decide] at c8; exact c8
        refine lv_aload_n hx hb dX9_isLetter_23 rfl (lv_at hl 0 rfl) ?_
        refine va_get (D := (dC, dI)) (ci := 9) (v := .ref (x 1)) (C := RX9) (T := TX9) (N := 6) hx hb hts inB_9 hown hE.1 hP 1 rfl rfl 0 (by decide) (hts _ k_136) (fun _ h9 => h9) rfl dX9_isLetter_24 ?_
        refine lv_iload_n hx hb dX9_isLetter_27 rfl (lv_at hl 1 rfl) ?_
        refine ldB hx hb hE hP 2 rfl (vp_in_iff.mpr ⟨by omega, by omega⟩) rfl rfl dX9_isLetter_28 ?_
        refine lv_topi (fun t9 et9 => ?_)
        refine lv_bipush (v := 122) hx hb dX9_isLetter_29 (by decide) ?_
        refine lv_icmp_gt (tgt := 38) hx hb dX9_isLetter_31 (by decide) (fun c10 => ?_) (fun c10 => ?_)
        · skip
          have zc10 : 122 < t9.toInt := by rw [fa_lt, show (122 : Int32).toInt = 122 from by decide] at c10; exact c10
          refine lv_iconst (v := 0) hx hb dX9_isLetter_38 (by decide) ?_
          exact ret 0 () _ _ _ _ _ _ rfl (Or.inr rfl) hP hD hS dX9_isLetter_39 (Nat.le_refl _) (Nat.le_refl _)
        · skip
          have zc10 : ¬ (122 < t9.toInt) := by rw [fa_lt, show (122 : Int32).toInt = 122 from by decide] at c10; exact c10
          refine lv_iconst (v := 1) hx hb dX9_isLetter_34 (by decide) ?_
          refine lv_goto (tgt := 39) hx hb dX9_isLetter_35 (by decide) ?_
          exact ret 1 () _ _ _ _ _ _ rfl (Or.inl ⟨rfl, by omega, by omega, by omega⟩) hP hD hS dX9_isLetter_39 (Nat.le_refl _) (Nat.le_refl _)
set_option maxHeartbeats 4000000 in
set_option maxRecDepth 100000 in
theorem sX_J0_coder_7d493_1 (l : Launch) (dC : Nat → ClassId) (dI : Nat → Nat → Nat) (cy : Nat → ClassId) (x0 : Nat) (x : Nat → Nat)  (v : Nat → Int32) (f : Nat → Nat → Int32) (hIv : XI v)  : ctIS l (dC, dI) cy yJ0_coder_7d493 cJ0_coder_7d493 1 .byte 1 60 0 0 Unit [.ref (dI 100 1)] (XW cy x0 x v f) (fun r u => r = 0) (fun u => XW cy x0 x v f) := by
  refine ctIS_of (by decide) (Nat.le_of_ble_eq_true rfl) (fun p e s m below meth c A ls Q hx hb hml hts hown hE hF hT hP hD hA hl ret => ?_)
  have hown : s.vm.findClass RJ0 = some m.cls := hown
  have hS : va_S A s.heap s.heap [] := va_S.rf
  have hl : lv_has ls 1 [(0, .ref (dI 100 1))] := hl
  refine va_gets hx hb hT.2.1 hS hown (hts _ k_579) (fun _ h9 => h9) dJ0_coder_7d493_0 ?_
  refine lv_if_eq (tgt := 13) hx hb dJ0_coder_7d493_3 (by decide) (fun c0 => absurd c0 (by decide)) (fun _ => ?_)
  refine lv_aload_n hx hb dJ0_coder_7d493_6 rfl (lv_at hl 0 rfl) ?_
  refine vk_getf (q := (dI 100 1)) (v := .int 0) hx hb (hT.1.1 1 (by decide)).2.1 hS hown (hts _ k_2060) (fun _ h9 => h9) dJ0_coder_7d493_7 ?_
  refine lv_goto (tgt := 14) hx hb dJ0_coder_7d493_10 (by decide) ?_
  exact ret 0 () _ _ _ _ _ _ rfl rfl hP hD hS dJ0_coder_7d493_14 (Nat.le_refl _) (Nat.le_refl _)
set_option maxHeartbeats 4000000 in
set_option maxRecDepth 100000 in
theorem sX_J0_length_8abf5_1 (l : Launch) (dC : Nat → ClassId) (dI : Nat → Nat → Nat) (cy : Nat → ClassId) (x0 : Nat) (x : Nat → Nat)  (v : Nat → Int32) (f : Nat → Nat → Int32) (hIv : XI v)  : ctIS l (dC, dI) cy yJ0_length_8abf5 cJ0_length_8abf5 1 .int 2 80 0 0 Unit [.ref (dI 100 1)] (XW cy x0 x v f) (fun r u => r = 102) (fun u => XW cy x0 x v f) := by
  refine ctIS_of (by decide) (Nat.le_of_ble_eq_true rfl) (fun p e s m below meth c A ls Q hx hb hml hts hown hE hF hT hP hD hA hl ret => ?_)
  have hown : s.vm.findClass RJ0 = some m.cls := hown
  have hS : va_S A s.heap s.heap [] := va_S.rf
  have hl : lv_has ls 1 [(0, .ref (dI 100 1))] := hl
  refine lv_aload_n hx hb dJ0_length_8abf5_0 rfl (lv_at hl 0 rfl) ?_
  refine vk_getf (q := (dI 100 1)) (v := .ref (dI 101 1)) hx hb (hT.1.1 1 (by decide)).2.2.1 hS hown (hts _ k_2059) (fun _ h9 => h9) dJ0_length_8abf5_1 ?_
  refine va_tlen (v := 102) hx hb (hT.1.1 1 (by decide)).2.2.2 hS (by decide) dJ0_length_8abf5_4 ?_
  refine lv_aload_n hx hb dJ0_length_8abf5_5 rfl (lv_at hl 0 rfl) ?_
  refine crVi (n := 0) (rest := [.int 102]) hx hb hml hown hts hE hP hD hS hA hF hT (sX_J0_coder_7d493_1 l dC dI cy x0 x  v f hIv ) k_575 k_576 k_577 k_115 k_578 (by decide +kernel) ⟨Nat.le_of_ble_eq_true rfl, Nat.le_of_ble_eq_true rfl⟩ 1 (by decide) rfl rfl (rfl) hl.1 rfl (Nat.le_of_ble_eq_true rfl) dJ0_length_8abf5_6 (fun r1 u H locs hw hP hD hS => ?_)
  refine tI (y := 0) hw ?_
  refine lv_ishr hx hb dJ0_length_8abf5_9 ?_
  refine tI (y := 102) (by decide) ?_
  exact ret 102 () _ _ _ _ _ _ rfl rfl hP hD hS dJ0_length_8abf5_10 (Nat.le_refl _) (Nat.le_refl _)
set_option maxHeartbeats 4000000 in
set_option maxRecDepth 100000 in
theorem sX_J0_isLatin1_aae02_1 (l : Launch) (dC : Nat → ClassId) (dI : Nat → Nat → Nat) (cy : Nat → ClassId) (x0 : Nat) (x : Nat → Nat)  (v : Nat → Int32) (f : Nat → Nat → Int32) (hIv : XI v)  : ctIS l (dC, dI) cy yJ0_isLatin1_aae02 cJ0_isLatin1_aae02 1 .boolean 1 60 0 0 Unit [.ref (dI 100 1)] (XW cy x0 x v f) (fun r u => r = 1) (fun u => XW cy x0 x v f) := by
  refine ctIS_of (by decide) (Nat.le_of_ble_eq_true rfl) (fun p e s m below meth c A ls Q hx hb hml hts hown hE hF hT hP hD hA hl ret => ?_)
  have hown : s.vm.findClass RJ0 = some m.cls := hown
  have hS : va_S A s.heap s.heap [] := va_S.rf
  have hl : lv_has ls 1 [(0, .ref (dI 100 1))] := hl
  refine va_gets hx hb hT.2.1 hS hown (hts _ k_579) (fun _ h9 => h9) dJ0_isLatin1_aae02_0 ?_
  refine lv_if_eq (tgt := 17) hx hb dJ0_isLatin1_aae02_3 (by decide) (fun c0 => absurd c0 (by decide)) (fun _ => ?_)
  refine lv_aload_n hx hb dJ0_isLatin1_aae02_6 rfl (lv_at hl 0 rfl) ?_
  refine vk_getf (q := (dI 100 1)) (v := .int 0) hx hb (hT.1.1 1 (by decide)).2.1 hS hown (hts _ k_2060) (fun _ h9 => h9) dJ0_isLatin1_aae02_7 ?_
  refine lv_if_ne (tgt := 17) hx hb dJ0_isLatin1_aae02_10 (by decide) (fun c0 => absurd (by decide) c0) (fun _ => ?_)
  refine lv_iconst (v := 1) hx hb dJ0_isLatin1_aae02_13 (by decide) ?_
  refine lv_goto (tgt := 18) hx hb dJ0_isLatin1_aae02_14 (by decide) ?_
  exact ret 1 () _ _ _ _ _ _ rfl rfl hP hD hS dJ0_isLatin1_aae02_18 (Nat.le_refl _) (Nat.le_refl _)
set_option maxHeartbeats 4000000 in
set_option maxRecDepth 100000 in
theorem sX_J3_checkIndex_8e157_1 (l : Launch) (dC : Nat → ClassId) (dI : Nat → Nat → Nat) (cy : Nat → ClassId) (x0 : Nat) (x : Nat → Nat) (p0 : Int32) (v : Nat → Int32) (f : Nat → Nat → Int32) (hIv : XI v) (hp0 : (0 : Int) ≤ p0.toInt ∧ p0.toInt ≤ 101) : ctIS l (dC, dI) cy yJ3_checkIndex_8e157 cJ3_checkIndex_8e157 3 .int 1 60 0 0 Unit [.int p0, .int 102, .null] (XW cy x0 x v f) (fun r u => True) (fun u => XW cy x0 x v f) := by
  refine ctIS_of (by decide) (Nat.le_of_ble_eq_true rfl) (fun p e s m below meth c A ls Q hx hb hml hts hown hE hF hT hP hD hA hl ret => ?_)
  have hown : s.vm.findClass RJ3 = some m.cls := hown
  have hS : va_S A s.heap s.heap [] := va_S.rf
  have hl : lv_has ls 3 [(0, .int p0), (1, .int 102), (2, .null)] := hl
  refine lv_iload_n hx hb dJ3_checkIndex_8e157_0 rfl (lv_at hl 0 rfl) ?_
  refine lv_if_lt (tgt := 9) hx hb dJ3_checkIndex_8e157_1 (by decide) (fun c1 => ?_) (fun c1 => ?_)
  · skip
    have zc1 : p0.toInt < 0 := by rw [fa_lt, show (0 : Int32).toInt = 0 from by decide] at c1; exact c1
    exact (show False by omega).elim
  · skip
    have zc1 : ¬ (p0.toInt < 0) := by rw [fa_lt, show (0 : Int32).toInt = 0 from by decide] at c1; exact c1
    refine lv_iload_n hx hb dJ3_checkIndex_8e157_4 rfl (lv_at hl 0 rfl) ?_
    refine lv_iload_n hx hb dJ3_checkIndex_8e157_5 rfl (lv_at hl 1 rfl) ?_
    refine lv_icmp_lt (tgt := 16) hx hb dJ3_checkIndex_8e157_6 (by decide) (fun c2 => ?_) (fun c2 => ?_)
    · skip
      have zc2 : p0.toInt < 102 := by rw [fa_lt, show (102 : Int32).toInt = 102 from by decide] at c2; exact c2
      refine lv_iload_n hx hb dJ3_checkIndex_8e157_16 rfl (lv_at hl 0 rfl) ?_
      exact ret p0 () _ _ _ _ _ _ rfl trivial hP hD hS dJ3_checkIndex_8e157_17 (Nat.le_refl _) (Nat.le_refl _)
    · skip
      have zc2 : ¬ (p0.toInt < 102) := by rw [fa_lt, show (102 : Int32).toInt = 102 from by decide] at c2; exact c2
      exact (show False by omega).elim
set_option maxHeartbeats 4000000 in
set_option maxRecDepth 100000 in
theorem sX_J3_checkIndex_8e157_2 (l : Launch) (dC : Nat → ClassId) (dI : Nat → Nat → Nat) (cy : Nat → ClassId) (x0 : Nat) (x : Nat → Nat) (tz : Nat) (p0 : Int32) (v : Nat → Int32) (f : Nat → Nat → Int32) (hIv : XI v) (hp0 : (0 : Int) ≤ p0.toInt ∧ p0.toInt ≤ 101) : ctIS l (dC, dI) cy yJ3_checkIndex_8e157 cJ3_checkIndex_8e157 3 .int 1 60 0 0 Unit [.int p0, .int 102, .ref tz] (XW cy x0 x v f) (fun r u => True) (fun u => XW cy x0 x v f) := by
  refine ctIS_of (by decide) (Nat.le_of_ble_eq_true rfl) (fun p e s m below meth c A ls Q hx hb hml hts hown hE hF hT hP hD hA hl ret => ?_)
  have hown : s.vm.findClass RJ3 = some m.cls := hown
  have hS : va_S A s.heap s.heap [] := va_S.rf
  have hl : lv_has ls 3 [(0, .int p0), (1, .int 102), (2, .ref tz)] := hl
  refine lv_iload_n hx hb dJ3_checkIndex_8e157_0 rfl (lv_at hl 0 rfl) ?_
  refine lv_if_lt (tgt := 9) hx hb dJ3_checkIndex_8e157_1 (by decide) (fun c1 => ?_) (fun c1 => ?_)
  · skip
    have zc1 : p0.toInt < 0 := by rw [fa_lt, show (0 : Int32).toInt = 0 from by decide] at c1; exact c1
    exact (show False by omega).elim
  · skip
    have zc1 : ¬ (p0.toInt < 0) := by rw [fa_lt, show (0 : Int32).toInt = 0 from by decide] at c1; exact c1
    refine lv_iload_n hx hb dJ3_checkIndex_8e157_4 rfl (lv_at hl 0 rfl) ?_
    refine lv_iload_n hx hb dJ3_checkIndex_8e157_5 rfl (lv_at hl 1 rfl) ?_
    refine lv_icmp_lt (tgt := 16) hx hb dJ3_checkIndex_8e157_6 (by decide) (fun c2 => ?_) (fun c2 => ?_)
    · skip
      have zc2 : p0.toInt < 102 := by rw [fa_lt, show (102 : Int32).toInt = 102 from by decide] at c2; exact c2
      refine lv_iload_n hx hb dJ3_checkIndex_8e157_16 rfl (lv_at hl 0 rfl) ?_
      exact ret p0 () _ _ _ _ _ _ rfl trivial hP hD hS dJ3_checkIndex_8e157_17 (Nat.le_refl _) (Nat.le_refl _)
    · skip
      have zc2 : ¬ (p0.toInt < 102) := by rw [fa_lt, show (102 : Int32).toInt = 102 from by decide] at c2; exact c2
      exact (show False by omega).elim
set_option maxHeartbeats 4000000 in
set_option maxRecDepth 100000 in
theorem sX_J0_checkIndex_df160_1 (l : Launch) (dC : Nat → ClassId) (dI : Nat → Nat → Nat) (cy : Nat → ClassId) (x0 : Nat) (x : Nat → Nat) (p0 : Int32) (v : Nat → Int32) (f : Nat → Nat → Int32) (hIv : XI v) (hp0 : (0 : Int) ≤ p0.toInt ∧ p0.toInt ≤ 101) : ctVS l (dC, dI) cy yJ0_checkIndex_df160 cJ0_checkIndex_df160 2 2 82 0 0 Unit [.int p0, .int 102] (XW cy x0 x v f) (fun u => True) (fun u => XW cy x0 x v f) := by
  refine ctVS_of (by decide) (Nat.le_of_ble_eq_true rfl) (fun p e s m below meth c A ls Q hx hb hml hts hown hnm hE hF hT hP hD hA hl ret => ?_)
  have hown : s.vm.findClass RJ0 = some m.cls := hown
  have hS : va_S A s.heap s.heap [] := va_S.rf
  have hl : lv_has ls 2 [(0, .int p0), (1, .int 102)] := hl
  refine lv_iload_n hx hb dJ0_checkIndex_df160_0 rfl (lv_at hl 0 rfl) ?_
  refine lv_iload_n hx hb dJ0_checkIndex_df160_1 rfl (lv_at hl 1 rfl) ?_
  rcases hT.2.2 with hz9 | ⟨tz, hz9⟩
  · skip
    refine va_gets hx hb hz9 hS hown (hts _ k_595) (fun _ h9 => h9) dJ0_checkIndex_df160_2 ?_
    refine csSi (n := 3) (rest := []) hx hb hml hown hts hE hP hD hS hA hF hT (sX_J3_checkIndex_8e157_1 l dC dI cy x0 x p0 v f hIv ⟨show (0 : Int) ≤ p0.toInt by omega, show p0.toInt ≤ (101 : Int) by omega⟩) k_597 k_598 k_117 k_599 (by decide +kernel) ⟨Nat.le_of_ble_eq_true rfl, Nat.le_of_ble_eq_true rfl⟩ (rfl) hl.1 rfl (Nat.le_of_ble_eq_true rfl) dJ0_checkIndex_df160_5 (fun r1 u H locs hw hP hD hS => ?_)
    refine lv_pop hx hb dJ0_checkIndex_df160_8 rfl ?_
    exact ret () _ _ _ _ _ _ trivial hP hD hS dJ0_checkIndex_df160_9 (Nat.le_refl _) (Nat.le_refl _)
  · skip
    refine va_gets hx hb hz9 hS hown (hts _ k_595) (fun _ h9 => h9) dJ0_checkIndex_df160_2 ?_
    refine csSi (n := 3) (rest := []) hx hb hml hown hts hE hP hD hS hA hF hT (sX_J3_checkIndex_8e157_2 l dC dI cy x0 x tz p0 v f hIv ⟨show (0 : Int) ≤ p0.toInt by omega, show p0.toInt ≤ (101 : Int) by omega⟩) k_597 k_598 k_117 k_599 (by decide +kernel) ⟨Nat.le_of_ble_eq_true rfl, Nat.le_of_ble_eq_true rfl⟩ (rfl) hl.1 rfl (Nat.le_of_ble_eq_true rfl) dJ0_checkIndex_df160_5 (fun r2 u H locs hw hP hD hS => ?_)
    refine lv_pop hx hb dJ0_checkIndex_df160_8 rfl ?_
    exact ret () _ _ _ _ _ _ trivial hP hD hS dJ0_checkIndex_df160_9 (Nat.le_refl _) (Nat.le_refl _)
set_option maxHeartbeats 4000000 in
set_option maxRecDepth 100000 in
theorem sX_J1_charAt_3b067_1 (l : Launch) (dC : Nat → ClassId) (dI : Nat → Nat → Nat) (cy : Nat → ClassId) (x0 : Nat) (x : Nat → Nat) (p1 : Int32) (v : Nat → Int32) (f : Nat → Nat → Int32) (hIv : XI v) (hp1 : (0 : Int) ≤ p1.toInt ∧ p1.toInt ≤ 101) : ctIS l (dC, dI) cy yJ1_charAt_3b067 cJ1_charAt_3b067 2 .char 3 103 0 0 Unit [.ref (dI 101 1), .int p1] (XW cy x0 x v f) (fun r u => narrow .char (.int r) = .int r) (fun u => XW cy x0 x v f) := by
  refine ctIS_of (by decide) (Nat.le_of_ble_eq_true rfl) (fun p e s m below meth c A ls Q hx hb hml hts hown hE hF hT hP hD hA hl ret => ?_)
  have hown : s.vm.findClass RJ1 = some m.cls := hown
  have hS : va_S A s.heap s.heap [] := va_S.rf
  have hl : lv_has ls 2 [(0, .ref (dI 101 1)), (1, .int p1)] := hl
  refine lv_iload_n hx hb dJ1_charAt_3b067_0 rfl (lv_at hl 1 rfl) ?_
  refine lv_aload_n hx hb dJ1_charAt_3b067_1 rfl (lv_at hl 0 rfl) ?_
  refine va_tlen (v := 102) hx hb (hT.1.1 1 (by decide)).2.2.2 hS (by decide) dJ1_charAt_3b067_2 ?_
  refine csSv (n := 2) (rest := []) hx hb hml hown hts hE hP hD hS hA hF hT (sX_J0_checkIndex_df160_1 l dC dI cy x0 x p1 v f hIv ⟨show (0 : Int) ≤ p1.toInt by omega, show p1.toInt ≤ (101 : Int) by omega⟩) k_592 k_593 k_115 k_594 (by decide +kernel) ⟨Nat.le_of_ble_eq_true rfl, Nat.le_of_ble_eq_true rfl⟩ (rfl) hl.1 rfl (Nat.le_of_ble_eq_true rfl) dJ1_charAt_3b067_3 (fun u H locs hw hP hD hS => ?_)
  refine lv_aload_n hx hb dJ1_charAt_3b067_6 rfl (lv_at hl 0 rfl) ?_
  refine lv_iload_n hx hb dJ1_charAt_3b067_7 rfl (lv_at hl 1 rfl) ?_
  refine va_tb hx hb (hT.1.1 1 (by decide)).2.2.2 hS (show vp_in p1 102 from (vp_in_iff.mpr ⟨by omega, by omega⟩)) rfl dJ1_charAt_3b067_8 ?_
  refine lv_topi (fun t1 et1 => ?_)
  refine lv_sipush (v := 255) hx hb dJ1_charAt_3b067_9 (by decide) ?_
  refine lv_iand hx hb dJ1_charAt_3b067_12 ?_
  refine lv_topi (fun t2 et2 => ?_)
  have zt2 : 0 ≤ t2.toInt ∧ t2.toInt < 256 := by rw [et2]; exact and_rng _ (k := 8) (by decide) (by decide)
  refine lv_i2c hx hb dJ1_charAt_3b067_13 rfl ?_
  refine lv_topi (fun t3 et3 => ?_)
  exact ret t3 () _ _ _ _ _ _ (by rw [et3, et2, sc_c2]; exact sc_nar _) (by rw [et3, et2, sc_c2]; exact sc_nar _) hP hD hS dJ1_charAt_3b067_14 (Nat.le_refl _) (Nat.le_refl _)
set_option maxHeartbeats 4000000 in
set_option maxRecDepth 100000 in
theorem sX_J0_charAt_5068e_1 (l : Launch) (dC : Nat → ClassId) (dI : Nat → Nat → Nat) (cy : Nat → ClassId) (x0 : Nat) (x : Nat → Nat) (p1 : Int32) (v : Nat → Int32) (f : Nat → Nat → Int32) (hIv : XI v) (hp1 : (0 : Int) ≤ p1.toInt ∧ p1.toInt ≤ 101) : ctIS l (dC, dI) cy yJ0_charAt_5068e cJ0_charAt_5068e 2 .char 4 124 0 0 Unit [.ref (dI 100 1), .int p1] (XW cy x0 x v f) (fun r u => narrow .char (.int r) = .int r) (fun u => XW cy x0 x v f) := by
  refine ctIS_of (by decide) (Nat.le_of_ble_eq_true rfl) (fun p e s m below meth c A ls Q hx hb hml hts hown hE hF hT hP hD hA hl ret => ?_)
  have hown : s.vm.findClass RJ0 = some m.cls := hown
  have hS : va_S A s.heap s.heap [] := va_S.rf
  have hl : lv_has ls 2 [(0, .ref (dI 100 1)), (1, .int p1)] := hl
  refine lv_aload_n hx hb dJ0_charAt_5068e_0 rfl (lv_at hl 0 rfl) ?_
  refine crVi (n := 0) (rest := []) hx hb hml hown hts hE hP hD hS hA hF hT (sX_J0_isLatin1_aae02_1 l dC dI cy x0 x  v f hIv ) k_585 k_586 k_587 k_115 k_588 (by decide +kernel) ⟨Nat.le_of_ble_eq_true rfl, Nat.le_of_ble_eq_true rfl⟩ 1 (by decide) rfl rfl (rfl) hl.1 rfl (Nat.le_of_ble_eq_true rfl) dJ0_charAt_5068e_1 (fun r1 u H locs hw hP hD hS => ?_)
  refine tI (y := 1) hw ?_
  refine lv_if_eq (tgt := 16) hx hb dJ0_charAt_5068e_4 (by decide) (fun c0 => absurd c0 (by decide)) (fun _ => ?_)
  refine lv_aload_n hx hb dJ0_charAt_5068e_7 rfl (lv_at hl 0 rfl) ?_
  refine vk_getf (q := (dI 100 1)) (v := .ref (dI 101 1)) hx hb (hT.1.1 1 (by decide)).2.2.1 hS hown (hts _ k_2059) (fun _ h9 => h9) dJ0_charAt_5068e_8 ?_
  refine lv_iload_n hx hb dJ0_charAt_5068e_11 rfl (lv_at hl 1 rfl) ?_
  refine csSi (n := 2) (rest := []) hx hb hml hown hts hE hP hD hS hA hF hT (sX_J1_charAt_3b067_1 l dC dI cy x0 x p1 v f hIv ⟨show (0 : Int) ≤ p1.toInt by omega, show p1.toInt ≤ (101 : Int) by omega⟩) k_589 k_590 k_116 k_591 (by decide +kernel) ⟨Nat.le_of_ble_eq_true rfl, Nat.le_of_ble_eq_true rfl⟩ (rfl) hl.1 rfl (Nat.le_of_ble_eq_true rfl) dJ0_charAt_5068e_12 (fun r2 u H locs hw hP hD hS => ?_)
  have nrr2 := hw
  exact ret r2 () _ _ _ _ _ _ nrr2 nrr2 hP hD hS dJ0_charAt_5068e_15 (Nat.le_refl _) (Nat.le_refl _)
set_option maxHeartbeats 4000000 in
set_option maxRecDepth 100000 in
theorem sX_X9_wordKind_1 (l : Launch) (dC : Nat → ClassId) (dI : Nat → Nat → Nat) (cy : Nat → ClassId) (x0 : Nat) (x : Nat → Nat)  (v : Nat → Int32) (f : Nat → Nat → Int32) (hIv : XI v)  : ctIS l (dC, dI) cy yX9_wordKind cX9_wordKind 7 .int 5 145 0 0 Unit [.ref (x 0)] (XW cy x0 x v f) (fun r u => True) (fun u => XW cy x0 x v f) := by
  refine ctIS_of (by decide) (Nat.le_of_ble_eq_true rfl) (fun p e s m below meth c A ls Q hx hb hml hts hown hE hF hT hP hD hA hl ret => ?_)
  have hown : s.vm.findClass RX9 = some m.cls := hown
  have hS : va_S A s.heap s.heap [] := va_S.rf
  have hl : lv_has ls 7 [(0, .ref (x 0))] := hl
  refine lv_bipush (v := 101) hx hb dX9_wordKind_0 (by decide) ?_
  refine lv_istore_n (lv' := [(1, .int 101), (0, .ref (x 0))]) hx hb dX9_wordKind_2 rfl hl (by decide) rfl (fun ls hl => ?_)
  refine lv_iconst (v := 0) hx hb dX9_wordKind_3 (by decide) ?_
  refine lv_istore_n (lv' := [(2, .int 0), (1, .int 101), (0, .ref (x 0))]) hx hb dX9_wordKind_4 rfl hl (by decide) rfl (fun ls hl => ?_)
  refine lv_iconst (v := 1) hx hb dX9_wordKind_5 (by decide) ?_
  refine lv_istore_n (lv' := [(3, .int 1), (2, .int 0), (1, .int 101), (0, .ref (x 0))]) hx hb dX9_wordKind_6 rfl hl (by decide) rfl (fun ls hl => ?_)
  refine lv_iconst (v := 0) hx hb dX9_wordKind_7 (by decide) ?_
  refine lv_istore (lv' := [(4, .int 0), (3, .int 1), (2, .int 0), (1, .int 101), (0, .ref (x 0))]) hx hb dX9_wordKind_8 hl (by decide) rfl (fun ls hl => ?_)
  have lp1 : ∀ (n1 : Nat) (l1_1 : Int32) (l2_1 : Int32) (l3_1 : Int32) (l4_1 : Int32), ((0 : Int) ≤ l2_1.toInt ∧ l2_1.toInt ≤ 102) → ((0 : Int) ≤ l3_1.toInt ∧ l3_1.toInt ≤ 1) → ((0 : Int) ≤ l4_1.toInt ∧ l4_1.toInt ≤ 102) → (l2_1.toInt ≤ l4_1.toInt) → (2147483647 - l4_1.toInt).toNat < n1 → ∀ (H : Heap) (locs : List Loc) (ls : Array Slot), va_P (dC, dI) vwCl (XW cy x0 x v f) H → va_D A (XW cy x0 x v f) → va_S A s.heap H locs → lv_has ls 7 [(4, .int l4_1), (3, .int l3_1), (2, .int l2_1), (1, .int l1_1), (0, .ref (x 0))] → W p l e { frames := 5, cells := 0, slots := 0, locals := 145 } s m ([.ref (x 0)] : List Value).toArray below meth c H locs 0 0 Q (F0 m 10 ls []) := by
    intro n1
    induction n1 with
    | zero => intro l1_1 l2_1 l3_1 l4_1 hr2_1 hr3_1 hr4_1 hx0_1 hm; exact absurd hm (Nat.not_lt_zero _)
    | succ n1 ih1 =>
      intro l1_1 l2_1 l3_1 l4_1 hr2_1 hr3_1 hr4_1 hx0_1 hm1 H locs ls hP hD hS hl
      refine lv_iload hx hb dX9_wordKind_10 (lv_at hl 0 rfl) ?_
      refine va_ldcS hx hb hown hF.2 dX9_wordKind_12 ?_
      refine crVi (n := 0) (rest := [.int l4_1]) hx hb hml hown hts hE hP hD hS hA hF hT (sX_J0_length_8abf5_1 l dC dI cy x0 x  v f hIv ) k_571 k_572 k_573 k_115 k_574 (by decide +kernel) ⟨Nat.le_of_ble_eq_true rfl, Nat.le_of_ble_eq_true rfl⟩ 1 (by decide) rfl rfl (rfl) hl.1 rfl (Nat.le_of_ble_eq_true rfl) dX9_wordKind_14 (fun r2 u H locs hw hP hD hS => ?_)
      refine tI (y := 102) hw ?_
      refine lv_icmp_ge (tgt := 112) hx hb dX9_wordKind_17 (by decide) (fun c3 => ?_) (fun c3 => ?_)
      · skip
        have zc3 : 102 ≤ l4_1.toInt := by rw [fa_le, show (102 : Int32).toInt = 102 from by decide] at c3; exact c3
        refine lv_iconst (v := 3) hx hb dX9_wordKind_112 (by decide) ?_
        exact ret 3 () _ _ _ _ _ _ rfl trivial hP hD hS dX9_wordKind_113 (Nat.le_refl _) (Nat.le_refl _)
      · skip
        have zc3 : ¬ (102 ≤ l4_1.toInt) := by rw [fa_le, show (102 : Int32).toInt = 102 from by decide] at c3; exact c3
        refine va_ldcS hx hb hown hF.2 dX9_wordKind_20 ?_
        refine lv_iload hx hb dX9_wordKind_22 (lv_at hl 0 rfl) ?_
        refine crVi (n := 1) (rest := []) hx hb hml hown hts hE hP hD hS hA hF hT (sX_J0_charAt_5068e_1 l dC dI cy x0 x l4_1 v f hIv ⟨show (0 : Int) ≤ l4_1.toInt by omega, show l4_1.toInt ≤ (101 : Int) by omega⟩) k_581 k_582 k_583 k_115 k_584 (by decide +kernel) ⟨Nat.le_of_ble_eq_true rfl, Nat.le_of_ble_eq_true rfl⟩ 1 (by decide) rfl rfl (rfl) hl.1 rfl (Nat.le_of_ble_eq_true rfl) dX9_wordKind_24 (fun r4 u H locs hw hP hD hS => ?_)
        have nrr4 := hw
        refine lv_istore (lv' := [(5, .int r4), (4, .int l4_1), (3, .int l3_1), (2, .int l2_1), (1, .int l1_1), (0, .ref (x 0))]) hx hb dX9_wordKind_27 hl (by decide) rfl (fun ls hl => ?_)
        refine lv_aload_n hx hb dX9_wordKind_29 rfl (lv_at hl 5 rfl) ?_
        refine va_get (D := (dC, dI)) (ci := 9) (v := .int (v 3)) (C := RX9) (T := TX9) (N := 6) hx hb hts inB_9 hown hE.1 hP 1 rfl rfl 3 (by decide) (hts _ k_141) (fun _ h9 => h9) rfl dX9_wordKind_30 ?_
        have b3_v : 0 ≤ (v 3).toInt ∧ (v 3).toInt ≤ 1600 := XI.b hIv 3 (by decide)
        refine lv_iload hx hb dX9_wordKind_33 (lv_at hl 1 rfl) ?_
        refine lv_iadd hx hb dX9_wordKind_35 ?_
        refine lv_topi (fun t5 et5 => ?_)
        have rg6 := fb_rng (v 3)
        have rg7 := fb_rng l4_1
        have zt5 : t5.toInt = (v 3).toInt + l4_1.toInt := by rw [et5]; exact add_i rfl rfl (by omega) (by omega)
        refine lv_iload_n hx hb dX9_wordKind_36 rfl (lv_at hl 3 rfl) ?_
        refine lv_isub hx hb dX9_wordKind_37 ?_
        refine lv_topi (fun t8 et8 => ?_)
        have rg9 := fb_rng t5
        have rg10 := fb_rng l2_1
        have zt8 : t8.toInt = t5.toInt - l2_1.toInt := by rw [et8]; exact sub_i rfl rfl (by omega) (by omega)
        refine lv_istore (lv' := [(6, .int t8), (5, .int r4), (4, .int l4_1), (3, .int l3_1), (2, .int l2_1), (1, .int l1_1), (0, .ref (x 0))]) hx hb dX9_wordKind_38 hl (by decide) rfl (fun ls hl => ?_)
        refine lv_iload hx hb dX9_wordKind_40 (lv_at hl 1 rfl) ?_
        refine lv_bipush (v := 32) hx hb dX9_wordKind_42 (by decide) ?_
        refine lv_icmp_eq (tgt := 81) hx hb dX9_wordKind_44 (by decide) (fun c11 => ?_) (fun c11 => ?_)
        · skip
          have zc11 : r4.toInt = 32 := by rw [fa_eq, show (32 : Int32).toInt = 32 from by decide] at c11; exact c11
          refine lv_iload_n hx hb dX9_wordKind_81 rfl (lv_at hl 3 rfl) ?_
          refine lv_if_eq (tgt := 96) hx hb dX9_wordKind_82 (by decide) (fun c12 => ?_) (fun c12 => ?_)
          · skip
            have zc12 : l3_1.toInt = 0 := by rw [fa_eq, show (0 : Int32).toInt = 0 from by decide] at c12; exact c12
            obtain ⟨t13, et13⟩ : ∃ y : Int32, y = l1_1 + 1 := ⟨_, rfl⟩
            refine lv_iinc (v := t13) (lv' := [(1, .int t13), (6, .int t8), (5, .int r4), (4, .int l4_1), (3, .int l3_1), (2, .int l2_1), (0, .ref (x 0))]) hx hb dX9_wordKind_96 hl (k := 5) rfl (by rw [et13]; rfl) (by decide) rfl (fun ls hl => ?_)
            refine lv_iload hx hb dX9_wordKind_99 (lv_at hl 3 rfl) ?_
            refine lv_iconst (v := 1) hx hb dX9_wordKind_101 (by decide) ?_
            refine lv_iadd hx hb dX9_wordKind_102 ?_
            refine lv_topi (fun t14 et14 => ?_)
            have zt14 : t14.toInt = l4_1.toInt + 1 := by rw [et14]; exact add_i rfl (by decide) (by omega) (by omega)
            refine lv_istore_n (lv' := [(2, .int t14), (1, .int t13), (6, .int t8), (5, .int r4), (4, .int l4_1), (3, .int l3_1), (0, .ref (x 0))]) hx hb dX9_wordKind_103 rfl hl (by decide) rfl (fun ls hl => ?_)
            refine lv_iconst (v := 1) hx hb dX9_wordKind_104 (by decide) ?_
            refine lv_istore_n (lv' := [(3, .int 1), (2, .int t14), (1, .int t13), (6, .int t8), (5, .int r4), (4, .int l4_1), (0, .ref (x 0))]) hx hb dX9_wordKind_105 rfl hl (by decide) rfl (fun ls hl => ?_)
            obtain ⟨t15, et15⟩ : ∃ y : Int32, y = l4_1 + 1 := ⟨_, rfl⟩
            have zt15 : t15.toInt = l4_1.toInt + 1 := by rw [et15]; exact add_i rfl (by decide) (by omega) (by omega)
            refine lv_iinc (v := t15) (lv' := [(4, .int t15), (3, .int 1), (2, .int t14), (1, .int t13), (6, .int t8), (5, .int r4), (0, .ref (x 0))]) hx hb dX9_wordKind_106 hl (k := 5) rfl (by rw [et15]; rfl) (by decide) rfl (fun ls hl => ?_)
            refine lv_goto (tgt := 10) hx hb dX9_wordKind_109 (by decide) ?_
            have rg16 := fb_rng t14
            have rg17 := fb_rng t15
            exact ih1 t13 t14 1 t15 ⟨show (0 : Int) ≤ t14.toInt by omega, show t14.toInt ≤ (102 : Int) by omega⟩ ⟨by decide, by decide⟩ ⟨show (0 : Int) ≤ t15.toInt by omega, show t15.toInt ≤ (102 : Int) by omega⟩ (by show t14.toInt ≤ t15.toInt; omega) (by show (2147483647 - t15.toInt).toNat < n1; omega) _ _ _ hP hD hS (lv_sub hl [0, 1, 2, 3, 6] rfl)
          · skip
            have zc12 : ¬ (l3_1.toInt = 0) := by rw [fa_eq, show (0 : Int32).toInt = 0 from by decide] at c12; exact c12
            refine lv_iload hx hb dX9_wordKind_85 (lv_at hl 0 rfl) ?_
            refine lv_aload_n hx hb dX9_wordKind_87 rfl (lv_at hl 6 rfl) ?_
            refine va_get (D := (dC, dI)) (ci := 9) (v := .int (v 4)) (C := RX9) (T := TX9) (N := 6) hx hb hts inB_9 hown hE.1 hP 1 rfl rfl 4 (by decide) (hts _ k_143) (fun _ h9 => h9) rfl dX9_wordKind_88 ?_
            have b4_v : 0 ≤ (v 4).toInt ∧ (v 4).toInt ≤ 1600 := XI.b hIv 4 (by decide)
            refine lv_icmp_ne (tgt := 96) hx hb dX9_wordKind_91 (by decide) (fun c18 => ?_) (fun c18 => ?_)
            · skip
              have zc18 : ¬ (t8.toInt = (v 4).toInt) := by rw [fa_eq] at c18; exact c18
              have rg19 := fb_rng t8
              have rg20 := fb_rng (v 4)
              obtain ⟨t21, et21⟩ : ∃ y : Int32, y = l1_1 + 1 := ⟨_, rfl⟩
              refine lv_iinc (v := t21) (lv' := [(1, .int t21), (6, .int t8), (5, .int r4), (4, .int l4_1), (3, .int l3_1), (2, .int l2_1), (0, .ref (x 0))]) hx hb dX9_wordKind_96 hl (k := 5) rfl (by rw [et21]; rfl) (by decide) rfl (fun ls hl => ?_)
              refine lv_iload hx hb dX9_wordKind_99 (lv_at hl 3 rfl) ?_
              refine lv_iconst (v := 1) hx hb dX9_wordKind_101 (by decide) ?_
              refine lv_iadd hx hb dX9_wordKind_102 ?_
              refine lv_topi (fun t22 et22 => ?_)
              have zt22 : t22.toInt = l4_1.toInt + 1 := by rw [et22]; exact add_i rfl (by decide) (by omega) (by omega)
              refine lv_istore_n (lv' := [(2, .int t22), (1, .int t21), (6, .int t8), (5, .int r4), (4, .int l4_1), (3, .int l3_1), (0, .ref (x 0))]) hx hb dX9_wordKind_103 rfl hl (by decide) rfl (fun ls hl => ?_)
              refine lv_iconst (v := 1) hx hb dX9_wordKind_104 (by decide) ?_
              refine lv_istore_n (lv' := [(3, .int 1), (2, .int t22), (1, .int t21), (6, .int t8), (5, .int r4), (4, .int l4_1), (0, .ref (x 0))]) hx hb dX9_wordKind_105 rfl hl (by decide) rfl (fun ls hl => ?_)
              obtain ⟨t23, et23⟩ : ∃ y : Int32, y = l4_1 + 1 := ⟨_, rfl⟩
              have zt23 : t23.toInt = l4_1.toInt + 1 := by rw [et23]; exact add_i rfl (by decide) (by omega) (by omega)
              refine lv_iinc (v := t23) (lv' := [(4, .int t23), (3, .int 1), (2, .int t22), (1, .int t21), (6, .int t8), (5, .int r4), (0, .ref (x 0))]) hx hb dX9_wordKind_106 hl (k := 5) rfl (by rw [et23]; rfl) (by decide) rfl (fun ls hl => ?_)
              refine lv_goto (tgt := 10) hx hb dX9_wordKind_109 (by decide) ?_
              have rg24 := fb_rng t22
              have rg25 := fb_rng t23
              exact ih1 t21 t22 1 t23 ⟨show (0 : Int) ≤ t22.toInt by omega, show t22.toInt ≤ (102 : Int) by omega⟩ ⟨by decide, by decide⟩ ⟨show (0 : Int) ≤ t23.toInt by omega, show t23.toInt ≤ (102 : Int) by omega⟩ (by show t22.toInt ≤ t23.toInt; omega) (by show (2147483647 - t23.toInt).toNat < n1; omega) _ _ _ hP hD hS (lv_sub hl [0, 1, 2, 3, 6] rfl)
            · skip
              have zc18 : t8.toInt = (v 4).toInt := by rw [fa_eq] at c18; exact c18
              have rg26 := fb_rng t8
              have rg27 := fb_rng (v 4)
              refine lv_iload_n hx hb dX9_wordKind_94 rfl (lv_at hl 5 rfl) ?_
              exact ret l1_1 () _ _ _ _ _ _ rfl trivial hP hD hS dX9_wordKind_95 (Nat.le_refl _) (Nat.le_refl _)
        · skip
          have zc11 : ¬ (r4.toInt = 32) := by rw [fa_eq, show (32 : Int32).toInt = 32 from by decide] at c11; exact c11
          refine lv_iload_n hx hb dX9_wordKind_47 rfl (lv_at hl 3 rfl) ?_
          refine lv_if_eq (tgt := 76) hx hb dX9_wordKind_48 (by decide) (fun c28 => ?_) (fun c28 => ?_)
          · skip
            have zc28 : l3_1.toInt = 0 := by rw [fa_eq, show (0 : Int32).toInt = 0 from by decide] at c28; exact c28
            refine lv_iconst (v := 0) hx hb dX9_wordKind_76 (by decide) ?_
            refine lv_istore_n (lv' := [(3, .int 0), (6, .int t8), (5, .int r4), (4, .int l4_1), (2, .int l2_1), (1, .int l1_1), (0, .ref (x 0))]) hx hb dX9_wordKind_77 rfl hl (by decide) rfl (fun ls hl => ?_)
            refine lv_goto (tgt := 106) hx hb dX9_wordKind_78 (by decide) ?_
            obtain ⟨t29, et29⟩ : ∃ y : Int32, y = l4_1 + 1 := ⟨_, rfl⟩
            have zt29 : t29.toInt = l4_1.toInt + 1 := by rw [et29]; exact add_i rfl (by decide) (by omega) (by omega)
            refine lv_iinc (v := t29) (lv' := [(4, .int t29), (3, .int 0), (6, .int t8), (5, .int r4), (2, .int l2_1), (1, .int l1_1), (0, .ref (x 0))]) hx hb dX9_wordKind_106 hl (k := 3) rfl (by rw [et29]; rfl) (by decide) rfl (fun ls hl => ?_)
            refine lv_goto (tgt := 10) hx hb dX9_wordKind_109 (by decide) ?_
            have rg30 := fb_rng t29
            exact ih1 l1_1 l2_1 0 t29 ⟨show (0 : Int) ≤ l2_1.toInt by omega, show l2_1.toInt ≤ (102 : Int) by omega⟩ ⟨by decide, by decide⟩ ⟨show (0 : Int) ≤ t29.toInt by omega, show t29.toInt ≤ (102 : Int) by omega⟩ (by show l2_1.toInt ≤ t29.toInt; omega) (by show (2147483647 - t29.toInt).toNat < n1; omega) _ _ _ hP hD hS (lv_sub hl [0, 1, 4, 5, 6] rfl)
          · skip
            have zc28 : ¬ (l3_1.toInt = 0) := by rw [fa_eq, show (0 : Int32).toInt = 0 from by decide] at c28; exact c28
            refine lv_iload hx hb dX9_wordKind_51 (lv_at hl 0 rfl) ?_
            refine lv_aload_n hx hb dX9_wordKind_53 rfl (lv_at hl 6 rfl) ?_
            refine va_get (D := (dC, dI)) (ci := 9) (v := .int (v 4)) (C := RX9) (T := TX9) (N := 6) hx hb hts inB_9 hown hE.1 hP 1 rfl rfl 4 (by decide) (hts _ k_143) (fun _ h9 => h9) rfl dX9_wordKind_54 ?_
            have b4_v : 0 ≤ (v 4).toInt ∧ (v 4).toInt ≤ 1600 := XI.b hIv 4 (by decide)
            refine lv_icmp_ge (tgt := 76) hx hb dX9_wordKind_57 (by decide) (fun c31 => ?_) (fun c31 => ?_)
            · skip
              have zc31 : (v 4).toInt ≤ t8.toInt := by rw [fa_le] at c31; exact c31
              have rg32 := fb_rng t8
              have rg33 := fb_rng (v 4)
              refine lv_iconst (v := 0) hx hb dX9_wordKind_76 (by decide) ?_
              refine lv_istore_n (lv' := [(3, .int 0), (6, .int t8), (5, .int r4), (4, .int l4_1), (2, .int l2_1), (1, .int l1_1), (0, .ref (x 0))]) hx hb dX9_wordKind_77 rfl hl (by decide) rfl (fun ls hl => ?_)
              refine lv_goto (tgt := 106) hx hb dX9_wordKind_78 (by decide) ?_
              obtain ⟨t34, et34⟩ : ∃ y : Int32, y = l4_1 + 1 := ⟨_, rfl⟩
              have zt34 : t34.toInt = l4_1.toInt + 1 := by rw [et34]; exact add_i rfl (by decide) (by omega) (by omega)
              refine lv_iinc (v := t34) (lv' := [(4, .int t34), (3, .int 0), (6, .int t8), (5, .int r4), (2, .int l2_1), (1, .int l1_1), (0, .ref (x 0))]) hx hb dX9_wordKind_106 hl (k := 3) rfl (by rw [et34]; rfl) (by decide) rfl (fun ls hl => ?_)
              refine lv_goto (tgt := 10) hx hb dX9_wordKind_109 (by decide) ?_
              have rg35 := fb_rng t34
              exact ih1 l1_1 l2_1 0 t34 ⟨show (0 : Int) ≤ l2_1.toInt by omega, show l2_1.toInt ≤ (102 : Int) by omega⟩ ⟨by decide, by decide⟩ ⟨show (0 : Int) ≤ t34.toInt by omega, show t34.toInt ≤ (102 : Int) by omega⟩ (by show l2_1.toInt ≤ t34.toInt; omega) (by show (2147483647 - t34.toInt).toNat < n1; omega) _ _ _ hP hD hS (lv_sub hl [0, 1, 4, 5, 6] rfl)
            · skip
              have zc31 : ¬ ((v 4).toInt ≤ t8.toInt) := by rw [fa_le] at c31; exact c31
              have rg36 := fb_rng t8
              have rg37 := fb_rng (v 4)
              refine lv_aload_n hx hb dX9_wordKind_60 rfl (lv_at hl 6 rfl) ?_
              refine va_get (D := (dC, dI)) (ci := 9) (v := .ref (x 1)) (C := RX9) (T := TX9) (N := 6) hx hb hts inB_9 hown hE.1 hP 1 rfl rfl 0 (by decide) (hts _ k_136) (fun _ h9 => h9) rfl dX9_wordKind_61 ?_
              refine lv_iload hx hb dX9_wordKind_64 (lv_at hl 0 rfl) ?_
              refine ldB hx hb hE hP 2 rfl (vp_in_iff.mpr ⟨by omega, by omega⟩) rfl rfl dX9_wordKind_66 ?_
              refine lv_topi (fun t38 et38 => ?_)
              refine lv_iload hx hb dX9_wordKind_67 (lv_at hl 1 rfl) ?_
              refine lv_icmp_ne (tgt := 76) hx hb dX9_wordKind_69 (by decide) (fun c39 => ?_) (fun c39 => ?_)
              · skip
                have zc39 : ¬ (t38.toInt = r4.toInt) := by rw [fa_eq] at c39; exact c39
                have rg40 := fb_rng t38
                have rg41 := fb_rng r4
                refine lv_iconst (v := 0) hx hb dX9_wordKind_76 (by decide) ?_
                refine lv_istore_n (lv' := [(3, .int 0), (6, .int t8), (5, .int r4), (4, .int l4_1), (2, .int l2_1), (1, .int l1_1), (0, .ref (x 0))]) hx hb dX9_wordKind_77 rfl hl (by decide) rfl (fun ls hl => ?_)
                refine lv_goto (tgt := 106) hx hb dX9_wordKind_78 (by decide) ?_
                obtain ⟨t42, et42⟩ : ∃ y : Int32, y = l4_1 + 1 := ⟨_, rfl⟩
                have zt42 : t42.toInt = l4_1.toInt + 1 := by rw [et42]; exact add_i rfl (by decide) (by omega) (by omega)
                refine lv_iinc (v := t42) (lv' := [(4, .int t42), (3, .int 0), (6, .int t8), (5, .int r4), (2, .int l2_1), (1, .int l1_1), (0, .ref (x 0))]) hx hb dX9_wordKind_106 hl (k := 3) rfl (by rw [et42]; rfl) (by decide) rfl (fun ls hl => ?_)
                refine lv_goto (tgt := 10) hx hb dX9_wordKind_109 (by decide) ?_
                have rg43 := fb_rng t42
                exact ih1 l1_1 l2_1 0 t42 ⟨show (0 : Int) ≤ l2_1.toInt by omega, show l2_1.toInt ≤ (102 : Int) by omega⟩ ⟨by decide, by decide⟩ ⟨show (0 : Int) ≤ t42.toInt by omega, show t42.toInt ≤ (102 : Int) by omega⟩ (by show l2_1.toInt ≤ t42.toInt; omega) (by show (2147483647 - t42.toInt).toNat < n1; omega) _ _ _ hP hD hS (lv_sub hl [0, 1, 4, 5, 6] rfl)
              · skip
                have zc39 : t38.toInt = r4.toInt := by rw [fa_eq] at c39; exact c39
                have rg44 := fb_rng t38
                have rg45 := fb_rng r4
                refine lv_iconst (v := 1) hx hb dX9_wordKind_72 (by decide) ?_
                refine lv_goto (tgt := 77) hx hb dX9_wordKind_73 (by decide) ?_
                refine lv_istore_n (lv' := [(3, .int 1), (6, .int t8), (5, .int r4), (4, .int l4_1), (2, .int l2_1), (1, .int l1_1), (0, .ref (x 0))]) hx hb dX9_wordKind_77 rfl hl (by decide) rfl (fun ls hl => ?_)
                refine lv_goto (tgt := 106) hx hb dX9_wordKind_78 (by decide) ?_
                obtain ⟨t46, et46⟩ : ∃ y : Int32, y = l4_1 + 1 := ⟨_, rfl⟩
                have zt46 : t46.toInt = l4_1.toInt + 1 := by rw [et46]; exact add_i rfl (by decide) (by omega) (by omega)
                refine lv_iinc (v := t46) (lv' := [(4, .int t46), (3, .int 1), (6, .int t8), (5, .int r4), (2, .int l2_1), (1, .int l1_1), (0, .ref (x 0))]) hx hb dX9_wordKind_106 hl (k := 3) rfl (by rw [et46]; rfl) (by decide) rfl (fun ls hl => ?_)
                refine lv_goto (tgt := 10) hx hb dX9_wordKind_109 (by decide) ?_
                have rg47 := fb_rng t46
                exact ih1 l1_1 l2_1 1 t46 ⟨show (0 : Int) ≤ l2_1.toInt by omega, show l2_1.toInt ≤ (102 : Int) by omega⟩ ⟨by decide, by decide⟩ ⟨show (0 : Int) ≤ t46.toInt by omega, show t46.toInt ≤ (102 : Int) by omega⟩ (by show l2_1.toInt ≤ t46.toInt; omega) (by show (2147483647 - t46.toInt).toNat < n1; omega) _ _ _ hP hD hS (lv_sub hl [0, 1, 4, 5, 6] rfl)
  exact lp1 _ 101 0 1 0 ⟨by decide, by decide⟩ ⟨by decide, by decide⟩ ⟨by decide, by decide⟩ (by have q4 : (0 : Int32).toInt = 0 := (by decide); have q2 : (0 : Int32).toInt = 0 := (by decide); show (0 : Int32).toInt ≤ (0 : Int32).toInt; omega) (Nat.lt_succ_self _) _ _ _ hP hD hS (lv_sub hl [0, 1, 2, 3, 4] rfl)
set_option maxHeartbeats 4000000 in
set_option maxRecDepth 100000 in
theorem sX_X9_isDigit_1 (l : Launch) (dC : Nat → ClassId) (dI : Nat → Nat → Nat) (cy : Nat → ClassId) (x0 : Nat) (x : Nat → Nat) (p1 : Int32) (v : Nat → Int32) (f : Nat → Nat → Int32) (hIv : XI v)  : ctI l (dC, dI) cy yX9_isDigit cX9_isDigit 2 .boolean 1 60 0 0 Unit [.ref (x 0), .int p1] (XW cy x0 x v f) (fun r u => ((r = 1 ∧ 0 ≤ p1.toInt ∧ p1.toInt < (v 1).toInt ∧ p1.toInt ≤ 1599) ∨ (r = 0))) (fun u => XW cy x0 x v f) := by
  refine ctI_of (by decide) (Nat.le_of_ble_eq_true rfl) (fun p e s m below meth c A ls Q hx hb hml hts hown hE hP hD hA hl ret => ?_)
  have hown : s.vm.findClass RX9 = some m.cls := hown
  have hS : va_S A s.heap s.heap [] := va_S.rf
  have hl : lv_has ls 2 [(0, .ref (x 0)), (1, .int p1)] := hl
  refine lv_iload_n hx hb dX9_isDigit_0 rfl (lv_at hl 1 rfl) ?_
  refine lv_if_lt (tgt := 38) hx hb dX9_isDigit_1 (by decide) (fun c1 => ?_) (fun c1 => ?_)
  · skip
    have zc1 : p1.toInt < 0 := by rw [fa_lt, show (0 : Int32).toInt = 0 from by decide] at c1; exact c1
    refine lv_iconst (v := 0) hx hb dX9_isDigit_38 (by decide) ?_
    exact ret 0 () _ _ _ _ _ _ rfl (Or.inr rfl) hP hD hS dX9_isDigit_39 (Nat.le_refl _) (Nat.le_refl _)
  · skip
    have zc1 : ¬ (p1.toInt < 0) := by rw [fa_lt, show (0 : Int32).toInt = 0 from by decide] at c1; exact c1
    refine lv_iload_n hx hb dX9_isDigit_4 rfl (lv_at hl 1 rfl) ?_
    refine lv_aload_n hx hb dX9_isDigit_5 rfl (lv_at hl 0 rfl) ?_
    refine va_get (D := (dC, dI)) (ci := 9) (v := .int (v 1)) (C := RX9) (T := TX9) (N := 6) hx hb hts inB_9 hown hE.1 hP 1 rfl rfl 1 (by decide) (hts _ k_137) (fun _ h9 => h9) rfl dX9_isDigit_6 ?_
    have b1_v : 0 ≤ (v 1).toInt ∧ (v 1).toInt ≤ 1600 := XI.b hIv 1 (by decide)
    refine lv_icmp_ge (tgt := 38) hx hb dX9_isDigit_9 (by decide) (fun c2 => ?_) (fun c2 => ?_)
    · skip
      have zc2 : (v 1).toInt ≤ p1.toInt := by rw [fa_le] at c2; exact c2
      have rg3 := fb_rng p1
      have rg4 := fb_rng (v 1)
      refine lv_iconst (v := 0) hx hb dX9_isDigit_38 (by decide) ?_
      exact ret 0 () _ _ _ _ _ _ rfl (Or.inr rfl) hP hD hS dX9_isDigit_39 (Nat.le_refl _) (Nat.le_refl _)
    · skip
      have zc2 : ¬ ((v 1).toInt ≤ p1.toInt) := by rw [fa_le] at c2; exact c2
      have rg5 := fb_rng p1
      have rg6 := fb_rng (v 1)
      refine lv_aload_n hx hb dX9_isDigit_12 rfl (lv_at hl 0 rfl) ?_
      refine va_get (D := (dC, dI)) (ci := 9) (v := .ref (x 1)) (C := RX9) (T := TX9) (N := 6) hx hb hts inB_9 hown hE.1 hP 1 rfl rfl 0 (by decide) (hts _ k_136) (fun _ h9 => h9) rfl dX9_isDigit_13 ?_
      refine lv_iload_n hx hb dX9_isDigit_16 rfl (lv_at hl 1 rfl) ?_
      refine ldB hx hb hE hP 2 rfl (vp_in_iff.mpr ⟨by omega, by omega⟩) rfl rfl dX9_isDigit_17 ?_
      refine lv_topi (fun t7 et7 => ?_)
      refine lv_bipush (v := 48) hx hb dX9_isDigit_18 (by decide) ?_
      refine lv_icmp_lt (tgt := 38) hx hb dX9_isDigit_20 (by decide) (fun c8 => ?_) (fun c8 => ?_)
      · skip
        have zc8 : t7.toInt < 48 := by rw [fa_lt, show (48 : Int32).toInt = 48 from by decide] at c8; exact c8
        refine lv_iconst (v := 0) hx hb dX9_isDigit_38 (by decide) ?_
        exact ret 0 () _ _ _ _ _ _ rfl (Or.inr rfl) hP hD hS dX9_isDigit_39 (Nat.le_refl _) (Nat.le_refl _)
      · skip
        have zc8 : ¬ (t7.toInt < 48) := by rw [fa_lt, show (48 : Int32).toInt = 48 from by decide] at c8; exact c8
        refine lv_aload_n hx hb dX9_isDigit_23 rfl (lv_at hl 0 rfl) ?_
        refine va_get (D := (dC, dI)) (ci := 9) (v := .ref (x 1)) (C := RX9) (T := TX9) (N := 6) hx hb hts inB_9 hown hE.1 hP 1 rfl rfl 0 (by decide) (hts _ k_136) (fun _ h9 => h9) rfl dX9_isDigit_24 ?_
        refine lv_iload_n hx hb dX9_isDigit_27 rfl (lv_at hl 1 rfl) ?_
        refine ldB hx hb hE hP 2 rfl (vp_in_iff.mpr ⟨by omega, by omega⟩) rfl rfl dX9_isDigit_28 ?_
        refine lv_topi (fun t9 et9 => ?_)
        refine lv_bipush (v := 57) hx hb dX9_isDigit_29 (by decide) ?_
        refine lv_icmp_gt (tgt := 38) hx hb dX9_isDigit_31 (by decide) (fun c10 => ?_) (fun c10 => ?_)
        · skip
          have zc10 : 57 < t9.toInt := by rw [fa_lt, show (57 : Int32).toInt = 57 from by decide] at c10; exact c10
          refine lv_iconst (v := 0) hx hb dX9_isDigit_38 (by decide) ?_
          exact ret 0 () _ _ _ _ _ _ rfl (Or.inr rfl) hP hD hS dX9_isDigit_39 (Nat.le_refl _) (Nat.le_refl _)
        · skip
          have zc10 : ¬ (57 < t9.toInt) := by rw [fa_lt, show (57 : Int32).toInt = 57 from by decide] at c10; exact c10
          refine lv_iconst (v := 1) hx hb dX9_isDigit_34 (by decide) ?_
          refine lv_goto (tgt := 39) hx hb dX9_isDigit_35 (by decide) ?_
          exact ret 1 () _ _ _ _ _ _ rfl (Or.inl ⟨rfl, by omega, by omega, by omega⟩) hP hD hS dX9_isDigit_39 (Nat.le_refl _) (Nat.le_refl _)
set_option maxHeartbeats 4000000 in
set_option maxRecDepth 100000 in
theorem sX_J0_isLatin1_aae02_2 (l : Launch) (dC : Nat → ClassId) (dI : Nat → Nat → Nat) (cy : Nat → ClassId) (x0 : Nat) (x : Nat → Nat)  (v : Nat → Int32) (f : Nat → Nat → Int32) (hIv : XI v)  : ctIS l (dC, dI) cy yJ0_isLatin1_aae02 cJ0_isLatin1_aae02 1 .boolean 1 60 0 0 Unit [.ref (dI 100 0)] (XW cy x0 x v f) (fun r u => r = 1) (fun u => XW cy x0 x v f) := by
  refine ctIS_of (by decide) (Nat.le_of_ble_eq_true rfl) (fun p e s m below meth c A ls Q hx hb hml hts hown hE hF hT hP hD hA hl ret => ?_)
  have hown : s.vm.findClass RJ0 = some m.cls := hown
  have hS : va_S A s.heap s.heap [] := va_S.rf
  have hl : lv_has ls 1 [(0, .ref (dI 100 0))] := hl
  refine va_gets hx hb hT.2.1 hS hown (hts _ k_579) (fun _ h9 => h9) dJ0_isLatin1_aae02_0 ?_
  refine lv_if_eq (tgt := 17) hx hb dJ0_isLatin1_aae02_3 (by decide) (fun c0 => absurd c0 (by decide)) (fun _ => ?_)
  refine lv_aload_n hx hb dJ0_isLatin1_aae02_6 rfl (lv_at hl 0 rfl) ?_
  refine vk_getf (q := (dI 100 0)) (v := .int 0) hx hb (hT.1.1 0 (by decide)).2.1 hS hown (hts _ k_2060) (fun _ h9 => h9) dJ0_isLatin1_aae02_7 ?_
  refine lv_if_ne (tgt := 17) hx hb dJ0_isLatin1_aae02_10 (by decide) (fun c0 => absurd (by decide) c0) (fun _ => ?_)
  refine lv_iconst (v := 1) hx hb dJ0_isLatin1_aae02_13 (by decide) ?_
  refine lv_goto (tgt := 18) hx hb dJ0_isLatin1_aae02_14 (by decide) ?_
  exact ret 1 () _ _ _ _ _ _ rfl rfl hP hD hS dJ0_isLatin1_aae02_18 (Nat.le_refl _) (Nat.le_refl _)
set_option maxHeartbeats 4000000 in
set_option maxRecDepth 100000 in
theorem sX_J0_coder_7d493_2 (l : Launch) (dC : Nat → ClassId) (dI : Nat → Nat → Nat) (cy : Nat → ClassId) (x0 : Nat) (x : Nat → Nat)  (v : Nat → Int32) (f : Nat → Nat → Int32) (hIv : XI v)  : ctIS l (dC, dI) cy yJ0_coder_7d493 cJ0_coder_7d493 1 .byte 1 60 0 0 Unit [.ref (dI 100 0)] (XW cy x0 x v f) (fun r u => r = 0) (fun u => XW cy x0 x v f) := by
  refine ctIS_of (by decide) (Nat.le_of_ble_eq_true rfl) (fun p e s m below meth c A ls Q hx hb hml hts hown hE hF hT hP hD hA hl ret => ?_)
  have hown : s.vm.findClass RJ0 = some m.cls := hown
  have hS : va_S A s.heap s.heap [] := va_S.rf
  have hl : lv_has ls 1 [(0, .ref (dI 100 0))] := hl
  refine va_gets hx hb hT.2.1 hS hown (hts _ k_579) (fun _ h9 => h9) dJ0_coder_7d493_0 ?_
  refine lv_if_eq (tgt := 13) hx hb dJ0_coder_7d493_3 (by decide) (fun c0 => absurd c0 (by decide)) (fun _ => ?_)
  refine lv_aload_n hx hb dJ0_coder_7d493_6 rfl (lv_at hl 0 rfl) ?_
  refine vk_getf (q := (dI 100 0)) (v := .int 0) hx hb (hT.1.1 0 (by decide)).2.1 hS hown (hts _ k_2060) (fun _ h9 => h9) dJ0_coder_7d493_7 ?_
  refine lv_goto (tgt := 14) hx hb dJ0_coder_7d493_10 (by decide) ?_
  exact ret 0 () _ _ _ _ _ _ rfl rfl hP hD hS dJ0_coder_7d493_14 (Nat.le_refl _) (Nat.le_refl _)
set_option maxHeartbeats 4000000 in
set_option maxRecDepth 100000 in
theorem sX_J0_length_8abf5_2 (l : Launch) (dC : Nat → ClassId) (dI : Nat → Nat → Nat) (cy : Nat → ClassId) (x0 : Nat) (x : Nat → Nat)  (v : Nat → Int32) (f : Nat → Nat → Int32) (hIv : XI v)  : ctIS l (dC, dI) cy yJ0_length_8abf5 cJ0_length_8abf5 1 .int 2 80 0 0 Unit [.ref (dI 100 0)] (XW cy x0 x v f) (fun r u => r = 11) (fun u => XW cy x0 x v f) := by
  refine ctIS_of (by decide) (Nat.le_of_ble_eq_true rfl) (fun p e s m below meth c A ls Q hx hb hml hts hown hE hF hT hP hD hA hl ret => ?_)
  have hown : s.vm.findClass RJ0 = some m.cls := hown
  have hS : va_S A s.heap s.heap [] := va_S.rf
  have hl : lv_has ls 1 [(0, .ref (dI 100 0))] := hl
  refine lv_aload_n hx hb dJ0_length_8abf5_0 rfl (lv_at hl 0 rfl) ?_
  refine vk_getf (q := (dI 100 0)) (v := .ref (dI 101 0)) hx hb (hT.1.1 0 (by decide)).2.2.1 hS hown (hts _ k_2059) (fun _ h9 => h9) dJ0_length_8abf5_1 ?_
  refine va_tlen (v := 11) hx hb (hT.1.1 0 (by decide)).2.2.2 hS (by decide) dJ0_length_8abf5_4 ?_
  refine lv_aload_n hx hb dJ0_length_8abf5_5 rfl (lv_at hl 0 rfl) ?_
  refine crVi (n := 0) (rest := [.int 11]) hx hb hml hown hts hE hP hD hS hA hF hT (sX_J0_coder_7d493_2 l dC dI cy x0 x  v f hIv ) k_575 k_576 k_577 k_115 k_578 (by decide +kernel) ⟨Nat.le_of_ble_eq_true rfl, Nat.le_of_ble_eq_true rfl⟩ 0 (by decide) rfl rfl (rfl) hl.1 rfl (Nat.le_of_ble_eq_true rfl) dJ0_length_8abf5_6 (fun r1 u H locs hw hP hD hS => ?_)
  refine tI (y := 0) hw ?_
  refine lv_ishr hx hb dJ0_length_8abf5_9 ?_
  refine tI (y := 11) (by decide) ?_
  exact ret 11 () _ _ _ _ _ _ rfl rfl hP hD hS dJ0_length_8abf5_10 (Nat.le_refl _) (Nat.le_refl _)
set_option maxHeartbeats 4000000 in
set_option maxRecDepth 100000 in
theorem sX_J1_canEncode_9a6ad_1 (l : Launch) (dC : Nat → ClassId) (dI : Nat → Nat → Nat) (cy : Nat → ClassId) (x0 : Nat) (x : Nat → Nat) (p0 : Int32) (v : Nat → Int32) (f : Nat → Nat → Int32) (hIv : XI v)  : ctIS l (dC, dI) cy yJ1_canEncode_9a6ad cJ1_canEncode_9a6ad 1 .boolean 1 60 0 0 Unit [.int p0] (XW cy x0 x v f) (fun r u => ((r = 1) ∨ (r = 0))) (fun u => XW cy x0 x v f) := by
  refine ctIS_of (by decide) (Nat.le_of_ble_eq_true rfl) (fun p e s m below meth c A ls Q hx hb hml hts hown hE hF hT hP hD hA hl ret => ?_)
  have hown : s.vm.findClass RJ1 = some m.cls := hown
  have hS : va_S A s.heap s.heap [] := va_S.rf
  have hl : lv_has ls 1 [(0, .int p0)] := hl
  refine lv_iload_n hx hb dJ1_canEncode_9a6ad_0 rfl (lv_at hl 0 rfl) ?_
  refine lv_if_lt (tgt := 15) hx hb dJ1_canEncode_9a6ad_1 (by decide) (fun c1 => ?_) (fun c1 => ?_)
  · skip
    have zc1 : p0.toInt < 0 := by rw [fa_lt, show (0 : Int32).toInt = 0 from by decide] at c1; exact c1
    refine lv_iconst (v := 0) hx hb dJ1_canEncode_9a6ad_15 (by decide) ?_
    exact ret 0 () _ _ _ _ _ _ rfl (Or.inr rfl) hP hD hS dJ1_canEncode_9a6ad_16 (Nat.le_refl _) (Nat.le_refl _)
  · skip
    have zc1 : ¬ (p0.toInt < 0) := by rw [fa_lt, show (0 : Int32).toInt = 0 from by decide] at c1; exact c1
    refine lv_iload_n hx hb dJ1_canEncode_9a6ad_4 rfl (lv_at hl 0 rfl) ?_
    refine lv_sipush (v := 255) hx hb dJ1_canEncode_9a6ad_5 (by decide) ?_
    refine lv_icmp_gt (tgt := 15) hx hb dJ1_canEncode_9a6ad_8 (by decide) (fun c2 => ?_) (fun c2 => ?_)
    · skip
      have zc2 : 255 < p0.toInt := by rw [fa_lt, show (255 : Int32).toInt = 255 from by decide] at c2; exact c2
      refine lv_iconst (v := 0) hx hb dJ1_canEncode_9a6ad_15 (by decide) ?_
      exact ret 0 () _ _ _ _ _ _ rfl (Or.inr rfl) hP hD hS dJ1_canEncode_9a6ad_16 (Nat.le_refl _) (Nat.le_refl _)
    · skip
      have zc2 : ¬ (255 < p0.toInt) := by rw [fa_lt, show (255 : Int32).toInt = 255 from by decide] at c2; exact c2
      refine lv_iconst (v := 1) hx hb dJ1_canEncode_9a6ad_11 (by decide) ?_
      refine lv_goto (tgt := 16) hx hb dJ1_canEncode_9a6ad_12 (by decide) ?_
      exact ret 1 () _ _ _ _ _ _ rfl (Or.inl rfl) hP hD hS dJ1_canEncode_9a6ad_16 (Nat.le_refl _) (Nat.le_refl _)
set_option maxHeartbeats 4000000 in
set_option maxRecDepth 100000 in
theorem sX_J1_indexOfChar_4cfef_1 (l : Launch) (dC : Nat → ClassId) (dI : Nat → Nat → Nat) (cy : Nat → ClassId) (x0 : Nat) (x : Nat → Nat) (p1 : Int32) (p2 : Int32) (p3 : Int32) (v : Nat → Int32) (f : Nat → Nat → Int32) (hIv : XI v) (hp2 : (0 : Int) ≤ p2.toInt ∧ p2.toInt ≤ 11) (hp3 : (0 : Int) ≤ p3.toInt ∧ p3.toInt ≤ 11) : ctIS l (dC, dI) cy yJ1_indexOfChar_4cfef cJ1_indexOfChar_4cfef 6 .int 1 60 0 0 Unit [.ref (dI 101 0), .int p1, .int p2, .int p3] (XW cy x0 x v f) (fun r u => True) (fun u => XW cy x0 x v f) := by
  refine ctIS_of (by decide) (Nat.le_of_ble_eq_true rfl) (fun p e s m below meth c A ls Q hx hb hml hts hown hE hF hT hP hD hA hl ret => ?_)
  have hown : s.vm.findClass RJ1 = some m.cls := hown
  have hS : va_S A s.heap s.heap [] := va_S.rf
  have hl : lv_has ls 6 [(0, .ref (dI 101 0)), (1, .int p1), (2, .int p2), (3, .int p3)] := hl
  refine lv_iload_n hx hb dJ1_indexOfChar_4cfef_0 rfl (lv_at hl 1 rfl) ?_
  refine lv_i2b hx hb dJ1_indexOfChar_4cfef_1 rfl ?_
  refine lv_topi (fun t1 et1 => ?_)
  refine lv_istore (lv' := [(4, .int t1), (0, .ref (dI 101 0)), (1, .int p1), (2, .int p2), (3, .int p3)]) hx hb dJ1_indexOfChar_4cfef_2 hl (by decide) rfl (fun ls hl => ?_)
  refine lv_iload_n hx hb dJ1_indexOfChar_4cfef_4 rfl (lv_at hl 3 rfl) ?_
  refine lv_istore (lv' := [(5, .int p2), (4, .int t1), (0, .ref (dI 101 0)), (1, .int p1), (2, .int p2), (3, .int p3)]) hx hb dJ1_indexOfChar_4cfef_5 hl (by decide) rfl (fun ls hl => ?_)
  have lp2 : ∀ (n2 : Nat) (l5_2 : Int32), ((0 : Int) ≤ l5_2.toInt ∧ l5_2.toInt ≤ 2147483647) → (2147483647 - l5_2.toInt).toNat < n2 → ∀ (H : Heap) (locs : List Loc) (ls : Array Slot), va_P (dC, dI) vwCl (XW cy x0 x v f) H → va_D A (XW cy x0 x v f) → va_S A s.heap H locs → lv_has ls 6 [(5, .int l5_2), (4, .int t1), (0, .ref (dI 101 0)), (1, .int p1), (2, .int p2), (3, .int p3)] → W p l e { frames := 1, cells := 0, slots := 0, locals := 60 } s m ([.ref (dI 101 0), .int p1, .int p2, .int p3] : List Value).toArray below meth c H locs 0 0 Q (F0 m 7 ls []) := by
    intro n2
    induction n2 with
    | zero => intro l5_2 hr5_2 hm; exact absurd hm (Nat.not_lt_zero _)
    | succ n2 ih2 =>
      intro l5_2 hr5_2 hm2 H locs ls hP hD hS hl
      refine lv_iload hx hb dJ1_indexOfChar_4cfef_7 (lv_at hl 0 rfl) ?_
      refine lv_iload_n hx hb dJ1_indexOfChar_4cfef_9 rfl (lv_at hl 5 rfl) ?_
      refine lv_icmp_ge (tgt := 31) hx hb dJ1_indexOfChar_4cfef_10 (by decide) (fun c3 => ?_) (fun c3 => ?_)
      · skip
        have zc3 : p3.toInt ≤ l5_2.toInt := by rw [fa_le] at c3; exact c3
        have rg4 := fb_rng l5_2
        have rg5 := fb_rng p3
        refine lv_iconst (v := (-1)) hx hb dJ1_indexOfChar_4cfef_31 (by decide) ?_
        exact ret (-1) () _ _ _ _ _ _ rfl trivial hP hD hS dJ1_indexOfChar_4cfef_32 (Nat.le_refl _) (Nat.le_refl _)
      · skip
        have zc3 : ¬ (p3.toInt ≤ l5_2.toInt) := by rw [fa_le] at c3; exact c3
        have rg6 := fb_rng l5_2
        have rg7 := fb_rng p3
        refine lv_aload_n hx hb dJ1_indexOfChar_4cfef_13 rfl (lv_at hl 2 rfl) ?_
        refine lv_iload hx hb dJ1_indexOfChar_4cfef_14 (lv_at hl 0 rfl) ?_
        refine va_tb hx hb (hT.1.1 0 (by decide)).2.2.2 hS (show vp_in l5_2 11 from (vp_in_iff.mpr ⟨by omega, by omega⟩)) rfl dJ1_indexOfChar_4cfef_16 ?_
        refine lv_topi (fun t8 et8 => ?_)
        refine lv_iload hx hb dJ1_indexOfChar_4cfef_17 (lv_at hl 1 rfl) ?_
        refine lv_icmp_ne (tgt := 25) hx hb dJ1_indexOfChar_4cfef_19 (by decide) (fun c9 => ?_) (fun c9 => ?_)
        · skip
          have zc9 : ¬ (t8.toInt = t1.toInt) := by rw [fa_eq] at c9; exact c9
          have rg10 := fb_rng t8
          have rg11 := fb_rng t1
          obtain ⟨t12, et12⟩ : ∃ y : Int32, y = l5_2 + 1 := ⟨_, rfl⟩
          have zt12 : t12.toInt = l5_2.toInt + 1 := by rw [et12]; exact add_i rfl (by decide) (by omega) (by omega)
          refine lv_iinc (v := t12) (lv' := [(5, .int t12), (4, .int t1), (0, .ref (dI 101 0)), (1, .int p1), (2, .int p2), (3, .int p3)]) hx hb dJ1_indexOfChar_4cfef_25 hl (k := 0) rfl (by rw [et12]; rfl) (by decide) rfl (fun ls hl => ?_)
          refine lv_goto (tgt := 7) hx hb dJ1_indexOfChar_4cfef_28 (by decide) ?_
          have rg13 := fb_rng t12
          exact ih2 t12 ⟨show (0 : Int) ≤ t12.toInt by omega, show t12.toInt ≤ (2147483647 : Int) by omega⟩ (by show (2147483647 - t12.toInt).toNat < n2; omega) _ _ _ hP hD hS (lv_sub hl [0, 1, 2, 3, 4, 5] rfl)
        · skip
          have zc9 : t8.toInt = t1.toInt := by rw [fa_eq] at c9; exact c9
          have rg14 := fb_rng t8
          have rg15 := fb_rng t1
          refine lv_iload hx hb dJ1_indexOfChar_4cfef_22 (lv_at hl 0 rfl) ?_
          exact ret l5_2 () _ _ _ _ _ _ rfl trivial hP hD hS dJ1_indexOfChar_4cfef_24 (Nat.le_refl _) (Nat.le_refl _)
  have rg16 := fb_rng p2
  exact lp2 _ p2 ⟨show (0 : Int) ≤ p2.toInt by omega, show p2.toInt ≤ (2147483647 : Int) by omega⟩ (Nat.lt_succ_self _) _ _ _ hP hD hS (lv_sub hl [0, 1, 2, 3, 4, 5] rfl)
set_option maxHeartbeats 4000000 in
set_option maxRecDepth 100000 in
theorem sX_J1_indexOf_4cfef_1 (l : Launch) (dC : Nat → ClassId) (dI : Nat → Nat → Nat) (cy : Nat → ClassId) (x0 : Nat) (x : Nat → Nat) (p1 : Int32) (v : Nat → Int32) (f : Nat → Nat → Int32) (hIv : XI v)  : ctIS l (dC, dI) cy yJ1_indexOf_4cfef cJ1_indexOf_4cfef 4 .int 2 85 0 0 Unit [.ref (dI 101 0), .int p1, .int 0, .int 11] (XW cy x0 x v f) (fun r u => True) (fun u => XW cy x0 x v f) := by
  refine ctIS_of (by decide) (Nat.le_of_ble_eq_true rfl) (fun p e s m below meth c A ls Q hx hb hml hts hown hE hF hT hP hD hA hl ret => ?_)
  have hown : s.vm.findClass RJ1 = some m.cls := hown
  have hS : va_S A s.heap s.heap [] := va_S.rf
  have hl : lv_has ls 4 [(0, .ref (dI 101 0)), (1, .int p1), (2, .int 0), (3, .int 11)] := hl
  refine lv_iload_n hx hb dJ1_indexOf_4cfef_0 rfl (lv_at hl 1 rfl) ?_
  refine csSi (n := 1) (rest := []) hx hb hml hown hts hE hP hD hS hA hF hT (sX_J1_canEncode_9a6ad_1 l dC dI cy x0 x p1 v f hIv ) k_636 k_637 k_116 k_638 (by decide +kernel) ⟨Nat.le_of_ble_eq_true rfl, Nat.le_of_ble_eq_true rfl⟩ (rfl) hl.1 rfl (Nat.le_of_ble_eq_true rfl) dJ1_indexOf_4cfef_1 (fun r1 u H locs hw hP hD hS => ?_)
  rcases hw with ⟨g2⟩ | ⟨g2⟩
  · skip
    subst g2
    refine lv_if_ne (tgt := 9) hx hb dJ1_indexOf_4cfef_4 (by decide) (fun _ => ?_) (fun c0 => absurd c0 (by decide))
    refine lv_iload_n hx hb dJ1_indexOf_4cfef_9 rfl (lv_at hl 2 rfl) ?_
    refine lv_iconst (v := 0) hx hb dJ1_indexOf_4cfef_10 (by decide) ?_
    refine va_mmax hx hb (by rw [hml]; exact hl.1.symm) hown (hts _ k_639) (hts _ k_640) (hts _ k_119) (hts _ k_641) (Nat.le_of_ble_eq_true rfl) (Nat.le_of_ble_eq_true rfl) (Nat.le_of_ble_eq_true rfl) (Nat.le_of_ble_eq_true rfl) dJ1_indexOf_4cfef_11 ?_
    refine lv_topi (fun t3 et3 => ?_)
    have zt3 : t3.toInt = max (0) (0) := by rw [et3]; exact mmax_i (by decide) (by decide)
    refine lv_istore_n (lv' := [(2, .int t3), (0, .ref (dI 101 0)), (1, .int p1), (3, .int 11)]) hx hb dJ1_indexOf_4cfef_14 rfl hl (by decide) rfl (fun ls hl => ?_)
    refine lv_iload_n hx hb dJ1_indexOf_4cfef_15 rfl (lv_at hl 3 rfl) ?_
    refine lv_aload_n hx hb dJ1_indexOf_4cfef_16 rfl (lv_at hl 1 rfl) ?_
    refine va_tlen (v := 11) hx hb (hT.1.1 0 (by decide)).2.2.2 hS (by decide) dJ1_indexOf_4cfef_17 ?_
    refine va_mmin hx hb (by rw [hml]; exact hl.1.symm) hown (hts _ k_642) (hts _ k_643) (hts _ k_119) (hts _ k_644) (Nat.le_of_ble_eq_true rfl) (Nat.le_of_ble_eq_true rfl) (Nat.le_of_ble_eq_true rfl) (Nat.le_of_ble_eq_true rfl) dJ1_indexOf_4cfef_18 ?_
    refine lv_topi (fun t4 et4 => ?_)
    have zt4 : t4.toInt = min (11) (11) := by rw [et4]; exact mmin_i (by decide) (by decide)
    refine lv_istore_n (lv' := [(3, .int t4), (2, .int t3), (0, .ref (dI 101 0)), (1, .int p1)]) hx hb dJ1_indexOf_4cfef_21 rfl hl (by decide) rfl (fun ls hl => ?_)
    refine lv_iload_n hx hb dJ1_indexOf_4cfef_22 rfl (lv_at hl 1 rfl) ?_
    refine lv_iload_n hx hb dJ1_indexOf_4cfef_23 rfl (lv_at hl 0 rfl) ?_
    refine lv_icmp_lt (tgt := 29) hx hb dJ1_indexOf_4cfef_24 (by decide) (fun c5 => ?_) (fun c5 => ?_)
    · skip
      have zc5 : t3.toInt < t4.toInt := by rw [fa_lt] at c5; exact c5
      have rg6 := fb_rng t3
      have rg7 := fb_rng t4
      refine lv_aload_n hx hb dJ1_indexOf_4cfef_29 rfl (lv_at hl 2 rfl) ?_
      refine lv_iload_n hx hb dJ1_indexOf_4cfef_30 rfl (lv_at hl 3 rfl) ?_
      refine lv_iload_n hx hb dJ1_indexOf_4cfef_31 rfl (lv_at hl 1 rfl) ?_
      refine lv_iload_n hx hb dJ1_indexOf_4cfef_32 rfl (lv_at hl 0 rfl) ?_
      refine csSi (n := 4) (rest := []) hx hb hml hown hts hE hP hD hS hA hF hT (sX_J1_indexOfChar_4cfef_1 l dC dI cy x0 x p1 t3 t4 v f hIv ⟨show (0 : Int) ≤ t3.toInt by omega, show t3.toInt ≤ (11 : Int) by omega⟩ ⟨show (0 : Int) ≤ t4.toInt by omega, show t4.toInt ≤ (11 : Int) by omega⟩) k_645 k_646 k_116 k_647 (by decide +kernel) ⟨Nat.le_of_ble_eq_true rfl, Nat.le_of_ble_eq_true rfl⟩ (rfl) hl.1 rfl (Nat.le_of_ble_eq_true rfl) dJ1_indexOf_4cfef_33 (fun r8 u H locs hw hP hD hS => ?_)
      exact ret r8 () _ _ _ _ _ _ rfl trivial hP hD hS dJ1_indexOf_4cfef_36 (Nat.le_refl _) (Nat.le_refl _)
    · skip
      have zc5 : ¬ (t3.toInt < t4.toInt) := by rw [fa_lt] at c5; exact c5
      have rg9 := fb_rng t3
      have rg10 := fb_rng t4
      exact (show False by omega).elim
  · skip
    subst g2
    refine lv_if_ne (tgt := 9) hx hb dJ1_indexOf_4cfef_4 (by decide) (fun c0 => absurd (by decide) c0) (fun _ => ?_)
    refine lv_iconst (v := (-1)) hx hb dJ1_indexOf_4cfef_7 (by decide) ?_
    exact ret (-1) () _ _ _ _ _ _ rfl trivial hP hD hS dJ1_indexOf_4cfef_8 (Nat.le_refl _) (Nat.le_refl _)
set_option maxHeartbeats 4000000 in
set_option maxRecDepth 100000 in
theorem sX_J0_indexOf_7cf53_1 (l : Launch) (dC : Nat → ClassId) (dI : Nat → Nat → Nat) (cy : Nat → ClassId) (x0 : Nat) (x : Nat → Nat) (p1 : Int32) (v : Nat → Int32) (f : Nat → Nat → Int32) (hIv : XI v)  : ctIS l (dC, dI) cy yJ0_indexOf_7cf53 cJ0_indexOf_7cf53 3 .int 3 108 0 0 Unit [.ref (dI 100 0), .int p1, .int 0] (XW cy x0 x v f) (fun r u => True) (fun u => XW cy x0 x v f) := by
  refine ctIS_of (by decide) (Nat.le_of_ble_eq_true rfl) (fun p e s m below meth c A ls Q hx hb hml hts hown hE hF hT hP hD hA hl ret => ?_)
  have hown : s.vm.findClass RJ0 = some m.cls := hown
  have hS : va_S A s.heap s.heap [] := va_S.rf
  have hl : lv_has ls 3 [(0, .ref (dI 100 0)), (1, .int p1), (2, .int 0)] := hl
  refine lv_aload_n hx hb dJ0_indexOf_7cf53_0 rfl (lv_at hl 0 rfl) ?_
  refine crVi (n := 0) (rest := []) hx hb hml hown hts hE hP hD hS hA hF hT (sX_J0_isLatin1_aae02_2 l dC dI cy x0 x  v f hIv ) k_585 k_586 k_587 k_115 k_588 (by decide +kernel) ⟨Nat.le_of_ble_eq_true rfl, Nat.le_of_ble_eq_true rfl⟩ 0 (by decide) rfl rfl (rfl) hl.1 rfl (Nat.le_of_ble_eq_true rfl) dJ0_indexOf_7cf53_1 (fun r1 u H locs hw hP hD hS => ?_)
  refine tI (y := 1) hw ?_
  refine lv_if_eq (tgt := 23) hx hb dJ0_indexOf_7cf53_4 (by decide) (fun c0 => absurd c0 (by decide)) (fun _ => ?_)
  refine lv_aload_n hx hb dJ0_indexOf_7cf53_7 rfl (lv_at hl 0 rfl) ?_
  refine vk_getf (q := (dI 100 0)) (v := .ref (dI 101 0)) hx hb (hT.1.1 0 (by decide)).2.2.1 hS hown (hts _ k_2059) (fun _ h9 => h9) dJ0_indexOf_7cf53_8 ?_
  refine lv_iload_n hx hb dJ0_indexOf_7cf53_11 rfl (lv_at hl 1 rfl) ?_
  refine lv_iload_n hx hb dJ0_indexOf_7cf53_12 rfl (lv_at hl 2 rfl) ?_
  refine lv_aload_n hx hb dJ0_indexOf_7cf53_13 rfl (lv_at hl 0 rfl) ?_
  refine crVi (n := 0) (rest := [.int 0, .int p1, .ref (dI 101 0)]) hx hb hml hown hts hE hP hD hS hA hF hT (sX_J0_length_8abf5_2 l dC dI cy x0 x  v f hIv ) k_632 k_572 k_573 k_115 k_574 (by decide +kernel) ⟨Nat.le_of_ble_eq_true rfl, Nat.le_of_ble_eq_true rfl⟩ 0 (by decide) rfl rfl (rfl) hl.1 rfl (Nat.le_of_ble_eq_true rfl) dJ0_indexOf_7cf53_14 (fun r2 u H locs hw hP hD hS => ?_)
  refine tI (y := 11) hw ?_
  refine csSi (n := 4) (rest := []) hx hb hml hown hts hE hP hD hS hA hF hT (sX_J1_indexOf_4cfef_1 l dC dI cy x0 x p1 v f hIv ) k_633 k_634 k_116 k_635 (by decide +kernel) ⟨Nat.le_of_ble_eq_true rfl, Nat.le_of_ble_eq_true rfl⟩ (rfl) hl.1 rfl (Nat.le_of_ble_eq_true rfl) dJ0_indexOf_7cf53_17 (fun r3 u H locs hw hP hD hS => ?_)
  refine lv_goto (tgt := 36) hx hb dJ0_indexOf_7cf53_20 (by decide) ?_
  exact ret r3 () _ _ _ _ _ _ rfl trivial hP hD hS dJ0_indexOf_7cf53_36 (Nat.le_refl _) (Nat.le_refl _)
set_option maxHeartbeats 4000000 in
set_option maxRecDepth 100000 in
theorem sX_J0_indexOf_0f7a4_1 (l : Launch) (dC : Nat → ClassId) (dI : Nat → Nat → Nat) (cy : Nat → ClassId) (x0 : Nat) (x : Nat → Nat) (p1 : Int32) (v : Nat → Int32) (f : Nat → Nat → Int32) (hIv : XI v)  : ctIS l (dC, dI) cy yJ0_indexOf_0f7a4 cJ0_indexOf_0f7a4 2 .int 4 130 0 0 Unit [.ref (dI 100 0), .int p1] (XW cy x0 x v f) (fun r u => True) (fun u => XW cy x0 x v f) := by
  refine ctIS_of (by decide) (Nat.le_of_ble_eq_true rfl) (fun p e s m below meth c A ls Q hx hb hml hts hown hE hF hT hP hD hA hl ret => ?_)
  have hown : s.vm.findClass RJ0 = some m.cls := hown
  have hS : va_S A s.heap s.heap [] := va_S.rf
  have hl : lv_has ls 2 [(0, .ref (dI 100 0)), (1, .int p1)] := hl
  refine lv_aload_n hx hb dJ0_indexOf_0f7a4_0 rfl (lv_at hl 0 rfl) ?_
  refine lv_iload_n hx hb dJ0_indexOf_0f7a4_1 rfl (lv_at hl 1 rfl) ?_
  refine lv_iconst (v := 0) hx hb dJ0_indexOf_0f7a4_2 (by decide) ?_
  refine crVi (n := 2) (rest := []) hx hb hml hown hts hE hP hD hS hA hF hT (sX_J0_indexOf_7cf53_1 l dC dI cy x0 x p1 v f hIv ) k_628 k_629 k_630 k_115 k_631 (by decide +kernel) ⟨Nat.le_of_ble_eq_true rfl, Nat.le_of_ble_eq_true rfl⟩ 0 (by decide) rfl rfl (rfl) hl.1 rfl (Nat.le_of_ble_eq_true rfl) dJ0_indexOf_0f7a4_3 (fun r1 u H locs hw hP hD hS => ?_)
  exact ret r1 () _ _ _ _ _ _ rfl trivial hP hD hS dJ0_indexOf_0f7a4_6 (Nat.le_refl _) (Nat.le_refl _)
