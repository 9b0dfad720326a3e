set_option maxHeartbeats 4000000 in
set_option maxRecDepth 100000 in
theorem sX_X9_isLetter_1 (NF : Nat) (l : Launch) (dC : Nat → ClassId) (dI : Nat → Nat → Nat) (cy : Nat → ClassId) (x0 : Nat) (x : Nat → Nat) (p1 : Int32) (v : Nat → Int32) (f : Nat → Nat → Int32) (hIv : XI v)  : ctI l (dC, dI) cy yX9_isLetter cX9_isLetter 2 .boolean 1 60 0 0 Unit [.ref (x 0), .int p1] (XW cy x0 x v f) (fun r u => gsX_X9_isLetter_1 NF p1 v f = r ∧ ((r = 1 ∧ 0 ≤ p1.toInt ∧ p1.toInt < (v 1).toInt ∧ p1.toInt ≤ 1599) ∨ (r = 0))) (fun u => XW cy x0 x v f) := by
  refine ctI_of (by decide) (Nat.le_of_ble_eq_true rfl) (fun p e s m below meth c A ls Q hx hb hml hts hown hE hP hD hA hl ret => ?_)
  have hown : s.vm.findClass RX9 = some m.cls := hown
  have hS : va_S A s.heap s.heap [] := va_S.rf
  have hl : lv_has ls 2 [(0, .ref (x 0)), (1, .int p1)] := hl
  refine lv_iload_n hx hb dX9_isLetter_0 rfl (lv_at hl 1 rfl) ?_
  refine lv_if_lt (tgt := 38) hx hb dX9_isLetter_1 (by decide) (fun c1 => ?_) (fun c1 => ?_)
  · skip
    have zc1 : p1.toInt < 0 := by rw [fa_lt, show (0 : Int32).toInt = 0 from by decide] at c1; exact c1
    refine lv_iconst (v := 0) hx hb dX9_isLetter_38 (by decide) ?_
    exact ret 0 () _ _ _ _ _ _ rfl ⟨(gsX_X9_isLetter_1_q0 c1), (Or.inr rfl)⟩ hP hD hS dX9_isLetter_39 (Nat.le_refl _) (Nat.le_refl _)
  · skip
    have zc1 : ¬ (p1.toInt < 0) := by rw [fa_lt, show (0 : Int32).toInt = 0 from by decide] at c1; exact c1
    refine lv_iload_n hx hb dX9_isLetter_4 rfl (lv_at hl 1 rfl) ?_
    refine lv_aload_n hx hb dX9_isLetter_5 rfl (lv_at hl 0 rfl) ?_
    refine va_get (D := (dC, dI)) (ci := 9) (v := .int (v 1)) (C := RX9) (T := TX9) (N := 6) hx hb hts inB_9 hown hE.1 hP 1 rfl rfl 1 (by decide) (hts _ k_137) (fun _ h9 => h9) rfl dX9_isLetter_6 ?_
    have b1_v : 0 ≤ (v 1).toInt ∧ (v 1).toInt ≤ 1600 := XI.b hIv 1 (by decide)
    refine lv_icmp_ge (tgt := 38) hx hb dX9_isLetter_9 (by decide) (fun c2 => ?_) (fun c2 => ?_)
    · skip
      have zc2 : (v 1).toInt ≤ p1.toInt := by rw [fa_le] at c2; exact c2
      have rg3 := fb_rng p1
      have rg4 := fb_rng (v 1)
      refine lv_iconst (v := 0) hx hb dX9_isLetter_38 (by decide) ?_
      exact ret 0 () _ _ _ _ _ _ rfl ⟨(gsX_X9_isLetter_1_q1 c1 c2), (Or.inr rfl)⟩ hP hD hS dX9_isLetter_39 (Nat.le_refl _) (Nat.le_refl _)
    · skip
      have zc2 : ¬ ((v 1).toInt ≤ p1.toInt) := by rw [fa_le] at c2; exact c2
      have rg5 := fb_rng p1
      have rg6 := fb_rng (v 1)
      refine lv_aload_n hx hb dX9_isLetter_12 rfl (lv_at hl 0 rfl) ?_
      refine va_get (D := (dC, dI)) (ci := 9) (v := .ref (x 1)) (C := RX9) (T := TX9) (N := 6) hx hb hts inB_9 hown hE.1 hP 1 rfl rfl 0 (by decide) (hts _ k_136) (fun _ h9 => h9) rfl dX9_isLetter_13 ?_
      refine lv_iload_n hx hb dX9_isLetter_16 rfl (lv_at hl 1 rfl) ?_
      refine ldB hx hb hE hP 2 rfl (vp_in_iff.mpr ⟨by omega, by omega⟩) rfl rfl dX9_isLetter_17 ?_
      refine lv_topi (fun t7 et7 => ?_)
      refine lv_bipush (v := 97) hx hb dX9_isLetter_18 (by decide) ?_
      refine lv_icmp_lt (tgt := 38) hx hb dX9_isLetter_20 (by decide) (fun c8 => ?_) (fun c8 => ?_)
      · skip
        have zc8 : t7.toInt < 97 := by rw [fa_lt, show (97 : Int32).toInt = 97 from by decide] at c8; exact c8
        refine lv_iconst (v := 0) hx hb dX9_isLetter_38 (by decide) ?_
        exact ret 0 () _ _ _ _ _ _ rfl ⟨(gsX_X9_isLetter_1_q2 c1 c2 et7 c8), (Or.inr rfl)⟩ hP hD hS dX9_isLetter_39 (Nat.le_refl _) (Nat.le_refl _)
      · skip
        have zc8 : ¬ (t7.toInt < 97) := by rw [fa_lt, show (97 : Int32).toInt = 97 from by decide] at c8; exact c8
        refine lv_aload_n hx hb dX9_isLetter_23 rfl (lv_at hl 0 rfl) ?_
        refine va_get (D := (dC, dI)) (ci := 9) (v := .ref (x 1)) (C := RX9) (T := TX9) (N := 6) hx hb hts inB_9 hown hE.1 hP 1 rfl rfl 0 (by decide) (hts _ k_136) (fun _ h9 => h9) rfl dX9_isLetter_24 ?_
        refine lv_iload_n hx hb dX9_isLetter_27 rfl (lv_at hl 1 rfl) ?_
        refine ldB hx hb hE hP 2 rfl (vp_in_iff.mpr ⟨by omega, by omega⟩) rfl rfl dX9_isLetter_28 ?_
        refine lv_topi (fun t9 et9 => ?_)
        refine lv_bipush (v := 122) hx hb dX9_isLetter_29 (by decide) ?_
        refine lv_icmp_gt (tgt := 38) hx hb dX9_isLetter_31 (by decide) (fun c10 => ?_) (fun c10 => ?_)
        · skip
          have zc10 : 122 < t9.toInt := by rw [fa_lt, show (122 : Int32).toInt = 122 from by decide] at c10; exact c10
          refine lv_iconst (v := 0) hx hb dX9_isLetter_38 (by decide) ?_
          exact ret 0 () _ _ _ _ _ _ rfl ⟨(gsX_X9_isLetter_1_q3 c1 c2 et7 c8 et9 c10), (Or.inr rfl)⟩ hP hD hS dX9_isLetter_39 (Nat.le_refl _) (Nat.le_refl _)
        · skip
          have zc10 : ¬ (122 < t9.toInt) := by rw [fa_lt, show (122 : Int32).toInt = 122 from by decide] at c10; exact c10
          refine lv_iconst (v := 1) hx hb dX9_isLetter_34 (by decide) ?_
          refine lv_goto (tgt := 39) hx hb dX9_isLetter_35 (by decide) ?_
          exact ret 1 () _ _ _ _ _ _ rfl ⟨(gsX_X9_isLetter_1_q4 c1 c2 et7 c8 et9 c10), (Or.inl ⟨rfl, by omega, by omega, by omega⟩)⟩ hP hD hS dX9_isLetter_39 (Nat.le_refl _) (Nat.le_refl _)
set_option maxHeartbeats 4000000 in
set_option maxRecDepth 100000 in
theorem sX_J0_coder_7d493_1 (NF : Nat) (l : Launch) (dC : Nat → ClassId) (dI : Nat → Nat → Nat) (cy : Nat → ClassId) (x0 : Nat) (x : Nat → Nat)  (v : Nat → Int32) (f : Nat → Nat → Int32) (hIv : XI v)  : ctIS l (dC, dI) cy yJ0_coder_7d493 cJ0_coder_7d493 1 .byte 1 60 0 0 Unit [.ref (dI 100 1)] (XW cy x0 x v f) (fun r u => gsX_J0_coder_7d493_1 NF v f = r ∧ r = 0) (fun u => XW cy x0 x v f) := by
  refine ctIS_of (by decide) (Nat.le_of_ble_eq_true rfl) (fun p e s m below meth c A ls Q hx hb hml hts hown hE hF hT hP hD hA hl ret => ?_)
  have hown : s.vm.findClass RJ0 = some m.cls := hown
  have hS : va_S A s.heap s.heap [] := va_S.rf
  have hl : lv_has ls 1 [(0, .ref (dI 100 1))] := hl
  refine va_gets hx hb hT.2.1 hS hown (hts _ k_579) (fun _ h9 => h9) dJ0_coder_7d493_0 ?_
  refine lv_if_eq (tgt := 13) hx hb dJ0_coder_7d493_3 (by decide) (fun c0 => absurd c0 (by decide)) (fun _ => ?_)
  refine lv_aload_n hx hb dJ0_coder_7d493_6 rfl (lv_at hl 0 rfl) ?_
  refine vk_getf (q := (dI 100 1)) (v := .int 0) hx hb (hT.1.1 1 (by decide)).2.1 hS hown (hts _ k_2060) (fun _ h9 => h9) dJ0_coder_7d493_7 ?_
  refine lv_goto (tgt := 14) hx hb dJ0_coder_7d493_10 (by decide) ?_
  exact ret 0 () _ _ _ _ _ _ rfl ⟨gsX_J0_coder_7d493_1_q0, rfl⟩ hP hD hS dJ0_coder_7d493_14 (Nat.le_refl _) (Nat.le_refl _)
set_option maxHeartbeats 4000000 in
set_option maxRecDepth 100000 in
theorem sX_J0_length_8abf5_1 (NF : Nat) (l : Launch) (dC : Nat → ClassId) (dI : Nat → Nat → Nat) (cy : Nat → ClassId) (x0 : Nat) (x : Nat → Nat)  (v : Nat → Int32) (f : Nat → Nat → Int32) (hIv : XI v)  : ctIS l (dC, dI) cy yJ0_length_8abf5 cJ0_length_8abf5 1 .int 2 80 0 0 Unit [.ref (dI 100 1)] (XW cy x0 x v f) (fun r u => gsX_J0_length_8abf5_1 NF v f = r ∧ r = 102) (fun u => XW cy x0 x v f) := by
  refine ctIS_of (by decide) (Nat.le_of_ble_eq_true rfl) (fun p e s m below meth c A ls Q hx hb hml hts hown hE hF hT hP hD hA hl ret => ?_)
  have hown : s.vm.findClass RJ0 = some m.cls := hown
  have hS : va_S A s.heap s.heap [] := va_S.rf
  have hl : lv_has ls 1 [(0, .ref (dI 100 1))] := hl
  refine lv_aload_n hx hb dJ0_length_8abf5_0 rfl (lv_at hl 0 rfl) ?_
  refine vk_getf (q := (dI 100 1)) (v := .ref (dI 101 1)) hx hb (hT.1.1 1 (by decide)).2.2.1 hS hown (hts _ k_2059) (fun _ h9 => h9) dJ0_length_8abf5_1 ?_
  refine va_tlen (v := 102) hx hb (hT.1.1 1 (by decide)).2.2.2 hS (by decide) dJ0_length_8abf5_4 ?_
  refine lv_aload_n hx hb dJ0_length_8abf5_5 rfl (lv_at hl 0 rfl) ?_
  refine crVi (n := 0) (rest := [.int 102]) hx hb hml hown hts hE hP hD hS hA hF hT (sX_J0_coder_7d493_1 NF l dC dI cy x0 x  v f hIv ) k_575 k_576 k_577 k_115 k_578 (by decide +kernel) ⟨Nat.le_of_ble_eq_true rfl, Nat.le_of_ble_eq_true rfl⟩ 1 (by decide) rfl rfl (rfl) hl.1 rfl (Nat.le_of_ble_eq_true rfl) dJ0_length_8abf5_6 (fun r1 u H locs hw hP hD hS => ?_)
  obtain ⟨hG2, hw⟩ := hw
  refine tI (y := 0) hw ?_
  refine lv_ishr hx hb dJ0_length_8abf5_9 ?_
  refine tI (y := 102) (by decide) ?_
  exact ret 102 () _ _ _ _ _ _ rfl ⟨gsX_J0_length_8abf5_1_q0, rfl⟩ hP hD hS dJ0_length_8abf5_10 (Nat.le_refl _) (Nat.le_refl _)
set_option maxHeartbeats 4000000 in
set_option maxRecDepth 100000 in
theorem sX_J0_isLatin1_aae02_1 (NF : Nat) (l : Launch) (dC : Nat → ClassId) (dI : Nat → Nat → Nat) (cy : Nat → ClassId) (x0 : Nat) (x : Nat → Nat)  (v : Nat → Int32) (f : Nat → Nat → Int32) (hIv : XI v)  : ctIS l (dC, dI) cy yJ0_isLatin1_aae02 cJ0_isLatin1_aae02 1 .boolean 1 60 0 0 Unit [.ref (dI 100 1)] (XW cy x0 x v f) (fun r u => gsX_J0_isLatin1_aae02_1 NF v f = r ∧ r = 1) (fun u => XW cy x0 x v f) := by
  refine ctIS_of (by decide) (Nat.le_of_ble_eq_true rfl) (fun p e s m below meth c A ls Q hx hb hml hts hown hE hF hT hP hD hA hl ret => ?_)
  have hown : s.vm.findClass RJ0 = some m.cls := hown
  have hS : va_S A s.heap s.heap [] := va_S.rf
  have hl : lv_has ls 1 [(0, .ref (dI 100 1))] := hl
  refine va_gets hx hb hT.2.1 hS hown (hts _ k_579) (fun _ h9 => h9) dJ0_isLatin1_aae02_0 ?_
  refine lv_if_eq (tgt := 17) hx hb dJ0_isLatin1_aae02_3 (by decide) (fun c0 => absurd c0 (by decide)) (fun _ => ?_)
  refine lv_aload_n hx hb dJ0_isLatin1_aae02_6 rfl (lv_at hl 0 rfl) ?_
  refine vk_getf (q := (dI 100 1)) (v := .int 0) hx hb (hT.1.1 1 (by decide)).2.1 hS hown (hts _ k_2060) (fun _ h9 => h9) dJ0_isLatin1_aae02_7 ?_
  refine lv_if_ne (tgt := 17) hx hb dJ0_isLatin1_aae02_10 (by decide) (fun c0 => absurd (by decide) c0) (fun _ => ?_)
  refine lv_iconst (v := 1) hx hb dJ0_isLatin1_aae02_13 (by decide) ?_
  refine lv_goto (tgt := 18) hx hb dJ0_isLatin1_aae02_14 (by decide) ?_
  exact ret 1 () _ _ _ _ _ _ rfl ⟨gsX_J0_isLatin1_aae02_1_q0, rfl⟩ hP hD hS dJ0_isLatin1_aae02_18 (Nat.le_refl _) (Nat.le_refl _)
set_option maxHeartbeats 4000000 in
set_option maxRecDepth 100000 in
theorem sX_J3_checkIndex_8e157_1 (l : Launch) (dC : Nat → ClassId) (dI : Nat → Nat → Nat) (cy : Nat → ClassId) (x0 : Nat) (x : Nat → Nat) (p0 : Int32) (v : Nat → Int32) (f : Nat → Nat → Int32) (hIv : XI v) (hp0 : (0 : Int) ≤ p0.toInt ∧ p0.toInt ≤ 101) : ctIS l (dC, dI) cy yJ3_checkIndex_8e157 cJ3_checkIndex_8e157 3 .int 1 60 0 0 Unit [.int p0, .int 102, .null] (XW cy x0 x v f) (fun r u => True) (fun u => XW cy x0 x v f) := by
  refine ctIS_of (by decide) (Nat.le_of_ble_eq_true rfl) (fun p e s m below meth c A ls Q hx hb hml hts hown hE hF hT hP hD hA hl ret => ?_)
  have hown : s.vm.findClass RJ3 = some m.cls := hown
  have hS : va_S A s.heap s.heap [] := va_S.rf
  have hl : lv_has ls 3 [(0, .int p0), (1, .int 102), (2, .null)] := hl
  refine lv_iload_n hx hb dJ3_checkIndex_8e157_0 rfl (lv_at hl 0 rfl) ?_
  refine lv_if_lt (tgt := 9) hx hb dJ3_checkIndex_8e157_1 (by decide) (fun c1 => ?_) (fun c1 => ?_)
  · skip
    have zc1 : p0.toInt < 0 := by rw [fa_lt, show (0 : Int32).toInt = 0 from by decide] at c1; exact c1
    exact (show False by omega).elim
  · skip
    have zc1 : ¬ (p0.toInt < 0) := by rw [fa_lt, show (0 : Int32).toInt = 0 from by decide] at c1; exact c1
    refine lv_iload_n hx hb dJ3_checkIndex_8e157_4 rfl (lv_at hl 0 rfl) ?_
    refine lv_iload_n hx hb dJ3_checkIndex_8e157_5 rfl (lv_at hl 1 rfl) ?_
    refine lv_icmp_lt (tgt := 16) hx hb dJ3_checkIndex_8e157_6 (by decide) (fun c2 => ?_) (fun c2 => ?_)
    · skip
      have zc2 : p0.toInt < 102 := by rw [fa_lt, show (102 : Int32).toInt = 102 from by decide] at c2; exact c2
      refine lv_iload_n hx hb dJ3_checkIndex_8e157_16 rfl (lv_at hl 0 rfl) ?_
      exact ret p0 () _ _ _ _ _ _ rfl trivial hP hD hS dJ3_checkIndex_8e157_17 (Nat.le_refl _) (Nat.le_refl _)
    · skip
      have zc2 : ¬ (p0.toInt < 102) := by rw [fa_lt, show (102 : Int32).toInt = 102 from by decide] at c2; exact c2
      exact (show False by omega).elim
set_option maxHeartbeats 4000000 in
set_option maxRecDepth 100000 in
theorem sX_J3_checkIndex_8e157_2 (l : Launch) (dC : Nat → ClassId) (dI : Nat → Nat → Nat) (cy : Nat → ClassId) (x0 : Nat) (x : Nat → Nat) (tz : Nat) (p0 : Int32) (v : Nat → Int32) (f : Nat → Nat → Int32) (hIv : XI v) (hp0 : (0 : Int) ≤ p0.toInt ∧ p0.toInt ≤ 101) : ctIS l (dC, dI) cy yJ3_checkIndex_8e157 cJ3_checkIndex_8e157 3 .int 1 60 0 0 Unit [.int p0, .int 102, .ref tz] (XW cy x0 x v f) (fun r u => True) (fun u => XW cy x0 x v f) := by
  refine ctIS_of (by decide) (Nat.le_of_ble_eq_true rfl) (fun p e s m below meth c A ls Q hx hb hml hts hown hE hF hT hP hD hA hl ret => ?_)
  have hown : s.vm.findClass RJ3 = some m.cls := hown
  have hS : va_S A s.heap s.heap [] := va_S.rf
  have hl : lv_has ls 3 [(0, .int p0), (1, .int 102), (2, .ref tz)] := hl
  refine lv_iload_n hx hb dJ3_checkIndex_8e157_0 rfl (lv_at hl 0 rfl) ?_
  refine lv_if_lt (tgt := 9) hx hb dJ3_checkIndex_8e157_1 (by decide) (fun c1 => ?_) (fun c1 => ?_)
  · skip
    have zc1 : p0.toInt < 0 := by rw [fa_lt, show (0 : Int32).toInt = 0 from by decide] at c1; exact c1
    exact (show False by omega).elim
  · skip
    have zc1 : ¬ (p0.toInt < 0) := by rw [fa_lt, show (0 : Int32).toInt = 0 from by decide] at c1; exact c1
    refine lv_iload_n hx hb dJ3_checkIndex_8e157_4 rfl (lv_at hl 0 rfl) ?_
    refine lv_iload_n hx hb dJ3_checkIndex_8e157_5 rfl (lv_at hl 1 rfl) ?_
    refine lv_icmp_lt (tgt := 16) hx hb dJ3_checkIndex_8e157_6 (by decide) (fun c2 => ?_) (fun c2 => ?_)
    · skip
      have zc2 : p0.toInt < 102 := by rw [fa_lt, show (102 : Int32).toInt = 102 from by decide] at c2; exact c2
      refine lv_iload_n hx hb dJ3_checkIndex_8e157_16 rfl (lv_at hl 0 rfl) ?_
      exact ret p0 () _ _ _ _ _ _ rfl trivial hP hD hS dJ3_checkIndex_8e157_17 (Nat.le_refl _) (Nat.le_refl _)
    · skip
      have zc2 : ¬ (p0.toInt < 102) := by rw [fa_lt, show (102 : Int32).toInt = 102 from by decide] at c2; exact c2
      exact (show False by omega).elim
set_option maxHeartbeats 4000000 in
set_option maxRecDepth 100000 in
theorem sX_J0_checkIndex_df160_1 (l : Launch) (dC : Nat → ClassId) (dI : Nat → Nat → Nat) (cy : Nat → ClassId) (x0 : Nat) (x : Nat → Nat) (p0 : Int32) (v : Nat → Int32) (f : Nat → Nat → Int32) (hIv : XI v) (hp0 : (0 : Int) ≤ p0.toInt ∧ p0.toInt ≤ 101) : ctVS l (dC, dI) cy yJ0_checkIndex_df160 cJ0_checkIndex_df160 2 2 82 0 0 Unit [.int p0, .int 102] (XW cy x0 x v f) (fun u => True) (fun u => XW cy x0 x v f) := by
  refine ctVS_of (by decide) (Nat.le_of_ble_eq_true rfl) (fun p e s m below meth c A ls Q hx hb hml hts hown hnm hE hF hT hP hD hA hl ret => ?_)
  have hown : s.vm.findClass RJ0 = some m.cls := hown
  have hS : va_S A s.heap s.heap [] := va_S.rf
  have hl : lv_has ls 2 [(0, .int p0), (1, .int 102)] := hl
  refine lv_iload_n hx hb dJ0_checkIndex_df160_0 rfl (lv_at hl 0 rfl) ?_
  refine lv_iload_n hx hb dJ0_checkIndex_df160_1 rfl (lv_at hl 1 rfl) ?_
  rcases hT.2.2 with hz9 | ⟨tz, hz9⟩
  · skip
    refine va_gets hx hb hz9 hS hown (hts _ k_595) (fun _ h9 => h9) dJ0_checkIndex_df160_2 ?_
    refine csSi (n := 3) (rest := []) hx hb hml hown hts hE hP hD hS hA hF hT (sX_J3_checkIndex_8e157_1 l dC dI cy x0 x p0 v f hIv ⟨show (0 : Int) ≤ p0.toInt by omega, show p0.toInt ≤ (101 : Int) by omega⟩) k_597 k_598 k_117 k_599 (by decide +kernel) ⟨Nat.le_of_ble_eq_true rfl, Nat.le_of_ble_eq_true rfl⟩ (rfl) hl.1 rfl (Nat.le_of_ble_eq_true rfl) dJ0_checkIndex_df160_5 (fun r1 u H locs hw hP hD hS => ?_)
    refine lv_pop hx hb dJ0_checkIndex_df160_8 rfl ?_
    exact ret () _ _ _ _ _ _ trivial hP hD hS dJ0_checkIndex_df160_9 (Nat.le_refl _) (Nat.le_refl _)
  · skip
    refine va_gets hx hb hz9 hS hown (hts _ k_595) (fun _ h9 => h9) dJ0_checkIndex_df160_2 ?_
    refine csSi (n := 3) (rest := []) hx hb hml hown hts hE hP hD hS hA hF hT (sX_J3_checkIndex_8e157_2 l dC dI cy x0 x tz p0 v f hIv ⟨show (0 : Int) ≤ p0.toInt by omega, show p0.toInt ≤ (101 : Int) by omega⟩) k_597 k_598 k_117 k_599 (by decide +kernel) ⟨Nat.le_of_ble_eq_true rfl, Nat.le_of_ble_eq_true rfl⟩ (rfl) hl.1 rfl (Nat.le_of_ble_eq_true rfl) dJ0_checkIndex_df160_5 (fun r2 u H locs hw hP hD hS => ?_)
    refine lv_pop hx hb dJ0_checkIndex_df160_8 rfl ?_
    exact ret () _ _ _ _ _ _ trivial hP hD hS dJ0_checkIndex_df160_9 (Nat.le_refl _) (Nat.le_refl _)
set_option maxHeartbeats 4000000 in
set_option maxRecDepth 100000 in
theorem sX_J1_charAt_3b067_1 (NF : Nat) (l : Launch) (dC : Nat → ClassId) (dI : Nat → Nat → Nat) (cy : Nat → ClassId) (x0 : Nat) (x : Nat → Nat) (p1 : Int32) (v : Nat → Int32) (f : Nat → Nat → Int32) (hIv : XI v) (hp1 : (0 : Int) ≤ p1.toInt ∧ p1.toInt ≤ 101) : ctIS l (dC, dI) cy yJ1_charAt_3b067 cJ1_charAt_3b067 2 .char 3 103 0 0 Unit [.ref (dI 101 1), .int p1] (XW cy x0 x v f) (fun r u => gsX_J1_charAt_3b067_1 NF p1 v f = r ∧ narrow .char (.int r) = .int r) (fun u => XW cy x0 x v f) := by
  refine ctIS_of (by decide) (Nat.le_of_ble_eq_true rfl) (fun p e s m below meth c A ls Q hx hb hml hts hown hE hF hT hP hD hA hl ret => ?_)
  have hown : s.vm.findClass RJ1 = some m.cls := hown
  have hS : va_S A s.heap s.heap [] := va_S.rf
  have hl : lv_has ls 2 [(0, .ref (dI 101 1)), (1, .int p1)] := hl
  refine lv_iload_n hx hb dJ1_charAt_3b067_0 rfl (lv_at hl 1 rfl) ?_
  refine lv_aload_n hx hb dJ1_charAt_3b067_1 rfl (lv_at hl 0 rfl) ?_
  refine va_tlen (v := 102) hx hb (hT.1.1 1 (by decide)).2.2.2 hS (by decide) dJ1_charAt_3b067_2 ?_
  refine csSv (n := 2) (rest := []) hx hb hml hown hts hE hP hD hS hA hF hT (sX_J0_checkIndex_df160_1 l dC dI cy x0 x p1 v f hIv ⟨show (0 : Int) ≤ p1.toInt by omega, show p1.toInt ≤ (101 : Int) by omega⟩) k_592 k_593 k_115 k_594 (by decide +kernel) ⟨Nat.le_of_ble_eq_true rfl, Nat.le_of_ble_eq_true rfl⟩ (rfl) hl.1 rfl (Nat.le_of_ble_eq_true rfl) dJ1_charAt_3b067_3 (fun u H locs hw hP hD hS => ?_)
  refine lv_aload_n hx hb dJ1_charAt_3b067_6 rfl (lv_at hl 0 rfl) ?_
  refine lv_iload_n hx hb dJ1_charAt_3b067_7 rfl (lv_at hl 1 rfl) ?_
  refine va_tb hx hb (hT.1.1 1 (by decide)).2.2.2 hS (show vp_in p1 102 from (vp_in_iff.mpr ⟨by omega, by omega⟩)) rfl dJ1_charAt_3b067_8 ?_
  refine lv_topi (fun t1 et1 => ?_)
  refine lv_sipush (v := 255) hx hb dJ1_charAt_3b067_9 (by decide) ?_
  refine lv_iand hx hb dJ1_charAt_3b067_12 ?_
  refine lv_topi (fun t2 et2 => ?_)
  have zt2 : 0 ≤ t2.toInt ∧ t2.toInt < 256 := by rw [et2]; exact and_rng _ (k := 8) (by decide) (by decide)
  refine lv_i2c hx hb dJ1_charAt_3b067_13 rfl ?_
  refine lv_topi (fun t3 et3 => ?_)
  exact ret t3 () _ _ _ _ _ _ (by rw [et3, et2, sc_c2]; exact sc_nar _) ⟨(gsX_J1_charAt_3b067_1_q0 et1 et2 et3), (by rw [et3, et2, sc_c2]; exact sc_nar _)⟩ hP hD hS dJ1_charAt_3b067_14 (Nat.le_refl _) (Nat.le_refl _)
set_option maxHeartbeats 4000000 in
set_option maxRecDepth 100000 in
theorem sX_J0_charAt_5068e_1 (NF : Nat) (l : Launch) (dC : Nat → ClassId) (dI : Nat → Nat → Nat) (cy : Nat → ClassId) (x0 : Nat) (x : Nat → Nat) (p1 : Int32) (v : Nat → Int32) (f : Nat → Nat → Int32) (hIv : XI v) (hp1 : (0 : Int) ≤ p1.toInt ∧ p1.toInt ≤ 101) : ctIS l (dC, dI) cy yJ0_charAt_5068e cJ0_charAt_5068e 2 .char 4 124 0 0 Unit [.ref (dI 100 1), .int p1] (XW cy x0 x v f) (fun r u => gsX_J0_charAt_5068e_1 NF p1 v f = r ∧ narrow .char (.int r) = .int r) (fun u => XW cy x0 x v f) := by
  refine ctIS_of (by decide) (Nat.le_of_ble_eq_true rfl) (fun p e s m below meth c A ls Q hx hb hml hts hown hE hF hT hP hD hA hl ret => ?_)
  have hown : s.vm.findClass RJ0 = some m.cls := hown
  have hS : va_S A s.heap s.heap [] := va_S.rf
  have hl : lv_has ls 2 [(0, .ref (dI 100 1)), (1, .int p1)] := hl
  refine lv_aload_n hx hb dJ0_charAt_5068e_0 rfl (lv_at hl 0 rfl) ?_
  refine crVi (n := 0) (rest := []) hx hb hml hown hts hE hP hD hS hA hF hT (sX_J0_isLatin1_aae02_1 NF l dC dI cy x0 x  v f hIv ) k_585 k_586 k_587 k_115 k_588 (by decide +kernel) ⟨Nat.le_of_ble_eq_true rfl, Nat.le_of_ble_eq_true rfl⟩ 1 (by decide) rfl rfl (rfl) hl.1 rfl (Nat.le_of_ble_eq_true rfl) dJ0_charAt_5068e_1 (fun r1 u H locs hw hP hD hS => ?_)
  obtain ⟨hG2, hw⟩ := hw
  refine tI (y := 1) hw ?_
  refine lv_if_eq (tgt := 16) hx hb dJ0_charAt_5068e_4 (by decide) (fun c0 => absurd c0 (by decide)) (fun _ => ?_)
  refine lv_aload_n hx hb dJ0_charAt_5068e_7 rfl (lv_at hl 0 rfl) ?_
  refine vk_getf (q := (dI 100 1)) (v := .ref (dI 101 1)) hx hb (hT.1.1 1 (by decide)).2.2.1 hS hown (hts _ k_2059) (fun _ h9 => h9) dJ0_charAt_5068e_8 ?_
  refine lv_iload_n hx hb dJ0_charAt_5068e_11 rfl (lv_at hl 1 rfl) ?_
  refine csSi (n := 2) (rest := []) hx hb hml hown hts hE hP hD hS hA hF hT (sX_J1_charAt_3b067_1 NF l dC dI cy x0 x p1 v f hIv ⟨show (0 : Int) ≤ p1.toInt by omega, show p1.toInt ≤ (101 : Int) by omega⟩) k_589 k_590 k_116 k_591 (by decide +kernel) ⟨Nat.le_of_ble_eq_true rfl, Nat.le_of_ble_eq_true rfl⟩ (rfl) hl.1 rfl (Nat.le_of_ble_eq_true rfl) dJ0_charAt_5068e_12 (fun r3 u H locs hw hP hD hS => ?_)
  obtain ⟨hG4, hw⟩ := hw
  have nrr3 := hw
  exact ret r3 () _ _ _ _ _ _ nrr3 ⟨(gsX_J0_charAt_5068e_1_q0 hG4.symm), nrr3⟩ hP hD hS dJ0_charAt_5068e_15 (Nat.le_refl _) (Nat.le_refl _)
