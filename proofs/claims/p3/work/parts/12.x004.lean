set_option maxHeartbeats 4000000 in
set_option maxRecDepth 100000 in
theorem sX_X10_seen_1 (NF : Nat) (l : Launch) (dC : Nat → ClassId) (dI : Nat → Nat → Nat) (cy : Nat → ClassId) (x0 : Nat) (x : Nat → Nat) (p1 : Int32) (p2 : Int32) (v : Nat → Int32) (f : Nat → Nat → Int32) (hIv : XI v)  : ctI l (dC, dI) cy yX10_seen cX10_seen 3 .int 2 83 0 0 ((Nat → Int32) × (Nat → Nat → Int32)) [.ref x0, .int p1, .int p2] (XW cy x0 x v f) (fun r u => gsX_X10_seen_1 NF p1 p2 v f = (r, u) ∧ KV [41] u.1 v ∧ KF [23, 24, 25, 26] u.2 f ∧ XI u.1 ∧ u.1 0 = v 0 ∧ u.1 1 = v 1 ∧ u.1 7 = v 7 ∧ u.1 8 = v 8 ∧ u.1 9 = v 9 ∧ u.1 10 = v 10 ∧ u.1 31 = v 31 ∧ u.1 32 = v 32) (fun u => XW cy x0 x u.1 u.2) := by
  refine ctI_of (by decide) (Nat.le_of_ble_eq_true rfl) (fun p e s m below meth c A ls Q hx hb hml hts hown hE hP hD hA hl ret => ?_)
  have hM_v : KV [41] v v := fun _ _ => rfl
  have hA_f : KF [23, 24, 25, 26] f f := fun _ _ => rfl
  have hown : s.vm.findClass RX10 = some m.cls := hown
  have hS : va_S A s.heap s.heap [] := va_S.rf
  have hl : lv_has ls 3 [(0, .ref x0), (1, .int p1), (2, .int p2)] := hl
  refine lv_aload_n hx hb dX10_seen_0 rfl (lv_at hl 0 rfl) ?_
  refine va_get (D := (dC, dI)) (ci := 10) (v := .ref (x 26)) (C := RX10) (T := TX10) (N := 10) hx hb hts inB_10 hown hE.1 hP 0 rfl rfl 2 (Nat.le_of_ble_eq_true rfl) (hts _ k_493) (fun _ h9 => h9) rfl dX10_seen_1 ?_
  refine va_getN (D := (dC, dI)) (ci := 7) (v := .int (v 31)) (C := RX7) (T := TX7) (N := 10) hx hb hts inB_7 hown hE.1 hP 27 rfl rfl 3 (Nat.le_of_ble_eq_true rfl) (va_Nw.use rfl (hE.2 _ k_214)) (fun _ h9 => h9) rfl dX10_seen_4 ?_
  have b31_v : 0 ≤ (v 31).toInt ∧ (v 31).toInt ≤ 6 := XI.b hIv 31 (by decide)
  refine lv_if_eq (tgt := 20) hx hb dX10_seen_7 rfl (fun c1 => ?_) (fun c1 => ?_)
  · skip
    have zc1 : (v 31).toInt = 0 := by rw [fa_eq, show (0 : Int32).toInt = 0 from by decide] at c1; exact c1
    refine lv_iconst (v := (-1)) hx hb dX10_seen_20 rfl ?_
    exact ret (-1) (v, f) _ _ _ _ _ _ rfl ⟨(gsX_X10_seen_1_q0 c1), hM_v, hA_f, hIv, rfl, rfl, rfl, rfl, rfl, rfl, rfl, rfl⟩ hP hD hS dX10_seen_21 (Nat.le_refl _) (Nat.le_refl _)
  · skip
    have zc1 : ¬ ((v 31).toInt = 0) := by rw [fa_eq, show (0 : Int32).toInt = 0 from by decide] at c1; exact c1
    refine lv_aload_n hx hb dX10_seen_10 rfl (lv_at hl 0 rfl) ?_
    refine va_get (D := (dC, dI)) (ci := 10) (v := .ref (x 26)) (C := RX10) (T := TX10) (N := 10) hx hb hts inB_10 hown hE.1 hP 0 rfl rfl 2 (Nat.le_of_ble_eq_true rfl) (hts _ k_493) (fun _ h9 => h9) rfl dX10_seen_11 ?_
    refine va_getN (D := (dC, dI)) (ci := 7) (v := .int (v 32)) (C := RX7) (T := TX7) (N := 10) hx hb hts inB_7 hown hE.1 hP 27 rfl rfl 4 (Nat.le_of_ble_eq_true rfl) (va_Nw.use rfl (hE.2 _ k_227)) (fun _ h9 => h9) rfl dX10_seen_14 ?_
    have b32_v : 0 ≤ (v 32).toInt ∧ (v 32).toInt ≤ 6 := XI.b hIv 32 (by decide)
    refine lv_if_ne (tgt := 22) hx hb dX10_seen_17 rfl (fun c2 => ?_) (fun c2 => ?_)
    · skip
      have zc2 : ¬ ((v 32).toInt = 0) := by rw [fa_eq, show (0 : Int32).toInt = 0 from by decide] at c2; exact c2
      refine lv_aload_n hx hb dX10_seen_22 rfl (lv_at hl 0 rfl) ?_
      refine va_get (D := (dC, dI)) (ci := 10) (v := .ref (x 35)) (C := RX10) (T := TX10) (N := 10) hx hb hts inB_10 hown hE.1 hP 0 rfl rfl 8 (Nat.le_of_ble_eq_true rfl) (hts _ k_499) (fun _ h9 => h9) rfl dX10_seen_23 ?_
      refine lv_iload_n hx hb dX10_seen_26 rfl (lv_at hl 1 rfl) ?_
      refine lv_iload_n hx hb dX10_seen_27 rfl (lv_at hl 2 rfl) ?_
      refine lv_aload_n hx hb dX10_seen_28 rfl (lv_at hl 0 rfl) ?_
      refine va_get (D := (dC, dI)) (ci := 10) (v := .int (v 0)) (C := RX10) (T := TX10) (N := 10) hx hb hts inB_10 hown hE.1 hP 0 rfl rfl 9 (Nat.le_of_ble_eq_true rfl) (hts _ k_500) (fun _ h9 => h9) rfl dX10_seen_29 ?_
      have b0_v : 0 ≤ (v 0).toInt ∧ (v 0).toInt ≤ 100000 := XI.b hIv 0 (by decide)
      refine cbVi (n := 3) (rest := []) hx hb hml hown hts hE hP hD hS hA (sX_X8_tell_1 NF l dC dI cy x0 x p1 p2 (v 0) v f hIv ) k_1226 k_1227 k_1228 k_112 k_1229 (by decide +kernel) ⟨Nat.le_of_ble_eq_true rfl, Nat.le_of_ble_eq_true rfl⟩ 36 8 rfl rfl (rfl) hl.1 rfl (Nat.le_of_ble_eq_true rfl) dX10_seen_32 (fun r3 u H locs hw hP hD hS => ?_)
      obtain ⟨hG4, hw⟩ := hw
      obtain ⟨v5, f6⟩ := u
      obtain ⟨kV_v5, kF_f6, hIv5, hk0_v5, hk1_v5, hk7_v5, hk8_v5, hk9_v5, hk10_v5, hk31_v5, hk32_v5⟩ := hw
      have hM_v5 : KV [41] v5 v := KV.tr kV_v5 hM_v rfl
      have hA_f6 : KF [23, 24, 25, 26] f6 f := KF.tr kF_f6 hA_f rfl
      have hP : va_P (dC, dI) vwCl (XW cy x0 x v5 f6) H := hP
      have hD : va_D A (XW cy x0 x v5 f6) := hD
      have hq0_v5 : v5 0 = (v 0) := hk0_v5
      have hq1_v5 : v5 1 = (v 1) := hk1_v5
      have hq7_v5 : v5 7 = (v 7) := hk7_v5
      have hq8_v5 : v5 8 = (v 8) := hk8_v5
      have hq9_v5 : v5 9 = (v 9) := hk9_v5
      have hq10_v5 : v5 10 = (v 10) := hk10_v5
      have hq31_v5 : v5 31 = (v 31) := hk31_v5
      have hq32_v5 : v5 32 = (v 32) := hk32_v5
      exact ret r3 (v5, f6) _ _ _ _ _ _ rfl ⟨(gsX_X10_seen_1_q1 c1 c2 hG4), hM_v5, hA_f6, hIv5, hk0_v5, hk1_v5, hk7_v5, hk8_v5, hk9_v5, hk10_v5, hk31_v5, hk32_v5⟩ hP hD hS dX10_seen_35 (Nat.le_refl _) (Nat.le_refl _)
    · skip
      have zc2 : (v 32).toInt = 0 := by rw [fa_eq, show (0 : Int32).toInt = 0 from by decide] at c2; exact c2
      refine lv_iconst (v := (-1)) hx hb dX10_seen_20 rfl ?_
      exact ret (-1) (v, f) _ _ _ _ _ _ rfl ⟨(gsX_X10_seen_1_q2 c1 c2), hM_v, hA_f, hIv, rfl, rfl, rfl, rfl, rfl, rfl, rfl, rfl⟩ hP hD hS dX10_seen_21 (Nat.le_refl _) (Nat.le_refl _)
set_option maxHeartbeats 4000000 in
set_option maxRecDepth 100000 in
theorem sX_X8_takeBack_1 (NF : Nat) (l : Launch) (dC : Nat → ClassId) (dI : Nat → Nat → Nat) (cy : Nat → ClassId) (x0 : Nat) (x : Nat → Nat) (p1 : Int32) (p2 : Int32) (v : Nat → Int32) (f : Nat → Nat → Int32) (hIv : XI v)  : ctI l (dC, dI) cy yX8_takeBack cX8_takeBack 3 .boolean 1 60 0 0 ((Nat → Int32) × (Nat → Nat → Int32)) [.ref (x 35), .int p1, .int p2] (XW cy x0 x v f) (fun r u => gsX_X8_takeBack_1 NF p1 p2 v f = (r, u) ∧ KV [] u.1 v ∧ KF [26] u.2 f ∧ XI u.1 ∧ u.1 0 = v 0 ∧ u.1 1 = v 1 ∧ u.1 7 = v 7 ∧ u.1 8 = v 8 ∧ u.1 9 = v 9 ∧ u.1 10 = v 10 ∧ u.1 31 = v 31 ∧ u.1 32 = v 32 ∧ ((r = 1) ∨ (r = 0))) (fun u => XW cy x0 x u.1 u.2) := by
  refine ctI_of (by decide) (Nat.le_of_ble_eq_true rfl) (fun p e s m below meth c A ls Q hx hb hml hts hown hE hP hD hA hl ret => ?_)
  have hM_v : KV [] v v := fun _ _ => rfl
  have hA_f : KF [26] f f := fun _ _ => rfl
  have hown : s.vm.findClass RX8 = some m.cls := hown
  have hS : va_S A s.heap s.heap [] := va_S.rf
  have hl : lv_has ls 3 [(0, .ref (x 35)), (1, .int p1), (2, .int p2)] := hl
  refine lv_iload_n hx hb dX8_takeBack_0 rfl (lv_at hl 1 rfl) ?_
  refine lv_if_lt (tgt := 28) hx hb dX8_takeBack_1 rfl (fun c1 => ?_) (fun c1 => ?_)
  · skip
    have zc1 : p1.toInt < 0 := by rw [fa_lt, show (0 : Int32).toInt = 0 from by decide] at c1; exact c1
    refine lv_iconst (v := 0) hx hb dX8_takeBack_28 rfl ?_
    exact ret 0 (v, f) _ _ _ _ _ _ rfl ⟨(gsX_X8_takeBack_1_q0 c1), hM_v, hA_f, hIv, rfl, rfl, rfl, rfl, rfl, rfl, rfl, rfl, (Or.inr rfl)⟩ hP hD hS dX8_takeBack_29 (Nat.le_refl _) (Nat.le_refl _)
  · skip
    have zc1 : ¬ (p1.toInt < 0) := by rw [fa_lt, show (0 : Int32).toInt = 0 from by decide] at c1; exact c1
    refine lv_iload_n hx hb dX8_takeBack_4 rfl (lv_at hl 1 rfl) ?_
    refine lv_aload_n hx hb dX8_takeBack_5 rfl (lv_at hl 0 rfl) ?_
    refine va_get (D := (dC, dI)) (ci := 8) (v := .int (v 41)) (C := RX8) (T := TX8) (N := 7) hx hb hts inB_8 hown hE.1 hP 36 rfl rfl 5 (Nat.le_of_ble_eq_true rfl) (hts _ k_472) (fun _ h9 => h9) rfl dX8_takeBack_6 ?_
    have b41_v : 0 ≤ (v 41).toInt ∧ (v 41).toInt ≤ 30 := XI.b hIv 41 (by decide)
    refine lv_icmp_ge (tgt := 28) hx hb dX8_takeBack_9 rfl (fun c2 => ?_) (fun c2 => ?_)
    · skip
      have zc2 : (v 41).toInt ≤ p1.toInt := by rw [fa_le] at c2; exact c2
      have rg3 := fb_rng p1
      have rg4 := fb_rng (v 41)
      refine lv_iconst (v := 0) hx hb dX8_takeBack_28 rfl ?_
      exact ret 0 (v, f) _ _ _ _ _ _ rfl ⟨(gsX_X8_takeBack_1_q1 c1 c2), hM_v, hA_f, hIv, rfl, rfl, rfl, rfl, rfl, rfl, rfl, rfl, (Or.inr rfl)⟩ hP hD hS dX8_takeBack_29 (Nat.le_refl _) (Nat.le_refl _)
    · skip
      have zc2 : ¬ ((v 41).toInt ≤ p1.toInt) := by rw [fa_le] at c2; exact c2
      have rg5 := fb_rng p1
      have rg6 := fb_rng (v 41)
      refine lv_iload_n hx hb dX8_takeBack_12 rfl (lv_at hl 1 rfl) ?_
      refine lv_bipush (v := 30) hx hb dX8_takeBack_13 rfl ?_
      refine lv_icmp_ge (tgt := 28) hx hb dX8_takeBack_15 rfl (fun c7 => ?_) (fun c7 => ?_)
      · skip
        have zc7 : 30 ≤ p1.toInt := by rw [fa_le, show (30 : Int32).toInt = 30 from by decide] at c7; exact c7
        refine lv_iconst (v := 0) hx hb dX8_takeBack_28 rfl ?_
        exact ret 0 (v, f) _ _ _ _ _ _ rfl ⟨(gsX_X8_takeBack_1_q2 c1 c2 c7), hM_v, hA_f, hIv, rfl, rfl, rfl, rfl, rfl, rfl, rfl, rfl, (Or.inr rfl)⟩ hP hD hS dX8_takeBack_29 (Nat.le_refl _) (Nat.le_refl _)
      · skip
        have zc7 : ¬ (30 ≤ p1.toInt) := by rw [fa_le, show (30 : Int32).toInt = 30 from by decide] at c7; exact c7
        refine lv_aload_n hx hb dX8_takeBack_18 rfl (lv_at hl 0 rfl) ?_
        refine va_get (D := (dC, dI)) (ci := 8) (v := .ref (x 39)) (C := RX8) (T := TX8) (N := 7) hx hb hts inB_8 hown hE.1 hP 36 rfl rfl 4 (Nat.le_of_ble_eq_true rfl) (hts _ k_471) (fun _ h9 => h9) rfl dX8_takeBack_19 ?_
        refine lv_iload_n hx hb dX8_takeBack_22 rfl (lv_at hl 1 rfl) ?_
        refine ldI hx hb hE hP 40 rfl (vp_in_iff.mpr ⟨by omega, by omega⟩) rfl rfl dX8_takeBack_23 ?_
        refine lv_topi (fun t8 et8 => ?_)
        refine lv_iconst (v := (-1)) hx hb dX8_takeBack_24 rfl ?_
        refine lv_icmp_eq (tgt := 30) hx hb dX8_takeBack_25 rfl (fun c9 => ?_) (fun c9 => ?_)
        · skip
          have zc9 : t8.toInt = (-1) := by rw [fa_eq, show ((-1) : Int32).toInt = -1 from by decide] at c9; exact c9
          refine lv_aload_n hx hb dX8_takeBack_30 rfl (lv_at hl 0 rfl) ?_
          refine va_get (D := (dC, dI)) (ci := 8) (v := .ref (x 39)) (C := RX8) (T := TX8) (N := 7) hx hb hts inB_8 hown hE.1 hP 36 rfl rfl 4 (Nat.le_of_ble_eq_true rfl) (hts _ k_471) (fun _ h9 => h9) rfl dX8_takeBack_31 ?_
          refine lv_iload_n hx hb dX8_takeBack_34 rfl (lv_at hl 1 rfl) ?_
          refine lv_iload_n hx hb dX8_takeBack_35 rfl (lv_at hl 2 rfl) ?_
          refine stI hx hb hE hP hD hS 40 rfl (vp_in_iff.mpr ⟨by omega, by omega⟩) rfl dX8_takeBack_36 (fun H locs hP hD hS => ?_)
          obtain ⟨f10, ef10, hP, hD⟩ : ∃ fz9, fz9 = upd2 f 26 (upd (f 26) p1.toNatClampNeg p2) ∧ va_P (dC, dI) vwCl (XW cy x0 x v fz9) H ∧ va_D A (XW cy x0 x v fz9) := ⟨_, rfl, hP, hD⟩
          have hA_f10 : KF [26] f10 f := by rw [ef10]; exact KF.up hA_f rfl
          refine lv_iconst (v := 1) hx hb dX8_takeBack_37 rfl ?_
          exact ret 1 (v, f10) _ _ _ _ _ _ rfl ⟨(gsX_X8_takeBack_1_q3 c1 c2 c7 et8 c9 ef10), hM_v, hA_f10, hIv, rfl, rfl, rfl, rfl, rfl, rfl, rfl, rfl, (Or.inl rfl)⟩ hP hD hS dX8_takeBack_38 (Nat.le_refl _) (Nat.le_refl _)
        · skip
          have zc9 : ¬ (t8.toInt = (-1)) := by rw [fa_eq, show ((-1) : Int32).toInt = -1 from by decide] at c9; exact c9
          refine lv_iconst (v := 0) hx hb dX8_takeBack_28 rfl ?_
          exact ret 0 (v, f) _ _ _ _ _ _ rfl ⟨(gsX_X8_takeBack_1_q4 c1 c2 c7 et8 c9), hM_v, hA_f, hIv, rfl, rfl, rfl, rfl, rfl, rfl, rfl, rfl, (Or.inr rfl)⟩ hP hD hS dX8_takeBack_29 (Nat.le_refl _) (Nat.le_refl _)
set_option maxHeartbeats 4000000 in
set_option maxRecDepth 100000 in
theorem sX_X10_untell_1 (NF : Nat) (l : Launch) (dC : Nat → ClassId) (dI : Nat → Nat → Nat) (cy : Nat → ClassId) (x0 : Nat) (x : Nat → Nat) (p1 : Int32) (v : Nat → Int32) (f : Nat → Nat → Int32) (hIv : XI v)  : ctI l (dC, dI) cy yX10_untell cX10_untell 2 .boolean 2 82 0 0 ((Nat → Int32) × (Nat → Nat → Int32)) [.ref x0, .int p1] (XW cy x0 x v f) (fun r u => gsX_X10_untell_1 NF p1 v f = (r, u) ∧ KV [] u.1 v ∧ KF [26] u.2 f ∧ XI u.1 ∧ u.1 0 = v 0 ∧ u.1 1 = v 1 ∧ u.1 7 = v 7 ∧ u.1 8 = v 8 ∧ u.1 9 = v 9 ∧ u.1 10 = v 10 ∧ u.1 31 = v 31 ∧ u.1 32 = v 32 ∧ ((r = 1) ∨ (r = 0))) (fun u => XW cy x0 x u.1 u.2) := by
  refine ctI_of (by decide) (Nat.le_of_ble_eq_true rfl) (fun p e s m below meth c A ls Q hx hb hml hts hown hE hP hD hA hl ret => ?_)
  have hM_v : KV [] v v := fun _ _ => rfl
  have hA_f : KF [26] f f := fun _ _ => rfl
  have hown : s.vm.findClass RX10 = some m.cls := hown
  have hS : va_S A s.heap s.heap [] := va_S.rf
  have hl : lv_has ls 2 [(0, .ref x0), (1, .int p1)] := hl
  refine lv_aload_n hx hb dX10_untell_0 rfl (lv_at hl 0 rfl) ?_
  refine va_get (D := (dC, dI)) (ci := 10) (v := .ref (x 35)) (C := RX10) (T := TX10) (N := 10) hx hb hts inB_10 hown hE.1 hP 0 rfl rfl 8 (Nat.le_of_ble_eq_true rfl) (hts _ k_499) (fun _ h9 => h9) rfl dX10_untell_1 ?_
  refine lv_iload_n hx hb dX10_untell_4 rfl (lv_at hl 1 rfl) ?_
  refine lv_aload_n hx hb dX10_untell_5 rfl (lv_at hl 0 rfl) ?_
  refine va_get (D := (dC, dI)) (ci := 10) (v := .int (v 0)) (C := RX10) (T := TX10) (N := 10) hx hb hts inB_10 hown hE.1 hP 0 rfl rfl 9 (Nat.le_of_ble_eq_true rfl) (hts _ k_500) (fun _ h9 => h9) rfl dX10_untell_6 ?_
  have b0_v : 0 ≤ (v 0).toInt ∧ (v 0).toInt ≤ 100000 := XI.b hIv 0 (by decide)
  refine cbVi (n := 2) (rest := []) hx hb hml hown hts hE hP hD hS hA (sX_X8_takeBack_1 NF l dC dI cy x0 x p1 (v 0) v f hIv ) k_1234 k_1235 k_1236 k_112 k_1237 (by decide +kernel) ⟨Nat.le_of_ble_eq_true rfl, Nat.le_of_ble_eq_true rfl⟩ 36 8 rfl rfl (rfl) hl.1 rfl (Nat.le_of_ble_eq_true rfl) dX10_untell_9 (fun r1 u H locs hw hP hD hS => ?_)
  obtain ⟨hG2, hw⟩ := hw
  obtain ⟨v3, f4⟩ := u
  obtain ⟨kV_v3, kF_f4, hIv3, hk0_v3, hk1_v3, hk7_v3, hk8_v3, hk9_v3, hk10_v3, hk31_v3, hk32_v3, hw⟩ := hw
  have hM_v3 : KV [] v3 v := KV.tr kV_v3 hM_v rfl
  have hA_f4 : KF [26] f4 f := KF.tr kF_f4 hA_f rfl
  have hP : va_P (dC, dI) vwCl (XW cy x0 x v3 f4) H := hP
  have hD : va_D A (XW cy x0 x v3 f4) := hD
  have hq0_v3 : v3 0 = (v 0) := hk0_v3
  have hq1_v3 : v3 1 = (v 1) := hk1_v3
  have hq7_v3 : v3 7 = (v 7) := hk7_v3
  have hq8_v3 : v3 8 = (v 8) := hk8_v3
  have hq9_v3 : v3 9 = (v 9) := hk9_v3
  have hq10_v3 : v3 10 = (v 10) := hk10_v3
  have hq31_v3 : v3 31 = (v 31) := hk31_v3
  have hq32_v3 : v3 32 = (v 32) := hk32_v3
  rcases hw with ⟨g5⟩ | ⟨g5⟩
  · skip
    subst g5
    exact ret 1 (v3, f4) _ _ _ _ _ _ rfl ⟨(gsX_X10_untell_1_q0 hG2), hM_v3, hA_f4, hIv3, hk0_v3, hk1_v3, hk7_v3, hk8_v3, hk9_v3, hk10_v3, hk31_v3, hk32_v3, (Or.inl rfl)⟩ hP hD hS dX10_untell_12 (Nat.le_refl _) (Nat.le_refl _)
  · skip
    subst g5
    exact ret 0 (v3, f4) _ _ _ _ _ _ rfl ⟨(gsX_X10_untell_1_q1 hG2), hM_v3, hA_f4, hIv3, hk0_v3, hk1_v3, hk7_v3, hk8_v3, hk9_v3, hk10_v3, hk31_v3, hk32_v3, (Or.inr rfl)⟩ hP hD hS dX10_untell_12 (Nat.le_refl _) (Nat.le_refl _)
set_option maxHeartbeats 4000000 in
set_option maxRecDepth 100000 in
theorem sX_X10_later_1 (NF : Nat) (l : Launch) (dC : Nat → ClassId) (dI : Nat → Nat → Nat) (cy : Nat → ClassId) (x0 : Nat) (x : Nat → Nat) (p1 : Int32) (v : Nat → Int32) (f : Nat → Nat → Int32) (hIv : XI v)  : ctI l (dC, dI) cy yX10_later cX10_later 2 .int 1 60 0 0 ((Nat → Int32) × (Nat → Nat → Int32)) [.ref x0, .int p1] (XW cy x0 x v f) (fun r u => gsX_X10_later_1 NF p1 v f = (r, u) ∧ KV [0] u.1 v ∧ KF [] u.2 f ∧ XI u.1 ∧ u.1 1 = v 1 ∧ u.1 7 = v 7 ∧ u.1 8 = v 8 ∧ u.1 9 = v 9 ∧ u.1 10 = v 10 ∧ u.1 31 = v 31 ∧ u.1 32 = v 32) (fun u => XW cy x0 x u.1 u.2) := by
  refine ctI_of (by decide) (Nat.le_of_ble_eq_true rfl) (fun p e s m below meth c A ls Q hx hb hml hts hown hE hP hD hA hl ret => ?_)
  have hM_v : KV [0] v v := fun _ _ => rfl
  have hA_f : KF [] f f := fun _ _ => rfl
  have hown : s.vm.findClass RX10 = some m.cls := hown
  have hS : va_S A s.heap s.heap [] := va_S.rf
  have hl : lv_has ls 2 [(0, .ref x0), (1, .int p1)] := hl
  refine lv_iload_n hx hb dX10_later_0 rfl (lv_at hl 1 rfl) ?_
  refine lv_if_lt (tgt := 23) hx hb dX10_later_1 rfl (fun c1 => ?_) (fun c1 => ?_)
  · skip
    have zc1 : p1.toInt < 0 := by rw [fa_lt, show (0 : Int32).toInt = 0 from by decide] at c1; exact c1
    refine lv_iconst (v := (-1)) hx hb dX10_later_23 rfl ?_
    exact ret (-1) (v, f) _ _ _ _ _ _ rfl ⟨(gsX_X10_later_1_q0 c1), hM_v, hA_f, hIv, rfl, rfl, rfl, rfl, rfl, rfl, rfl⟩ hP hD hS dX10_later_24 (Nat.le_refl _) (Nat.le_refl _)
  · skip
    have zc1 : ¬ (p1.toInt < 0) := by rw [fa_lt, show (0 : Int32).toInt = 0 from by decide] at c1; exact c1
    refine lv_iload_n hx hb dX10_later_4 rfl (lv_at hl 1 rfl) ?_
    refine lv_sipush (v := 1000) hx hb dX10_later_5 rfl ?_
    refine lv_icmp_gt (tgt := 23) hx hb dX10_later_8 rfl (fun c2 => ?_) (fun c2 => ?_)
    · skip
      have zc2 : 1000 < p1.toInt := by rw [fa_lt, show (1000 : Int32).toInt = 1000 from by decide] at c2; exact c2
      refine lv_iconst (v := (-1)) hx hb dX10_later_23 rfl ?_
      exact ret (-1) (v, f) _ _ _ _ _ _ rfl ⟨(gsX_X10_later_1_q1 c1 c2), hM_v, hA_f, hIv, rfl, rfl, rfl, rfl, rfl, rfl, rfl⟩ hP hD hS dX10_later_24 (Nat.le_refl _) (Nat.le_refl _)
    · skip
      have zc2 : ¬ (1000 < p1.toInt) := by rw [fa_lt, show (1000 : Int32).toInt = 1000 from by decide] at c2; exact c2
      refine lv_aload_n hx hb dX10_later_11 rfl (lv_at hl 0 rfl) ?_
      refine va_get (D := (dC, dI)) (ci := 10) (v := .int (v 0)) (C := RX10) (T := TX10) (N := 10) hx hb hts inB_10 hown hE.1 hP 0 rfl rfl 9 (Nat.le_of_ble_eq_true rfl) (hts _ k_500) (fun _ h9 => h9) rfl dX10_later_12 ?_
      have b0_v : 0 ≤ (v 0).toInt ∧ (v 0).toInt ≤ 100000 := XI.b hIv 0 (by decide)
      refine lv_iload_n hx hb dX10_later_15 rfl (lv_at hl 1 rfl) ?_
      refine lv_iadd hx hb dX10_later_16 ?_
      refine lv_topi (fun t3 et3 => ?_)
      have rg4 := fb_rng (v 0)
      have rg5 := fb_rng p1
      have zt3 : t3.toInt = (v 0).toInt + p1.toInt := by rw [et3]; exact add_i rfl rfl (by omega) (by omega)
      refine lv_ldcw (v := 100000) hx hb hown (hts _ k_1242) dX10_later_17 ?_
      refine lv_icmp_le (tgt := 25) hx hb dX10_later_20 rfl (fun c6 => ?_) (fun c6 => ?_)
      · skip
        have zc6 : t3.toInt ≤ 100000 := by rw [fa_le, show (100000 : Int32).toInt = 100000 from by decide] at c6; exact c6
        refine lv_aload_n hx hb dX10_later_25 rfl (lv_at hl 0 rfl) ?_
        refine lv_dup hx hb dX10_later_26 rfl ?_
        refine va_get (D := (dC, dI)) (ci := 10) (v := .int (v 0)) (C := RX10) (T := TX10) (N := 10) hx hb hts inB_10 hown hE.1 hP 0 rfl rfl 9 (Nat.le_of_ble_eq_true rfl) (hts _ k_500) (fun _ h9 => h9) rfl dX10_later_27 ?_
        refine lv_iload_n hx hb dX10_later_30 rfl (lv_at hl 1 rfl) ?_
        refine lv_iadd hx hb dX10_later_31 ?_
        refine tI (y := t3) et3.symm ?_
        refine va_put (D := (dC, dI)) (ci := 10) (v := .int t3) (ty := tyX10 9) (C := RX10) (T := TX10) (N := 10) hx hb hts inB_10 tyX10 tyX10_ok nmX10 hown hE.1 hP hD hS 0 rfl rfl 9 (Nat.le_of_ble_eq_true rfl) (hts _ k_500) (fun _ h9 => h9) rfl (tyX10_ok 9 (by decide)) rfl rfl (Nat.le_of_ble_eq_true rfl) dX10_later_32 (fun H locs hP hD hS => ?_)
        have hP : va_P (dC, dI) vwCl (XW cy x0 x (upd v 0 t3) f) H := hP
        have hD : va_D A (XW cy x0 x (upd v 0 t3) f) := hD
        refine lv_aload_n hx hb dX10_later_35 rfl (lv_at hl 0 rfl) ?_
        refine va_get (D := (dC, dI)) (ci := 10) (v := .int t3) (C := RX10) (T := TX10) (N := 10) hx hb hts inB_10 hown hE.1 hP 0 rfl rfl 9 (Nat.le_of_ble_eq_true rfl) (hts _ k_500) (fun _ h9 => h9) rfl dX10_later_36 ?_
        exact ret t3 ((upd v 0 t3), f) _ _ _ _ _ _ rfl ⟨(gsX_X10_later_1_q2 c1 c2 et3 c6), (KV.up (j := 0) (x := t3) hM_v rfl), hA_f, (XI.upd (j := 0) (x := t3) hIv (show (0 : Int) ≤ t3.toInt by omega) (show t3.toInt ≤ (100000 : Int) by omega)), rfl, rfl, rfl, rfl, rfl, rfl, rfl⟩ hP hD hS dX10_later_39 (Nat.le_refl _) (Nat.le_refl _)
      · skip
        have zc6 : ¬ (t3.toInt ≤ 100000) := by rw [fa_le, show (100000 : Int32).toInt = 100000 from by decide] at c6; exact c6
        refine lv_iconst (v := (-1)) hx hb dX10_later_23 rfl ?_
        exact ret (-1) (v, f) _ _ _ _ _ _ rfl ⟨(gsX_X10_later_1_q3 c1 c2 et3 c6), hM_v, hA_f, hIv, rfl, rfl, rfl, rfl, rfl, rfl, rfl⟩ hP hD hS dX10_later_24 (Nat.le_refl _) (Nat.le_refl _)
set_option maxHeartbeats 4000000 in
set_option maxRecDepth 100000 in
theorem sX_X10_commonDivisor_1 (NF : Nat) (l : Launch) (dC : Nat → ClassId) (dI : Nat → Nat → Nat) (cy : Nat → ClassId) (x0 : Nat) (x : Nat → Nat) (p0 : Int32) (p1 : Int32) (v : Nat → Int32) (f : Nat → Nat → Int32) (hIv : XI v)  : ctI l (dC, dI) cy yX10_commonDivisor cX10_commonDivisor 6 .int 1 60 0 0 Unit [.int p0, .int p1] (XW cy x0 x v f) (fun r u => gsX_X10_commonDivisor_1 NF p0 p1 v f = r) (fun u => XW cy x0 x v f) := by
  refine ctI_of (by decide) (Nat.le_of_ble_eq_true rfl) (fun p e s m below meth c A ls Q hx hb hml hts hown hE hP hD hA hl ret => ?_)
  have hown : s.vm.findClass RX10 = some m.cls := hown
  have hS : va_S A s.heap s.heap [] := va_S.rf
  have hl : lv_has ls 6 [(0, .int p0), (1, .int p1)] := hl
  refine lv_iload_n hx hb dX10_commonDivisor_0 rfl (lv_at hl 0 rfl) ?_
  refine lv_istore_n (lv' := [(2, .int p0), (0, .int p0), (1, .int p1)]) hx hb dX10_commonDivisor_1 rfl hl (Nat.le_of_ble_eq_true rfl) rfl (fun ls hl => ?_)
  refine lv_iload_n hx hb dX10_commonDivisor_2 rfl (lv_at hl 2 rfl) ?_
  refine lv_istore_n (lv' := [(3, .int p1), (2, .int p0), (0, .int p0), (1, .int p1)]) hx hb dX10_commonDivisor_3 rfl hl (Nat.le_of_ble_eq_true rfl) rfl (fun ls hl => ?_)
  refine lv_iconst (v := 0) hx hb dX10_commonDivisor_4 rfl ?_
  refine lv_istore (lv' := [(4, .int 0), (3, .int p1), (2, .int p0), (0, .int p0), (1, .int p1)]) hx hb dX10_commonDivisor_5 hl (Nat.le_of_ble_eq_true rfl) rfl (fun ls hl => ?_)
  have lp1 : ∀ (n1 : Nat) (l2_1 : Int32) (l3_1 : Int32) (l4_1 : Int32), gsX_X10_commonDivisor_1_L1 NF n1 l2_1 l3_1 l4_1 = (gsX_X10_commonDivisor_1 NF p0 p1 v f) → ((0 : Int) ≤ l4_1.toInt ∧ l4_1.toInt ≤ 2147483647) → (2147483647 - l4_1.toInt).toNat < n1 → ∀ (H : Heap) (locs : List Loc) (ls : Array Slot), va_P (dC, dI) vwCl (XW cy x0 x v f) H → va_D A (XW cy x0 x v f) → va_S A s.heap H locs → lv_has ls 6 [(4, .int l4_1), (3, .int l3_1), (2, .int l2_1), (0, .int p0), (1, .int p1)] → W p l e { frames := 1, cells := 0, slots := 0, locals := 60 } s m ([.int p0, .int p1] : List Value).toArray below meth c H locs 0 0 Q (F0 m 7 ls []) := by
    intro n1
    induction n1 with
    | zero => intro l2_1 l3_1 l4_1 hT1 hr4_1 hm; exact absurd hm (Nat.not_lt_zero _)
    | succ n1 ih1 =>
      intro l2_1 l3_1 l4_1 hT1 hr4_1 hm1 H locs ls hP hD hS hl
      refine lv_iload hx hb dX10_commonDivisor_7 (lv_at hl 0 rfl) ?_
      refine lv_bipush (v := 100) hx hb dX10_commonDivisor_9 rfl ?_
      refine lv_icmp_ge (tgt := 34) hx hb dX10_commonDivisor_11 rfl (fun c2 => ?_) (fun c2 => ?_)
      · skip
        have zc2 : 100 ≤ l4_1.toInt := by rw [fa_le, show (100 : Int32).toInt = 100 from by decide] at c2; exact c2
        refine lv_iload_n hx hb dX10_commonDivisor_34 rfl (lv_at hl 2 rfl) ?_
        exact ret l2_1 () _ _ _ _ _ _ rfl (hT1.symm.trans (gsX_X10_commonDivisor_1_q0 c2)) hP hD hS dX10_commonDivisor_35 (Nat.le_refl _) (Nat.le_refl _)
      · skip
        have zc2 : ¬ (100 ≤ l4_1.toInt) := by rw [fa_le, show (100 : Int32).toInt = 100 from by decide] at c2; exact c2
        refine lv_iload_n hx hb dX10_commonDivisor_14 rfl (lv_at hl 1 rfl) ?_
        refine lv_if_eq (tgt := 34) hx hb dX10_commonDivisor_15 rfl (fun c3 => ?_) (fun c3 => ?_)
        · skip
          have zc3 : l3_1.toInt = 0 := by rw [fa_eq, show (0 : Int32).toInt = 0 from by decide] at c3; exact c3
          refine lv_iload_n hx hb dX10_commonDivisor_34 rfl (lv_at hl 2 rfl) ?_
          exact ret l2_1 () _ _ _ _ _ _ rfl (hT1.symm.trans (gsX_X10_commonDivisor_1_q1 c2 c3)) hP hD hS dX10_commonDivisor_35 (Nat.le_refl _) (Nat.le_refl _)
        · skip
          have zc3 : ¬ (l3_1.toInt = 0) := by rw [fa_eq, show (0 : Int32).toInt = 0 from by decide] at c3; exact c3
          refine lv_iload_n hx hb dX10_commonDivisor_18 rfl (lv_at hl 2 rfl) ?_
          refine lv_iload_n hx hb dX10_commonDivisor_19 rfl (lv_at hl 1 rfl) ?_
          refine lv_irem hx hb dX10_commonDivisor_20 (ne0 (by omega)) ?_
          refine lv_topi (fun t4 et4 => ?_)
          refine lv_istore (lv' := [(5, .int t4), (4, .int l4_1), (3, .int l3_1), (2, .int l2_1), (0, .int p0), (1, .int p1)]) hx hb dX10_commonDivisor_21 hl (Nat.le_of_ble_eq_true rfl) rfl (fun ls hl => ?_)
          refine lv_iload_n hx hb dX10_commonDivisor_23 rfl (lv_at hl 2 rfl) ?_
          refine lv_istore_n (lv' := [(2, .int l3_1), (5, .int t4), (4, .int l4_1), (3, .int l3_1), (0, .int p0), (1, .int p1)]) hx hb dX10_commonDivisor_24 rfl hl (Nat.le_of_ble_eq_true rfl) rfl (fun ls hl => ?_)
          refine lv_iload hx hb dX10_commonDivisor_25 (lv_at hl 1 rfl) ?_
          refine lv_istore_n (lv' := [(3, .int t4), (2, .int l3_1), (5, .int t4), (4, .int l4_1), (0, .int p0), (1, .int p1)]) hx hb dX10_commonDivisor_27 rfl hl (Nat.le_of_ble_eq_true rfl) rfl (fun ls hl => ?_)
          obtain ⟨t5, et5⟩ : ∃ y : Int32, y = l4_1 + 1 := ⟨_, rfl⟩
          have rg6 := fb_rng l4_1
          have zt5 : t5.toInt = l4_1.toInt + 1 := by rw [et5]; exact add_i rfl (by decide) (by omega) (by omega)
          refine lv_iinc (v := t5) (lv' := [(4, .int t5), (3, .int t4), (2, .int l3_1), (5, .int t4), (0, .int p0), (1, .int p1)]) hx hb dX10_commonDivisor_28 hl (k := 3) rfl (by rw [et5]; rfl) (by decide) rfl (fun ls hl => ?_)
          refine lv_goto (tgt := 7) hx hb dX10_commonDivisor_31 rfl ?_
          have rg7 := fb_rng t5
          exact ih1 l3_1 t4 t5 ((gsX_X10_commonDivisor_1_q2 c2 c3 et4 et5).symm.trans hT1) ⟨show (0 : Int) ≤ t5.toInt by omega, show t5.toInt ≤ (2147483647 : Int) by omega⟩ (by show (2147483647 - t5.toInt).toNat < n1; omega) _ _ _ hP hD hS (lv_sub hl [0, 1, 2, 4, 5] rfl)
  exact lp1 (4294967296 + NF) p0 p1 0 gsX_X10_commonDivisor_1_q3.symm ⟨by decide, by decide⟩ (by have q4 : (0 : Int32).toInt = 0 := (by decide); show (2147483647 - (0 : Int32).toInt).toNat < 4294967296 + NF; omega) _ _ _ hP hD hS (lv_sub hl [0, 1, 2, 3, 4] rfl)
set_option maxHeartbeats 4000000 in
set_option maxRecDepth 100000 in
theorem sX_X10_odds_1 (NF : Nat) (l : Launch) (dC : Nat → ClassId) (dI : Nat → Nat → Nat) (cy : Nat → ClassId) (x0 : Nat) (x : Nat → Nat) (p1 : Int32) (p2 : Int32) (v : Nat → Int32) (f : Nat → Nat → Int32) (hIv : XI v)  : ctI l (dC, dI) cy yX10_odds cX10_odds 6 .int 2 85 0 0 Unit [.ref x0, .int p1, .int p2] (XW cy x0 x v f) (fun r u => gsX_X10_odds_1 NF p1 p2 v f = r) (fun u => XW cy x0 x v f) := by
  refine ctI_of (by decide) (Nat.le_of_ble_eq_true rfl) (fun p e s m below meth c A ls Q hx hb hml hts hown hE hP hD hA hl ret => ?_)
  have hown : s.vm.findClass RX10 = some m.cls := hown
  have hS : va_S A s.heap s.heap [] := va_S.rf
  have hl : lv_has ls 6 [(0, .ref x0), (1, .int p1), (2, .int p2)] := hl
  refine lv_iload_n hx hb dX10_odds_0 rfl (lv_at hl 1 rfl) ?_
  refine lv_if_lt (tgt := 18) hx hb dX10_odds_1 rfl (fun c1 => ?_) (fun c1 => ?_)
  · skip
    have zc1 : p1.toInt < 0 := by rw [fa_lt, show (0 : Int32).toInt = 0 from by decide] at c1; exact c1
    refine lv_iconst (v := (-1)) hx hb dX10_odds_18 rfl ?_
    exact ret (-1) () _ _ _ _ _ _ rfl (gsX_X10_odds_1_q0 c1) hP hD hS dX10_odds_19 (Nat.le_refl _) (Nat.le_refl _)
  · skip
    have zc1 : ¬ (p1.toInt < 0) := by rw [fa_lt, show (0 : Int32).toInt = 0 from by decide] at c1; exact c1
    refine lv_iload_n hx hb dX10_odds_4 rfl (lv_at hl 1 rfl) ?_
    refine lv_iconst (v := 4) hx hb dX10_odds_5 rfl ?_
    refine lv_icmp_gt (tgt := 18) hx hb dX10_odds_6 rfl (fun c2 => ?_) (fun c2 => ?_)
    · skip
      have zc2 : 4 < p1.toInt := by rw [fa_lt, show (4 : Int32).toInt = 4 from by decide] at c2; exact c2
      refine lv_iconst (v := (-1)) hx hb dX10_odds_18 rfl ?_
      exact ret (-1) () _ _ _ _ _ _ rfl (gsX_X10_odds_1_q1 c1 c2) hP hD hS dX10_odds_19 (Nat.le_refl _) (Nat.le_refl _)
    · skip
      have zc2 : ¬ (4 < p1.toInt) := by rw [fa_lt, show (4 : Int32).toInt = 4 from by decide] at c2; exact c2
      refine lv_iload_n hx hb dX10_odds_9 rfl (lv_at hl 2 rfl) ?_
      refine lv_if_lt (tgt := 18) hx hb dX10_odds_10 rfl (fun c3 => ?_) (fun c3 => ?_)
      · skip
        have zc3 : p2.toInt < 0 := by rw [fa_lt, show (0 : Int32).toInt = 0 from by decide] at c3; exact c3
        refine lv_iconst (v := (-1)) hx hb dX10_odds_18 rfl ?_
        exact ret (-1) () _ _ _ _ _ _ rfl (gsX_X10_odds_1_q2 c1 c2 c3) hP hD hS dX10_odds_19 (Nat.le_refl _) (Nat.le_refl _)
      · skip
        have zc3 : ¬ (p2.toInt < 0) := by rw [fa_lt, show (0 : Int32).toInt = 0 from by decide] at c3; exact c3
        refine lv_iload_n hx hb dX10_odds_13 rfl (lv_at hl 2 rfl) ?_
        refine lv_iconst (v := 1) hx hb dX10_odds_14 rfl ?_
        refine lv_icmp_le (tgt := 20) hx hb dX10_odds_15 rfl (fun c4 => ?_) (fun c4 => ?_)
        · skip
          have zc4 : p2.toInt ≤ 1 := by rw [fa_le, show (1 : Int32).toInt = 1 from by decide] at c4; exact c4
          refine lv_iconst (v := 1) hx hb dX10_odds_20 rfl ?_
          refine lv_istore_n (lv' := [(3, .int 1), (0, .ref x0), (1, .int p1), (2, .int p2)]) hx hb dX10_odds_21 rfl hl (Nat.le_of_ble_eq_true rfl) rfl (fun ls hl => ?_)
          refine lv_iconst (v := 1) hx hb dX10_odds_22 rfl ?_
          refine lv_istore (lv' := [(4, .int 1), (3, .int 1), (0, .ref x0), (1, .int p1), (2, .int p2)]) hx hb dX10_odds_23 hl (Nat.le_of_ble_eq_true rfl) rfl (fun ls hl => ?_)
          refine lv_iconst (v := 0) hx hb dX10_odds_25 rfl ?_
          refine lv_istore (lv' := [(5, .int 0), (4, .int 1), (3, .int 1), (0, .ref x0), (1, .int p1), (2, .int p2)]) hx hb dX10_odds_26 hl (Nat.le_of_ble_eq_true rfl) rfl (fun ls hl => ?_)
          have lp5 : ∀ (n5 : Nat) (l3_5 : Int32) (l4_5 : Int32) (l5_5 : Int32), gsX_X10_odds_1_L5 NF p1 p2 v f n5 l3_5 l4_5 l5_5 = (gsX_X10_odds_1 NF p1 p2 v f) → ((0 : Int) ≤ l5_5.toInt ∧ l5_5.toInt ≤ 2147483647) → (2147483647 - l5_5.toInt).toNat < n5 → ∀ (H : Heap) (locs : List Loc) (ls : Array Slot), va_P (dC, dI) vwCl (XW cy x0 x v f) H → va_D A (XW cy x0 x v f) → va_S A s.heap H locs → lv_has ls 6 [(5, .int l5_5), (4, .int l4_5), (3, .int l3_5), (0, .ref x0), (1, .int p1), (2, .int p2)] → W p l e { frames := 2, cells := 0, slots := 0, locals := 85 } s m ([.ref x0, .int p1, .int p2] : List Value).toArray below meth c H locs 0 0 Q (F0 m 28 ls []) := by
            intro n5
            induction n5 with
            | zero => intro l3_5 l4_5 l5_5 hT5 hr5_5 hm; exact absurd hm (Nat.not_lt_zero _)
            | succ n5 ih5 =>
              intro l3_5 l4_5 l5_5 hT5 hr5_5 hm5 H locs ls hP hD hS hl
              refine lv_iload hx hb dX10_odds_28 (lv_at hl 0 rfl) ?_
              refine lv_iload_n hx hb dX10_odds_30 rfl (lv_at hl 4 rfl) ?_
              refine lv_icmp_ge (tgt := 60) hx hb dX10_odds_31 rfl (fun c6 => ?_) (fun c6 => ?_)
              · skip
                have zc6 : p1.toInt ≤ l5_5.toInt := by rw [fa_le] at c6; exact c6
                have rg7 := fb_rng l5_5
                have rg8 := fb_rng p1
                refine lv_iload hx hb dX10_odds_60 (lv_at hl 1 rfl) ?_
                refine lv_iload_n hx hb dX10_odds_62 rfl (lv_at hl 2 rfl) ?_
                refine cbSi (n := 2) (rest := []) hx hb hml hown hts hE hP hD hS hA (sX_X10_commonDivisor_1 NF l dC dI cy x0 x l4_5 l3_5 v f hIv ) k_1211 k_1212 k_101 k_1213 (by decide +kernel) ⟨Nat.le_of_ble_eq_true rfl, Nat.le_of_ble_eq_true rfl⟩ (rfl) hl.1 rfl (Nat.le_of_ble_eq_true rfl) dX10_odds_63 (fun r9 u H locs hw hP hD hS => ?_)
                have hG10 := hw
                refine lv_istore (lv' := [(5, .int r9), (4, .int l4_5), (3, .int l3_5), (0, .ref x0), (1, .int p1), (2, .int p2)]) hx hb dX10_odds_66 hl (Nat.le_of_ble_eq_true rfl) rfl (fun ls hl => ?_)
                refine lv_iload hx hb dX10_odds_68 (lv_at hl 0 rfl) ?_
                refine lv_iconst (v := 1) hx hb dX10_odds_70 rfl ?_
                refine lv_icmp_ge (tgt := 76) hx hb dX10_odds_71 rfl (fun c11 => ?_) (fun c11 => ?_)
                · skip
                  have zc11 : 1 ≤ r9.toInt := by rw [fa_le, show (1 : Int32).toInt = 1 from by decide] at c11; exact c11
                  refine lv_iload_n hx hb dX10_odds_76 rfl (lv_at hl 5 rfl) ?_
                  refine lv_if_ne (tgt := 84) hx hb dX10_odds_77 rfl (fun c12 => ?_) (fun c12 => ?_)
                  · skip
                    have zc12 : ¬ (p2.toInt = 0) := by rw [fa_eq, show (0 : Int32).toInt = 0 from by decide] at c12; exact c12
                    refine lv_iload hx hb dX10_odds_84 (lv_at hl 1 rfl) ?_
                    refine lv_iload hx hb dX10_odds_86 (lv_at hl 0 rfl) ?_
                    refine lv_idiv hx hb dX10_odds_88 (ne0 (by omega)) ?_
                    refine lv_topi (fun t13 et13 => ?_)
                    exact ret t13 () _ _ _ _ _ _ rfl (hT5.symm.trans (gsX_X10_odds_1_q3 c6 hG10.symm c11 c12 et13)) hP hD hS dX10_odds_89 (Nat.le_refl _) (Nat.le_refl _)
                  · skip
                    have zc12 : p2.toInt = 0 := by rw [fa_eq, show (0 : Int32).toInt = 0 from by decide] at c12; exact c12
                    refine lv_iload_n hx hb dX10_odds_80 rfl (lv_at hl 2 rfl) ?_
                    refine lv_goto (tgt := 86) hx hb dX10_odds_81 rfl ?_
                    refine lv_iload hx hb dX10_odds_86 (lv_at hl 0 rfl) ?_
                    refine lv_idiv hx hb dX10_odds_88 (ne0 (by omega)) ?_
                    refine lv_topi (fun t14 et14 => ?_)
                    exact ret t14 () _ _ _ _ _ _ rfl (hT5.symm.trans (gsX_X10_odds_1_q4 c6 hG10.symm c11 c12 et14)) hP hD hS dX10_odds_89 (Nat.le_refl _) (Nat.le_refl _)
                · skip
                  have zc11 : ¬ (1 ≤ r9.toInt) := by rw [fa_le, show (1 : Int32).toInt = 1 from by decide] at c11; exact c11
                  refine lv_iconst (v := (-1)) hx hb dX10_odds_74 rfl ?_
                  exact ret (-1) () _ _ _ _ _ _ rfl (hT5.symm.trans (gsX_X10_odds_1_q5 c6 hG10.symm c11)) hP hD hS dX10_odds_75 (Nat.le_refl _) (Nat.le_refl _)
              · skip
                have zc6 : ¬ (p1.toInt ≤ l5_5.toInt) := by rw [fa_le] at c6; exact c6
                have rg15 := fb_rng l5_5
                have rg16 := fb_rng p1
                refine lv_iload_n hx hb dX10_odds_34 rfl (lv_at hl 2 rfl) ?_
                refine lv_bipush (v := 100) hx hb dX10_odds_35 rfl ?_
                refine lv_aload_n hx hb dX10_odds_37 rfl (lv_at hl 3 rfl) ?_
                refine va_get (D := (dC, dI)) (ci := 10) (v := .ref (x 26)) (C := RX10) (T := TX10) (N := 10) hx hb hts inB_10 hown hE.1 hP 0 rfl rfl 2 (Nat.le_of_ble_eq_true rfl) (hts _ k_493) (fun _ h9 => h9) rfl dX10_odds_38 ?_
                refine va_getN (D := (dC, dI)) (ci := 7) (v := .int (v 36)) (C := RX7) (T := TX7) (N := 10) hx hb hts inB_7 hown hE.1 hP 27 rfl rfl 8 (Nat.le_of_ble_eq_true rfl) (va_Nw.use rfl (hE.2 _ k_241)) (fun _ h9 => h9) rfl dX10_odds_41 ?_
                refine lv_isub hx hb dX10_odds_44 ?_
                refine lv_topi (fun t17 et17 => ?_)
                refine lv_imul hx hb dX10_odds_45 ?_
                refine lv_topi (fun t18 et18 => ?_)
                refine lv_istore_n (lv' := [(3, .int t18), (5, .int l5_5), (4, .int l4_5), (0, .ref x0), (1, .int p1), (2, .int p2)]) hx hb dX10_odds_46 rfl hl (Nat.le_of_ble_eq_true rfl) rfl (fun ls hl => ?_)
                refine lv_iload hx hb dX10_odds_47 (lv_at hl 2 rfl) ?_
                refine lv_bipush (v := 100) hx hb dX10_odds_49 rfl ?_
                refine lv_imul hx hb dX10_odds_51 ?_
                refine lv_topi (fun t19 et19 => ?_)
                refine lv_istore (lv' := [(4, .int t19), (3, .int t18), (5, .int l5_5), (0, .ref x0), (1, .int p1), (2, .int p2)]) hx hb dX10_odds_52 hl (Nat.le_of_ble_eq_true rfl) rfl (fun ls hl => ?_)
                obtain ⟨t20, et20⟩ : ∃ y : Int32, y = l5_5 + 1 := ⟨_, rfl⟩
                have zt20 : t20.toInt = l5_5.toInt + 1 := by rw [et20]; exact add_i rfl (by decide) (by omega) (by omega)
                refine lv_iinc (v := t20) (lv' := [(5, .int t20), (4, .int t19), (3, .int t18), (0, .ref x0), (1, .int p1), (2, .int p2)]) hx hb dX10_odds_54 hl (k := 2) rfl (by rw [et20]; rfl) (by decide) rfl (fun ls hl => ?_)
                refine lv_goto (tgt := 28) hx hb dX10_odds_57 rfl ?_
                have rg21 := fb_rng t20
                exact ih5 t18 t19 t20 ((gsX_X10_odds_1_q6 c6 et17 et18 et19 et20).symm.trans hT5) ⟨show (0 : Int) ≤ t20.toInt by omega, show t20.toInt ≤ (2147483647 : Int) by omega⟩ (by show (2147483647 - t20.toInt).toNat < n5; omega) _ _ _ hP hD hS (lv_sub hl [0, 1, 2, 3, 4, 5] rfl)
          exact lp5 (4294967296 + NF) 1 1 0 (gsX_X10_odds_1_q7 c1 c2 c3 c4).symm ⟨by decide, by decide⟩ (by have q5 : (0 : Int32).toInt = 0 := (by decide); have q4 : (1 : Int32).toInt = 1 := (by decide); have q3 : (1 : Int32).toInt = 1 := (by decide); show (2147483647 - (0 : Int32).toInt).toNat < 4294967296 + NF; omega) _ _ _ hP hD hS (lv_sub hl [0, 1, 2, 3, 4, 5] rfl)
        · skip
          have zc4 : ¬ (p2.toInt ≤ 1) := by rw [fa_le, show (1 : Int32).toInt = 1 from by decide] at c4; exact c4
          refine lv_iconst (v := (-1)) hx hb dX10_odds_18 rfl ?_
          exact ret (-1) () _ _ _ _ _ _ rfl (gsX_X10_odds_1_q8 c1 c2 c3 c4) hP hD hS dX10_odds_19 (Nat.le_refl _) (Nat.le_refl _)
set_option maxHeartbeats 4000000 in
set_option maxRecDepth 100000 in
theorem sX_X1_manWide_1 (l : Launch) (dC : Nat → ClassId) (dI : Nat → Nat → Nat) (cy : Nat → ClassId) (x0 : Nat) (x : Nat → Nat) (p1 : Int32) (v : Nat → Int32) (f : Nat → Nat → Int32) (hIv : XI v)  : ctI l (dC, dI) cy yX1_manWide cX1_manWide 2 .int 2 81 0 0 Unit [.ref (x 21), .int p1] (XW cy x0 x v f) (fun r u => True) (fun u => XW cy x0 x v f) := by
  refine ctI_of (by decide) (Nat.le_of_ble_eq_true rfl) (fun p e s m below meth c A ls Q hx hb hml hts hown hE hP hD hA hl ret => ?_)
  have hown : s.vm.findClass RX1 = some m.cls := hown
  have hS : va_S A s.heap s.heap [] := va_S.rf
  have hl : lv_has ls 2 [(0, .ref (x 21)), (1, .int p1)] := hl
  refine lv_aload_n hx hb dX1_manWide_0 rfl (lv_at hl 0 rfl) ?_
  refine va_get (D := (dC, dI)) (ci := 1) (v := .ref (x 26)) (C := RX1) (T := TX1) (N := 2) hx hb hts inB_1 hown hE.1 hP 22 rfl rfl 0 (Nat.le_of_ble_eq_true rfl) (hts _ k_318) (fun _ h9 => h9) rfl dX1_manWide_1 ?_
  refine lv_iload_n hx hb dX1_manWide_4 rfl (lv_at hl 1 rfl) ?_
  refine cbVi (n := 1) (rest := []) hx hb hml hown hts hE hP hD hS hA (sX_X7_hasMan_1 0 l dC dI cy x0 x p1 v f hIv ) k_808 k_307 k_308 k_104 k_309 (by decide +kernel) ⟨Nat.le_of_ble_eq_true rfl, Nat.le_of_ble_eq_true rfl⟩ 27 7 rfl rfl (rfl) hl.1 rfl (Nat.le_of_ble_eq_true rfl) dX1_manWide_5 (fun r1 u H locs hw hP hD hS => ?_)
  obtain ⟨hG2, hw⟩ := hw
  rcases hw with ⟨g3, g3_0, g3_1, g3_2⟩ | ⟨g3⟩
  · skip
    subst g3
    refine lv_if_eq (tgt := 20) hx hb dX1_manWide_8 rfl (fun c0 => absurd c0 (by decide)) (fun _ => ?_)
    refine lv_aload_n hx hb dX1_manWide_11 rfl (lv_at hl 0 rfl) ?_
    refine va_get (D := (dC, dI)) (ci := 1) (v := .ref (x 22)) (C := RX1) (T := TX1) (N := 2) hx hb hts inB_1 hown hE.1 hP 22 rfl rfl 1 (Nat.le_of_ble_eq_true rfl) (hts _ k_319) (fun _ h9 => h9) rfl dX1_manWide_12 ?_
    refine lv_iload_n hx hb dX1_manWide_15 rfl (lv_at hl 1 rfl) ?_
    refine ldI hx hb hE hP 23 rfl (vp_in_iff.mpr ⟨by omega, by omega⟩) rfl rfl dX1_manWide_16 ?_
    refine lv_topi (fun t4 et4 => ?_)
    refine lv_goto (tgt := 21) hx hb dX1_manWide_17 rfl ?_
    exact ret t4 () _ _ _ _ _ _ rfl trivial hP hD hS dX1_manWide_21 (Nat.le_refl _) (Nat.le_refl _)
  · skip
    subst g3
    refine lv_if_eq (tgt := 20) hx hb dX1_manWide_8 rfl (fun _ => ?_) (fun c0 => absurd (by decide) c0)
    refine lv_iconst (v := 0) hx hb dX1_manWide_20 rfl ?_
    exact ret 0 () _ _ _ _ _ _ rfl trivial hP hD hS dX1_manWide_21 (Nat.le_refl _) (Nat.le_refl _)
set_option maxHeartbeats 4000000 in
set_option maxRecDepth 100000 in
theorem sX_X1_wears_1 (l : Launch) (dC : Nat → ClassId) (dI : Nat → Nat → Nat) (cy : Nat → ClassId) (x0 : Nat) (x : Nat → Nat) (p1 : Int32) (v : Nat → Int32) (f : Nat → Nat → Int32) (hIv : XI v)  : ctI l (dC, dI) cy yX1_wears cX1_wears 2 .int 2 81 0 0 Unit [.ref (x 21), .int p1] (XW cy x0 x v f) (fun r u => True) (fun u => XW cy x0 x v f) := by
  refine ctI_of (by decide) (Nat.le_of_ble_eq_true rfl) (fun p e s m below meth c A ls Q hx hb hml hts hown hE hP hD hA hl ret => ?_)
  have hown : s.vm.findClass RX1 = some m.cls := hown
  have hS : va_S A s.heap s.heap [] := va_S.rf
  have hl : lv_has ls 2 [(0, .ref (x 21)), (1, .int p1)] := hl
  refine lv_aload_n hx hb dX1_wears_0 rfl (lv_at hl 0 rfl) ?_
  refine va_get (D := (dC, dI)) (ci := 1) (v := .ref (x 26)) (C := RX1) (T := TX1) (N := 2) hx hb hts inB_1 hown hE.1 hP 22 rfl rfl 0 (Nat.le_of_ble_eq_true rfl) (hts _ k_318) (fun _ h9 => h9) rfl dX1_wears_1 ?_
  refine lv_iload_n hx hb dX1_wears_4 rfl (lv_at hl 1 rfl) ?_
  refine cbVi (n := 1) (rest := []) hx hb hml hown hts hE hP hD hS hA (sX_X7_hasMan_1 0 l dC dI cy x0 x p1 v f hIv ) k_808 k_307 k_308 k_104 k_309 (by decide +kernel) ⟨Nat.le_of_ble_eq_true rfl, Nat.le_of_ble_eq_true rfl⟩ 27 7 rfl rfl (rfl) hl.1 rfl (Nat.le_of_ble_eq_true rfl) dX1_wears_5 (fun r1 u H locs hw hP hD hS => ?_)
  obtain ⟨hG2, hw⟩ := hw
  rcases hw with ⟨g3, g3_0, g3_1, g3_2⟩ | ⟨g3⟩
  · skip
    subst g3
    refine lv_if_eq (tgt := 23) hx hb dX1_wears_8 rfl (fun c0 => absurd c0 (by decide)) (fun _ => ?_)
    refine lv_aload_n hx hb dX1_wears_11 rfl (lv_at hl 0 rfl) ?_
    refine va_get (D := (dC, dI)) (ci := 1) (v := .ref (x 22)) (C := RX1) (T := TX1) (N := 2) hx hb hts inB_1 hown hE.1 hP 22 rfl rfl 1 (Nat.le_of_ble_eq_true rfl) (hts _ k_319) (fun _ h9 => h9) rfl dX1_wears_12 ?_
    refine lv_bipush (v := 6) hx hb dX1_wears_15 rfl ?_
    refine lv_iload_n hx hb dX1_wears_17 rfl (lv_at hl 1 rfl) ?_
    refine lv_iadd hx hb dX1_wears_18 ?_
    refine lv_topi (fun t4 et4 => ?_)
    have rg5 := fb_rng p1
    have zt4 : t4.toInt = 6 + p1.toInt := by rw [et4]; exact add_i (by decide) rfl (by omega) (by omega)
    refine ldI hx hb hE hP 23 rfl (vp_in_iff.mpr ⟨by omega, by omega⟩) rfl rfl dX1_wears_19 ?_
    refine lv_topi (fun t6 et6 => ?_)
    refine lv_goto (tgt := 24) hx hb dX1_wears_20 rfl ?_
    exact ret t6 () _ _ _ _ _ _ rfl trivial hP hD hS dX1_wears_24 (Nat.le_refl _) (Nat.le_refl _)
  · skip
    subst g3
    refine lv_if_eq (tgt := 23) hx hb dX1_wears_8 rfl (fun _ => ?_) (fun c0 => absurd (by decide) c0)
    refine lv_iconst (v := (-1)) hx hb dX1_wears_23 rfl ?_
    exact ret (-1) () _ _ _ _ _ _ rfl trivial hP hD hS dX1_wears_24 (Nat.le_refl _) (Nat.le_refl _)
set_option maxHeartbeats 4000000 in
set_option maxRecDepth 100000 in
theorem sX_X1_part_1 (l : Launch) (dC : Nat → ClassId) (dI : Nat → Nat → Nat) (cy : Nat → ClassId) (x0 : Nat) (x : Nat → Nat) (p1 : Int32) (p2 : Int32) (v : Nat → Int32) (f : Nat → Nat → Int32) (hIv : XI v)  : ctI l (dC, dI) cy yX1_part cX1_part 4 .int 2 81 0 0 Unit [.ref (x 21), .int p1, .int p2] (XW cy x0 x v f) (fun r u => True) (fun u => XW cy x0 x v f) := by
  refine ctI_of (by decide) (Nat.le_of_ble_eq_true rfl) (fun p e s m below meth c A ls Q hx hb hml hts hown hE hP hD hA hl ret => ?_)
  have hown : s.vm.findClass RX1 = some m.cls := hown
  have hS : va_S A s.heap s.heap [] := va_S.rf
  have hl : lv_has ls 4 [(0, .ref (x 21)), (1, .int p1), (2, .int p2)] := hl
  refine lv_aload_n hx hb dX1_part_0 rfl (lv_at hl 0 rfl) ?_
  refine va_get (D := (dC, dI)) (ci := 1) (v := .ref (x 26)) (C := RX1) (T := TX1) (N := 2) hx hb hts inB_1 hown hE.1 hP 22 rfl rfl 0 (Nat.le_of_ble_eq_true rfl) (hts _ k_318) (fun _ h9 => h9) rfl dX1_part_1 ?_
  refine lv_iload_n hx hb dX1_part_4 rfl (lv_at hl 2 rfl) ?_
  refine cbVi (n := 1) (rest := []) hx hb hml hown hts hE hP hD hS hA (sX_X7_hasCoat_1 0 l dC dI cy x0 x p2 v f hIv ) k_821 k_315 k_316 k_104 k_317 (by decide +kernel) ⟨Nat.le_of_ble_eq_true rfl, Nat.le_of_ble_eq_true rfl⟩ 27 7 rfl rfl (rfl) hl.1 rfl (Nat.le_of_ble_eq_true rfl) dX1_part_5 (fun r1 u H locs hw hP hD hS => ?_)
  obtain ⟨hG2, hw⟩ := hw
  rcases hw with ⟨g3, g3_0, g3_1, g3_2⟩ | ⟨g3⟩
  · skip
    subst g3
    refine lv_if_eq (tgt := 24) hx hb dX1_part_8 rfl (fun c0 => absurd c0 (by decide)) (fun _ => ?_)
    refine lv_iload_n hx hb dX1_part_11 rfl (lv_at hl 1 rfl) ?_
    refine lv_if_lt (tgt := 24) hx hb dX1_part_12 rfl (fun c4 => ?_) (fun c4 => ?_)
    · skip
      have zc4 : p1.toInt < 0 := by rw [fa_lt, show (0 : Int32).toInt = 0 from by decide] at c4; exact c4
      refine lv_iconst (v := 0) hx hb dX1_part_24 rfl ?_
      refine lv_istore_n (lv' := [(3, .int 0), (0, .ref (x 21)), (1, .int p1), (2, .int p2)]) hx hb dX1_part_25 rfl hl (Nat.le_of_ble_eq_true rfl) rfl (fun ls hl => ?_)
      refine lv_iload_n hx hb dX1_part_26 rfl (lv_at hl 0 rfl) ?_
      refine lv_if_eq (tgt := 47) hx hb dX1_part_27 rfl (fun _ => ?_) (fun c0 => absurd (by decide) c0)
      refine lv_iconst (v := 0) hx hb dX1_part_47 rfl ?_
      exact ret 0 () _ _ _ _ _ _ rfl trivial hP hD hS dX1_part_48 (Nat.le_refl _) (Nat.le_refl _)
    · skip
      have zc4 : ¬ (p1.toInt < 0) := by rw [fa_lt, show (0 : Int32).toInt = 0 from by decide] at c4; exact c4
      refine lv_iload_n hx hb dX1_part_15 rfl (lv_at hl 1 rfl) ?_
      refine lv_iconst (v := 5) hx hb dX1_part_16 rfl ?_
      refine lv_icmp_ge (tgt := 24) hx hb dX1_part_17 rfl (fun c5 => ?_) (fun c5 => ?_)
      · skip
        have zc5 : 5 ≤ p1.toInt := by rw [fa_le, show (5 : Int32).toInt = 5 from by decide] at c5; exact c5
        refine lv_iconst (v := 0) hx hb dX1_part_24 rfl ?_
        refine lv_istore_n (lv' := [(3, .int 0), (0, .ref (x 21)), (1, .int p1), (2, .int p2)]) hx hb dX1_part_25 rfl hl (Nat.le_of_ble_eq_true rfl) rfl (fun ls hl => ?_)
        refine lv_iload_n hx hb dX1_part_26 rfl (lv_at hl 0 rfl) ?_
        refine lv_if_eq (tgt := 47) hx hb dX1_part_27 rfl (fun _ => ?_) (fun c0 => absurd (by decide) c0)
        refine lv_iconst (v := 0) hx hb dX1_part_47 rfl ?_
        exact ret 0 () _ _ _ _ _ _ rfl trivial hP hD hS dX1_part_48 (Nat.le_refl _) (Nat.le_refl _)
      · skip
        have zc5 : ¬ (5 ≤ p1.toInt) := by rw [fa_le, show (5 : Int32).toInt = 5 from by decide] at c5; exact c5
        refine lv_iconst (v := 1) hx hb dX1_part_20 rfl ?_
        refine lv_goto (tgt := 25) hx hb dX1_part_21 rfl ?_
        refine lv_istore_n (lv' := [(3, .int 1), (0, .ref (x 21)), (1, .int p1), (2, .int p2)]) hx hb dX1_part_25 rfl hl (Nat.le_of_ble_eq_true rfl) rfl (fun ls hl => ?_)
        refine lv_iload_n hx hb dX1_part_26 rfl (lv_at hl 0 rfl) ?_
        refine lv_if_eq (tgt := 47) hx hb dX1_part_27 rfl (fun c0 => absurd c0 (by decide)) (fun _ => ?_)
        refine lv_aload_n hx hb dX1_part_30 rfl (lv_at hl 1 rfl) ?_
        refine va_get (D := (dC, dI)) (ci := 1) (v := .ref (x 22)) (C := RX1) (T := TX1) (N := 2) hx hb hts inB_1 hown hE.1 hP 22 rfl rfl 1 (Nat.le_of_ble_eq_true rfl) (hts _ k_319) (fun _ h9 => h9) rfl dX1_part_31 ?_
        refine lv_bipush (v := 12) hx hb dX1_part_34 rfl ?_
        refine lv_iload_n hx hb dX1_part_36 rfl (lv_at hl 2 rfl) ?_
        refine lv_bipush (v := 6) hx hb dX1_part_37 rfl ?_
        refine lv_imul hx hb dX1_part_39 ?_
        refine lv_topi (fun t6 et6 => ?_)
        have rg7 := fb_rng p1
        have zt6 : t6.toInt = p1.toInt * 6 := by rw [et6]; exact mul_i rfl (by decide) (by omega) (by omega)
        refine lv_iadd hx hb dX1_part_40 ?_
        refine lv_topi (fun t8 et8 => ?_)
        have rg9 := fb_rng t6
        have zt8 : t8.toInt = 12 + t6.toInt := by rw [et8]; exact add_i (by decide) rfl (by omega) (by omega)
        refine lv_iload_n hx hb dX1_part_41 rfl (lv_at hl 3 rfl) ?_
        refine lv_iadd hx hb dX1_part_42 ?_
        refine lv_topi (fun t10 et10 => ?_)
        have rg11 := fb_rng t8
        have rg12 := fb_rng p2
        have zt10 : t10.toInt = t8.toInt + p2.toInt := by rw [et10]; exact add_i rfl rfl (by omega) (by omega)
        refine ldI hx hb hE hP 23 rfl (vp_in_iff.mpr ⟨by omega, by omega⟩) rfl rfl dX1_part_43 ?_
        refine lv_topi (fun t13 et13 => ?_)
        refine lv_goto (tgt := 48) hx hb dX1_part_44 rfl ?_
        exact ret t13 () _ _ _ _ _ _ rfl trivial hP hD hS dX1_part_48 (Nat.le_refl _) (Nat.le_refl _)
  · skip
    subst g3
    refine lv_if_eq (tgt := 24) hx hb dX1_part_8 rfl (fun _ => ?_) (fun c0 => absurd (by decide) c0)
    refine lv_iconst (v := 0) hx hb dX1_part_24 rfl ?_
    refine lv_istore_n (lv' := [(3, .int 0), (0, .ref (x 21)), (1, .int p1), (2, .int p2)]) hx hb dX1_part_25 rfl hl (Nat.le_of_ble_eq_true rfl) rfl (fun ls hl => ?_)
    refine lv_iload_n hx hb dX1_part_26 rfl (lv_at hl 0 rfl) ?_
    refine lv_if_eq (tgt := 47) hx hb dX1_part_27 rfl (fun _ => ?_) (fun c0 => absurd (by decide) c0)
    refine lv_iconst (v := 0) hx hb dX1_part_47 rfl ?_
    exact ret 0 () _ _ _ _ _ _ rfl trivial hP hD hS dX1_part_48 (Nat.le_refl _) (Nat.le_refl _)
set_option maxHeartbeats 4000000 in
set_option maxRecDepth 100000 in
theorem sX_X1_today_1 (l : Launch) (dC : Nat → ClassId) (dI : Nat → Nat → Nat) (cy : Nat → ClassId) (x0 : Nat) (x : Nat → Nat)  (v : Nat → Int32) (f : Nat → Nat → Int32) (hIv : XI v)  : ctI l (dC, dI) cy yX1_today cX1_today 1 .int 1 60 0 0 Unit [.ref (x 21)] (XW cy x0 x v f) (fun r u => True) (fun u => XW cy x0 x v f) := by
  refine ctI_of (by decide) (Nat.le_of_ble_eq_true rfl) (fun p e s m below meth c A ls Q hx hb hml hts hown hE hP hD hA hl ret => ?_)
  have hown : s.vm.findClass RX1 = some m.cls := hown
  have hS : va_S A s.heap s.heap [] := va_S.rf
  have hl : lv_has ls 1 [(0, .ref (x 21))] := hl
  refine lv_aload_n hx hb dX1_today_0 rfl (lv_at hl 0 rfl) ?_
  refine va_get (D := (dC, dI)) (ci := 1) (v := .ref (x 22)) (C := RX1) (T := TX1) (N := 2) hx hb hts inB_1 hown hE.1 hP 22 rfl rfl 1 (Nat.le_of_ble_eq_true rfl) (hts _ k_319) (fun _ h9 => h9) rfl dX1_today_1 ?_
  refine lv_bipush (v := 42) hx hb dX1_today_4 rfl ?_
  refine ldI hx hb hE hP 23 rfl (vp_in_nI (n := 42) (by decide) (by decide)) rfl rfl dX1_today_6 ?_
  refine lv_topi (fun t1 et1 => ?_)
  exact ret t1 () _ _ _ _ _ _ rfl trivial hP hD hS dX1_today_7 (Nat.le_refl _) (Nat.le_refl _)
set_option maxHeartbeats 4000000 in
set_option maxRecDepth 100000 in
theorem sX_X4_joined_1 (l : Launch) (dC : Nat → ClassId) (dI : Nat → Nat → Nat) (cy : Nat → ClassId) (x0 : Nat) (x : Nat → Nat) (p0 : Int32) (p1 : Int32) (p2 : Int32) (v : Nat → Int32) (f : Nat → Nat → Int32) (hIv : XI v)  : ctI l (dC, dI) cy yX4_joined cX4_joined 3 .int 1 60 0 0 Unit [.int p0, .int p1, .int p2] (XW cy x0 x v f) (fun r u => True) (fun u => XW cy x0 x v f) := by
  refine ctI_of (by decide) (Nat.le_of_ble_eq_true rfl) (fun p e s m below meth c A ls Q hx hb hml hts hown hE hP hD hA hl ret => ?_)
  have hown : s.vm.findClass RX4 = some m.cls := hown
  have hS : va_S A s.heap s.heap [] := va_S.rf
  have hl : lv_has ls 3 [(0, .int p0), (1, .int p1), (2, .int p2)] := hl
  refine lv_iload_n hx hb dX4_joined_0 rfl (lv_at hl 0 rfl) ?_
  by_cases c1 : p0 = 37
  · skip
    refine lv_lookup (off := 115) (tgt := 116) hx hb dX4_joined_1 (by decide) (by rw [c1]; decide) (by decide) ?_
    have zc1 : p0.toInt = 37 := by rw [fa_eq, show (37 : Int32).toInt = 37 from by decide] at c1; exact c1
    refine lv_iload_n hx hb dX4_joined_116 rfl (lv_at hl 2 rfl) ?_
    refine lv_if_ne (tgt := 124) hx hb dX4_joined_117 rfl (fun c2 => ?_) (fun c2 => ?_)
    · skip
      have zc2 : ¬ (p2.toInt = 0) := by rw [fa_eq, show (0 : Int32).toInt = 0 from by decide] at c2; exact c2
      refine lv_iload_n hx hb dX4_joined_124 rfl (lv_at hl 1 rfl) ?_
      refine lv_iload_n hx hb dX4_joined_125 rfl (lv_at hl 2 rfl) ?_
      refine lv_irem hx hb dX4_joined_126 (ne0 (by omega)) ?_
      refine lv_topi (fun t3 et3 => ?_)
      exact ret t3 () _ _ _ _ _ _ rfl trivial hP hD hS dX4_joined_127 (Nat.le_refl _) (Nat.le_refl _)
    · skip
      have zc2 : p2.toInt = 0 := by rw [fa_eq, show (0 : Int32).toInt = 0 from by decide] at c2; exact c2
      refine lv_iconst (v := 0) hx hb dX4_joined_120 rfl ?_
      refine lv_goto (tgt := 127) hx hb dX4_joined_121 rfl ?_
      exact ret 0 () _ _ _ _ _ _ rfl trivial hP hD hS dX4_joined_127 (Nat.le_refl _) (Nat.le_refl _)
  · skip
    have zc1 : ¬ (p0.toInt = 37) := by rw [fa_eq, show (37 : Int32).toInt = 37 from by decide] at c1; exact c1
    by_cases c4 : p0 = 42
    · skip
      refine lv_lookup (off := 99) (tgt := 100) hx hb dX4_joined_1 (by decide) (by rw [c4]; decide) (by decide) ?_
      have zc4 : p0.toInt = 42 := by rw [fa_eq, show (42 : Int32).toInt = 42 from by decide] at c4; exact c4
      refine lv_iload_n hx hb dX4_joined_100 rfl (lv_at hl 1 rfl) ?_
      refine lv_iload_n hx hb dX4_joined_101 rfl (lv_at hl 2 rfl) ?_
      refine lv_imul hx hb dX4_joined_102 ?_
      refine lv_topi (fun t5 et5 => ?_)
      exact ret t5 () _ _ _ _ _ _ rfl trivial hP hD hS dX4_joined_103 (Nat.le_refl _) (Nat.le_refl _)
    · skip
      have zc4 : ¬ (p0.toInt = 42) := by rw [fa_eq, show (42 : Int32).toInt = 42 from by decide] at c4; exact c4
      by_cases c6 : p0 = 43
      · skip
        refine lv_lookup (off := 91) (tgt := 92) hx hb dX4_joined_1 (by decide) (by rw [c6]; decide) (by decide) ?_
        have zc6 : p0.toInt = 43 := by rw [fa_eq, show (43 : Int32).toInt = 43 from by decide] at c6; exact c6
        refine lv_iload_n hx hb dX4_joined_92 rfl (lv_at hl 1 rfl) ?_
        refine lv_iload_n hx hb dX4_joined_93 rfl (lv_at hl 2 rfl) ?_
        refine lv_iadd hx hb dX4_joined_94 ?_
        refine lv_topi (fun t7 et7 => ?_)
        exact ret t7 () _ _ _ _ _ _ rfl trivial hP hD hS dX4_joined_95 (Nat.le_refl _) (Nat.le_refl _)
      · skip
        have zc6 : ¬ (p0.toInt = 43) := by rw [fa_eq, show (43 : Int32).toInt = 43 from by decide] at c6; exact c6
        by_cases c8 : p0 = 45
        · skip
          refine lv_lookup (off := 95) (tgt := 96) hx hb dX4_joined_1 (by decide) (by rw [c8]; decide) (by decide) ?_
          have zc8 : p0.toInt = 45 := by rw [fa_eq, show (45 : Int32).toInt = 45 from by decide] at c8; exact c8
          refine lv_iload_n hx hb dX4_joined_96 rfl (lv_at hl 1 rfl) ?_
          refine lv_iload_n hx hb dX4_joined_97 rfl (lv_at hl 2 rfl) ?_
          refine lv_isub hx hb dX4_joined_98 ?_
          refine lv_topi (fun t9 et9 => ?_)
          exact ret t9 () _ _ _ _ _ _ rfl trivial hP hD hS dX4_joined_99 (Nat.le_refl _) (Nat.le_refl _)
        · skip
          have zc8 : ¬ (p0.toInt = 45) := by rw [fa_eq, show (45 : Int32).toInt = 45 from by decide] at c8; exact c8
          by_cases c10 : p0 = 47
          · skip
            refine lv_lookup (off := 103) (tgt := 104) hx hb dX4_joined_1 (by decide) (by rw [c10]; decide) (by decide) ?_
            have zc10 : p0.toInt = 47 := by rw [fa_eq, show (47 : Int32).toInt = 47 from by decide] at c10; exact c10
            refine lv_iload_n hx hb dX4_joined_104 rfl (lv_at hl 2 rfl) ?_
            refine lv_if_ne (tgt := 112) hx hb dX4_joined_105 rfl (fun c11 => ?_) (fun c11 => ?_)
            · skip
              have zc11 : ¬ (p2.toInt = 0) := by rw [fa_eq, show (0 : Int32).toInt = 0 from by decide] at c11; exact c11
              refine lv_iload_n hx hb dX4_joined_112 rfl (lv_at hl 1 rfl) ?_
              refine lv_iload_n hx hb dX4_joined_113 rfl (lv_at hl 2 rfl) ?_
              refine lv_idiv hx hb dX4_joined_114 (ne0 (by omega)) ?_
              refine lv_topi (fun t12 et12 => ?_)
              exact ret t12 () _ _ _ _ _ _ rfl trivial hP hD hS dX4_joined_115 (Nat.le_refl _) (Nat.le_refl _)
            · skip
              have zc11 : p2.toInt = 0 := by rw [fa_eq, show (0 : Int32).toInt = 0 from by decide] at c11; exact c11
              refine lv_iconst (v := 0) hx hb dX4_joined_108 rfl ?_
              refine lv_goto (tgt := 115) hx hb dX4_joined_109 rfl ?_
              exact ret 0 () _ _ _ _ _ _ rfl trivial hP hD hS dX4_joined_115 (Nat.le_refl _) (Nat.le_refl _)
          · skip
            have zc10 : ¬ (p0.toInt = 47) := by rw [fa_eq, show (47 : Int32).toInt = 47 from by decide] at c10; exact c10
            by_cases c13 : p0 = 60
            · skip
              refine lv_lookup (off := 127) (tgt := 128) hx hb dX4_joined_1 (by decide) (by rw [c13]; decide) (by decide) ?_
              have zc13 : p0.toInt = 60 := by rw [fa_eq, show (60 : Int32).toInt = 60 from by decide] at c13; exact c13
              refine lv_iload_n hx hb dX4_joined_128 rfl (lv_at hl 1 rfl) ?_
              refine lv_iload_n hx hb dX4_joined_129 rfl (lv_at hl 2 rfl) ?_
              refine lv_icmp_ge (tgt := 137) hx hb dX4_joined_130 rfl (fun c14 => ?_) (fun c14 => ?_)
              · skip
                have zc14 : p2.toInt ≤ p1.toInt := by rw [fa_le] at c14; exact c14
                have rg15 := fb_rng p1
                have rg16 := fb_rng p2
                refine lv_iconst (v := 0) hx hb dX4_joined_137 rfl ?_
                exact ret 0 () _ _ _ _ _ _ rfl trivial hP hD hS dX4_joined_138 (Nat.le_refl _) (Nat.le_refl _)
              · skip
                have zc14 : ¬ (p2.toInt ≤ p1.toInt) := by rw [fa_le] at c14; exact c14
                have rg17 := fb_rng p1
                have rg18 := fb_rng p2
                refine lv_iconst (v := 1) hx hb dX4_joined_133 rfl ?_
                refine lv_goto (tgt := 138) hx hb dX4_joined_134 rfl ?_
                exact ret 1 () _ _ _ _ _ _ rfl trivial hP hD hS dX4_joined_138 (Nat.le_refl _) (Nat.le_refl _)
            · skip
              have zc13 : ¬ (p0.toInt = 60) := by rw [fa_eq, show (60 : Int32).toInt = 60 from by decide] at c13; exact c13
              by_cases c19 : p0 = 61
              · skip
                refine lv_lookup (off := 149) (tgt := 150) hx hb dX4_joined_1 (by decide) (by rw [c19]; decide) (by decide) ?_
                have zc19 : p0.toInt = 61 := by rw [fa_eq, show (61 : Int32).toInt = 61 from by decide] at c19; exact c19
                refine lv_iload_n hx hb dX4_joined_150 rfl (lv_at hl 1 rfl) ?_
                refine lv_iload_n hx hb dX4_joined_151 rfl (lv_at hl 2 rfl) ?_
                refine lv_icmp_ne (tgt := 159) hx hb dX4_joined_152 rfl (fun c20 => ?_) (fun c20 => ?_)
                · skip
                  have zc20 : ¬ (p1.toInt = p2.toInt) := by rw [fa_eq] at c20; exact c20
                  have rg21 := fb_rng p1
                  have rg22 := fb_rng p2
                  refine lv_iconst (v := 0) hx hb dX4_joined_159 rfl ?_
                  exact ret 0 () _ _ _ _ _ _ rfl trivial hP hD hS dX4_joined_160 (Nat.le_refl _) (Nat.le_refl _)
                · skip
                  have zc20 : p1.toInt = p2.toInt := by rw [fa_eq] at c20; exact c20
                  have rg23 := fb_rng p1
                  have rg24 := fb_rng p2
                  refine lv_iconst (v := 1) hx hb dX4_joined_155 rfl ?_
                  refine lv_goto (tgt := 160) hx hb dX4_joined_156 rfl ?_
                  exact ret 1 () _ _ _ _ _ _ rfl trivial hP hD hS dX4_joined_160 (Nat.le_refl _) (Nat.le_refl _)
              · skip
                have zc19 : ¬ (p0.toInt = 61) := by rw [fa_eq, show (61 : Int32).toInt = 61 from by decide] at c19; exact c19
                by_cases c25 : p0 = 62
                · skip
                  refine lv_lookup (off := 138) (tgt := 139) hx hb dX4_joined_1 (by decide) (by rw [c25]; decide) (by decide) ?_
                  have zc25 : p0.toInt = 62 := by rw [fa_eq, show (62 : Int32).toInt = 62 from by decide] at c25; exact c25
                  refine lv_iload_n hx hb dX4_joined_139 rfl (lv_at hl 1 rfl) ?_
                  refine lv_iload_n hx hb dX4_joined_140 rfl (lv_at hl 2 rfl) ?_
                  refine lv_icmp_le (tgt := 148) hx hb dX4_joined_141 rfl (fun c26 => ?_) (fun c26 => ?_)
                  · skip
                    have zc26 : p1.toInt ≤ p2.toInt := by rw [fa_le] at c26; exact c26
                    have rg27 := fb_rng p1
                    have rg28 := fb_rng p2
                    refine lv_iconst (v := 0) hx hb dX4_joined_148 rfl ?_
                    exact ret 0 () _ _ _ _ _ _ rfl trivial hP hD hS dX4_joined_149 (Nat.le_refl _) (Nat.le_refl _)
                  · skip
                    have zc26 : ¬ (p1.toInt ≤ p2.toInt) := by rw [fa_le] at c26; exact c26
                    have rg29 := fb_rng p1
                    have rg30 := fb_rng p2
                    refine lv_iconst (v := 1) hx hb dX4_joined_144 rfl ?_
                    refine lv_goto (tgt := 149) hx hb dX4_joined_145 rfl ?_
                    exact ret 1 () _ _ _ _ _ _ rfl trivial hP hD hS dX4_joined_149 (Nat.le_refl _) (Nat.le_refl _)
                · skip
                  have zc25 : ¬ (p0.toInt = 62) := by rw [fa_eq, show (62 : Int32).toInt = 62 from by decide] at c25; exact c25
                  by_cases c31 : p0 = 113
                  · skip
                    refine lv_lookup (off := 174) (tgt := 175) hx hb dX4_joined_1 (by decide) (by rw [c31]; decide) (by decide) ?_
                    have zc31 : p0.toInt = 113 := by rw [fa_eq, show (113 : Int32).toInt = 113 from by decide] at c31; exact c31
                    refine lv_iload_n hx hb dX4_joined_175 rfl (lv_at hl 1 rfl) ?_
                    refine lv_if_ne (tgt := 183) hx hb dX4_joined_176 rfl (fun c32 => ?_) (fun c32 => ?_)
                    · skip
                      have zc32 : ¬ (p1.toInt = 0) := by rw [fa_eq, show (0 : Int32).toInt = 0 from by decide] at c32; exact c32
                      refine lv_iconst (v := 1) hx hb dX4_joined_183 rfl ?_
                      refine lv_goto (tgt := 188) hx hb dX4_joined_184 rfl ?_
                      exact ret 1 () _ _ _ _ _ _ rfl trivial hP hD hS dX4_joined_188 (Nat.le_refl _) (Nat.le_refl _)
                    · skip
                      have zc32 : p1.toInt = 0 := by rw [fa_eq, show (0 : Int32).toInt = 0 from by decide] at c32; exact c32
                      refine lv_iload_n hx hb dX4_joined_179 rfl (lv_at hl 2 rfl) ?_
                      refine lv_if_eq (tgt := 187) hx hb dX4_joined_180 rfl (fun c33 => ?_) (fun c33 => ?_)
                      · skip
                        have zc33 : p2.toInt = 0 := by rw [fa_eq, show (0 : Int32).toInt = 0 from by decide] at c33; exact c33
                        refine lv_iconst (v := 0) hx hb dX4_joined_187 rfl ?_
                        exact ret 0 () _ _ _ _ _ _ rfl trivial hP hD hS dX4_joined_188 (Nat.le_refl _) (Nat.le_refl _)
                      · skip
                        have zc33 : ¬ (p2.toInt = 0) := by rw [fa_eq, show (0 : Int32).toInt = 0 from by decide] at c33; exact c33
                        refine lv_iconst (v := 1) hx hb dX4_joined_183 rfl ?_
                        refine lv_goto (tgt := 188) hx hb dX4_joined_184 rfl ?_
                        exact ret 1 () _ _ _ _ _ _ rfl trivial hP hD hS dX4_joined_188 (Nat.le_refl _) (Nat.le_refl _)
                  · skip
                    have zc31 : ¬ (p0.toInt = 113) := by rw [fa_eq, show (113 : Int32).toInt = 113 from by decide] at c31; exact c31
                    by_cases c34 : p0 = 114
                    · skip
                      refine lv_lookup (off := 160) (tgt := 161) hx hb dX4_joined_1 (by decide) (by rw [c34]; decide) (by decide) ?_
                      have zc34 : p0.toInt = 114 := by rw [fa_eq, show (114 : Int32).toInt = 114 from by decide] at c34; exact c34
                      refine lv_iload_n hx hb dX4_joined_161 rfl (lv_at hl 1 rfl) ?_
                      refine lv_if_eq (tgt := 173) hx hb dX4_joined_162 rfl (fun c35 => ?_) (fun c35 => ?_)
                      · skip
                        have zc35 : p1.toInt = 0 := by rw [fa_eq, show (0 : Int32).toInt = 0 from by decide] at c35; exact c35
                        refine lv_iconst (v := 0) hx hb dX4_joined_173 rfl ?_
                        exact ret 0 () _ _ _ _ _ _ rfl trivial hP hD hS dX4_joined_174 (Nat.le_refl _) (Nat.le_refl _)
                      · skip
                        have zc35 : ¬ (p1.toInt = 0) := by rw [fa_eq, show (0 : Int32).toInt = 0 from by decide] at c35; exact c35
                        refine lv_iload_n hx hb dX4_joined_165 rfl (lv_at hl 2 rfl) ?_
                        refine lv_if_eq (tgt := 173) hx hb dX4_joined_166 rfl (fun c36 => ?_) (fun c36 => ?_)
                        · skip
                          have zc36 : p2.toInt = 0 := by rw [fa_eq, show (0 : Int32).toInt = 0 from by decide] at c36; exact c36
                          refine lv_iconst (v := 0) hx hb dX4_joined_173 rfl ?_
                          exact ret 0 () _ _ _ _ _ _ rfl trivial hP hD hS dX4_joined_174 (Nat.le_refl _) (Nat.le_refl _)
                        · skip
                          have zc36 : ¬ (p2.toInt = 0) := by rw [fa_eq, show (0 : Int32).toInt = 0 from by decide] at c36; exact c36
                          refine lv_iconst (v := 1) hx hb dX4_joined_169 rfl ?_
                          refine lv_goto (tgt := 174) hx hb dX4_joined_170 rfl ?_
                          exact ret 1 () _ _ _ _ _ _ rfl trivial hP hD hS dX4_joined_174 (Nat.le_refl _) (Nat.le_refl _)
                    · skip
                      have zc34 : ¬ (p0.toInt = 114) := by rw [fa_eq, show (114 : Int32).toInt = 114 from by decide] at c34; exact c34
                      refine lv_lookup (off := 188) (tgt := 189) hx hb dX4_joined_1 (by decide) (by show Op.lookupswitch.offset [(37, 115), (42, 99), (43, 91), (45, 95), (47, 103), (60, 127), (61, 149), (62, 138), (113, 174), (114, 160)] 188 p0.toInt = 188; rw [lv_osw c1 (by decide), lv_osw c4 (by decide), lv_osw c6 (by decide), lv_osw c8 (by decide), lv_osw c10 (by decide), lv_osw c13 (by decide), lv_osw c19 (by decide), lv_osw c25 (by decide), lv_osw c31 (by decide), lv_osw c34 (by decide)]; rfl) (by decide) ?_
                      refine lv_iconst (v := 0) hx hb dX4_joined_189 rfl ?_
                      exact ret 0 () _ _ _ _ _ _ rfl trivial hP hD hS dX4_joined_190 (Nat.le_refl _) (Nat.le_refl _)
set_option maxHeartbeats 4000000 in
set_option maxRecDepth 100000 in
theorem sX_X4_worth_1 (l : Launch) (dC : Nat → ClassId) (dI : Nat → Nat → Nat) (cy : Nat → ClassId) (x0 : Nat) (x : Nat → Nat) (p1 : Int32) (p2 : Int32) (p3 : Int32) (p4 : Int32) (p5 : Int32) (p6 : Int32) (v : Nat → Int32) (f : Nat → Nat → Int32) (hIv : XI v)  : ctI l (dC, dI) cy yX4_worth cX4_worth 10 .int 2 82 0 0 ((Nat → Int32) × (Nat → Nat → Int32)) [.ref (x 15), .int p1, .int p2, .int p3, .int p4, .int p5, .int p6] (XW cy x0 x v f) (fun r u => KV [] u.1 v ∧ KF [13, 14] u.2 f ∧ XI u.1 ∧ u.1 0 = v 0 ∧ u.1 1 = v 1 ∧ u.1 7 = v 7 ∧ u.1 8 = v 8 ∧ u.1 9 = v 9 ∧ u.1 10 = v 10 ∧ u.1 31 = v 31 ∧ u.1 32 = v 32) (fun u => XW cy x0 x u.1 u.2) := by
  refine ctI_of (by decide) (Nat.le_of_ble_eq_true rfl) (fun p e s m below meth c A ls Q hx hb hml hts hown hE hP hD hA hl ret => ?_)
  have hM_v : KV [] v v := fun _ _ => rfl
  have hA_f : KF [13, 14] f f := fun _ _ => rfl
  have hown : s.vm.findClass RX4 = some m.cls := hown
  have hS : va_S A s.heap s.heap [] := va_S.rf
  have hl : lv_has ls 10 [(0, .ref (x 15)), (1, .int p1), (2, .int p2), (3, .int p3), (4, .int p4), (5, .int p5), (6, .int p6)] := hl
  refine lv_aload_n hx hb dX4_worth_0 rfl (lv_at hl 0 rfl) ?_
  refine va_get (D := (dC, dI)) (ci := 4) (v := .ref (x 19)) (C := RX4) (T := TX4) (N := 6) hx hb hts inB_4 hown hE.1 hP 16 rfl rfl 3 (Nat.le_of_ble_eq_true rfl) (hts _ k_181) (fun _ h9 => h9) rfl dX4_worth_1 ?_
  refine lv_iconst (v := 0) hx hb dX4_worth_4 rfl ?_
  refine lv_iconst (v := 0) hx hb dX4_worth_5 rfl ?_
  refine lv_iload_n hx hb dX4_worth_6 rfl (lv_at hl 2 rfl) ?_
  refine lv_iload hx hb dX4_worth_7 (lv_at hl 4 rfl) ?_
  refine lv_isub hx hb dX4_worth_9 ?_
  refine lv_topi (fun t1 et1 => ?_)
  refine va_mmax hx hb (by rw [hml]; exact hl.1.symm) hown (hts _ k_839) (hts _ k_640) (hts _ k_119) (hts _ k_641) (Nat.le_of_ble_eq_true rfl) (Nat.le_of_ble_eq_true rfl) (Nat.le_of_ble_eq_true rfl) (Nat.le_of_ble_eq_true rfl) dX4_worth_10 ?_
  refine lv_topi (fun t2 et2 => ?_)
  have zt2 : t2.toInt = max (0) (t1.toInt) := by rw [et2]; exact mmax_i (by decide) rfl
  refine stI hx hb hE hP hD hS 20 rfl (vp_in_nI (n := 0) (by decide) (by decide)) rfl dX4_worth_13 (fun H locs hP hD hS => ?_)
  obtain ⟨f3, ef3, hP, hD⟩ : ∃ fz9, fz9 = upd2 f 14 (upd (f 14) (0 : Int32).toNatClampNeg t2) ∧ va_P (dC, dI) vwCl (XW cy x0 x v fz9) H ∧ va_D A (XW cy x0 x v fz9) := ⟨_, rfl, hP, hD⟩
  have hA_f3 : KF [13, 14] f3 f := by rw [ef3]; exact KF.up hA_f rfl
  refine lv_aload_n hx hb dX4_worth_14 rfl (lv_at hl 0 rfl) ?_
  refine va_get (D := (dC, dI)) (ci := 4) (v := .ref (x 19)) (C := RX4) (T := TX4) (N := 6) hx hb hts inB_4 hown hE.1 hP 16 rfl rfl 3 (Nat.le_of_ble_eq_true rfl) (hts _ k_181) (fun _ h9 => h9) rfl dX4_worth_15 ?_
  refine lv_iconst (v := 1) hx hb dX4_worth_18 rfl ?_
  refine lv_iconst (v := 0) hx hb dX4_worth_19 rfl ?_
  refine lv_iload hx hb dX4_worth_20 (lv_at hl 4 rfl) ?_
  refine lv_iload_n hx hb dX4_worth_22 rfl (lv_at hl 2 rfl) ?_
  refine lv_isub hx hb dX4_worth_23 ?_
  refine lv_topi (fun t4 et4 => ?_)
  refine va_mmax hx hb (by rw [hml]; exact hl.1.symm) hown (hts _ k_839) (hts _ k_640) (hts _ k_119) (hts _ k_641) (Nat.le_of_ble_eq_true rfl) (Nat.le_of_ble_eq_true rfl) (Nat.le_of_ble_eq_true rfl) (Nat.le_of_ble_eq_true rfl) dX4_worth_24 ?_
  refine lv_topi (fun t5 et5 => ?_)
  have zt5 : t5.toInt = max (0) (t4.toInt) := by rw [et5]; exact mmax_i (by decide) rfl
  refine stI hx hb hE hP hD hS 20 rfl (vp_in_nI (n := 1) (by decide) (by decide)) rfl dX4_worth_27 (fun H locs hP hD hS => ?_)
  obtain ⟨f6, ef6, hP, hD⟩ : ∃ fz9, fz9 = upd2 f3 14 (upd (f3 14) (1 : Int32).toNatClampNeg t5) ∧ va_P (dC, dI) vwCl (XW cy x0 x v fz9) H ∧ va_D A (XW cy x0 x v fz9) := ⟨_, rfl, hP, hD⟩
  have hA_f6 : KF [13, 14] f6 f := by rw [ef6]; exact KF.up hA_f3 rfl
  refine lv_aload_n hx hb dX4_worth_28 rfl (lv_at hl 0 rfl) ?_
  refine va_get (D := (dC, dI)) (ci := 4) (v := .ref (x 19)) (C := RX4) (T := TX4) (N := 6) hx hb hts inB_4 hown hE.1 hP 16 rfl rfl 3 (Nat.le_of_ble_eq_true rfl) (hts _ k_181) (fun _ h9 => h9) rfl dX4_worth_29 ?_
  refine lv_iconst (v := 2) hx hb dX4_worth_32 rfl ?_
  refine lv_iconst (v := 0) hx hb dX4_worth_33 rfl ?_
  refine lv_iload_n hx hb dX4_worth_34 rfl (lv_at hl 1 rfl) ?_
  refine lv_iload_n hx hb dX4_worth_35 rfl (lv_at hl 3 rfl) ?_
  refine lv_isub hx hb dX4_worth_36 ?_
  refine lv_topi (fun t7 et7 => ?_)
  refine va_mmax hx hb (by rw [hml]; exact hl.1.symm) hown (hts _ k_839) (hts _ k_640) (hts _ k_119) (hts _ k_641) (Nat.le_of_ble_eq_true rfl) (Nat.le_of_ble_eq_true rfl) (Nat.le_of_ble_eq_true rfl) (Nat.le_of_ble_eq_true rfl) dX4_worth_37 ?_
  refine lv_topi (fun t8 et8 => ?_)
  have zt8 : t8.toInt = max (0) (t7.toInt) := by rw [et8]; exact mmax_i (by decide) rfl
  refine stI hx hb hE hP hD hS 20 rfl (vp_in_nI (n := 2) (by decide) (by decide)) rfl dX4_worth_40 (fun H locs hP hD hS => ?_)
  obtain ⟨f9, ef9, hP, hD⟩ : ∃ fz9, fz9 = upd2 f6 14 (upd (f6 14) (2 : Int32).toNatClampNeg t8) ∧ va_P (dC, dI) vwCl (XW cy x0 x v fz9) H ∧ va_D A (XW cy x0 x v fz9) := ⟨_, rfl, hP, hD⟩
  have hA_f9 : KF [13, 14] f9 f := by rw [ef9]; exact KF.up hA_f6 rfl
  refine lv_aload_n hx hb dX4_worth_41 rfl (lv_at hl 0 rfl) ?_
  refine va_get (D := (dC, dI)) (ci := 4) (v := .ref (x 19)) (C := RX4) (T := TX4) (N := 6) hx hb hts inB_4 hown hE.1 hP 16 rfl rfl 3 (Nat.le_of_ble_eq_true rfl) (hts _ k_181) (fun _ h9 => h9) rfl dX4_worth_42 ?_
  refine lv_iconst (v := 3) hx hb dX4_worth_45 rfl ?_
  refine lv_iconst (v := 0) hx hb dX4_worth_46 rfl ?_
  refine lv_iload_n hx hb dX4_worth_47 rfl (lv_at hl 3 rfl) ?_
  refine lv_iload_n hx hb dX4_worth_48 rfl (lv_at hl 1 rfl) ?_
  refine lv_isub hx hb dX4_worth_49 ?_
  refine lv_topi (fun t10 et10 => ?_)
  refine va_mmax hx hb (by rw [hml]; exact hl.1.symm) hown (hts _ k_839) (hts _ k_640) (hts _ k_119) (hts _ k_641) (Nat.le_of_ble_eq_true rfl) (Nat.le_of_ble_eq_true rfl) (Nat.le_of_ble_eq_true rfl) (Nat.le_of_ble_eq_true rfl) dX4_worth_50 ?_
  refine lv_topi (fun t11 et11 => ?_)
  have zt11 : t11.toInt = max (0) (t10.toInt) := by rw [et11]; exact mmax_i (by decide) rfl
  refine stI hx hb hE hP hD hS 20 rfl (vp_in_nI (n := 3) (by decide) (by decide)) rfl dX4_worth_53 (fun H locs hP hD hS => ?_)
  obtain ⟨f12, ef12, hP, hD⟩ : ∃ fz9, fz9 = upd2 f9 14 (upd (f9 14) (3 : Int32).toNatClampNeg t11) ∧ va_P (dC, dI) vwCl (XW cy x0 x v fz9) H ∧ va_D A (XW cy x0 x v fz9) := ⟨_, rfl, hP, hD⟩
  have hA_f12 : KF [13, 14] f12 f := by rw [ef12]; exact KF.up hA_f9 rfl
  refine lv_aload_n hx hb dX4_worth_54 rfl (lv_at hl 0 rfl) ?_
  refine va_get (D := (dC, dI)) (ci := 4) (v := .ref (x 19)) (C := RX4) (T := TX4) (N := 6) hx hb hts inB_4 hown hE.1 hP 16 rfl rfl 3 (Nat.le_of_ble_eq_true rfl) (hts _ k_181) (fun _ h9 => h9) rfl dX4_worth_55 ?_
  refine lv_iconst (v := 4) hx hb dX4_worth_58 rfl ?_
  refine lv_iload hx hb dX4_worth_59 (lv_at hl 5 rfl) ?_
  refine stI hx hb hE hP hD hS 20 rfl (vp_in_nI (n := 4) (by decide) (by decide)) rfl dX4_worth_61 (fun H locs hP hD hS => ?_)
  obtain ⟨f13, ef13, hP, hD⟩ : ∃ fz9, fz9 = upd2 f12 14 (upd (f12 14) (4 : Int32).toNatClampNeg p5) ∧ va_P (dC, dI) vwCl (XW cy x0 x v fz9) H ∧ va_D A (XW cy x0 x v fz9) := ⟨_, rfl, hP, hD⟩
  have hA_f13 : KF [13, 14] f13 f := by rw [ef13]; exact KF.up hA_f12 rfl
  refine lv_aload_n hx hb dX4_worth_62 rfl (lv_at hl 0 rfl) ?_
  refine va_get (D := (dC, dI)) (ci := 4) (v := .ref (x 19)) (C := RX4) (T := TX4) (N := 6) hx hb hts inB_4 hown hE.1 hP 16 rfl rfl 3 (Nat.le_of_ble_eq_true rfl) (hts _ k_181) (fun _ h9 => h9) rfl dX4_worth_63 ?_
  refine lv_iconst (v := 5) hx hb dX4_worth_66 rfl ?_
  refine lv_iload hx hb dX4_worth_67 (lv_at hl 6 rfl) ?_
  refine stI hx hb hE hP hD hS 20 rfl (vp_in_nI (n := 5) (by decide) (by decide)) rfl dX4_worth_69 (fun H locs hP hD hS => ?_)
  obtain ⟨f14, ef14, hP, hD⟩ : ∃ fz9, fz9 = upd2 f13 14 (upd (f13 14) (5 : Int32).toNatClampNeg p6) ∧ va_P (dC, dI) vwCl (XW cy x0 x v fz9) H ∧ va_D A (XW cy x0 x v fz9) := ⟨_, rfl, hP, hD⟩
  have hA_f14 : KF [13, 14] f14 f := by rw [ef14]; exact KF.up hA_f13 rfl
  refine lv_aload_n hx hb dX4_worth_70 rfl (lv_at hl 0 rfl) ?_
  refine va_get (D := (dC, dI)) (ci := 4) (v := .int (v 18)) (C := RX4) (T := TX4) (N := 6) hx hb hts inB_4 hown hE.1 hP 16 rfl rfl 4 (Nat.le_of_ble_eq_true rfl) (hts _ k_182) (fun _ h9 => h9) rfl dX4_worth_71 ?_
  have b18_v : 0 ≤ (v 18).toInt ∧ (v 18).toInt ≤ 300 := XI.b hIv 18 (by decide)
  refine lv_if_ne (tgt := 118) hx hb dX4_worth_74 rfl (fun c15 => ?_) (fun c15 => ?_)
  · skip
    have zc15 : ¬ ((v 18).toInt = 0) := by rw [fa_eq, show (0 : Int32).toInt = 0 from by decide] at c15; exact c15
    refine lv_iconst (v := 0) hx hb dX4_worth_118 rfl ?_
    refine lv_istore (lv' := [(7, .int 0), (0, .ref (x 15)), (1, .int p1), (2, .int p2), (3, .int p3), (4, .int p4), (5, .int p5), (6, .int p6)]) hx hb dX4_worth_119 hl (Nat.le_of_ble_eq_true rfl) rfl (fun ls hl => ?_)
    refine lv_iconst (v := 0) hx hb dX4_worth_121 rfl ?_
    refine lv_istore (lv' := [(8, .int 0), (7, .int 0), (0, .ref (x 15)), (1, .int p1), (2, .int p2), (3, .int p3), (4, .int p4), (5, .int p5), (6, .int p6)]) hx hb dX4_worth_122 hl (Nat.le_of_ble_eq_true rfl) rfl (fun ls hl => ?_)
    have lp16 : ∀ (n16 : Nat) (l7_16 : Int32) (l8_16 : Int32) (v16 : Nat → Int32) (f16 : Nat → Nat → Int32), XI v16 → v16 0 = (v 0) → v16 1 = (v 1) → v16 7 = (v 7) → v16 8 = (v 8) → v16 9 = (v 9) → v16 10 = (v 10) → v16 31 = (v 31) → v16 32 = (v 32) → ((0 : Int) ≤ l7_16.toInt ∧ l7_16.toInt ≤ 30) → ((0 : Int) ≤ l8_16.toInt ∧ l8_16.toInt ≤ 2147483647) → KV [] v16 v → KF [13, 14] f16 f → (2147483647 - l8_16.toInt).toNat < n16 → ∀ (H : Heap) (locs : List Loc) (ls : Array Slot), va_P (dC, dI) vwCl (XW cy x0 x v16 f16) H → va_D A (XW cy x0 x v16 f16) → va_S A s.heap H locs → lv_has ls 10 [(8, .int l8_16), (7, .int l7_16), (0, .ref (x 15)), (1, .int p1), (2, .int p2), (3, .int p3), (4, .int p4), (5, .int p5), (6, .int p6)] → W p l e { frames := 2, cells := 0, slots := 0, locals := 82 } s m ([.ref (x 15), .int p1, .int p2, .int p3, .int p4, .int p5, .int p6] : List Value).toArray below meth c H locs 0 0 Q (F0 m 124 ls []) := by
      intro n16
      induction n16 with
      | zero => intro l7_16 l8_16 v16 f16 hIv16 hq0_v16 hq1_v16 hq7_v16 hq8_v16 hq9_v16 hq10_v16 hq31_v16 hq32_v16 hr7_16 hr8_16 hM_v16 hA_f16 hm; exact absurd hm (Nat.not_lt_zero _)
      | succ n16 ih16 =>
        intro l7_16 l8_16 v16 f16 hIv16 hq0_v16 hq1_v16 hq7_v16 hq8_v16 hq9_v16 hq10_v16 hq31_v16 hq32_v16 hr7_16 hr8_16 hM_v16 hA_f16 hm16 H locs ls hP hD hS hl
        refine lv_iload hx hb dX4_worth_124 (lv_at hl 0 rfl) ?_
        refine lv_aload_n hx hb dX4_worth_126 rfl (lv_at hl 2 rfl) ?_
        refine va_get (D := (dC, dI)) (ci := 4) (v := .int (v16 18)) (C := RX4) (T := TX4) (N := 6) hx hb hts inB_4 hown hE.1 hP 16 rfl rfl 4 (Nat.le_of_ble_eq_true rfl) (hts _ k_182) (fun _ h9 => h9) rfl dX4_worth_127 ?_
        have b18_v16 : 0 ≤ (v16 18).toInt ∧ (v16 18).toInt ≤ 300 := XI.b hIv16 18 (by decide)
        refine lv_icmp_ge (tgt := 305) hx hb dX4_worth_130 rfl (fun c17 => ?_) (fun c17 => ?_)
        · skip
          have zc17 : (v16 18).toInt ≤ l8_16.toInt := by rw [fa_le] at c17; exact c17
          have rg18 := fb_rng l8_16
          have rg19 := fb_rng (v16 18)
          refine lv_iconst (v := 0) hx hb dX4_worth_305 rfl ?_
          refine lv_sipush (v := 999) hx hb dX4_worth_306 rfl ?_
          refine lv_aload_n hx hb dX4_worth_309 rfl (lv_at hl 2 rfl) ?_
          refine va_get (D := (dC, dI)) (ci := 4) (v := .ref (x 18)) (C := RX4) (T := TX4) (N := 6) hx hb hts inB_4 hown hE.1 hP 16 rfl rfl 2 (Nat.le_of_ble_eq_true rfl) (hts _ k_180) (fun _ h9 => h9) rfl dX4_worth_310 ?_
          refine lv_iconst (v := 0) hx hb dX4_worth_313 rfl ?_
          refine ldI hx hb hE hP 19 rfl (vp_in_nI (n := 0) (by decide) (by decide)) rfl rfl dX4_worth_314 ?_
          refine lv_topi (fun t20 et20 => ?_)
          refine va_mmin hx hb (by rw [hml]; exact hl.1.symm) hown (hts _ k_840) (hts _ k_643) (hts _ k_119) (hts _ k_644) (Nat.le_of_ble_eq_true rfl) (Nat.le_of_ble_eq_true rfl) (Nat.le_of_ble_eq_true rfl) (Nat.le_of_ble_eq_true rfl) dX4_worth_315 ?_
          refine lv_topi (fun t21 et21 => ?_)
          have zt21 : t21.toInt = min (999) (t20.toInt) := by rw [et21]; exact mmin_i (by decide) rfl
          refine va_mmax hx hb (by rw [hml]; exact hl.1.symm) hown (hts _ k_839) (hts _ k_640) (hts _ k_119) (hts _ k_641) (Nat.le_of_ble_eq_true rfl) (Nat.le_of_ble_eq_true rfl) (Nat.le_of_ble_eq_true rfl) (Nat.le_of_ble_eq_true rfl) dX4_worth_318 ?_
          refine lv_topi (fun t22 et22 => ?_)
          have zt22 : t22.toInt = max (0) (t21.toInt) := by rw [et22]; exact mmax_i (by decide) rfl
          exact ret t22 (v16, f16) _ _ _ _ _ _ rfl ⟨hM_v16, hA_f16, hIv16, (show v16 0 = v 0 from hq0_v16), (show v16 1 = v 1 from hq1_v16), (show v16 7 = v 7 from hq7_v16), (show v16 8 = v 8 from hq8_v16), (show v16 9 = v 9 from hq9_v16), (show v16 10 = v 10 from hq10_v16), (show v16 31 = v 31 from hq31_v16), (show v16 32 = v 32 from hq32_v16)⟩ hP hD hS dX4_worth_321 (Nat.le_refl _) (Nat.le_refl _)
        · skip
          have zc17 : ¬ ((v16 18).toInt ≤ l8_16.toInt) := by rw [fa_le] at c17; exact c17
          have rg23 := fb_rng l8_16
          have rg24 := fb_rng (v16 18)
          refine lv_iload hx hb dX4_worth_133 (lv_at hl 0 rfl) ?_
          refine lv_sipush (v := 300) hx hb dX4_worth_135 rfl ?_
          refine lv_icmp_ge (tgt := 305) hx hb dX4_worth_138 rfl (fun c25 => ?_) (fun c25 => ?_)
          · skip
            have zc25 : 300 ≤ l8_16.toInt := by rw [fa_le, show (300 : Int32).toInt = 300 from by decide] at c25; exact c25
            refine lv_iconst (v := 0) hx hb dX4_worth_305 rfl ?_
            refine lv_sipush (v := 999) hx hb dX4_worth_306 rfl ?_
            refine lv_aload_n hx hb dX4_worth_309 rfl (lv_at hl 2 rfl) ?_
            refine va_get (D := (dC, dI)) (ci := 4) (v := .ref (x 18)) (C := RX4) (T := TX4) (N := 6) hx hb hts inB_4 hown hE.1 hP 16 rfl rfl 2 (Nat.le_of_ble_eq_true rfl) (hts _ k_180) (fun _ h9 => h9) rfl dX4_worth_310 ?_
            refine lv_iconst (v := 0) hx hb dX4_worth_313 rfl ?_
            refine ldI hx hb hE hP 19 rfl (vp_in_nI (n := 0) (by decide) (by decide)) rfl rfl dX4_worth_314 ?_
            refine lv_topi (fun t26 et26 => ?_)
            refine va_mmin hx hb (by rw [hml]; exact hl.1.symm) hown (hts _ k_840) (hts _ k_643) (hts _ k_119) (hts _ k_644) (Nat.le_of_ble_eq_true rfl) (Nat.le_of_ble_eq_true rfl) (Nat.le_of_ble_eq_true rfl) (Nat.le_of_ble_eq_true rfl) dX4_worth_315 ?_
            refine lv_topi (fun t27 et27 => ?_)
            have zt27 : t27.toInt = min (999) (t26.toInt) := by rw [et27]; exact mmin_i (by decide) rfl
            refine va_mmax hx hb (by rw [hml]; exact hl.1.symm) hown (hts _ k_839) (hts _ k_640) (hts _ k_119) (hts _ k_641) (Nat.le_of_ble_eq_true rfl) (Nat.le_of_ble_eq_true rfl) (Nat.le_of_ble_eq_true rfl) (Nat.le_of_ble_eq_true rfl) dX4_worth_318 ?_
            refine lv_topi (fun t28 et28 => ?_)
            have zt28 : t28.toInt = max (0) (t27.toInt) := by rw [et28]; exact mmax_i (by decide) rfl
            exact ret t28 (v16, f16) _ _ _ _ _ _ rfl ⟨hM_v16, hA_f16, hIv16, (show v16 0 = v 0 from hq0_v16), (show v16 1 = v 1 from hq1_v16), (show v16 7 = v 7 from hq7_v16), (show v16 8 = v 8 from hq8_v16), (show v16 9 = v 9 from hq9_v16), (show v16 10 = v 10 from hq10_v16), (show v16 31 = v 31 from hq31_v16), (show v16 32 = v 32 from hq32_v16)⟩ hP hD hS dX4_worth_321 (Nat.le_refl _) (Nat.le_refl _)
          · skip
            have zc25 : ¬ (300 ≤ l8_16.toInt) := by rw [fa_le, show (300 : Int32).toInt = 300 from by decide] at c25; exact c25
            refine lv_aload_n hx hb dX4_worth_141 rfl (lv_at hl 2 rfl) ?_
            refine va_get (D := (dC, dI)) (ci := 4) (v := .ref (x 16)) (C := RX4) (T := TX4) (N := 6) hx hb hts inB_4 hown hE.1 hP 16 rfl rfl 0 (Nat.le_of_ble_eq_true rfl) (hts _ k_178) (fun _ h9 => h9) rfl dX4_worth_142 ?_
            refine lv_iload hx hb dX4_worth_145 (lv_at hl 0 rfl) ?_
            refine ldI hx hb hE hP 17 rfl (vp_in_iff.mpr ⟨by omega, by omega⟩) rfl rfl dX4_worth_147 ?_
            refine lv_topi (fun t29 et29 => ?_)
            refine lv_istore (lv' := [(9, .int t29), (8, .int l8_16), (7, .int l7_16), (0, .ref (x 15)), (1, .int p1), (2, .int p2), (3, .int p3), (4, .int p4), (5, .int p5), (6, .int p6)]) hx hb dX4_worth_148 hl (Nat.le_of_ble_eq_true rfl) rfl (fun ls hl => ?_)
            refine lv_iload hx hb dX4_worth_150 (lv_at hl 0 rfl) ?_
            refine lv_iconst (v := 2) hx hb dX4_worth_152 rfl ?_
            refine lv_icmp_eq (tgt := 170) hx hb dX4_worth_153 rfl (fun c30 => ?_) (fun c30 => ?_)
            · skip
              have zc30 : t29.toInt = 2 := by rw [fa_eq, show (2 : Int32).toInt = 2 from by decide] at c30; exact c30
              refine lv_iload hx hb dX4_worth_170 (lv_at hl 2 rfl) ?_
              refine lv_bipush (v := 30) hx hb dX4_worth_172 rfl ?_
              refine lv_icmp_ge (tgt := 299) hx hb dX4_worth_174 rfl (fun c31 => ?_) (fun c31 => ?_)
              · skip
                have zc31 : 30 ≤ l7_16.toInt := by rw [fa_le, show (30 : Int32).toInt = 30 from by decide] at c31; exact c31
                obtain ⟨t32, et32⟩ : ∃ y : Int32, y = l8_16 + 1 := ⟨_, rfl⟩
                have zt32 : t32.toInt = l8_16.toInt + 1 := by rw [et32]; exact add_i rfl (by decide) (by omega) (by omega)
                refine lv_iinc (v := t32) (lv' := [(8, .int t32), (9, .int t29), (7, .int l7_16), (0, .ref (x 15)), (1, .int p1), (2, .int p2), (3, .int p3), (4, .int p4), (5, .int p5), (6, .int p6)]) hx hb dX4_worth_299 hl (k := 1) rfl (by rw [et32]; rfl) (by decide) rfl (fun ls hl => ?_)
                refine lv_goto (tgt := 124) hx hb dX4_worth_302 rfl ?_
                have rg33 := fb_rng l7_16
                have rg34 := fb_rng t32
                exact ih16 l7_16 t32 v16 f16 hIv16 hq0_v16 hq1_v16 hq7_v16 hq8_v16 hq9_v16 hq10_v16 hq31_v16 hq32_v16 ⟨show (0 : Int) ≤ l7_16.toInt by omega, show l7_16.toInt ≤ (30 : Int) by omega⟩ ⟨show (0 : Int) ≤ t32.toInt by omega, show t32.toInt ≤ (2147483647 : Int) by omega⟩ hM_v16 hA_f16 (by show (2147483647 - t32.toInt).toNat < n16; omega) _ _ _ hP hD hS (lv_sub hl [0, 2, 3, 4, 5, 6, 7, 8, 9] rfl)
              · skip
                have zc31 : ¬ (30 ≤ l7_16.toInt) := by rw [fa_le, show (30 : Int32).toInt = 30 from by decide] at c31; exact c31
                refine lv_aload_n hx hb dX4_worth_177 rfl (lv_at hl 3 rfl) ?_
                refine va_get (D := (dC, dI)) (ci := 4) (v := .ref (x 18)) (C := RX4) (T := TX4) (N := 6) hx hb hts inB_4 hown hE.1 hP 16 rfl rfl 2 (Nat.le_of_ble_eq_true rfl) (hts _ k_180) (fun _ h9 => h9) rfl dX4_worth_178 ?_
                refine lv_iload hx hb dX4_worth_181 (lv_at hl 2 rfl) ?_
                refine lv_iload hx hb dX4_worth_183 (lv_at hl 0 rfl) ?_
                refine lv_iconst (v := 2) hx hb dX4_worth_185 rfl ?_
                refine lv_icmp_ne (tgt := 199) hx hb dX4_worth_186 rfl (fun c35 => ?_) (fun c35 => ?_)
                · skip
                  have zc35 : ¬ (t29.toInt = 2) := by rw [fa_eq, show (2 : Int32).toInt = 2 from by decide] at c35; exact c35
                  refine lv_aload_n hx hb dX4_worth_199 rfl (lv_at hl 3 rfl) ?_
                  refine va_get (D := (dC, dI)) (ci := 4) (v := .ref (x 19)) (C := RX4) (T := TX4) (N := 6) hx hb hts inB_4 hown hE.1 hP 16 rfl rfl 3 (Nat.le_of_ble_eq_true rfl) (hts _ k_181) (fun _ h9 => h9) rfl dX4_worth_200 ?_
                  refine lv_iload hx hb dX4_worth_203 (lv_at hl 0 rfl) ?_
                  refine lv_bipush (v := 116) hx hb dX4_worth_205 rfl ?_
                  refine lv_isub hx hb dX4_worth_207 ?_
                  refine lv_topi (fun t36 et36 => ?_)
                  have rg37 := fb_rng t29
                  have zt36 : t36.toInt = t29.toInt - 116 := by rw [et36]; exact sub_i rfl (by decide) (by omega) (by omega)
                  refine ldI hx hb hE hP 20 rfl (vp_in_iff.mpr ⟨by omega, by omega⟩) rfl rfl dX4_worth_208 ?_
                  refine lv_topi (fun t38 et38 => ?_)
                  refine stI hx hb hE hP hD hS 19 rfl (vp_in_iff.mpr ⟨by omega, by omega⟩) rfl dX4_worth_209 (fun H locs hP hD hS => ?_)
                  obtain ⟨f39, ef39, hP, hD⟩ : ∃ fz9, fz9 = upd2 f16 13 (upd (f16 13) l7_16.toNatClampNeg t38) ∧ va_P (dC, dI) vwCl (XW cy x0 x v16 fz9) H ∧ va_D A (XW cy x0 x v16 fz9) := ⟨_, rfl, hP, hD⟩
                  have hA_f39 : KF [13, 14] f39 f := by rw [ef39]; exact KF.up hA_f16 rfl
                  obtain ⟨t40, et40⟩ : ∃ y : Int32, y = l7_16 + 1 := ⟨_, rfl⟩
                  have rg41 := fb_rng l7_16
                  have zt40 : t40.toInt = l7_16.toInt + 1 := by rw [et40]; exact add_i rfl (by decide) (by omega) (by omega)
                  refine lv_iinc (v := t40) (lv' := [(7, .int t40), (9, .int t29), (8, .int l8_16), (0, .ref (x 15)), (1, .int p1), (2, .int p2), (3, .int p3), (4, .int p4), (5, .int p5), (6, .int p6)]) hx hb dX4_worth_210 hl (k := 2) rfl (by rw [et40]; rfl) (by decide) rfl (fun ls hl => ?_)
                  refine lv_goto (tgt := 299) hx hb dX4_worth_213 rfl ?_
                  obtain ⟨t42, et42⟩ : ∃ y : Int32, y = l8_16 + 1 := ⟨_, rfl⟩
                  have zt42 : t42.toInt = l8_16.toInt + 1 := by rw [et42]; exact add_i rfl (by decide) (by omega) (by omega)
                  refine lv_iinc (v := t42) (lv' := [(8, .int t42), (7, .int t40), (9, .int t29), (0, .ref (x 15)), (1, .int p1), (2, .int p2), (3, .int p3), (4, .int p4), (5, .int p5), (6, .int p6)]) hx hb dX4_worth_299 hl (k := 2) rfl (by rw [et42]; rfl) (by decide) rfl (fun ls hl => ?_)
                  refine lv_goto (tgt := 124) hx hb dX4_worth_302 rfl ?_
                  have rg43 := fb_rng t40
                  have rg44 := fb_rng t42
                  exact ih16 t40 t42 v16 f39 hIv16 hq0_v16 hq1_v16 hq7_v16 hq8_v16 hq9_v16 hq10_v16 hq31_v16 hq32_v16 ⟨show (0 : Int) ≤ t40.toInt by omega, show t40.toInt ≤ (30 : Int) by omega⟩ ⟨show (0 : Int) ≤ t42.toInt by omega, show t42.toInt ≤ (2147483647 : Int) by omega⟩ hM_v16 hA_f39 (by show (2147483647 - t42.toInt).toNat < n16; omega) _ _ _ hP hD hS (lv_sub hl [0, 1, 3, 4, 5, 6, 7, 8, 9] rfl)
                · skip
                  have zc35 : t29.toInt = 2 := by rw [fa_eq, show (2 : Int32).toInt = 2 from by decide] at c35; exact c35
                  refine lv_aload_n hx hb dX4_worth_189 rfl (lv_at hl 3 rfl) ?_
                  refine va_get (D := (dC, dI)) (ci := 4) (v := .ref (x 17)) (C := RX4) (T := TX4) (N := 6) hx hb hts inB_4 hown hE.1 hP 16 rfl rfl 1 (Nat.le_of_ble_eq_true rfl) (hts _ k_179) (fun _ h9 => h9) rfl dX4_worth_190 ?_
                  refine lv_iload hx hb dX4_worth_193 (lv_at hl 1 rfl) ?_
                  refine ldI hx hb hE hP 18 rfl (vp_in_iff.mpr ⟨by omega, by omega⟩) rfl rfl dX4_worth_195 ?_
                  refine lv_topi (fun t45 et45 => ?_)
                  refine lv_goto (tgt := 209) hx hb dX4_worth_196 rfl ?_
                  refine stI hx hb hE hP hD hS 19 rfl (vp_in_iff.mpr ⟨by omega, by omega⟩) rfl dX4_worth_209 (fun H locs hP hD hS => ?_)
                  obtain ⟨f46, ef46, hP, hD⟩ : ∃ fz9, fz9 = upd2 f16 13 (upd (f16 13) l7_16.toNatClampNeg t45) ∧ va_P (dC, dI) vwCl (XW cy x0 x v16 fz9) H ∧ va_D A (XW cy x0 x v16 fz9) := ⟨_, rfl, hP, hD⟩
                  have hA_f46 : KF [13, 14] f46 f := by rw [ef46]; exact KF.up hA_f16 rfl
                  obtain ⟨t47, et47⟩ : ∃ y : Int32, y = l7_16 + 1 := ⟨_, rfl⟩
                  have rg48 := fb_rng l7_16
                  have zt47 : t47.toInt = l7_16.toInt + 1 := by rw [et47]; exact add_i rfl (by decide) (by omega) (by omega)
                  refine lv_iinc (v := t47) (lv' := [(7, .int t47), (9, .int t29), (8, .int l8_16), (0, .ref (x 15)), (1, .int p1), (2, .int p2), (3, .int p3), (4, .int p4), (5, .int p5), (6, .int p6)]) hx hb dX4_worth_210 hl (k := 2) rfl (by rw [et47]; rfl) (by decide) rfl (fun ls hl => ?_)
                  refine lv_goto (tgt := 299) hx hb dX4_worth_213 rfl ?_
                  obtain ⟨t49, et49⟩ : ∃ y : Int32, y = l8_16 + 1 := ⟨_, rfl⟩
                  have zt49 : t49.toInt = l8_16.toInt + 1 := by rw [et49]; exact add_i rfl (by decide) (by omega) (by omega)
                  refine lv_iinc (v := t49) (lv' := [(8, .int t49), (7, .int t47), (9, .int t29), (0, .ref (x 15)), (1, .int p1), (2, .int p2), (3, .int p3), (4, .int p4), (5, .int p5), (6, .int p6)]) hx hb dX4_worth_299 hl (k := 2) rfl (by rw [et49]; rfl) (by decide) rfl (fun ls hl => ?_)
                  refine lv_goto (tgt := 124) hx hb dX4_worth_302 rfl ?_
                  have rg50 := fb_rng t47
                  have rg51 := fb_rng t49
                  exact ih16 t47 t49 v16 f46 hIv16 hq0_v16 hq1_v16 hq7_v16 hq8_v16 hq9_v16 hq10_v16 hq31_v16 hq32_v16 ⟨show (0 : Int) ≤ t47.toInt by omega, show t47.toInt ≤ (30 : Int) by omega⟩ ⟨show (0 : Int) ≤ t49.toInt by omega, show t49.toInt ≤ (2147483647 : Int) by omega⟩ hM_v16 hA_f46 (by show (2147483647 - t49.toInt).toNat < n16; omega) _ _ _ hP hD hS (lv_sub hl [0, 1, 3, 4, 5, 6, 7, 8, 9] rfl)
            · skip
              have zc30 : ¬ (t29.toInt = 2) := by rw [fa_eq, show (2 : Int32).toInt = 2 from by decide] at c30; exact c30
              refine lv_iload hx hb dX4_worth_156 (lv_at hl 0 rfl) ?_
              refine lv_bipush (v := 116) hx hb dX4_worth_158 rfl ?_
              refine lv_icmp_lt (tgt := 216) hx hb dX4_worth_160 rfl (fun c52 => ?_) (fun c52 => ?_)
              · skip
                have zc52 : t29.toInt < 116 := by rw [fa_lt, show (116 : Int32).toInt = 116 from by decide] at c52; exact c52
                refine lv_iload hx hb dX4_worth_216 (lv_at hl 0 rfl) ?_
                refine lv_bipush (v := 115) hx hb dX4_worth_218 rfl ?_
                refine lv_icmp_ne (tgt := 258) hx hb dX4_worth_220 rfl (fun c53 => ?_) (fun c53 => ?_)
                · skip
                  have zc53 : ¬ (t29.toInt = 115) := by rw [fa_eq, show (115 : Int32).toInt = 115 from by decide] at c53; exact c53
                  refine lv_iload hx hb dX4_worth_258 (lv_at hl 2 rfl) ?_
                  refine lv_iconst (v := 2) hx hb dX4_worth_260 rfl ?_
                  refine lv_icmp_lt (tgt := 299) hx hb dX4_worth_261 rfl (fun c54 => ?_) (fun c54 => ?_)
                  · skip
                    have zc54 : l7_16.toInt < 2 := by rw [fa_lt, show (2 : Int32).toInt = 2 from by decide] at c54; exact c54
                    obtain ⟨t55, et55⟩ : ∃ y : Int32, y = l8_16 + 1 := ⟨_, rfl⟩
                    have zt55 : t55.toInt = l8_16.toInt + 1 := by rw [et55]; exact add_i rfl (by decide) (by omega) (by omega)
                    refine lv_iinc (v := t55) (lv' := [(8, .int t55), (9, .int t29), (7, .int l7_16), (0, .ref (x 15)), (1, .int p1), (2, .int p2), (3, .int p3), (4, .int p4), (5, .int p5), (6, .int p6)]) hx hb dX4_worth_299 hl (k := 1) rfl (by rw [et55]; rfl) (by decide) rfl (fun ls hl => ?_)
                    refine lv_goto (tgt := 124) hx hb dX4_worth_302 rfl ?_
                    have rg56 := fb_rng l7_16
                    have rg57 := fb_rng t55
                    exact ih16 l7_16 t55 v16 f16 hIv16 hq0_v16 hq1_v16 hq7_v16 hq8_v16 hq9_v16 hq10_v16 hq31_v16 hq32_v16 ⟨show (0 : Int) ≤ l7_16.toInt by omega, show l7_16.toInt ≤ (30 : Int) by omega⟩ ⟨show (0 : Int) ≤ t55.toInt by omega, show t55.toInt ≤ (2147483647 : Int) by omega⟩ hM_v16 hA_f16 (by show (2147483647 - t55.toInt).toNat < n16; omega) _ _ _ hP hD hS (lv_sub hl [0, 2, 3, 4, 5, 6, 7, 8, 9] rfl)
                  · skip
                    have zc54 : ¬ (l7_16.toInt < 2) := by rw [fa_lt, show (2 : Int32).toInt = 2 from by decide] at c54; exact c54
                    refine lv_aload_n hx hb dX4_worth_264 rfl (lv_at hl 3 rfl) ?_
                    refine va_get (D := (dC, dI)) (ci := 4) (v := .ref (x 18)) (C := RX4) (T := TX4) (N := 6) hx hb hts inB_4 hown hE.1 hP 16 rfl rfl 2 (Nat.le_of_ble_eq_true rfl) (hts _ k_180) (fun _ h9 => h9) rfl dX4_worth_265 ?_
                    refine lv_iload hx hb dX4_worth_268 (lv_at hl 2 rfl) ?_
                    refine lv_iconst (v := 2) hx hb dX4_worth_270 rfl ?_
                    refine lv_isub hx hb dX4_worth_271 ?_
                    refine lv_topi (fun t58 et58 => ?_)
                    have rg59 := fb_rng l7_16
                    have zt58 : t58.toInt = l7_16.toInt - 2 := by rw [et58]; exact sub_i rfl (by decide) (by omega) (by omega)
                    refine lv_iload hx hb dX4_worth_272 (lv_at hl 0 rfl) ?_
                    refine lv_aload_n hx hb dX4_worth_274 rfl (lv_at hl 3 rfl) ?_
                    refine va_get (D := (dC, dI)) (ci := 4) (v := .ref (x 18)) (C := RX4) (T := TX4) (N := 6) hx hb hts inB_4 hown hE.1 hP 16 rfl rfl 2 (Nat.le_of_ble_eq_true rfl) (hts _ k_180) (fun _ h9 => h9) rfl dX4_worth_275 ?_
                    refine lv_iload hx hb dX4_worth_278 (lv_at hl 2 rfl) ?_
                    refine lv_iconst (v := 2) hx hb dX4_worth_280 rfl ?_
                    refine lv_isub hx hb dX4_worth_281 ?_
                    refine tI (y := t58) et58.symm ?_
                    refine ldI hx hb hE hP 19 rfl (vp_in_iff.mpr ⟨by omega, by omega⟩) rfl rfl dX4_worth_282 ?_
                    refine lv_topi (fun t60 et60 => ?_)
                    refine lv_aload_n hx hb dX4_worth_283 rfl (lv_at hl 3 rfl) ?_
                    refine va_get (D := (dC, dI)) (ci := 4) (v := .ref (x 18)) (C := RX4) (T := TX4) (N := 6) hx hb hts inB_4 hown hE.1 hP 16 rfl rfl 2 (Nat.le_of_ble_eq_true rfl) (hts _ k_180) (fun _ h9 => h9) rfl dX4_worth_284 ?_
                    refine lv_iload hx hb dX4_worth_287 (lv_at hl 2 rfl) ?_
                    refine lv_iconst (v := 1) hx hb dX4_worth_289 rfl ?_
                    refine lv_isub hx hb dX4_worth_290 ?_
                    refine lv_topi (fun t61 et61 => ?_)
                    have zt61 : t61.toInt = l7_16.toInt - 1 := by rw [et61]; exact sub_i rfl (by decide) (by omega) (by omega)
                    refine ldI hx hb hE hP 19 rfl (vp_in_iff.mpr ⟨by omega, by omega⟩) rfl rfl dX4_worth_291 ?_
                    refine lv_topi (fun t62 et62 => ?_)
                    refine cbSi (n := 3) (rest := [.int t58, .ref (x 18)]) hx hb hml hown hts hE hP hD hS hA (sX_X4_joined_1 l dC dI cy x0 x t29 t60 t62 v16 f16 hIv16 ) k_841 k_842 k_105 k_843 (by decide +kernel) ⟨Nat.le_of_ble_eq_true rfl, Nat.le_of_ble_eq_true rfl⟩ (rfl) hl.1 rfl (Nat.le_of_ble_eq_true rfl) dX4_worth_292 (fun r63 u H locs hw hP hD hS => ?_)
                    refine stI hx hb hE hP hD hS 19 rfl (vp_in_iff.mpr ⟨by omega, by omega⟩) rfl dX4_worth_295 (fun H locs hP hD hS => ?_)
                    obtain ⟨f64, ef64, hP, hD⟩ : ∃ fz9, fz9 = upd2 f16 13 (upd (f16 13) t58.toNatClampNeg r63) ∧ va_P (dC, dI) vwCl (XW cy x0 x v16 fz9) H ∧ va_D A (XW cy x0 x v16 fz9) := ⟨_, rfl, hP, hD⟩
                    have hA_f64 : KF [13, 14] f64 f := by rw [ef64]; exact KF.up hA_f16 rfl
                    obtain ⟨t65, et65⟩ : ∃ y : Int32, y = l7_16 + (-1) := ⟨_, rfl⟩
                    have zt65 : t65.toInt = l7_16.toInt + (-1) := by rw [et65]; exact add_i rfl (by decide) (by omega) (by omega)
                    refine lv_iinc (v := t65) (lv' := [(7, .int t65), (9, .int t29), (8, .int l8_16), (0, .ref (x 15)), (1, .int p1), (2, .int p2), (3, .int p3), (4, .int p4), (5, .int p5), (6, .int p6)]) hx hb dX4_worth_296 hl (k := 2) rfl (by rw [et65]; rfl) (by decide) rfl (fun ls hl => ?_)
                    obtain ⟨t66, et66⟩ : ∃ y : Int32, y = l8_16 + 1 := ⟨_, rfl⟩
                    have zt66 : t66.toInt = l8_16.toInt + 1 := by rw [et66]; exact add_i rfl (by decide) (by omega) (by omega)
                    refine lv_iinc (v := t66) (lv' := [(8, .int t66), (7, .int t65), (9, .int t29), (0, .ref (x 15)), (1, .int p1), (2, .int p2), (3, .int p3), (4, .int p4), (5, .int p5), (6, .int p6)]) hx hb dX4_worth_299 hl (k := 2) rfl (by rw [et66]; rfl) (by decide) rfl (fun ls hl => ?_)
                    refine lv_goto (tgt := 124) hx hb dX4_worth_302 rfl ?_
                    have rg67 := fb_rng t65
                    have rg68 := fb_rng t66
                    exact ih16 t65 t66 v16 f64 hIv16 hq0_v16 hq1_v16 hq7_v16 hq8_v16 hq9_v16 hq10_v16 hq31_v16 hq32_v16 ⟨show (0 : Int) ≤ t65.toInt by omega, show t65.toInt ≤ (30 : Int) by omega⟩ ⟨show (0 : Int) ≤ t66.toInt by omega, show t66.toInt ≤ (2147483647 : Int) by omega⟩ hM_v16 hA_f64 (by show (2147483647 - t66.toInt).toNat < n16; omega) _ _ _ hP hD hS (lv_sub hl [0, 1, 3, 4, 5, 6, 7, 8, 9] rfl)
                · skip
                  have zc53 : t29.toInt = 115 := by rw [fa_eq, show (115 : Int32).toInt = 115 from by decide] at c53; exact c53
                  refine lv_iload hx hb dX4_worth_223 (lv_at hl 2 rfl) ?_
                  refine lv_iconst (v := 1) hx hb dX4_worth_225 rfl ?_
                  refine lv_icmp_lt (tgt := 258) hx hb dX4_worth_226 rfl (fun c69 => ?_) (fun c69 => ?_)
                  · skip
                    have zc69 : l7_16.toInt < 1 := by rw [fa_lt, show (1 : Int32).toInt = 1 from by decide] at c69; exact c69
                    refine lv_iload hx hb dX4_worth_258 (lv_at hl 2 rfl) ?_
                    refine lv_iconst (v := 2) hx hb dX4_worth_260 rfl ?_
                    refine lv_icmp_lt (tgt := 299) hx hb dX4_worth_261 rfl (fun c70 => ?_) (fun c70 => ?_)
                    · skip
                      have zc70 : l7_16.toInt < 2 := by rw [fa_lt, show (2 : Int32).toInt = 2 from by decide] at c70; exact c70
                      obtain ⟨t71, et71⟩ : ∃ y : Int32, y = l8_16 + 1 := ⟨_, rfl⟩
                      have zt71 : t71.toInt = l8_16.toInt + 1 := by rw [et71]; exact add_i rfl (by decide) (by omega) (by omega)
                      refine lv_iinc (v := t71) (lv' := [(8, .int t71), (9, .int t29), (7, .int l7_16), (0, .ref (x 15)), (1, .int p1), (2, .int p2), (3, .int p3), (4, .int p4), (5, .int p5), (6, .int p6)]) hx hb dX4_worth_299 hl (k := 1) rfl (by rw [et71]; rfl) (by decide) rfl (fun ls hl => ?_)
                      refine lv_goto (tgt := 124) hx hb dX4_worth_302 rfl ?_
                      have rg72 := fb_rng l7_16
                      have rg73 := fb_rng t71
                      exact ih16 l7_16 t71 v16 f16 hIv16 hq0_v16 hq1_v16 hq7_v16 hq8_v16 hq9_v16 hq10_v16 hq31_v16 hq32_v16 ⟨show (0 : Int) ≤ l7_16.toInt by omega, show l7_16.toInt ≤ (30 : Int) by omega⟩ ⟨show (0 : Int) ≤ t71.toInt by omega, show t71.toInt ≤ (2147483647 : Int) by omega⟩ hM_v16 hA_f16 (by show (2147483647 - t71.toInt).toNat < n16; omega) _ _ _ hP hD hS (lv_sub hl [0, 2, 3, 4, 5, 6, 7, 8, 9] rfl)
                    · skip
                      have zc70 : ¬ (l7_16.toInt < 2) := by rw [fa_lt, show (2 : Int32).toInt = 2 from by decide] at c70; exact c70
                      refine lv_aload_n hx hb dX4_worth_264 rfl (lv_at hl 3 rfl) ?_
                      refine va_get (D := (dC, dI)) (ci := 4) (v := .ref (x 18)) (C := RX4) (T := TX4) (N := 6) hx hb hts inB_4 hown hE.1 hP 16 rfl rfl 2 (Nat.le_of_ble_eq_true rfl) (hts _ k_180) (fun _ h9 => h9) rfl dX4_worth_265 ?_
                      refine lv_iload hx hb dX4_worth_268 (lv_at hl 2 rfl) ?_
                      refine lv_iconst (v := 2) hx hb dX4_worth_270 rfl ?_
                      refine lv_isub hx hb dX4_worth_271 ?_
                      refine lv_topi (fun t74 et74 => ?_)
                      have rg75 := fb_rng l7_16
                      have zt74 : t74.toInt = l7_16.toInt - 2 := by rw [et74]; exact sub_i rfl (by decide) (by omega) (by omega)
                      refine lv_iload hx hb dX4_worth_272 (lv_at hl 0 rfl) ?_
                      refine lv_aload_n hx hb dX4_worth_274 rfl (lv_at hl 3 rfl) ?_
                      refine va_get (D := (dC, dI)) (ci := 4) (v := .ref (x 18)) (C := RX4) (T := TX4) (N := 6) hx hb hts inB_4 hown hE.1 hP 16 rfl rfl 2 (Nat.le_of_ble_eq_true rfl) (hts _ k_180) (fun _ h9 => h9) rfl dX4_worth_275 ?_
                      refine lv_iload hx hb dX4_worth_278 (lv_at hl 2 rfl) ?_
                      refine lv_iconst (v := 2) hx hb dX4_worth_280 rfl ?_
                      refine lv_isub hx hb dX4_worth_281 ?_
                      refine tI (y := t74) et74.symm ?_
                      refine ldI hx hb hE hP 19 rfl (vp_in_iff.mpr ⟨by omega, by omega⟩) rfl rfl dX4_worth_282 ?_
                      refine lv_topi (fun t76 et76 => ?_)
                      refine lv_aload_n hx hb dX4_worth_283 rfl (lv_at hl 3 rfl) ?_
                      refine va_get (D := (dC, dI)) (ci := 4) (v := .ref (x 18)) (C := RX4) (T := TX4) (N := 6) hx hb hts inB_4 hown hE.1 hP 16 rfl rfl 2 (Nat.le_of_ble_eq_true rfl) (hts _ k_180) (fun _ h9 => h9) rfl dX4_worth_284 ?_
                      refine lv_iload hx hb dX4_worth_287 (lv_at hl 2 rfl) ?_
                      refine lv_iconst (v := 1) hx hb dX4_worth_289 rfl ?_
                      refine lv_isub hx hb dX4_worth_290 ?_
                      refine lv_topi (fun t77 et77 => ?_)
                      have zt77 : t77.toInt = l7_16.toInt - 1 := by rw [et77]; exact sub_i rfl (by decide) (by omega) (by omega)
                      refine ldI hx hb hE hP 19 rfl (vp_in_iff.mpr ⟨by omega, by omega⟩) rfl rfl dX4_worth_291 ?_
                      refine lv_topi (fun t78 et78 => ?_)
                      refine cbSi (n := 3) (rest := [.int t74, .ref (x 18)]) hx hb hml hown hts hE hP hD hS hA (sX_X4_joined_1 l dC dI cy x0 x t29 t76 t78 v16 f16 hIv16 ) k_841 k_842 k_105 k_843 (by decide +kernel) ⟨Nat.le_of_ble_eq_true rfl, Nat.le_of_ble_eq_true rfl⟩ (rfl) hl.1 rfl (Nat.le_of_ble_eq_true rfl) dX4_worth_292 (fun r79 u H locs hw hP hD hS => ?_)
                      refine stI hx hb hE hP hD hS 19 rfl (vp_in_iff.mpr ⟨by omega, by omega⟩) rfl dX4_worth_295 (fun H locs hP hD hS => ?_)
                      obtain ⟨f80, ef80, hP, hD⟩ : ∃ fz9, fz9 = upd2 f16 13 (upd (f16 13) t74.toNatClampNeg r79) ∧ va_P (dC, dI) vwCl (XW cy x0 x v16 fz9) H ∧ va_D A (XW cy x0 x v16 fz9) := ⟨_, rfl, hP, hD⟩
                      have hA_f80 : KF [13, 14] f80 f := by rw [ef80]; exact KF.up hA_f16 rfl
                      obtain ⟨t81, et81⟩ : ∃ y : Int32, y = l7_16 + (-1) := ⟨_, rfl⟩
                      have zt81 : t81.toInt = l7_16.toInt + (-1) := by rw [et81]; exact add_i rfl (by decide) (by omega) (by omega)
                      refine lv_iinc (v := t81) (lv' := [(7, .int t81), (9, .int t29), (8, .int l8_16), (0, .ref (x 15)), (1, .int p1), (2, .int p2), (3, .int p3), (4, .int p4), (5, .int p5), (6, .int p6)]) hx hb dX4_worth_296 hl (k := 2) rfl (by rw [et81]; rfl) (by decide) rfl (fun ls hl => ?_)
                      obtain ⟨t82, et82⟩ : ∃ y : Int32, y = l8_16 + 1 := ⟨_, rfl⟩
                      have zt82 : t82.toInt = l8_16.toInt + 1 := by rw [et82]; exact add_i rfl (by decide) (by omega) (by omega)
                      refine lv_iinc (v := t82) (lv' := [(8, .int t82), (7, .int t81), (9, .int t29), (0, .ref (x 15)), (1, .int p1), (2, .int p2), (3, .int p3), (4, .int p4), (5, .int p5), (6, .int p6)]) hx hb dX4_worth_299 hl (k := 2) rfl (by rw [et82]; rfl) (by decide) rfl (fun ls hl => ?_)
                      refine lv_goto (tgt := 124) hx hb dX4_worth_302 rfl ?_
                      have rg83 := fb_rng t81
                      have rg84 := fb_rng t82
                      exact ih16 t81 t82 v16 f80 hIv16 hq0_v16 hq1_v16 hq7_v16 hq8_v16 hq9_v16 hq10_v16 hq31_v16 hq32_v16 ⟨show (0 : Int) ≤ t81.toInt by omega, show t81.toInt ≤ (30 : Int) by omega⟩ ⟨show (0 : Int) ≤ t82.toInt by omega, show t82.toInt ≤ (2147483647 : Int) by omega⟩ hM_v16 hA_f80 (by show (2147483647 - t82.toInt).toNat < n16; omega) _ _ _ hP hD hS (lv_sub hl [0, 1, 3, 4, 5, 6, 7, 8, 9] rfl)
                  · skip
                    have zc69 : ¬ (l7_16.toInt < 1) := by rw [fa_lt, show (1 : Int32).toInt = 1 from by decide] at c69; exact c69
                    refine lv_aload_n hx hb dX4_worth_229 rfl (lv_at hl 3 rfl) ?_
                    refine va_get (D := (dC, dI)) (ci := 4) (v := .ref (x 18)) (C := RX4) (T := TX4) (N := 6) hx hb hts inB_4 hown hE.1 hP 16 rfl rfl 2 (Nat.le_of_ble_eq_true rfl) (hts _ k_180) (fun _ h9 => h9) rfl dX4_worth_230 ?_
                    refine lv_iload hx hb dX4_worth_233 (lv_at hl 2 rfl) ?_
                    refine lv_iconst (v := 1) hx hb dX4_worth_235 rfl ?_
                    refine lv_isub hx hb dX4_worth_236 ?_
                    refine lv_topi (fun t85 et85 => ?_)
                    have rg86 := fb_rng l7_16
                    have zt85 : t85.toInt = l7_16.toInt - 1 := by rw [et85]; exact sub_i rfl (by decide) (by omega) (by omega)
                    refine lv_aload_n hx hb dX4_worth_237 rfl (lv_at hl 3 rfl) ?_
                    refine va_get (D := (dC, dI)) (ci := 4) (v := .ref (x 18)) (C := RX4) (T := TX4) (N := 6) hx hb hts inB_4 hown hE.1 hP 16 rfl rfl 2 (Nat.le_of_ble_eq_true rfl) (hts _ k_180) (fun _ h9 => h9) rfl dX4_worth_238 ?_
                    refine lv_iload hx hb dX4_worth_241 (lv_at hl 2 rfl) ?_
                    refine lv_iconst (v := 1) hx hb dX4_worth_243 rfl ?_
                    refine lv_isub hx hb dX4_worth_244 ?_
                    refine tI (y := t85) et85.symm ?_
                    refine ldI hx hb hE hP 19 rfl (vp_in_iff.mpr ⟨by omega, by omega⟩) rfl rfl dX4_worth_245 ?_
                    refine lv_topi (fun t87 et87 => ?_)
                    refine lv_if_ne (tgt := 253) hx hb dX4_worth_246 rfl (fun c88 => ?_) (fun c88 => ?_)
                    · skip
                      have zc88 : ¬ (t87.toInt = 0) := by rw [fa_eq, show (0 : Int32).toInt = 0 from by decide] at c88; exact c88
                      refine lv_iconst (v := 0) hx hb dX4_worth_253 rfl ?_
                      refine stI hx hb hE hP hD hS 19 rfl (vp_in_iff.mpr ⟨by omega, by omega⟩) rfl dX4_worth_254 (fun H locs hP hD hS => ?_)
                      obtain ⟨f89, ef89, hP, hD⟩ : ∃ fz9, fz9 = upd2 f16 13 (upd (f16 13) t85.toNatClampNeg 0) ∧ va_P (dC, dI) vwCl (XW cy x0 x v16 fz9) H ∧ va_D A (XW cy x0 x v16 fz9) := ⟨_, rfl, hP, hD⟩
                      have hA_f89 : KF [13, 14] f89 f := by rw [ef89]; exact KF.up hA_f16 rfl
                      refine lv_goto (tgt := 299) hx hb dX4_worth_255 rfl ?_
                      obtain ⟨t90, et90⟩ : ∃ y : Int32, y = l8_16 + 1 := ⟨_, rfl⟩
                      have zt90 : t90.toInt = l8_16.toInt + 1 := by rw [et90]; exact add_i rfl (by decide) (by omega) (by omega)
                      refine lv_iinc (v := t90) (lv' := [(8, .int t90), (9, .int t29), (7, .int l7_16), (0, .ref (x 15)), (1, .int p1), (2, .int p2), (3, .int p3), (4, .int p4), (5, .int p5), (6, .int p6)]) hx hb dX4_worth_299 hl (k := 1) rfl (by rw [et90]; rfl) (by decide) rfl (fun ls hl => ?_)
                      refine lv_goto (tgt := 124) hx hb dX4_worth_302 rfl ?_
                      have rg91 := fb_rng t90
                      exact ih16 l7_16 t90 v16 f89 hIv16 hq0_v16 hq1_v16 hq7_v16 hq8_v16 hq9_v16 hq10_v16 hq31_v16 hq32_v16 ⟨show (0 : Int) ≤ l7_16.toInt by omega, show l7_16.toInt ≤ (30 : Int) by omega⟩ ⟨show (0 : Int) ≤ t90.toInt by omega, show t90.toInt ≤ (2147483647 : Int) by omega⟩ hM_v16 hA_f89 (by show (2147483647 - t90.toInt).toNat < n16; omega) _ _ _ hP hD hS (lv_sub hl [0, 2, 3, 4, 5, 6, 7, 8, 9] rfl)
                    · skip
                      have zc88 : t87.toInt = 0 := by rw [fa_eq, show (0 : Int32).toInt = 0 from by decide] at c88; exact c88
                      refine lv_iconst (v := 1) hx hb dX4_worth_249 rfl ?_
                      refine lv_goto (tgt := 254) hx hb dX4_worth_250 rfl ?_
                      refine stI hx hb hE hP hD hS 19 rfl (vp_in_iff.mpr ⟨by omega, by omega⟩) rfl dX4_worth_254 (fun H locs hP hD hS => ?_)
                      obtain ⟨f92, ef92, hP, hD⟩ : ∃ fz9, fz9 = upd2 f16 13 (upd (f16 13) t85.toNatClampNeg 1) ∧ va_P (dC, dI) vwCl (XW cy x0 x v16 fz9) H ∧ va_D A (XW cy x0 x v16 fz9) := ⟨_, rfl, hP, hD⟩
                      have hA_f92 : KF [13, 14] f92 f := by rw [ef92]; exact KF.up hA_f16 rfl
                      refine lv_goto (tgt := 299) hx hb dX4_worth_255 rfl ?_
                      obtain ⟨t93, et93⟩ : ∃ y : Int32, y = l8_16 + 1 := ⟨_, rfl⟩
                      have zt93 : t93.toInt = l8_16.toInt + 1 := by rw [et93]; exact add_i rfl (by decide) (by omega) (by omega)
                      refine lv_iinc (v := t93) (lv' := [(8, .int t93), (9, .int t29), (7, .int l7_16), (0, .ref (x 15)), (1, .int p1), (2, .int p2), (3, .int p3), (4, .int p4), (5, .int p5), (6, .int p6)]) hx hb dX4_worth_299 hl (k := 1) rfl (by rw [et93]; rfl) (by decide) rfl (fun ls hl => ?_)
                      refine lv_goto (tgt := 124) hx hb dX4_worth_302 rfl ?_
                      have rg94 := fb_rng t93
                      exact ih16 l7_16 t93 v16 f92 hIv16 hq0_v16 hq1_v16 hq7_v16 hq8_v16 hq9_v16 hq10_v16 hq31_v16 hq32_v16 ⟨show (0 : Int) ≤ l7_16.toInt by omega, show l7_16.toInt ≤ (30 : Int) by omega⟩ ⟨show (0 : Int) ≤ t93.toInt by omega, show t93.toInt ≤ (2147483647 : Int) by omega⟩ hM_v16 hA_f92 (by show (2147483647 - t93.toInt).toNat < n16; omega) _ _ _ hP hD hS (lv_sub hl [0, 2, 3, 4, 5, 6, 7, 8, 9] rfl)
              · skip
                have zc52 : ¬ (t29.toInt < 116) := by rw [fa_lt, show (116 : Int32).toInt = 116 from by decide] at c52; exact c52
                refine lv_iload hx hb dX4_worth_163 (lv_at hl 0 rfl) ?_
                refine lv_bipush (v := 122) hx hb dX4_worth_165 rfl ?_
                refine lv_icmp_ge (tgt := 216) hx hb dX4_worth_167 rfl (fun c95 => ?_) (fun c95 => ?_)
                · skip
                  have zc95 : 122 ≤ t29.toInt := by rw [fa_le, show (122 : Int32).toInt = 122 from by decide] at c95; exact c95
                  refine lv_iload hx hb dX4_worth_216 (lv_at hl 0 rfl) ?_
                  refine lv_bipush (v := 115) hx hb dX4_worth_218 rfl ?_
                  refine lv_icmp_ne (tgt := 258) hx hb dX4_worth_220 rfl (fun c96 => ?_) (fun c96 => ?_)
                  · skip
                    have zc96 : ¬ (t29.toInt = 115) := by rw [fa_eq, show (115 : Int32).toInt = 115 from by decide] at c96; exact c96
                    refine lv_iload hx hb dX4_worth_258 (lv_at hl 2 rfl) ?_
                    refine lv_iconst (v := 2) hx hb dX4_worth_260 rfl ?_
                    refine lv_icmp_lt (tgt := 299) hx hb dX4_worth_261 rfl (fun c97 => ?_) (fun c97 => ?_)
                    · skip
                      have zc97 : l7_16.toInt < 2 := by rw [fa_lt, show (2 : Int32).toInt = 2 from by decide] at c97; exact c97
                      obtain ⟨t98, et98⟩ : ∃ y : Int32, y = l8_16 + 1 := ⟨_, rfl⟩
                      have zt98 : t98.toInt = l8_16.toInt + 1 := by rw [et98]; exact add_i rfl (by decide) (by omega) (by omega)
                      refine lv_iinc (v := t98) (lv' := [(8, .int t98), (9, .int t29), (7, .int l7_16), (0, .ref (x 15)), (1, .int p1), (2, .int p2), (3, .int p3), (4, .int p4), (5, .int p5), (6, .int p6)]) hx hb dX4_worth_299 hl (k := 1) rfl (by rw [et98]; rfl) (by decide) rfl (fun ls hl => ?_)
                      refine lv_goto (tgt := 124) hx hb dX4_worth_302 rfl ?_
                      have rg99 := fb_rng l7_16
                      have rg100 := fb_rng t98
                      exact ih16 l7_16 t98 v16 f16 hIv16 hq0_v16 hq1_v16 hq7_v16 hq8_v16 hq9_v16 hq10_v16 hq31_v16 hq32_v16 ⟨show (0 : Int) ≤ l7_16.toInt by omega, show l7_16.toInt ≤ (30 : Int) by omega⟩ ⟨show (0 : Int) ≤ t98.toInt by omega, show t98.toInt ≤ (2147483647 : Int) by omega⟩ hM_v16 hA_f16 (by show (2147483647 - t98.toInt).toNat < n16; omega) _ _ _ hP hD hS (lv_sub hl [0, 2, 3, 4, 5, 6, 7, 8, 9] rfl)
                    · skip
                      have zc97 : ¬ (l7_16.toInt < 2) := by rw [fa_lt, show (2 : Int32).toInt = 2 from by decide] at c97; exact c97
                      refine lv_aload_n hx hb dX4_worth_264 rfl (lv_at hl 3 rfl) ?_
                      refine va_get (D := (dC, dI)) (ci := 4) (v := .ref (x 18)) (C := RX4) (T := TX4) (N := 6) hx hb hts inB_4 hown hE.1 hP 16 rfl rfl 2 (Nat.le_of_ble_eq_true rfl) (hts _ k_180) (fun _ h9 => h9) rfl dX4_worth_265 ?_
                      refine lv_iload hx hb dX4_worth_268 (lv_at hl 2 rfl) ?_
                      refine lv_iconst (v := 2) hx hb dX4_worth_270 rfl ?_
                      refine lv_isub hx hb dX4_worth_271 ?_
                      refine lv_topi (fun t101 et101 => ?_)
                      have rg102 := fb_rng l7_16
                      have zt101 : t101.toInt = l7_16.toInt - 2 := by rw [et101]; exact sub_i rfl (by decide) (by omega) (by omega)
                      refine lv_iload hx hb dX4_worth_272 (lv_at hl 0 rfl) ?_
                      refine lv_aload_n hx hb dX4_worth_274 rfl (lv_at hl 3 rfl) ?_
                      refine va_get (D := (dC, dI)) (ci := 4) (v := .ref (x 18)) (C := RX4) (T := TX4) (N := 6) hx hb hts inB_4 hown hE.1 hP 16 rfl rfl 2 (Nat.le_of_ble_eq_true rfl) (hts _ k_180) (fun _ h9 => h9) rfl dX4_worth_275 ?_
                      refine lv_iload hx hb dX4_worth_278 (lv_at hl 2 rfl) ?_
                      refine lv_iconst (v := 2) hx hb dX4_worth_280 rfl ?_
                      refine lv_isub hx hb dX4_worth_281 ?_
                      refine tI (y := t101) et101.symm ?_
                      refine ldI hx hb hE hP 19 rfl (vp_in_iff.mpr ⟨by omega, by omega⟩) rfl rfl dX4_worth_282 ?_
                      refine lv_topi (fun t103 et103 => ?_)
                      refine lv_aload_n hx hb dX4_worth_283 rfl (lv_at hl 3 rfl) ?_
                      refine va_get (D := (dC, dI)) (ci := 4) (v := .ref (x 18)) (C := RX4) (T := TX4) (N := 6) hx hb hts inB_4 hown hE.1 hP 16 rfl rfl 2 (Nat.le_of_ble_eq_true rfl) (hts _ k_180) (fun _ h9 => h9) rfl dX4_worth_284 ?_
                      refine lv_iload hx hb dX4_worth_287 (lv_at hl 2 rfl) ?_
                      refine lv_iconst (v := 1) hx hb dX4_worth_289 rfl ?_
                      refine lv_isub hx hb dX4_worth_290 ?_
                      refine lv_topi (fun t104 et104 => ?_)
                      have zt104 : t104.toInt = l7_16.toInt - 1 := by rw [et104]; exact sub_i rfl (by decide) (by omega) (by omega)
                      refine ldI hx hb hE hP 19 rfl (vp_in_iff.mpr ⟨by omega, by omega⟩) rfl rfl dX4_worth_291 ?_
                      refine lv_topi (fun t105 et105 => ?_)
                      refine cbSi (n := 3) (rest := [.int t101, .ref (x 18)]) hx hb hml hown hts hE hP hD hS hA (sX_X4_joined_1 l dC dI cy x0 x t29 t103 t105 v16 f16 hIv16 ) k_841 k_842 k_105 k_843 (by decide +kernel) ⟨Nat.le_of_ble_eq_true rfl, Nat.le_of_ble_eq_true rfl⟩ (rfl) hl.1 rfl (Nat.le_of_ble_eq_true rfl) dX4_worth_292 (fun r106 u H locs hw hP hD hS => ?_)
                      refine stI hx hb hE hP hD hS 19 rfl (vp_in_iff.mpr ⟨by omega, by omega⟩) rfl dX4_worth_295 (fun H locs hP hD hS => ?_)
                      obtain ⟨f107, ef107, hP, hD⟩ : ∃ fz9, fz9 = upd2 f16 13 (upd (f16 13) t101.toNatClampNeg r106) ∧ va_P (dC, dI) vwCl (XW cy x0 x v16 fz9) H ∧ va_D A (XW cy x0 x v16 fz9) := ⟨_, rfl, hP, hD⟩
                      have hA_f107 : KF [13, 14] f107 f := by rw [ef107]; exact KF.up hA_f16 rfl
                      obtain ⟨t108, et108⟩ : ∃ y : Int32, y = l7_16 + (-1) := ⟨_, rfl⟩
                      have zt108 : t108.toInt = l7_16.toInt + (-1) := by rw [et108]; exact add_i rfl (by decide) (by omega) (by omega)
                      refine lv_iinc (v := t108) (lv' := [(7, .int t108), (9, .int t29), (8, .int l8_16), (0, .ref (x 15)), (1, .int p1), (2, .int p2), (3, .int p3), (4, .int p4), (5, .int p5), (6, .int p6)]) hx hb dX4_worth_296 hl (k := 2) rfl (by rw [et108]; rfl) (by decide) rfl (fun ls hl => ?_)
                      obtain ⟨t109, et109⟩ : ∃ y : Int32, y = l8_16 + 1 := ⟨_, rfl⟩
                      have zt109 : t109.toInt = l8_16.toInt + 1 := by rw [et109]; exact add_i rfl (by decide) (by omega) (by omega)
                      refine lv_iinc (v := t109) (lv' := [(8, .int t109), (7, .int t108), (9, .int t29), (0, .ref (x 15)), (1, .int p1), (2, .int p2), (3, .int p3), (4, .int p4), (5, .int p5), (6, .int p6)]) hx hb dX4_worth_299 hl (k := 2) rfl (by rw [et109]; rfl) (by decide) rfl (fun ls hl => ?_)
                      refine lv_goto (tgt := 124) hx hb dX4_worth_302 rfl ?_
                      have rg110 := fb_rng t108
                      have rg111 := fb_rng t109
                      exact ih16 t108 t109 v16 f107 hIv16 hq0_v16 hq1_v16 hq7_v16 hq8_v16 hq9_v16 hq10_v16 hq31_v16 hq32_v16 ⟨show (0 : Int) ≤ t108.toInt by omega, show t108.toInt ≤ (30 : Int) by omega⟩ ⟨show (0 : Int) ≤ t109.toInt by omega, show t109.toInt ≤ (2147483647 : Int) by omega⟩ hM_v16 hA_f107 (by show (2147483647 - t109.toInt).toNat < n16; omega) _ _ _ hP hD hS (lv_sub hl [0, 1, 3, 4, 5, 6, 7, 8, 9] rfl)
                  · skip
                    have zc96 : t29.toInt = 115 := by rw [fa_eq, show (115 : Int32).toInt = 115 from by decide] at c96; exact c96
                    refine lv_iload hx hb dX4_worth_223 (lv_at hl 2 rfl) ?_
                    refine lv_iconst (v := 1) hx hb dX4_worth_225 rfl ?_
                    refine lv_icmp_lt (tgt := 258) hx hb dX4_worth_226 rfl (fun c112 => ?_) (fun c112 => ?_)
                    · skip
                      have zc112 : l7_16.toInt < 1 := by rw [fa_lt, show (1 : Int32).toInt = 1 from by decide] at c112; exact c112
                      refine lv_iload hx hb dX4_worth_258 (lv_at hl 2 rfl) ?_
                      refine lv_iconst (v := 2) hx hb dX4_worth_260 rfl ?_
                      refine lv_icmp_lt (tgt := 299) hx hb dX4_worth_261 rfl (fun c113 => ?_) (fun c113 => ?_)
                      · skip
                        have zc113 : l7_16.toInt < 2 := by rw [fa_lt, show (2 : Int32).toInt = 2 from by decide] at c113; exact c113
                        obtain ⟨t114, et114⟩ : ∃ y : Int32, y = l8_16 + 1 := ⟨_, rfl⟩
                        have zt114 : t114.toInt = l8_16.toInt + 1 := by rw [et114]; exact add_i rfl (by decide) (by omega) (by omega)
                        refine lv_iinc (v := t114) (lv' := [(8, .int t114), (9, .int t29), (7, .int l7_16), (0, .ref (x 15)), (1, .int p1), (2, .int p2), (3, .int p3), (4, .int p4), (5, .int p5), (6, .int p6)]) hx hb dX4_worth_299 hl (k := 1) rfl (by rw [et114]; rfl) (by decide) rfl (fun ls hl => ?_)
                        refine lv_goto (tgt := 124) hx hb dX4_worth_302 rfl ?_
                        have rg115 := fb_rng l7_16
                        have rg116 := fb_rng t114
                        exact ih16 l7_16 t114 v16 f16 hIv16 hq0_v16 hq1_v16 hq7_v16 hq8_v16 hq9_v16 hq10_v16 hq31_v16 hq32_v16 ⟨show (0 : Int) ≤ l7_16.toInt by omega, show l7_16.toInt ≤ (30 : Int) by omega⟩ ⟨show (0 : Int) ≤ t114.toInt by omega, show t114.toInt ≤ (2147483647 : Int) by omega⟩ hM_v16 hA_f16 (by show (2147483647 - t114.toInt).toNat < n16; omega) _ _ _ hP hD hS (lv_sub hl [0, 2, 3, 4, 5, 6, 7, 8, 9] rfl)
                      · skip
                        have zc113 : ¬ (l7_16.toInt < 2) := by rw [fa_lt, show (2 : Int32).toInt = 2 from by decide] at c113; exact c113
                        refine lv_aload_n hx hb dX4_worth_264 rfl (lv_at hl 3 rfl) ?_
                        refine va_get (D := (dC, dI)) (ci := 4) (v := .ref (x 18)) (C := RX4) (T := TX4) (N := 6) hx hb hts inB_4 hown hE.1 hP 16 rfl rfl 2 (Nat.le_of_ble_eq_true rfl) (hts _ k_180) (fun _ h9 => h9) rfl dX4_worth_265 ?_
                        refine lv_iload hx hb dX4_worth_268 (lv_at hl 2 rfl) ?_
                        refine lv_iconst (v := 2) hx hb dX4_worth_270 rfl ?_
                        refine lv_isub hx hb dX4_worth_271 ?_
                        refine lv_topi (fun t117 et117 => ?_)
                        have rg118 := fb_rng l7_16
                        have zt117 : t117.toInt = l7_16.toInt - 2 := by rw [et117]; exact sub_i rfl (by decide) (by omega) (by omega)
                        refine lv_iload hx hb dX4_worth_272 (lv_at hl 0 rfl) ?_
                        refine lv_aload_n hx hb dX4_worth_274 rfl (lv_at hl 3 rfl) ?_
                        refine va_get (D := (dC, dI)) (ci := 4) (v := .ref (x 18)) (C := RX4) (T := TX4) (N := 6) hx hb hts inB_4 hown hE.1 hP 16 rfl rfl 2 (Nat.le_of_ble_eq_true rfl) (hts _ k_180) (fun _ h9 => h9) rfl dX4_worth_275 ?_
                        refine lv_iload hx hb dX4_worth_278 (lv_at hl 2 rfl) ?_
                        refine lv_iconst (v := 2) hx hb dX4_worth_280 rfl ?_
                        refine lv_isub hx hb dX4_worth_281 ?_
                        refine tI (y := t117) et117.symm ?_
                        refine ldI hx hb hE hP 19 rfl (vp_in_iff.mpr ⟨by omega, by omega⟩) rfl rfl dX4_worth_282 ?_
                        refine lv_topi (fun t119 et119 => ?_)
                        refine lv_aload_n hx hb dX4_worth_283 rfl (lv_at hl 3 rfl) ?_
                        refine va_get (D := (dC, dI)) (ci := 4) (v := .ref (x 18)) (C := RX4) (T := TX4) (N := 6) hx hb hts inB_4 hown hE.1 hP 16 rfl rfl 2 (Nat.le_of_ble_eq_true rfl) (hts _ k_180) (fun _ h9 => h9) rfl dX4_worth_284 ?_
                        refine lv_iload hx hb dX4_worth_287 (lv_at hl 2 rfl) ?_
                        refine lv_iconst (v := 1) hx hb dX4_worth_289 rfl ?_
                        refine lv_isub hx hb dX4_worth_290 ?_
                        refine lv_topi (fun t120 et120 => ?_)
                        have zt120 : t120.toInt = l7_16.toInt - 1 := by rw [et120]; exact sub_i rfl (by decide) (by omega) (by omega)
                        refine ldI hx hb hE hP 19 rfl (vp_in_iff.mpr ⟨by omega, by omega⟩) rfl rfl dX4_worth_291 ?_
                        refine lv_topi (fun t121 et121 => ?_)
                        refine cbSi (n := 3) (rest := [.int t117, .ref (x 18)]) hx hb hml hown hts hE hP hD hS hA (sX_X4_joined_1 l dC dI cy x0 x t29 t119 t121 v16 f16 hIv16 ) k_841 k_842 k_105 k_843 (by decide +kernel) ⟨Nat.le_of_ble_eq_true rfl, Nat.le_of_ble_eq_true rfl⟩ (rfl) hl.1 rfl (Nat.le_of_ble_eq_true rfl) dX4_worth_292 (fun r122 u H locs hw hP hD hS => ?_)
                        refine stI hx hb hE hP hD hS 19 rfl (vp_in_iff.mpr ⟨by omega, by omega⟩) rfl dX4_worth_295 (fun H locs hP hD hS => ?_)
                        obtain ⟨f123, ef123, hP, hD⟩ : ∃ fz9, fz9 = upd2 f16 13 (upd (f16 13) t117.toNatClampNeg r122) ∧ va_P (dC, dI) vwCl (XW cy x0 x v16 fz9) H ∧ va_D A (XW cy x0 x v16 fz9) := ⟨_, rfl, hP, hD⟩
                        have hA_f123 : KF [13, 14] f123 f := by rw [ef123]; exact KF.up hA_f16 rfl
                        obtain ⟨t124, et124⟩ : ∃ y : Int32, y = l7_16 + (-1) := ⟨_, rfl⟩
                        have zt124 : t124.toInt = l7_16.toInt + (-1) := by rw [et124]; exact add_i rfl (by decide) (by omega) (by omega)
                        refine lv_iinc (v := t124) (lv' := [(7, .int t124), (9, .int t29), (8, .int l8_16), (0, .ref (x 15)), (1, .int p1), (2, .int p2), (3, .int p3), (4, .int p4), (5, .int p5), (6, .int p6)]) hx hb dX4_worth_296 hl (k := 2) rfl (by rw [et124]; rfl) (by decide) rfl (fun ls hl => ?_)
                        obtain ⟨t125, et125⟩ : ∃ y : Int32, y = l8_16 + 1 := ⟨_, rfl⟩
                        have zt125 : t125.toInt = l8_16.toInt + 1 := by rw [et125]; exact add_i rfl (by decide) (by omega) (by omega)
                        refine lv_iinc (v := t125) (lv' := [(8, .int t125), (7, .int t124), (9, .int t29), (0, .ref (x 15)), (1, .int p1), (2, .int p2), (3, .int p3), (4, .int p4), (5, .int p5), (6, .int p6)]) hx hb dX4_worth_299 hl (k := 2) rfl (by rw [et125]; rfl) (by decide) rfl (fun ls hl => ?_)
                        refine lv_goto (tgt := 124) hx hb dX4_worth_302 rfl ?_
                        have rg126 := fb_rng t124
                        have rg127 := fb_rng t125
                        exact ih16 t124 t125 v16 f123 hIv16 hq0_v16 hq1_v16 hq7_v16 hq8_v16 hq9_v16 hq10_v16 hq31_v16 hq32_v16 ⟨show (0 : Int) ≤ t124.toInt by omega, show t124.toInt ≤ (30 : Int) by omega⟩ ⟨show (0 : Int) ≤ t125.toInt by omega, show t125.toInt ≤ (2147483647 : Int) by omega⟩ hM_v16 hA_f123 (by show (2147483647 - t125.toInt).toNat < n16; omega) _ _ _ hP hD hS (lv_sub hl [0, 1, 3, 4, 5, 6, 7, 8, 9] rfl)
                    · skip
                      have zc112 : ¬ (l7_16.toInt < 1) := by rw [fa_lt, show (1 : Int32).toInt = 1 from by decide] at c112; exact c112
                      refine lv_aload_n hx hb dX4_worth_229 rfl (lv_at hl 3 rfl) ?_
                      refine va_get (D := (dC, dI)) (ci := 4) (v := .ref (x 18)) (C := RX4) (T := TX4) (N := 6) hx hb hts inB_4 hown hE.1 hP 16 rfl rfl 2 (Nat.le_of_ble_eq_true rfl) (hts _ k_180) (fun _ h9 => h9) rfl dX4_worth_230 ?_
                      refine lv_iload hx hb dX4_worth_233 (lv_at hl 2 rfl) ?_
                      refine lv_iconst (v := 1) hx hb dX4_worth_235 rfl ?_
                      refine lv_isub hx hb dX4_worth_236 ?_
                      refine lv_topi (fun t128 et128 => ?_)
                      have rg129 := fb_rng l7_16
                      have zt128 : t128.toInt = l7_16.toInt - 1 := by rw [et128]; exact sub_i rfl (by decide) (by omega) (by omega)
                      refine lv_aload_n hx hb dX4_worth_237 rfl (lv_at hl 3 rfl) ?_
                      refine va_get (D := (dC, dI)) (ci := 4) (v := .ref (x 18)) (C := RX4) (T := TX4) (N := 6) hx hb hts inB_4 hown hE.1 hP 16 rfl rfl 2 (Nat.le_of_ble_eq_true rfl) (hts _ k_180) (fun _ h9 => h9) rfl dX4_worth_238 ?_
                      refine lv_iload hx hb dX4_worth_241 (lv_at hl 2 rfl) ?_
                      refine lv_iconst (v := 1) hx hb dX4_worth_243 rfl ?_
                      refine lv_isub hx hb dX4_worth_244 ?_
                      refine tI (y := t128) et128.symm ?_
                      refine ldI hx hb hE hP 19 rfl (vp_in_iff.mpr ⟨by omega, by omega⟩) rfl rfl dX4_worth_245 ?_
                      refine lv_topi (fun t130 et130 => ?_)
                      refine lv_if_ne (tgt := 253) hx hb dX4_worth_246 rfl (fun c131 => ?_) (fun c131 => ?_)
                      · skip
                        have zc131 : ¬ (t130.toInt = 0) := by rw [fa_eq, show (0 : Int32).toInt = 0 from by decide] at c131; exact c131
                        refine lv_iconst (v := 0) hx hb dX4_worth_253 rfl ?_
                        refine stI hx hb hE hP hD hS 19 rfl (vp_in_iff.mpr ⟨by omega, by omega⟩) rfl dX4_worth_254 (fun H locs hP hD hS => ?_)
                        obtain ⟨f132, ef132, hP, hD⟩ : ∃ fz9, fz9 = upd2 f16 13 (upd (f16 13) t128.toNatClampNeg 0) ∧ va_P (dC, dI) vwCl (XW cy x0 x v16 fz9) H ∧ va_D A (XW cy x0 x v16 fz9) := ⟨_, rfl, hP, hD⟩
                        have hA_f132 : KF [13, 14] f132 f := by rw [ef132]; exact KF.up hA_f16 rfl
                        refine lv_goto (tgt := 299) hx hb dX4_worth_255 rfl ?_
                        obtain ⟨t133, et133⟩ : ∃ y : Int32, y = l8_16 + 1 := ⟨_, rfl⟩
                        have zt133 : t133.toInt = l8_16.toInt + 1 := by rw [et133]; exact add_i rfl (by decide) (by omega) (by omega)
                        refine lv_iinc (v := t133) (lv' := [(8, .int t133), (9, .int t29), (7, .int l7_16), (0, .ref (x 15)), (1, .int p1), (2, .int p2), (3, .int p3), (4, .int p4), (5, .int p5), (6, .int p6)]) hx hb dX4_worth_299 hl (k := 1) rfl (by rw [et133]; rfl) (by decide) rfl (fun ls hl => ?_)
                        refine lv_goto (tgt := 124) hx hb dX4_worth_302 rfl ?_
                        have rg134 := fb_rng t133
                        exact ih16 l7_16 t133 v16 f132 hIv16 hq0_v16 hq1_v16 hq7_v16 hq8_v16 hq9_v16 hq10_v16 hq31_v16 hq32_v16 ⟨show (0 : Int) ≤ l7_16.toInt by omega, show l7_16.toInt ≤ (30 : Int) by omega⟩ ⟨show (0 : Int) ≤ t133.toInt by omega, show t133.toInt ≤ (2147483647 : Int) by omega⟩ hM_v16 hA_f132 (by show (2147483647 - t133.toInt).toNat < n16; omega) _ _ _ hP hD hS (lv_sub hl [0, 2, 3, 4, 5, 6, 7, 8, 9] rfl)
                      · skip
                        have zc131 : t130.toInt = 0 := by rw [fa_eq, show (0 : Int32).toInt = 0 from by decide] at c131; exact c131
                        refine lv_iconst (v := 1) hx hb dX4_worth_249 rfl ?_
                        refine lv_goto (tgt := 254) hx hb dX4_worth_250 rfl ?_
                        refine stI hx hb hE hP hD hS 19 rfl (vp_in_iff.mpr ⟨by omega, by omega⟩) rfl dX4_worth_254 (fun H locs hP hD hS => ?_)
                        obtain ⟨f135, ef135, hP, hD⟩ : ∃ fz9, fz9 = upd2 f16 13 (upd (f16 13) t128.toNatClampNeg 1) ∧ va_P (dC, dI) vwCl (XW cy x0 x v16 fz9) H ∧ va_D A (XW cy x0 x v16 fz9) := ⟨_, rfl, hP, hD⟩
                        have hA_f135 : KF [13, 14] f135 f := by rw [ef135]; exact KF.up hA_f16 rfl
                        refine lv_goto (tgt := 299) hx hb dX4_worth_255 rfl ?_
                        obtain ⟨t136, et136⟩ : ∃ y : Int32, y = l8_16 + 1 := ⟨_, rfl⟩
                        have zt136 : t136.toInt = l8_16.toInt + 1 := by rw [et136]; exact add_i rfl (by decide) (by omega) (by omega)
                        refine lv_iinc (v := t136) (lv' := [(8, .int t136), (9, .int t29), (7, .int l7_16), (0, .ref (x 15)), (1, .int p1), (2, .int p2), (3, .int p3), (4, .int p4), (5, .int p5), (6, .int p6)]) hx hb dX4_worth_299 hl (k := 1) rfl (by rw [et136]; rfl) (by decide) rfl (fun ls hl => ?_)
                        refine lv_goto (tgt := 124) hx hb dX4_worth_302 rfl ?_
                        have rg137 := fb_rng t136
                        exact ih16 l7_16 t136 v16 f135 hIv16 hq0_v16 hq1_v16 hq7_v16 hq8_v16 hq9_v16 hq10_v16 hq31_v16 hq32_v16 ⟨show (0 : Int) ≤ l7_16.toInt by omega, show l7_16.toInt ≤ (30 : Int) by omega⟩ ⟨show (0 : Int) ≤ t136.toInt by omega, show t136.toInt ≤ (2147483647 : Int) by omega⟩ hM_v16 hA_f135 (by show (2147483647 - t136.toInt).toNat < n16; omega) _ _ _ hP hD hS (lv_sub hl [0, 2, 3, 4, 5, 6, 7, 8, 9] rfl)
                · skip
                  have zc95 : ¬ (122 ≤ t29.toInt) := by rw [fa_le, show (122 : Int32).toInt = 122 from by decide] at c95; exact c95
                  refine lv_iload hx hb dX4_worth_170 (lv_at hl 2 rfl) ?_
                  refine lv_bipush (v := 30) hx hb dX4_worth_172 rfl ?_
                  refine lv_icmp_ge (tgt := 299) hx hb dX4_worth_174 rfl (fun c138 => ?_) (fun c138 => ?_)
                  · skip
                    have zc138 : 30 ≤ l7_16.toInt := by rw [fa_le, show (30 : Int32).toInt = 30 from by decide] at c138; exact c138
                    obtain ⟨t139, et139⟩ : ∃ y : Int32, y = l8_16 + 1 := ⟨_, rfl⟩
                    have zt139 : t139.toInt = l8_16.toInt + 1 := by rw [et139]; exact add_i rfl (by decide) (by omega) (by omega)
                    refine lv_iinc (v := t139) (lv' := [(8, .int t139), (9, .int t29), (7, .int l7_16), (0, .ref (x 15)), (1, .int p1), (2, .int p2), (3, .int p3), (4, .int p4), (5, .int p5), (6, .int p6)]) hx hb dX4_worth_299 hl (k := 1) rfl (by rw [et139]; rfl) (by decide) rfl (fun ls hl => ?_)
                    refine lv_goto (tgt := 124) hx hb dX4_worth_302 rfl ?_
                    have rg140 := fb_rng l7_16
                    have rg141 := fb_rng t139
                    exact ih16 l7_16 t139 v16 f16 hIv16 hq0_v16 hq1_v16 hq7_v16 hq8_v16 hq9_v16 hq10_v16 hq31_v16 hq32_v16 ⟨show (0 : Int) ≤ l7_16.toInt by omega, show l7_16.toInt ≤ (30 : Int) by omega⟩ ⟨show (0 : Int) ≤ t139.toInt by omega, show t139.toInt ≤ (2147483647 : Int) by omega⟩ hM_v16 hA_f16 (by show (2147483647 - t139.toInt).toNat < n16; omega) _ _ _ hP hD hS (lv_sub hl [0, 2, 3, 4, 5, 6, 7, 8, 9] rfl)
                  · skip
                    have zc138 : ¬ (30 ≤ l7_16.toInt) := by rw [fa_le, show (30 : Int32).toInt = 30 from by decide] at c138; exact c138
                    refine lv_aload_n hx hb dX4_worth_177 rfl (lv_at hl 3 rfl) ?_
                    refine va_get (D := (dC, dI)) (ci := 4) (v := .ref (x 18)) (C := RX4) (T := TX4) (N := 6) hx hb hts inB_4 hown hE.1 hP 16 rfl rfl 2 (Nat.le_of_ble_eq_true rfl) (hts _ k_180) (fun _ h9 => h9) rfl dX4_worth_178 ?_
                    refine lv_iload hx hb dX4_worth_181 (lv_at hl 2 rfl) ?_
                    refine lv_iload hx hb dX4_worth_183 (lv_at hl 0 rfl) ?_
                    refine lv_iconst (v := 2) hx hb dX4_worth_185 rfl ?_
                    refine lv_icmp_ne (tgt := 199) hx hb dX4_worth_186 rfl (fun c142 => ?_) (fun c142 => ?_)
                    · skip
                      have zc142 : ¬ (t29.toInt = 2) := by rw [fa_eq, show (2 : Int32).toInt = 2 from by decide] at c142; exact c142
                      refine lv_aload_n hx hb dX4_worth_199 rfl (lv_at hl 3 rfl) ?_
                      refine va_get (D := (dC, dI)) (ci := 4) (v := .ref (x 19)) (C := RX4) (T := TX4) (N := 6) hx hb hts inB_4 hown hE.1 hP 16 rfl rfl 3 (Nat.le_of_ble_eq_true rfl) (hts _ k_181) (fun _ h9 => h9) rfl dX4_worth_200 ?_
                      refine lv_iload hx hb dX4_worth_203 (lv_at hl 0 rfl) ?_
                      refine lv_bipush (v := 116) hx hb dX4_worth_205 rfl ?_
                      refine lv_isub hx hb dX4_worth_207 ?_
                      refine lv_topi (fun t143 et143 => ?_)
                      have rg144 := fb_rng t29
                      have zt143 : t143.toInt = t29.toInt - 116 := by rw [et143]; exact sub_i rfl (by decide) (by omega) (by omega)
                      refine ldI hx hb hE hP 20 rfl (vp_in_iff.mpr ⟨by omega, by omega⟩) rfl rfl dX4_worth_208 ?_
                      refine lv_topi (fun t145 et145 => ?_)
                      refine stI hx hb hE hP hD hS 19 rfl (vp_in_iff.mpr ⟨by omega, by omega⟩) rfl dX4_worth_209 (fun H locs hP hD hS => ?_)
                      obtain ⟨f146, ef146, hP, hD⟩ : ∃ fz9, fz9 = upd2 f16 13 (upd (f16 13) l7_16.toNatClampNeg t145) ∧ va_P (dC, dI) vwCl (XW cy x0 x v16 fz9) H ∧ va_D A (XW cy x0 x v16 fz9) := ⟨_, rfl, hP, hD⟩
                      have hA_f146 : KF [13, 14] f146 f := by rw [ef146]; exact KF.up hA_f16 rfl
                      obtain ⟨t147, et147⟩ : ∃ y : Int32, y = l7_16 + 1 := ⟨_, rfl⟩
                      have rg148 := fb_rng l7_16
                      have zt147 : t147.toInt = l7_16.toInt + 1 := by rw [et147]; exact add_i rfl (by decide) (by omega) (by omega)
                      refine lv_iinc (v := t147) (lv' := [(7, .int t147), (9, .int t29), (8, .int l8_16), (0, .ref (x 15)), (1, .int p1), (2, .int p2), (3, .int p3), (4, .int p4), (5, .int p5), (6, .int p6)]) hx hb dX4_worth_210 hl (k := 2) rfl (by rw [et147]; rfl) (by decide) rfl (fun ls hl => ?_)
                      refine lv_goto (tgt := 299) hx hb dX4_worth_213 rfl ?_
                      obtain ⟨t149, et149⟩ : ∃ y : Int32, y = l8_16 + 1 := ⟨_, rfl⟩
                      have zt149 : t149.toInt = l8_16.toInt + 1 := by rw [et149]; exact add_i rfl (by decide) (by omega) (by omega)
                      refine lv_iinc (v := t149) (lv' := [(8, .int t149), (7, .int t147), (9, .int t29), (0, .ref (x 15)), (1, .int p1), (2, .int p2), (3, .int p3), (4, .int p4), (5, .int p5), (6, .int p6)]) hx hb dX4_worth_299 hl (k := 2) rfl (by rw [et149]; rfl) (by decide) rfl (fun ls hl => ?_)
                      refine lv_goto (tgt := 124) hx hb dX4_worth_302 rfl ?_
                      have rg150 := fb_rng t147
                      have rg151 := fb_rng t149
                      exact ih16 t147 t149 v16 f146 hIv16 hq0_v16 hq1_v16 hq7_v16 hq8_v16 hq9_v16 hq10_v16 hq31_v16 hq32_v16 ⟨show (0 : Int) ≤ t147.toInt by omega, show t147.toInt ≤ (30 : Int) by omega⟩ ⟨show (0 : Int) ≤ t149.toInt by omega, show t149.toInt ≤ (2147483647 : Int) by omega⟩ hM_v16 hA_f146 (by show (2147483647 - t149.toInt).toNat < n16; omega) _ _ _ hP hD hS (lv_sub hl [0, 1, 3, 4, 5, 6, 7, 8, 9] rfl)
                    · skip
                      have zc142 : t29.toInt = 2 := by rw [fa_eq, show (2 : Int32).toInt = 2 from by decide] at c142; exact c142
                      refine lv_aload_n hx hb dX4_worth_189 rfl (lv_at hl 3 rfl) ?_
                      refine va_get (D := (dC, dI)) (ci := 4) (v := .ref (x 17)) (C := RX4) (T := TX4) (N := 6) hx hb hts inB_4 hown hE.1 hP 16 rfl rfl 1 (Nat.le_of_ble_eq_true rfl) (hts _ k_179) (fun _ h9 => h9) rfl dX4_worth_190 ?_
                      refine lv_iload hx hb dX4_worth_193 (lv_at hl 1 rfl) ?_
                      refine ldI hx hb hE hP 18 rfl (vp_in_iff.mpr ⟨by omega, by omega⟩) rfl rfl dX4_worth_195 ?_
                      refine lv_topi (fun t152 et152 => ?_)
                      refine lv_goto (tgt := 209) hx hb dX4_worth_196 rfl ?_
                      refine stI hx hb hE hP hD hS 19 rfl (vp_in_iff.mpr ⟨by omega, by omega⟩) rfl dX4_worth_209 (fun H locs hP hD hS => ?_)
                      obtain ⟨f153, ef153, hP, hD⟩ : ∃ fz9, fz9 = upd2 f16 13 (upd (f16 13) l7_16.toNatClampNeg t152) ∧ va_P (dC, dI) vwCl (XW cy x0 x v16 fz9) H ∧ va_D A (XW cy x0 x v16 fz9) := ⟨_, rfl, hP, hD⟩
                      have hA_f153 : KF [13, 14] f153 f := by rw [ef153]; exact KF.up hA_f16 rfl
                      obtain ⟨t154, et154⟩ : ∃ y : Int32, y = l7_16 + 1 := ⟨_, rfl⟩
                      have rg155 := fb_rng l7_16
                      have zt154 : t154.toInt = l7_16.toInt + 1 := by rw [et154]; exact add_i rfl (by decide) (by omega) (by omega)
                      refine lv_iinc (v := t154) (lv' := [(7, .int t154), (9, .int t29), (8, .int l8_16), (0, .ref (x 15)), (1, .int p1), (2, .int p2), (3, .int p3), (4, .int p4), (5, .int p5), (6, .int p6)]) hx hb dX4_worth_210 hl (k := 2) rfl (by rw [et154]; rfl) (by decide) rfl (fun ls hl => ?_)
                      refine lv_goto (tgt := 299) hx hb dX4_worth_213 rfl ?_
                      obtain ⟨t156, et156⟩ : ∃ y : Int32, y = l8_16 + 1 := ⟨_, rfl⟩
                      have zt156 : t156.toInt = l8_16.toInt + 1 := by rw [et156]; exact add_i rfl (by decide) (by omega) (by omega)
                      refine lv_iinc (v := t156) (lv' := [(8, .int t156), (7, .int t154), (9, .int t29), (0, .ref (x 15)), (1, .int p1), (2, .int p2), (3, .int p3), (4, .int p4), (5, .int p5), (6, .int p6)]) hx hb dX4_worth_299 hl (k := 2) rfl (by rw [et156]; rfl) (by decide) rfl (fun ls hl => ?_)
                      refine lv_goto (tgt := 124) hx hb dX4_worth_302 rfl ?_
                      have rg157 := fb_rng t154
                      have rg158 := fb_rng t156
                      exact ih16 t154 t156 v16 f153 hIv16 hq0_v16 hq1_v16 hq7_v16 hq8_v16 hq9_v16 hq10_v16 hq31_v16 hq32_v16 ⟨show (0 : Int) ≤ t154.toInt by omega, show t154.toInt ≤ (30 : Int) by omega⟩ ⟨show (0 : Int) ≤ t156.toInt by omega, show t156.toInt ≤ (2147483647 : Int) by omega⟩ hM_v16 hA_f153 (by show (2147483647 - t156.toInt).toNat < n16; omega) _ _ _ hP hD hS (lv_sub hl [0, 1, 3, 4, 5, 6, 7, 8, 9] rfl)
    exact lp16 _ 0 0 v f14 hIv rfl rfl rfl rfl rfl rfl rfl rfl ⟨by decide, by decide⟩ ⟨by decide, by decide⟩ hM_v hA_f14 (Nat.lt_succ_self _) _ _ _ hP hD hS (lv_sub hl [0, 1, 2, 3, 4, 5, 6, 7, 8] rfl)
  · skip
    have zc15 : (v 18).toInt = 0 := by rw [fa_eq, show (0 : Int32).toInt = 0 from by decide] at c15; exact c15
    refine lv_sipush (v := 999) hx hb dX4_worth_77 rfl ?_
    refine lv_aload_n hx hb dX4_worth_80 rfl (lv_at hl 0 rfl) ?_
    refine va_get (D := (dC, dI)) (ci := 4) (v := .ref (x 19)) (C := RX4) (T := TX4) (N := 6) hx hb hts inB_4 hown hE.1 hP 16 rfl rfl 3 (Nat.le_of_ble_eq_true rfl) (hts _ k_181) (fun _ h9 => h9) rfl dX4_worth_81 ?_
    refine lv_iconst (v := 0) hx hb dX4_worth_84 rfl ?_
    refine ldI hx hb hE hP 20 rfl (vp_in_nI (n := 0) (by decide) (by decide)) rfl rfl dX4_worth_85 ?_
    refine lv_topi (fun t159 et159 => ?_)
    refine lv_iconst (v := 3) hx hb dX4_worth_86 rfl ?_
    refine lv_imul hx hb dX4_worth_87 ?_
    refine lv_topi (fun t160 et160 => ?_)
    refine lv_aload_n hx hb dX4_worth_88 rfl (lv_at hl 0 rfl) ?_
    refine va_get (D := (dC, dI)) (ci := 4) (v := .ref (x 19)) (C := RX4) (T := TX4) (N := 6) hx hb hts inB_4 hown hE.1 hP 16 rfl rfl 3 (Nat.le_of_ble_eq_true rfl) (hts _ k_181) (fun _ h9 => h9) rfl dX4_worth_89 ?_
    refine lv_iconst (v := 1) hx hb dX4_worth_92 rfl ?_
    refine ldI hx hb hE hP 20 rfl (vp_in_nI (n := 1) (by decide) (by decide)) rfl rfl dX4_worth_93 ?_
    refine lv_topi (fun t161 et161 => ?_)
    refine lv_iadd hx hb dX4_worth_94 ?_
    refine lv_topi (fun t162 et162 => ?_)
    refine lv_aload_n hx hb dX4_worth_95 rfl (lv_at hl 0 rfl) ?_
    refine va_get (D := (dC, dI)) (ci := 4) (v := .ref (x 19)) (C := RX4) (T := TX4) (N := 6) hx hb hts inB_4 hown hE.1 hP 16 rfl rfl 3 (Nat.le_of_ble_eq_true rfl) (hts _ k_181) (fun _ h9 => h9) rfl dX4_worth_96 ?_
    refine lv_iconst (v := 2) hx hb dX4_worth_99 rfl ?_
    refine ldI hx hb hE hP 20 rfl (vp_in_nI (n := 2) (by decide) (by decide)) rfl rfl dX4_worth_100 ?_
    refine lv_topi (fun t163 et163 => ?_)
    refine lv_iconst (v := 2) hx hb dX4_worth_101 rfl ?_
    refine lv_imul hx hb dX4_worth_102 ?_
    refine lv_topi (fun t164 et164 => ?_)
    refine lv_iadd hx hb dX4_worth_103 ?_
    refine lv_topi (fun t165 et165 => ?_)
    refine lv_aload_n hx hb dX4_worth_104 rfl (lv_at hl 0 rfl) ?_
    refine va_get (D := (dC, dI)) (ci := 4) (v := .ref (x 19)) (C := RX4) (T := TX4) (N := 6) hx hb hts inB_4 hown hE.1 hP 16 rfl rfl 3 (Nat.le_of_ble_eq_true rfl) (hts _ k_181) (fun _ h9 => h9) rfl dX4_worth_105 ?_
    refine lv_iconst (v := 3) hx hb dX4_worth_108 rfl ?_
    refine ldI hx hb hE hP 20 rfl (vp_in_nI (n := 3) (by decide) (by decide)) rfl rfl dX4_worth_109 ?_
    refine lv_topi (fun t166 et166 => ?_)
    refine lv_iadd hx hb dX4_worth_110 ?_
    refine lv_topi (fun t167 et167 => ?_)
    refine lv_iload hx hb dX4_worth_111 (lv_at hl 5 rfl) ?_
    refine lv_iadd hx hb dX4_worth_113 ?_
    refine lv_topi (fun t168 et168 => ?_)
    refine va_mmin hx hb (by rw [hml]; exact hl.1.symm) hown (hts _ k_840) (hts _ k_643) (hts _ k_119) (hts _ k_644) (Nat.le_of_ble_eq_true rfl) (Nat.le_of_ble_eq_true rfl) (Nat.le_of_ble_eq_true rfl) (Nat.le_of_ble_eq_true rfl) dX4_worth_114 ?_
    refine lv_topi (fun t169 et169 => ?_)
    have zt169 : t169.toInt = min (999) (t168.toInt) := by rw [et169]; exact mmin_i (by decide) rfl
    exact ret t169 (v, f14) _ _ _ _ _ _ rfl ⟨hM_v, hA_f14, hIv, rfl, rfl, rfl, rfl, rfl, rfl, rfl, rfl⟩ hP hD hS dX4_worth_117 (Nat.le_refl _) (Nat.le_refl _)
set_option maxHeartbeats 4000000 in
set_option maxRecDepth 100000 in
theorem sX_X1_illness_1 (l : Launch) (dC : Nat → ClassId) (dI : Nat → Nat → Nat) (cy : Nat → ClassId) (x0 : Nat) (x : Nat → Nat) (p1 : Int32) (p2 : Int32) (v : Nat → Int32) (f : Nat → Nat → Int32) (hIv : XI v)  : ctI l (dC, dI) cy yX1_illness cX1_illness 3 .int 3 111 0 0 ((Nat → Int32) × (Nat → Nat → Int32)) [.ref (x 21), .int p1, .int p2] (XW cy x0 x v f) (fun r u => KV [] u.1 v ∧ KF [13, 14] u.2 f ∧ XI u.1 ∧ u.1 0 = v 0 ∧ u.1 1 = v 1 ∧ u.1 7 = v 7 ∧ u.1 8 = v 8 ∧ u.1 9 = v 9 ∧ u.1 10 = v 10 ∧ u.1 31 = v 31 ∧ u.1 32 = v 32) (fun u => XW cy x0 x u.1 u.2) := by
  refine ctI_of (by decide) (Nat.le_of_ble_eq_true rfl) (fun p e s m below meth c A ls Q hx hb hml hts hown hE hP hD hA hl ret => ?_)
  have hM_v : KV [] v v := fun _ _ => rfl
  have hA_f : KF [13, 14] f f := fun _ _ => rfl
  have hown : s.vm.findClass RX1 = some m.cls := hown
  have hS : va_S A s.heap s.heap [] := va_S.rf
  have hl : lv_has ls 3 [(0, .ref (x 21)), (1, .int p1), (2, .int p2)] := hl
  refine lv_aload_n hx hb dX1_illness_0 rfl (lv_at hl 0 rfl) ?_
  refine va_get (D := (dC, dI)) (ci := 1) (v := .ref (x 26)) (C := RX1) (T := TX1) (N := 2) hx hb hts inB_1 hown hE.1 hP 22 rfl rfl 0 (Nat.le_of_ble_eq_true rfl) (hts _ k_318) (fun _ h9 => h9) rfl dX1_illness_1 ?_
  refine va_getN (D := (dC, dI)) (ci := 7) (v := .ref (x 15)) (C := RX7) (T := TX7) (N := 10) hx hb hts inB_7 hown hE.1 hP 27 rfl rfl 2 (Nat.le_of_ble_eq_true rfl) (va_Nw.use rfl (hE.2 _ k_209)) (fun _ h9 => h9) rfl dX1_illness_4 ?_
  refine lv_aload_n hx hb dX1_illness_7 rfl (lv_at hl 0 rfl) ?_
  refine va_get (D := (dC, dI)) (ci := 1) (v := .ref (x 26)) (C := RX1) (T := TX1) (N := 2) hx hb hts inB_1 hown hE.1 hP 22 rfl rfl 0 (Nat.le_of_ble_eq_true rfl) (hts _ k_318) (fun _ h9 => h9) rfl dX1_illness_8 ?_
  refine lv_iconst (v := 0) hx hb dX1_illness_11 rfl ?_
  refine lv_iload_n hx hb dX1_illness_12 rfl (lv_at hl 1 rfl) ?_
  refine cbVi (n := 2) (rest := [.ref (x 15)]) hx hb hml hown hts hE hP hD hS hA (sX_X7_manPart_1 0 l dC dI cy x0 x 0 p1 v f hIv ) k_302 k_303 k_304 k_104 k_305 (by decide +kernel) ⟨Nat.le_of_ble_eq_true rfl, Nat.le_of_ble_eq_true rfl⟩ 27 7 rfl rfl (rfl) hl.1 rfl (Nat.le_of_ble_eq_true rfl) dX1_illness_13 (fun r1 u H locs hw hP hD hS => ?_)
  have hG2 := hw
  refine lv_aload_n hx hb dX1_illness_16 rfl (lv_at hl 0 rfl) ?_
  refine lv_iload_n hx hb dX1_illness_17 rfl (lv_at hl 1 rfl) ?_
  refine cbVi (n := 1) (rest := [.int r1, .ref (x 15)]) hx hb hml hown hts hE hP hD hS hA (sX_X1_manWide_1 l dC dI cy x0 x p1 v f hIv ) k_826 k_805 k_806 k_106 k_807 (by decide +kernel) ⟨Nat.le_of_ble_eq_true rfl, Nat.le_of_ble_eq_true rfl⟩ 22 1 rfl rfl (rfl) hl.1 rfl (Nat.le_of_ble_eq_true rfl) dX1_illness_18 (fun r3 u H locs hw hP hD hS => ?_)
  refine lv_aload_n hx hb dX1_illness_21 rfl (lv_at hl 0 rfl) ?_
  refine lv_iconst (v := 0) hx hb dX1_illness_22 rfl ?_
  refine lv_iload_n hx hb dX1_illness_23 rfl (lv_at hl 2 rfl) ?_
  refine cbVi (n := 2) (rest := [.int r3, .int r1, .ref (x 15)]) hx hb hml hown hts hE hP hD hS hA (sX_X1_part_1 l dC dI cy x0 x 0 p2 v f hIv ) k_827 k_828 k_829 k_106 k_830 (by decide +kernel) ⟨Nat.le_of_ble_eq_true rfl, Nat.le_of_ble_eq_true rfl⟩ 22 1 rfl rfl (rfl) hl.1 rfl (Nat.le_of_ble_eq_true rfl) dX1_illness_24 (fun r4 u H locs hw hP hD hS => ?_)
  refine lv_aload_n hx hb dX1_illness_27 rfl (lv_at hl 0 rfl) ?_
  refine lv_iconst (v := 1) hx hb dX1_illness_28 rfl ?_
  refine lv_iload_n hx hb dX1_illness_29 rfl (lv_at hl 2 rfl) ?_
  refine cbVi (n := 2) (rest := [.int r4, .int r3, .int r1, .ref (x 15)]) hx hb hml hown hts hE hP hD hS hA (sX_X1_part_1 l dC dI cy x0 x 1 p2 v f hIv ) k_827 k_828 k_829 k_106 k_830 (by decide +kernel) ⟨Nat.le_of_ble_eq_true rfl, Nat.le_of_ble_eq_true rfl⟩ 22 1 rfl rfl (rfl) hl.1 rfl (Nat.le_of_ble_eq_true rfl) dX1_illness_30 (fun r5 u H locs hw hP hD hS => ?_)
  refine lv_aload_n hx hb dX1_illness_33 rfl (lv_at hl 0 rfl) ?_
  refine lv_iconst (v := 3) hx hb dX1_illness_34 rfl ?_
  refine lv_iload_n hx hb dX1_illness_35 rfl (lv_at hl 2 rfl) ?_
  refine cbVi (n := 2) (rest := [.int r5, .int r4, .int r3, .int r1, .ref (x 15)]) hx hb hml hown hts hE hP hD hS hA (sX_X1_part_1 l dC dI cy x0 x 3 p2 v f hIv ) k_827 k_828 k_829 k_106 k_830 (by decide +kernel) ⟨Nat.le_of_ble_eq_true rfl, Nat.le_of_ble_eq_true rfl⟩ 22 1 rfl rfl (rfl) hl.1 rfl (Nat.le_of_ble_eq_true rfl) dX1_illness_36 (fun r6 u H locs hw hP hD hS => ?_)
  refine lv_aload_n hx hb dX1_illness_39 rfl (lv_at hl 0 rfl) ?_
  refine cbVi (n := 0) (rest := [.int r6, .int r5, .int r4, .int r3, .int r1, .ref (x 15)]) hx hb hml hown hts hE hP hD hS hA (sX_X1_today_1 l dC dI cy x0 x  v f hIv ) k_831 k_832 k_833 k_106 k_834 (by decide +kernel) ⟨Nat.le_of_ble_eq_true rfl, Nat.le_of_ble_eq_true rfl⟩ 22 1 rfl rfl (rfl) hl.1 rfl (Nat.le_of_ble_eq_true rfl) dX1_illness_40 (fun r7 u H locs hw hP hD hS => ?_)
  refine cbVi (n := 6) (rest := []) hx hb hml hown hts hE hP hD hS hA (sX_X4_worth_1 l dC dI cy x0 x r1 r3 r4 r5 r6 r7 v f hIv ) k_835 k_836 k_837 k_105 k_838 (by decide +kernel) ⟨Nat.le_of_ble_eq_true rfl, Nat.le_of_ble_eq_true rfl⟩ 16 4 rfl rfl (rfl) hl.1 rfl (Nat.le_of_ble_eq_true rfl) dX1_illness_43 (fun r8 u H locs hw hP hD hS => ?_)
  obtain ⟨v9, f10⟩ := u
  obtain ⟨kV_v9, kF_f10, hIv9, hk0_v9, hk1_v9, hk7_v9, hk8_v9, hk9_v9, hk10_v9, hk31_v9, hk32_v9⟩ := hw
  have hM_v9 : KV [] v9 v := KV.tr kV_v9 hM_v rfl
  have hA_f10 : KF [13, 14] f10 f := KF.tr kF_f10 hA_f rfl
  have hP : va_P (dC, dI) vwCl (XW cy x0 x v9 f10) H := hP
  have hD : va_D A (XW cy x0 x v9 f10) := hD
  have hq0_v9 : v9 0 = (v 0) := hk0_v9
  have hq1_v9 : v9 1 = (v 1) := hk1_v9
  have hq7_v9 : v9 7 = (v 7) := hk7_v9
  have hq8_v9 : v9 8 = (v 8) := hk8_v9
  have hq9_v9 : v9 9 = (v 9) := hk9_v9
  have hq10_v9 : v9 10 = (v 10) := hk10_v9
  have hq31_v9 : v9 31 = (v 31) := hk31_v9
  have hq32_v9 : v9 32 = (v 32) := hk32_v9
  exact ret r8 (v9, f10) _ _ _ _ _ _ rfl ⟨hM_v9, hA_f10, hIv9, hk0_v9, hk1_v9, hk7_v9, hk8_v9, hk9_v9, hk10_v9, hk31_v9, hk32_v9⟩ hP hD hS dX1_illness_46 (Nat.le_refl _) (Nat.le_refl _)
set_option maxHeartbeats 4000000 in
set_option maxRecDepth 100000 in
theorem sX_X1_fits_1 (l : Launch) (dC : Nat → ClassId) (dI : Nat → Nat → Nat) (cy : Nat → ClassId) (x0 : Nat) (x : Nat → Nat) (p1 : Int32) (p2 : Int32) (v : Nat → Int32) (f : Nat → Nat → Int32) (hIv : XI v)  : ctI l (dC, dI) cy yX1_fits cX1_fits 3 .boolean 4 133 0 0 ((Nat → Int32) × (Nat → Nat → Int32)) [.ref (x 21), .int p1, .int p2] (XW cy x0 x v f) (fun r u => KV [] u.1 v ∧ KF [13, 14] u.2 f ∧ XI u.1 ∧ u.1 0 = v 0 ∧ u.1 1 = v 1 ∧ u.1 7 = v 7 ∧ u.1 8 = v 8 ∧ u.1 9 = v 9 ∧ u.1 10 = v 10 ∧ u.1 31 = v 31 ∧ u.1 32 = v 32 ∧ ((r = 1) ∨ (r = 0))) (fun u => XW cy x0 x u.1 u.2) := by
  refine ctI_of (by decide) (Nat.le_of_ble_eq_true rfl) (fun p e s m below meth c A ls Q hx hb hml hts hown hE hP hD hA hl ret => ?_)
  have hM_v : KV [] v v := fun _ _ => rfl
  have hA_f : KF [13, 14] f f := fun _ _ => rfl
  have hown : s.vm.findClass RX1 = some m.cls := hown
  have hS : va_S A s.heap s.heap [] := va_S.rf
  have hl : lv_has ls 3 [(0, .ref (x 21)), (1, .int p1), (2, .int p2)] := hl
  refine lv_aload_n hx hb dX1_fits_0 rfl (lv_at hl 0 rfl) ?_
  refine va_get (D := (dC, dI)) (ci := 1) (v := .ref (x 26)) (C := RX1) (T := TX1) (N := 2) hx hb hts inB_1 hown hE.1 hP 22 rfl rfl 0 (Nat.le_of_ble_eq_true rfl) (hts _ k_318) (fun _ h9 => h9) rfl dX1_fits_1 ?_
  refine lv_iload_n hx hb dX1_fits_4 rfl (lv_at hl 1 rfl) ?_
  refine cbVi (n := 1) (rest := []) hx hb hml hown hts hE hP hD hS hA (sX_X7_hasMan_1 0 l dC dI cy x0 x p1 v f hIv ) k_808 k_307 k_308 k_104 k_309 (by decide +kernel) ⟨Nat.le_of_ble_eq_true rfl, Nat.le_of_ble_eq_true rfl⟩ 27 7 rfl rfl (rfl) hl.1 rfl (Nat.le_of_ble_eq_true rfl) dX1_fits_5 (fun r1 u H locs hw hP hD hS => ?_)
  obtain ⟨hG2, hw⟩ := hw
  rcases hw with ⟨g3, g3_0, g3_1, g3_2⟩ | ⟨g3⟩
  · skip
    subst g3
    refine lv_if_eq (tgt := 42) hx hb dX1_fits_8 rfl (fun c0 => absurd c0 (by decide)) (fun _ => ?_)
    refine lv_aload_n hx hb dX1_fits_11 rfl (lv_at hl 0 rfl) ?_
    refine va_get (D := (dC, dI)) (ci := 1) (v := .ref (x 26)) (C := RX1) (T := TX1) (N := 2) hx hb hts inB_1 hown hE.1 hP 22 rfl rfl 0 (Nat.le_of_ble_eq_true rfl) (hts _ k_318) (fun _ h9 => h9) rfl dX1_fits_12 ?_
    refine lv_iload_n hx hb dX1_fits_15 rfl (lv_at hl 2 rfl) ?_
    refine cbVi (n := 1) (rest := []) hx hb hml hown hts hE hP hD hS hA (sX_X7_hasCoat_1 0 l dC dI cy x0 x p2 v f hIv ) k_821 k_315 k_316 k_104 k_317 (by decide +kernel) ⟨Nat.le_of_ble_eq_true rfl, Nat.le_of_ble_eq_true rfl⟩ 27 7 rfl rfl (rfl) hl.1 rfl (Nat.le_of_ble_eq_true rfl) dX1_fits_16 (fun r4 u H locs hw hP hD hS => ?_)
    obtain ⟨hG5, hw⟩ := hw
    rcases hw with ⟨g6, g6_0, g6_1, g6_2⟩ | ⟨g6⟩
    · skip
      subst g6
      refine lv_if_eq (tgt := 42) hx hb dX1_fits_19 rfl (fun c0 => absurd c0 (by decide)) (fun _ => ?_)
      refine lv_aload_n hx hb dX1_fits_22 rfl (lv_at hl 0 rfl) ?_
      refine lv_iload_n hx hb dX1_fits_23 rfl (lv_at hl 1 rfl) ?_
      refine lv_iload_n hx hb dX1_fits_24 rfl (lv_at hl 2 rfl) ?_
      refine cbVi (n := 2) (rest := []) hx hb hml hown hts hE hP hD hS hA (sX_X1_illness_1 l dC dI cy x0 x p1 p2 v f hIv ) k_822 k_823 k_824 k_106 k_825 (by decide +kernel) ⟨Nat.le_of_ble_eq_true rfl, Nat.le_of_ble_eq_true rfl⟩ 22 1 rfl rfl (rfl) hl.1 rfl (Nat.le_of_ble_eq_true rfl) dX1_fits_25 (fun r7 u H locs hw hP hD hS => ?_)
      obtain ⟨v8, f9⟩ := u
      obtain ⟨kV_v8, kF_f9, hIv8, hk0_v8, hk1_v8, hk7_v8, hk8_v8, hk9_v8, hk10_v8, hk31_v8, hk32_v8⟩ := hw
      have hM_v8 : KV [] v8 v := KV.tr kV_v8 hM_v rfl
      have hA_f9 : KF [13, 14] f9 f := KF.tr kF_f9 hA_f rfl
      have hP : va_P (dC, dI) vwCl (XW cy x0 x v8 f9) H := hP
      have hD : va_D A (XW cy x0 x v8 f9) := hD
      have hq0_v8 : v8 0 = (v 0) := hk0_v8
      have hq1_v8 : v8 1 = (v 1) := hk1_v8
      have hq7_v8 : v8 7 = (v 7) := hk7_v8
      have hq8_v8 : v8 8 = (v 8) := hk8_v8
      have hq9_v8 : v8 9 = (v 9) := hk9_v8
      have hq10_v8 : v8 10 = (v 10) := hk10_v8
      have hq31_v8 : v8 31 = (v 31) := hk31_v8
      have hq32_v8 : v8 32 = (v 32) := hk32_v8
      refine lv_aload_n hx hb dX1_fits_28 rfl (lv_at hl 0 rfl) ?_
      refine va_get (D := (dC, dI)) (ci := 1) (v := .ref (x 26)) (C := RX1) (T := TX1) (N := 2) hx hb hts inB_1 hown hE.1 hP 22 rfl rfl 0 (Nat.le_of_ble_eq_true rfl) (hts _ k_318) (fun _ h9 => h9) rfl dX1_fits_29 ?_
      refine va_getN (D := (dC, dI)) (ci := 7) (v := .int (v8 33)) (C := RX7) (T := TX7) (N := 10) hx hb hts inB_7 hown hE.1 hP 27 rfl rfl 5 (Nat.le_of_ble_eq_true rfl) (va_Nw.use rfl (hE.2 _ k_232)) (fun _ h9 => h9) rfl dX1_fits_32 ?_
      refine lv_icmp_gt (tgt := 42) hx hb dX1_fits_35 rfl (fun c10 => ?_) (fun c10 => ?_)
      · skip
        have zc10 : (v8 33).toInt < r7.toInt := by rw [fa_lt] at c10; exact c10
        have rg11 := fb_rng r7
        have rg12 := fb_rng (v8 33)
        refine lv_iconst (v := 0) hx hb dX1_fits_42 rfl ?_
        exact ret 0 (v8, f9) _ _ _ _ _ _ rfl ⟨hM_v8, hA_f9, hIv8, hk0_v8, hk1_v8, hk7_v8, hk8_v8, hk9_v8, hk10_v8, hk31_v8, hk32_v8, (Or.inr rfl)⟩ hP hD hS dX1_fits_43 (Nat.le_refl _) (Nat.le_refl _)
      · skip
        have zc10 : ¬ ((v8 33).toInt < r7.toInt) := by rw [fa_lt] at c10; exact c10
        have rg13 := fb_rng r7
        have rg14 := fb_rng (v8 33)
        refine lv_iconst (v := 1) hx hb dX1_fits_38 rfl ?_
        refine lv_goto (tgt := 43) hx hb dX1_fits_39 rfl ?_
        exact ret 1 (v8, f9) _ _ _ _ _ _ rfl ⟨hM_v8, hA_f9, hIv8, hk0_v8, hk1_v8, hk7_v8, hk8_v8, hk9_v8, hk10_v8, hk31_v8, hk32_v8, (Or.inl rfl)⟩ hP hD hS dX1_fits_43 (Nat.le_refl _) (Nat.le_refl _)
    · skip
      subst g6
      refine lv_if_eq (tgt := 42) hx hb dX1_fits_19 rfl (fun _ => ?_) (fun c0 => absurd (by decide) c0)
      refine lv_iconst (v := 0) hx hb dX1_fits_42 rfl ?_
      exact ret 0 (v, f) _ _ _ _ _ _ rfl ⟨hM_v, hA_f, hIv, rfl, rfl, rfl, rfl, rfl, rfl, rfl, rfl, (Or.inr rfl)⟩ hP hD hS dX1_fits_43 (Nat.le_refl _) (Nat.le_refl _)
  · skip
    subst g3
    refine lv_if_eq (tgt := 42) hx hb dX1_fits_8 rfl (fun _ => ?_) (fun c0 => absurd (by decide) c0)
    refine lv_iconst (v := 0) hx hb dX1_fits_42 rfl ?_
    exact ret 0 (v, f) _ _ _ _ _ _ rfl ⟨hM_v, hA_f, hIv, rfl, rfl, rfl, rfl, rfl, rfl, rfl, rfl, (Or.inr rfl)⟩ hP hD hS dX1_fits_43 (Nat.le_refl _) (Nat.le_refl _)
set_option maxHeartbeats 4000000 in
set_option maxRecDepth 100000 in
theorem sX_X1_fittingCoats_1 (l : Launch) (dC : Nat → ClassId) (dI : Nat → Nat → Nat) (cy : Nat → ClassId) (x0 : Nat) (x : Nat → Nat) (p1 : Int32) (v : Nat → Int32) (f : Nat → Nat → Int32) (hIv : XI v)  : ctI l (dC, dI) cy yX1_fittingCoats cX1_fittingCoats 4 .int 5 155 0 0 ((Nat → Int32) × (Nat → Nat → Int32)) [.ref (x 21), .int p1] (XW cy x0 x v f) (fun r u => KV [] u.1 v ∧ KF [13, 14] u.2 f ∧ XI u.1 ∧ u.1 0 = v 0 ∧ u.1 1 = v 1 ∧ u.1 7 = v 7 ∧ u.1 8 = v 8 ∧ u.1 9 = v 9 ∧ u.1 10 = v 10 ∧ u.1 31 = v 31 ∧ u.1 32 = v 32) (fun u => XW cy x0 x u.1 u.2) := by
  refine ctI_of (by decide) (Nat.le_of_ble_eq_true rfl) (fun p e s m below meth c A ls Q hx hb hml hts hown hE hP hD hA hl ret => ?_)
  have hM_v : KV [] v v := fun _ _ => rfl
  have hA_f : KF [13, 14] f f := fun _ _ => rfl
  have hown : s.vm.findClass RX1 = some m.cls := hown
  have hS : va_S A s.heap s.heap [] := va_S.rf
  have hl : lv_has ls 4 [(0, .ref (x 21)), (1, .int p1)] := hl
  refine lv_iconst (v := 0) hx hb dX1_fittingCoats_0 rfl ?_
  refine lv_istore_n (lv' := [(2, .int 0), (0, .ref (x 21)), (1, .int p1)]) hx hb dX1_fittingCoats_1 rfl hl (Nat.le_of_ble_eq_true rfl) rfl (fun ls hl => ?_)
  refine lv_iconst (v := 0) hx hb dX1_fittingCoats_2 rfl ?_
  refine lv_istore_n (lv' := [(3, .int 0), (2, .int 0), (0, .ref (x 21)), (1, .int p1)]) hx hb dX1_fittingCoats_3 rfl hl (Nat.le_of_ble_eq_true rfl) rfl (fun ls hl => ?_)
  have lp1 : ∀ (n1 : Nat) (l2_1 : Int32) (l3_1 : Int32) (v1 : Nat → Int32) (f1 : Nat → Nat → Int32), XI v1 → v1 0 = (v 0) → v1 1 = (v 1) → v1 7 = (v 7) → v1 8 = (v 8) → v1 9 = (v 9) → v1 10 = (v 10) → v1 31 = (v 31) → v1 32 = (v 32) → ((0 : Int) ≤ l3_1.toInt ∧ l3_1.toInt ≤ 2147483647) → KV [] v1 v → KF [13, 14] f1 f → (2147483647 - l3_1.toInt).toNat < n1 → ∀ (H : Heap) (locs : List Loc) (ls : Array Slot), va_P (dC, dI) vwCl (XW cy x0 x v1 f1) H → va_D A (XW cy x0 x v1 f1) → va_S A s.heap H locs → lv_has ls 4 [(3, .int l3_1), (2, .int l2_1), (0, .ref (x 21)), (1, .int p1)] → W p l e { frames := 5, cells := 0, slots := 0, locals := 155 } s m ([.ref (x 21), .int p1] : List Value).toArray below meth c H locs 0 0 Q (F0 m 4 ls []) := by
    intro n1
    induction n1 with
    | zero => intro l2_1 l3_1 v1 f1 hIv1 hq0_v1 hq1_v1 hq7_v1 hq8_v1 hq9_v1 hq10_v1 hq31_v1 hq32_v1 hr3_1 hM_v1 hA_f1 hm; exact absurd hm (Nat.not_lt_zero _)
    | succ n1 ih1 =>
      intro l2_1 l3_1 v1 f1 hIv1 hq0_v1 hq1_v1 hq7_v1 hq8_v1 hq9_v1 hq10_v1 hq31_v1 hq32_v1 hr3_1 hM_v1 hA_f1 hm1 H locs ls hP hD hS hl
      refine lv_iload_n hx hb dX1_fittingCoats_4 rfl (lv_at hl 0 rfl) ?_
      refine lv_aload_n hx hb dX1_fittingCoats_5 rfl (lv_at hl 2 rfl) ?_
      refine va_get (D := (dC, dI)) (ci := 1) (v := .ref (x 26)) (C := RX1) (T := TX1) (N := 2) hx hb hts inB_1 hown hE.1 hP 22 rfl rfl 0 (Nat.le_of_ble_eq_true rfl) (hts _ k_318) (fun _ h9 => h9) rfl dX1_fittingCoats_6 ?_
      refine va_getN (D := (dC, dI)) (ci := 7) (v := .int (v1 32)) (C := RX7) (T := TX7) (N := 10) hx hb hts inB_7 hown hE.1 hP 27 rfl rfl 4 (Nat.le_of_ble_eq_true rfl) (va_Nw.use rfl (hE.2 _ k_226)) (fun _ h9 => h9) rfl dX1_fittingCoats_9 ?_
      refine tI (y := (v 32)) hq32_v1 ?_
      have b32_v : 0 ≤ (v 32).toInt ∧ (v 32).toInt ≤ 6 := XI.b hIv 32 (by decide)
      refine lv_icmp_ge (tgt := 36) hx hb dX1_fittingCoats_12 rfl (fun c2 => ?_) (fun c2 => ?_)
      · skip
        have zc2 : (v 32).toInt ≤ l3_1.toInt := by rw [fa_le] at c2; exact c2
        have rg3 := fb_rng l3_1
        have rg4 := fb_rng (v 32)
        refine lv_iload_n hx hb dX1_fittingCoats_36 rfl (lv_at hl 1 rfl) ?_
        exact ret l2_1 (v1, f1) _ _ _ _ _ _ rfl ⟨hM_v1, hA_f1, hIv1, (show v1 0 = v 0 from hq0_v1), (show v1 1 = v 1 from hq1_v1), (show v1 7 = v 7 from hq7_v1), (show v1 8 = v 8 from hq8_v1), (show v1 9 = v 9 from hq9_v1), (show v1 10 = v 10 from hq10_v1), (show v1 31 = v 31 from hq31_v1), (show v1 32 = v 32 from hq32_v1)⟩ hP hD hS dX1_fittingCoats_37 (Nat.le_refl _) (Nat.le_refl _)
      · skip
        have zc2 : ¬ ((v 32).toInt ≤ l3_1.toInt) := by rw [fa_le] at c2; exact c2
        have rg5 := fb_rng l3_1
        have rg6 := fb_rng (v 32)
        refine lv_aload_n hx hb dX1_fittingCoats_15 rfl (lv_at hl 2 rfl) ?_
        refine lv_iload_n hx hb dX1_fittingCoats_16 rfl (lv_at hl 3 rfl) ?_
        refine lv_iload_n hx hb dX1_fittingCoats_17 rfl (lv_at hl 0 rfl) ?_
        refine cbVi (n := 2) (rest := []) hx hb hml hown hts hE hP hD hS hA (sX_X1_fits_1 l dC dI cy x0 x p1 l3_1 v1 f1 hIv1 ) k_817 k_818 k_819 k_106 k_820 (by decide +kernel) ⟨Nat.le_of_ble_eq_true rfl, Nat.le_of_ble_eq_true rfl⟩ 22 1 rfl rfl (rfl) hl.1 rfl (Nat.le_of_ble_eq_true rfl) dX1_fittingCoats_18 (fun r7 u H locs hw hP hD hS => ?_)
        obtain ⟨v8, f9⟩ := u
        obtain ⟨kV_v8, kF_f9, hIv8, hk0_v8, hk1_v8, hk7_v8, hk8_v8, hk9_v8, hk10_v8, hk31_v8, hk32_v8, hw⟩ := hw
        have hM_v8 : KV [] v8 v := KV.tr kV_v8 hM_v1 rfl
        have hA_f9 : KF [13, 14] f9 f := KF.tr kF_f9 hA_f1 rfl
        have hP : va_P (dC, dI) vwCl (XW cy x0 x v8 f9) H := hP
        have hD : va_D A (XW cy x0 x v8 f9) := hD
        have hq0_v8 : v8 0 = (v 0) := hk0_v8.trans hq0_v1
        have hq1_v8 : v8 1 = (v 1) := hk1_v8.trans hq1_v1
        have hq7_v8 : v8 7 = (v 7) := hk7_v8.trans hq7_v1
        have hq8_v8 : v8 8 = (v 8) := hk8_v8.trans hq8_v1
        have hq9_v8 : v8 9 = (v 9) := hk9_v8.trans hq9_v1
        have hq10_v8 : v8 10 = (v 10) := hk10_v8.trans hq10_v1
        have hq31_v8 : v8 31 = (v 31) := hk31_v8.trans hq31_v1
        have hq32_v8 : v8 32 = (v 32) := hk32_v8.trans hq32_v1
        rcases hw with ⟨g10⟩ | ⟨g10⟩
        · skip
          subst g10
          refine lv_if_eq (tgt := 30) hx hb dX1_fittingCoats_21 rfl (fun c0 => absurd c0 (by decide)) (fun _ => ?_)
          refine lv_iload_n hx hb dX1_fittingCoats_24 rfl (lv_at hl 1 rfl) ?_
          refine lv_iconst (v := 1) hx hb dX1_fittingCoats_25 rfl ?_
          refine lv_iload_n hx hb dX1_fittingCoats_26 rfl (lv_at hl 0 rfl) ?_
          refine lv_ishl hx hb dX1_fittingCoats_27 ?_
          refine lv_topi (fun t11 et11 => ?_)
          have zt11 : 1 ≤ t11.toInt ∧ t11.toInt ≤ 32 := by rw [et11]; exact shl1_rng (by omega) (by omega)
          refine lv_ior hx hb dX1_fittingCoats_28 ?_
          refine lv_topi (fun t12 et12 => ?_)
          refine lv_istore_n (lv' := [(2, .int t12), (3, .int l3_1), (0, .ref (x 21)), (1, .int p1)]) hx hb dX1_fittingCoats_29 rfl hl (Nat.le_of_ble_eq_true rfl) rfl (fun ls hl => ?_)
          obtain ⟨t13, et13⟩ : ∃ y : Int32, y = l3_1 + 1 := ⟨_, rfl⟩
          have zt13 : t13.toInt = l3_1.toInt + 1 := by rw [et13]; exact add_i rfl (by decide) (by omega) (by omega)
          refine lv_iinc (v := t13) (lv' := [(3, .int t13), (2, .int t12), (0, .ref (x 21)), (1, .int p1)]) hx hb dX1_fittingCoats_30 hl (k := 1) rfl (by rw [et13]; rfl) (by decide) rfl (fun ls hl => ?_)
          refine lv_goto (tgt := 4) hx hb dX1_fittingCoats_33 rfl ?_
          have rg14 := fb_rng t13
          exact ih1 t12 t13 v8 f9 hIv8 hq0_v8 hq1_v8 hq7_v8 hq8_v8 hq9_v8 hq10_v8 hq31_v8 hq32_v8 ⟨show (0 : Int) ≤ t13.toInt by omega, show t13.toInt ≤ (2147483647 : Int) by omega⟩ hM_v8 hA_f9 (by show (2147483647 - t13.toInt).toNat < n1; omega) _ _ _ hP hD hS (lv_sub hl [0, 1, 2, 3] rfl)
        · skip
          subst g10
          refine lv_if_eq (tgt := 30) hx hb dX1_fittingCoats_21 rfl (fun _ => ?_) (fun c0 => absurd (by decide) c0)
          obtain ⟨t15, et15⟩ : ∃ y : Int32, y = l3_1 + 1 := ⟨_, rfl⟩
          have zt15 : t15.toInt = l3_1.toInt + 1 := by rw [et15]; exact add_i rfl (by decide) (by omega) (by omega)
          refine lv_iinc (v := t15) (lv' := [(3, .int t15), (2, .int l2_1), (0, .ref (x 21)), (1, .int p1)]) hx hb dX1_fittingCoats_30 hl (k := 0) rfl (by rw [et15]; rfl) (by decide) rfl (fun ls hl => ?_)
          refine lv_goto (tgt := 4) hx hb dX1_fittingCoats_33 rfl ?_
          have rg16 := fb_rng t15
          exact ih1 l2_1 t15 v8 f9 hIv8 hq0_v8 hq1_v8 hq7_v8 hq8_v8 hq9_v8 hq10_v8 hq31_v8 hq32_v8 ⟨show (0 : Int) ≤ t15.toInt by omega, show t15.toInt ≤ (2147483647 : Int) by omega⟩ hM_v8 hA_f9 (by show (2147483647 - t15.toInt).toNat < n1; omega) _ _ _ hP hD hS (lv_sub hl [0, 1, 2, 3] rfl)
  exact lp1 _ 0 0 v f hIv rfl rfl rfl rfl rfl rfl rfl rfl ⟨by decide, by decide⟩ hM_v hA_f (Nat.lt_succ_self _) _ _ _ hP hD hS (lv_sub hl [0, 1, 2, 3] rfl)
set_option maxHeartbeats 4000000 in
set_option maxRecDepth 100000 in
theorem sX_X10_man_1 (l : Launch) (dC : Nat → ClassId) (dI : Nat → Nat → Nat) (cy : Nat → ClassId) (x0 : Nat) (x : Nat → Nat) (p1 : Int32) (p2 : Int32) (v : Nat → Int32) (f : Nat → Nat → Int32) (hIv : XI v)  : ctI l (dC, dI) cy yX10_man cX10_man 3 .int 6 178 0 0 ((Nat → Int32) × (Nat → Nat → Int32)) [.ref x0, .int p1, .int p2] (XW cy x0 x v f) (fun r u => KV [] u.1 v ∧ KF [13, 14] u.2 f ∧ XI u.1 ∧ u.1 0 = v 0 ∧ u.1 1 = v 1 ∧ u.1 7 = v 7 ∧ u.1 8 = v 8 ∧ u.1 9 = v 9 ∧ u.1 10 = v 10 ∧ u.1 31 = v 31 ∧ u.1 32 = v 32) (fun u => XW cy x0 x u.1 u.2) := by
  refine ctI_of (by decide) (Nat.le_of_ble_eq_true rfl) (fun p e s m below meth c A ls Q hx hb hml hts hown hE hP hD hA hl ret => ?_)
  have hM_v : KV [] v v := fun _ _ => rfl
  have hA_f : KF [13, 14] f f := fun _ _ => rfl
  have hown : s.vm.findClass RX10 = some m.cls := hown
  have hS : va_S A s.heap s.heap [] := va_S.rf
  have hl : lv_has ls 3 [(0, .ref x0), (1, .int p1), (2, .int p2)] := hl
  refine lv_aload_n hx hb dX10_man_0 rfl (lv_at hl 0 rfl) ?_
  refine va_get (D := (dC, dI)) (ci := 10) (v := .ref (x 26)) (C := RX10) (T := TX10) (N := 10) hx hb hts inB_10 hown hE.1 hP 0 rfl rfl 2 (Nat.le_of_ble_eq_true rfl) (hts _ k_493) (fun _ h9 => h9) rfl dX10_man_1 ?_
  refine lv_iload_n hx hb dX10_man_4 rfl (lv_at hl 1 rfl) ?_
  refine cbVi (n := 1) (rest := []) hx hb hml hown hts hE hP hD hS hA (sX_X7_hasMan_1 0 l dC dI cy x0 x p1 v f hIv ) k_802 k_307 k_308 k_104 k_309 (by decide +kernel) ⟨Nat.le_of_ble_eq_true rfl, Nat.le_of_ble_eq_true rfl⟩ 27 7 rfl rfl (rfl) hl.1 rfl (Nat.le_of_ble_eq_true rfl) dX10_man_5 (fun r1 u H locs hw hP hD hS => ?_)
  obtain ⟨hG2, hw⟩ := hw
  rcases hw with ⟨g3, g3_0, g3_1, g3_2⟩ | ⟨g3⟩
  · skip
    subst g3
    refine lv_if_ne (tgt := 14) hx hb dX10_man_8 rfl (fun _ => ?_) (fun c0 => absurd c0 (by decide))
    refine lv_iload_n hx hb dX10_man_14 rfl (lv_at hl 2 rfl) ?_
    by_cases c4 : p2 = 0
    · skip
      refine lv_tableIn (off := 33) (tgt := 48) hx hb dX10_man_15 (by rw [c4]; decide) (by rw [c4]; decide) (by rw [c4]; decide) (by decide) ?_
      have zc4 : p2.toInt = 0 := by rw [fa_eq, show (0 : Int32).toInt = 0 from by decide] at c4; exact c4
      refine lv_aload_n hx hb dX10_man_48 rfl (lv_at hl 0 rfl) ?_
      refine va_get (D := (dC, dI)) (ci := 10) (v := .ref (x 26)) (C := RX10) (T := TX10) (N := 10) hx hb hts inB_10 hown hE.1 hP 0 rfl rfl 2 (Nat.le_of_ble_eq_true rfl) (hts _ k_493) (fun _ h9 => h9) rfl dX10_man_49 ?_
      refine lv_iconst (v := 0) hx hb dX10_man_52 rfl ?_
      refine lv_iload_n hx hb dX10_man_53 rfl (lv_at hl 1 rfl) ?_
      refine cbVi (n := 2) (rest := []) hx hb hml hown hts hE hP hD hS hA (sX_X7_manPart_1 0 l dC dI cy x0 x 0 p1 v f hIv ) k_803 k_303 k_304 k_104 k_305 (by decide +kernel) ⟨Nat.le_of_ble_eq_true rfl, Nat.le_of_ble_eq_true rfl⟩ 27 7 rfl rfl (rfl) hl.1 rfl (Nat.le_of_ble_eq_true rfl) dX10_man_54 (fun r5 u H locs hw hP hD hS => ?_)
      have hG6 := hw
      exact ret r5 (v, f) _ _ _ _ _ _ rfl ⟨hM_v, hA_f, hIv, rfl, rfl, rfl, rfl, rfl, rfl, rfl, rfl⟩ hP hD hS dX10_man_57 (Nat.le_refl _) (Nat.le_refl _)
    · skip
      have zc4 : ¬ (p2.toInt = 0) := by rw [fa_eq, show (0 : Int32).toInt = 0 from by decide] at c4; exact c4
      by_cases c7 : p2 = 1
      · skip
        refine lv_tableIn (off := 43) (tgt := 58) hx hb dX10_man_15 (by rw [c7]; decide) (by rw [c7]; decide) (by rw [c7]; decide) (by decide) ?_
        have zc7 : p2.toInt = 1 := by rw [fa_eq, show (1 : Int32).toInt = 1 from by decide] at c7; exact c7
        refine lv_aload_n hx hb dX10_man_58 rfl (lv_at hl 0 rfl) ?_
        refine va_get (D := (dC, dI)) (ci := 10) (v := .ref (x 21)) (C := RX10) (T := TX10) (N := 10) hx hb hts inB_10 hown hE.1 hP 0 rfl rfl 3 (Nat.le_of_ble_eq_true rfl) (hts _ k_494) (fun _ h9 => h9) rfl dX10_man_59 ?_
        refine lv_iload_n hx hb dX10_man_62 rfl (lv_at hl 1 rfl) ?_
        refine cbVi (n := 1) (rest := []) hx hb hml hown hts hE hP hD hS hA (sX_X1_manWide_1 l dC dI cy x0 x p1 v f hIv ) k_804 k_805 k_806 k_106 k_807 (by decide +kernel) ⟨Nat.le_of_ble_eq_true rfl, Nat.le_of_ble_eq_true rfl⟩ 22 1 rfl rfl (rfl) hl.1 rfl (Nat.le_of_ble_eq_true rfl) dX10_man_63 (fun r8 u H locs hw hP hD hS => ?_)
        exact ret r8 (v, f) _ _ _ _ _ _ rfl ⟨hM_v, hA_f, hIv, rfl, rfl, rfl, rfl, rfl, rfl, rfl, rfl⟩ hP hD hS dX10_man_66 (Nat.le_refl _) (Nat.le_refl _)
      · skip
        have zc7 : ¬ (p2.toInt = 1) := by rw [fa_eq, show (1 : Int32).toInt = 1 from by decide] at c7; exact c7
        by_cases c9 : p2 = 2
        · skip
          refine lv_tableIn (off := 52) (tgt := 67) hx hb dX10_man_15 (by rw [c9]; decide) (by rw [c9]; decide) (by rw [c9]; decide) (by decide) ?_
          have zc9 : p2.toInt = 2 := by rw [fa_eq, show (2 : Int32).toInt = 2 from by decide] at c9; exact c9
          refine lv_aload_n hx hb dX10_man_67 rfl (lv_at hl 0 rfl) ?_
          refine va_get (D := (dC, dI)) (ci := 10) (v := .ref (x 26)) (C := RX10) (T := TX10) (N := 10) hx hb hts inB_10 hown hE.1 hP 0 rfl rfl 2 (Nat.le_of_ble_eq_true rfl) (hts _ k_493) (fun _ h9 => h9) rfl dX10_man_68 ?_
          refine lv_iconst (v := 2) hx hb dX10_man_71 rfl ?_
          refine lv_iload_n hx hb dX10_man_72 rfl (lv_at hl 1 rfl) ?_
          refine cbVi (n := 2) (rest := []) hx hb hml hown hts hE hP hD hS hA (sX_X7_manPart_1 0 l dC dI cy x0 x 2 p1 v f hIv ) k_803 k_303 k_304 k_104 k_305 (by decide +kernel) ⟨Nat.le_of_ble_eq_true rfl, Nat.le_of_ble_eq_true rfl⟩ 27 7 rfl rfl (rfl) hl.1 rfl (Nat.le_of_ble_eq_true rfl) dX10_man_73 (fun r10 u H locs hw hP hD hS => ?_)
          have hG11 := hw
          exact ret r10 (v, f) _ _ _ _ _ _ rfl ⟨hM_v, hA_f, hIv, rfl, rfl, rfl, rfl, rfl, rfl, rfl, rfl⟩ hP hD hS dX10_man_76 (Nat.le_refl _) (Nat.le_refl _)
        · skip
          have zc9 : ¬ (p2.toInt = 2) := by rw [fa_eq, show (2 : Int32).toInt = 2 from by decide] at c9; exact c9
          by_cases c12 : p2 = 3
          · skip
            refine lv_tableIn (off := 62) (tgt := 77) hx hb dX10_man_15 (by rw [c12]; decide) (by rw [c12]; decide) (by rw [c12]; decide) (by decide) ?_
            have zc12 : p2.toInt = 3 := by rw [fa_eq, show (3 : Int32).toInt = 3 from by decide] at c12; exact c12
            refine lv_aload_n hx hb dX10_man_77 rfl (lv_at hl 0 rfl) ?_
            refine va_get (D := (dC, dI)) (ci := 10) (v := .ref (x 21)) (C := RX10) (T := TX10) (N := 10) hx hb hts inB_10 hown hE.1 hP 0 rfl rfl 3 (Nat.le_of_ble_eq_true rfl) (hts _ k_494) (fun _ h9 => h9) rfl dX10_man_78 ?_
            refine lv_iload_n hx hb dX10_man_81 rfl (lv_at hl 1 rfl) ?_
            refine cbVi (n := 1) (rest := []) hx hb hml hown hts hE hP hD hS hA (sX_X1_wears_1 l dC dI cy x0 x p1 v f hIv ) k_809 k_810 k_811 k_106 k_812 (by decide +kernel) ⟨Nat.le_of_ble_eq_true rfl, Nat.le_of_ble_eq_true rfl⟩ 22 1 rfl rfl (rfl) hl.1 rfl (Nat.le_of_ble_eq_true rfl) dX10_man_82 (fun r13 u H locs hw hP hD hS => ?_)
            exact ret r13 (v, f) _ _ _ _ _ _ rfl ⟨hM_v, hA_f, hIv, rfl, rfl, rfl, rfl, rfl, rfl, rfl, rfl⟩ hP hD hS dX10_man_85 (Nat.le_refl _) (Nat.le_refl _)
          · skip
            have zc12 : ¬ (p2.toInt = 3) := by rw [fa_eq, show (3 : Int32).toInt = 3 from by decide] at c12; exact c12
            by_cases c14 : p2 = 4
            · skip
              refine lv_tableIn (off := 71) (tgt := 86) hx hb dX10_man_15 (by rw [c14]; decide) (by rw [c14]; decide) (by rw [c14]; decide) (by decide) ?_
              have zc14 : p2.toInt = 4 := by rw [fa_eq, show (4 : Int32).toInt = 4 from by decide] at c14; exact c14
              refine lv_aload_n hx hb dX10_man_86 rfl (lv_at hl 0 rfl) ?_
              refine va_get (D := (dC, dI)) (ci := 10) (v := .ref (x 21)) (C := RX10) (T := TX10) (N := 10) hx hb hts inB_10 hown hE.1 hP 0 rfl rfl 3 (Nat.le_of_ble_eq_true rfl) (hts _ k_494) (fun _ h9 => h9) rfl dX10_man_87 ?_
              refine lv_iload_n hx hb dX10_man_90 rfl (lv_at hl 1 rfl) ?_
              refine cbVi (n := 1) (rest := []) hx hb hml hown hts hE hP hD hS hA (sX_X1_fittingCoats_1 l dC dI cy x0 x p1 v f hIv ) k_813 k_814 k_815 k_106 k_816 (by decide +kernel) ⟨Nat.le_of_ble_eq_true rfl, Nat.le_of_ble_eq_true rfl⟩ 22 1 rfl rfl (rfl) hl.1 rfl (Nat.le_of_ble_eq_true rfl) dX10_man_91 (fun r15 u H locs hw hP hD hS => ?_)
              obtain ⟨v16, f17⟩ := u
              obtain ⟨kV_v16, kF_f17, hIv16, hk0_v16, hk1_v16, hk7_v16, hk8_v16, hk9_v16, hk10_v16, hk31_v16, hk32_v16⟩ := hw
              have hM_v16 : KV [] v16 v := KV.tr kV_v16 hM_v rfl
              have hA_f17 : KF [13, 14] f17 f := KF.tr kF_f17 hA_f rfl
              have hP : va_P (dC, dI) vwCl (XW cy x0 x v16 f17) H := hP
              have hD : va_D A (XW cy x0 x v16 f17) := hD
              have hq0_v16 : v16 0 = (v 0) := hk0_v16
              have hq1_v16 : v16 1 = (v 1) := hk1_v16
              have hq7_v16 : v16 7 = (v 7) := hk7_v16
              have hq8_v16 : v16 8 = (v 8) := hk8_v16
              have hq9_v16 : v16 9 = (v 9) := hk9_v16
              have hq10_v16 : v16 10 = (v 10) := hk10_v16
              have hq31_v16 : v16 31 = (v 31) := hk31_v16
              have hq32_v16 : v16 32 = (v 32) := hk32_v16
              exact ret r15 (v16, f17) _ _ _ _ _ _ rfl ⟨hM_v16, hA_f17, hIv16, hk0_v16, hk1_v16, hk7_v16, hk8_v16, hk9_v16, hk10_v16, hk31_v16, hk32_v16⟩ hP hD hS dX10_man_94 (Nat.le_refl _) (Nat.le_refl _)
            · skip
              have zc14 : ¬ (p2.toInt = 4) := by rw [fa_eq, show (4 : Int32).toInt = 4 from by decide] at c14; exact c14
              refine lv_tableOut (tgt := 95) hx hb dX10_man_15 (by omega) (by decide) ?_
              refine lv_bipush (v := (-2)) hx hb dX10_man_95 rfl ?_
              exact ret (-2) (v, f) _ _ _ _ _ _ rfl ⟨hM_v, hA_f, hIv, rfl, rfl, rfl, rfl, rfl, rfl, rfl, rfl⟩ hP hD hS dX10_man_97 (Nat.le_refl _) (Nat.le_refl _)
  · skip
    subst g3
    refine lv_if_ne (tgt := 14) hx hb dX10_man_8 rfl (fun c0 => absurd (by decide) c0) (fun _ => ?_)
    refine lv_bipush (v := (-2)) hx hb dX10_man_11 rfl ?_
    exact ret (-2) (v, f) _ _ _ _ _ _ rfl ⟨hM_v, hA_f, hIv, rfl, rfl, rfl, rfl, rfl, rfl, rfl, rfl⟩ hP hD hS dX10_man_13 (Nat.le_refl _) (Nat.le_refl _)
set_option maxHeartbeats 4000000 in
set_option maxRecDepth 100000 in
theorem sX_X1_wearer_1 (l : Launch) (dC : Nat → ClassId) (dI : Nat → Nat → Nat) (cy : Nat → ClassId) (x0 : Nat) (x : Nat → Nat) (p1 : Int32) (v : Nat → Int32) (f : Nat → Nat → Int32) (hIv : XI v)  : ctI l (dC, dI) cy yX1_wearer cX1_wearer 3 .int 3 102 0 0 Unit [.ref (x 21), .int p1] (XW cy x0 x v f) (fun r u => True) (fun u => XW cy x0 x v f) := by
  refine ctI_of (by decide) (Nat.le_of_ble_eq_true rfl) (fun p e s m below meth c A ls Q hx hb hml hts hown hE hP hD hA hl ret => ?_)
  have hown : s.vm.findClass RX1 = some m.cls := hown
  have hS : va_S A s.heap s.heap [] := va_S.rf
  have hl : lv_has ls 3 [(0, .ref (x 21)), (1, .int p1)] := hl
  refine lv_iconst (v := 0) hx hb dX1_wearer_0 rfl ?_
  refine lv_istore_n (lv' := [(2, .int 0), (0, .ref (x 21)), (1, .int p1)]) hx hb dX1_wearer_1 rfl hl (Nat.le_of_ble_eq_true rfl) rfl (fun ls hl => ?_)
  have lp1 : ∀ (n1 : Nat) (l2_1 : Int32), ((0 : Int) ≤ l2_1.toInt ∧ l2_1.toInt ≤ 2147483647) → (2147483647 - l2_1.toInt).toNat < n1 → ∀ (H : Heap) (locs : List Loc) (ls : Array Slot), va_P (dC, dI) vwCl (XW cy x0 x v f) H → va_D A (XW cy x0 x v f) → va_S A s.heap H locs → lv_has ls 3 [(2, .int l2_1), (0, .ref (x 21)), (1, .int p1)] → W p l e { frames := 3, cells := 0, slots := 0, locals := 102 } s m ([.ref (x 21), .int p1] : List Value).toArray below meth c H locs 0 0 Q (F0 m 2 ls []) := by
    intro n1
    induction n1 with
    | zero => intro l2_1 hr2_1 hm; exact absurd hm (Nat.not_lt_zero _)
    | succ n1 ih1 =>
      intro l2_1 hr2_1 hm1 H locs ls hP hD hS hl
      refine lv_iload_n hx hb dX1_wearer_2 rfl (lv_at hl 0 rfl) ?_
      refine lv_aload_n hx hb dX1_wearer_3 rfl (lv_at hl 1 rfl) ?_
      refine va_get (D := (dC, dI)) (ci := 1) (v := .ref (x 26)) (C := RX1) (T := TX1) (N := 2) hx hb hts inB_1 hown hE.1 hP 22 rfl rfl 0 (Nat.le_of_ble_eq_true rfl) (hts _ k_318) (fun _ h9 => h9) rfl dX1_wearer_4 ?_
      refine va_getN (D := (dC, dI)) (ci := 7) (v := .int (v 31)) (C := RX7) (T := TX7) (N := 10) hx hb hts inB_7 hown hE.1 hP 27 rfl rfl 3 (Nat.le_of_ble_eq_true rfl) (va_Nw.use rfl (hE.2 _ k_219)) (fun _ h9 => h9) rfl dX1_wearer_7 ?_
      have b31_v : 0 ≤ (v 31).toInt ∧ (v 31).toInt ≤ 6 := XI.b hIv 31 (by decide)
      refine lv_icmp_ge (tgt := 30) hx hb dX1_wearer_10 rfl (fun c2 => ?_) (fun c2 => ?_)
      · skip
        have zc2 : (v 31).toInt ≤ l2_1.toInt := by rw [fa_le] at c2; exact c2
        have rg3 := fb_rng l2_1
        have rg4 := fb_rng (v 31)
        refine lv_iconst (v := (-1)) hx hb dX1_wearer_30 rfl ?_
        exact ret (-1) () _ _ _ _ _ _ rfl trivial hP hD hS dX1_wearer_31 (Nat.le_refl _) (Nat.le_refl _)
      · skip
        have zc2 : ¬ ((v 31).toInt ≤ l2_1.toInt) := by rw [fa_le] at c2; exact c2
        have rg5 := fb_rng l2_1
        have rg6 := fb_rng (v 31)
        refine lv_aload_n hx hb dX1_wearer_13 rfl (lv_at hl 1 rfl) ?_
        refine lv_iload_n hx hb dX1_wearer_14 rfl (lv_at hl 0 rfl) ?_
        refine cbVi (n := 1) (rest := []) hx hb hml hown hts hE hP hD hS hA (sX_X1_wears_1 l dC dI cy x0 x l2_1 v f hIv ) k_853 k_810 k_811 k_106 k_812 (by decide +kernel) ⟨Nat.le_of_ble_eq_true rfl, Nat.le_of_ble_eq_true rfl⟩ 22 1 rfl rfl (rfl) hl.1 rfl (Nat.le_of_ble_eq_true rfl) dX1_wearer_15 (fun r7 u H locs hw hP hD hS => ?_)
        refine lv_iload_n hx hb dX1_wearer_18 rfl (lv_at hl 2 rfl) ?_
        refine lv_icmp_ne (tgt := 24) hx hb dX1_wearer_19 rfl (fun c8 => ?_) (fun c8 => ?_)
        · skip
          have zc8 : ¬ (r7.toInt = p1.toInt) := by rw [fa_eq] at c8; exact c8
          have rg9 := fb_rng r7
          have rg10 := fb_rng p1
          obtain ⟨t11, et11⟩ : ∃ y : Int32, y = l2_1 + 1 := ⟨_, rfl⟩
          have zt11 : t11.toInt = l2_1.toInt + 1 := by rw [et11]; exact add_i rfl (by decide) (by omega) (by omega)
          refine lv_iinc (v := t11) (lv' := [(2, .int t11), (0, .ref (x 21)), (1, .int p1)]) hx hb dX1_wearer_24 hl (k := 0) rfl (by rw [et11]; rfl) (by decide) rfl (fun ls hl => ?_)
          refine lv_goto (tgt := 2) hx hb dX1_wearer_27 rfl ?_
          have rg12 := fb_rng t11
          exact ih1 t11 ⟨show (0 : Int) ≤ t11.toInt by omega, show t11.toInt ≤ (2147483647 : Int) by omega⟩ (by show (2147483647 - t11.toInt).toNat < n1; omega) _ _ _ hP hD hS (lv_sub hl [0, 1, 2] rfl)
        · skip
          have zc8 : r7.toInt = p1.toInt := by rw [fa_eq] at c8; exact c8
          have rg13 := fb_rng r7
          have rg14 := fb_rng p1
          refine lv_iload_n hx hb dX1_wearer_22 rfl (lv_at hl 0 rfl) ?_
          exact ret l2_1 () _ _ _ _ _ _ rfl trivial hP hD hS dX1_wearer_23 (Nat.le_refl _) (Nat.le_refl _)
  exact lp1 _ 0 ⟨by decide, by decide⟩ (Nat.lt_succ_self _) _ _ _ hP hD hS (lv_sub hl [0, 1, 2] rfl)
set_option maxHeartbeats 4000000 in
set_option maxRecDepth 100000 in
theorem sX_X10_coat_1 (l : Launch) (dC : Nat → ClassId) (dI : Nat → Nat → Nat) (cy : Nat → ClassId) (x0 : Nat) (x : Nat → Nat) (p1 : Int32) (p2 : Int32) (v : Nat → Int32) (f : Nat → Nat → Int32) (hIv : XI v)  : ctI l (dC, dI) cy yX10_coat cX10_coat 3 .int 4 124 0 0 Unit [.ref x0, .int p1, .int p2] (XW cy x0 x v f) (fun r u => True) (fun u => XW cy x0 x v f) := by
  refine ctI_of (by decide) (Nat.le_of_ble_eq_true rfl) (fun p e s m below meth c A ls Q hx hb hml hts hown hE hP hD hA hl ret => ?_)
  have hown : s.vm.findClass RX10 = some m.cls := hown
  have hS : va_S A s.heap s.heap [] := va_S.rf
  have hl : lv_has ls 3 [(0, .ref x0), (1, .int p1), (2, .int p2)] := hl
  refine lv_aload_n hx hb dX10_coat_0 rfl (lv_at hl 0 rfl) ?_
  refine va_get (D := (dC, dI)) (ci := 10) (v := .ref (x 26)) (C := RX10) (T := TX10) (N := 10) hx hb hts inB_10 hown hE.1 hP 0 rfl rfl 2 (Nat.le_of_ble_eq_true rfl) (hts _ k_493) (fun _ h9 => h9) rfl dX10_coat_1 ?_
  refine lv_iload_n hx hb dX10_coat_4 rfl (lv_at hl 1 rfl) ?_
  refine cbVi (n := 1) (rest := []) hx hb hml hown hts hE hP hD hS hA (sX_X7_hasCoat_1 0 l dC dI cy x0 x p1 v f hIv ) k_848 k_315 k_316 k_104 k_317 (by decide +kernel) ⟨Nat.le_of_ble_eq_true rfl, Nat.le_of_ble_eq_true rfl⟩ 27 7 rfl rfl (rfl) hl.1 rfl (Nat.le_of_ble_eq_true rfl) dX10_coat_5 (fun r1 u H locs hw hP hD hS => ?_)
  obtain ⟨hG2, hw⟩ := hw
  rcases hw with ⟨g3, g3_0, g3_1, g3_2⟩ | ⟨g3⟩
  · skip
    subst g3
    refine lv_if_eq (tgt := 20) hx hb dX10_coat_8 rfl (fun c0 => absurd c0 (by decide)) (fun _ => ?_)
    refine lv_iload_n hx hb dX10_coat_11 rfl (lv_at hl 2 rfl) ?_
    refine lv_if_lt (tgt := 20) hx hb dX10_coat_12 rfl (fun c4 => ?_) (fun c4 => ?_)
    · skip
      have zc4 : p2.toInt < 0 := by rw [fa_lt, show (0 : Int32).toInt = 0 from by decide] at c4; exact c4
      refine lv_bipush (v := (-2)) hx hb dX10_coat_20 rfl ?_
      exact ret (-2) () _ _ _ _ _ _ rfl trivial hP hD hS dX10_coat_22 (Nat.le_refl _) (Nat.le_refl _)
    · skip
      have zc4 : ¬ (p2.toInt < 0) := by rw [fa_lt, show (0 : Int32).toInt = 0 from by decide] at c4; exact c4
      refine lv_iload_n hx hb dX10_coat_15 rfl (lv_at hl 2 rfl) ?_
      refine lv_iconst (v := 5) hx hb dX10_coat_16 rfl ?_
      refine lv_icmp_le (tgt := 23) hx hb dX10_coat_17 rfl (fun c5 => ?_) (fun c5 => ?_)
      · skip
        have zc5 : p2.toInt ≤ 5 := by rw [fa_le, show (5 : Int32).toInt = 5 from by decide] at c5; exact c5
        refine lv_iload_n hx hb dX10_coat_23 rfl (lv_at hl 2 rfl) ?_
        refine lv_iconst (v := 5) hx hb dX10_coat_24 rfl ?_
        refine lv_icmp_ne (tgt := 39) hx hb dX10_coat_25 rfl (fun c6 => ?_) (fun c6 => ?_)
        · skip
          have zc6 : ¬ (p2.toInt = 5) := by rw [fa_eq, show (5 : Int32).toInt = 5 from by decide] at c6; exact c6
          refine lv_aload_n hx hb dX10_coat_39 rfl (lv_at hl 0 rfl) ?_
          refine va_get (D := (dC, dI)) (ci := 10) (v := .ref (x 21)) (C := RX10) (T := TX10) (N := 10) hx hb hts inB_10 hown hE.1 hP 0 rfl rfl 3 (Nat.le_of_ble_eq_true rfl) (hts _ k_494) (fun _ h9 => h9) rfl dX10_coat_40 ?_
          refine lv_iload_n hx hb dX10_coat_43 rfl (lv_at hl 2 rfl) ?_
          refine lv_iload_n hx hb dX10_coat_44 rfl (lv_at hl 1 rfl) ?_
          refine cbVi (n := 2) (rest := []) hx hb hml hown hts hE hP hD hS hA (sX_X1_part_1 l dC dI cy x0 x p2 p1 v f hIv ) k_854 k_828 k_829 k_106 k_830 (by decide +kernel) ⟨Nat.le_of_ble_eq_true rfl, Nat.le_of_ble_eq_true rfl⟩ 22 1 rfl rfl (rfl) hl.1 rfl (Nat.le_of_ble_eq_true rfl) dX10_coat_45 (fun r7 u H locs hw hP hD hS => ?_)
          exact ret r7 () _ _ _ _ _ _ rfl trivial hP hD hS dX10_coat_48 (Nat.le_refl _) (Nat.le_refl _)
        · skip
          have zc6 : p2.toInt = 5 := by rw [fa_eq, show (5 : Int32).toInt = 5 from by decide] at c6; exact c6
          refine lv_aload_n hx hb dX10_coat_28 rfl (lv_at hl 0 rfl) ?_
          refine va_get (D := (dC, dI)) (ci := 10) (v := .ref (x 21)) (C := RX10) (T := TX10) (N := 10) hx hb hts inB_10 hown hE.1 hP 0 rfl rfl 3 (Nat.le_of_ble_eq_true rfl) (hts _ k_494) (fun _ h9 => h9) rfl dX10_coat_29 ?_
          refine lv_iload_n hx hb dX10_coat_32 rfl (lv_at hl 1 rfl) ?_
          refine cbVi (n := 1) (rest := []) hx hb hml hown hts hE hP hD hS hA (sX_X1_wearer_1 l dC dI cy x0 x p1 v f hIv ) k_849 k_850 k_851 k_106 k_852 (by decide +kernel) ⟨Nat.le_of_ble_eq_true rfl, Nat.le_of_ble_eq_true rfl⟩ 22 1 rfl rfl (rfl) hl.1 rfl (Nat.le_of_ble_eq_true rfl) dX10_coat_33 (fun r8 u H locs hw hP hD hS => ?_)
          refine lv_goto (tgt := 48) hx hb dX10_coat_36 rfl ?_
          exact ret r8 () _ _ _ _ _ _ rfl trivial hP hD hS dX10_coat_48 (Nat.le_refl _) (Nat.le_refl _)
      · skip
        have zc5 : ¬ (p2.toInt ≤ 5) := by rw [fa_le, show (5 : Int32).toInt = 5 from by decide] at c5; exact c5
        refine lv_bipush (v := (-2)) hx hb dX10_coat_20 rfl ?_
        exact ret (-2) () _ _ _ _ _ _ rfl trivial hP hD hS dX10_coat_22 (Nat.le_refl _) (Nat.le_refl _)
  · skip
    subst g3
    refine lv_if_eq (tgt := 20) hx hb dX10_coat_8 rfl (fun _ => ?_) (fun c0 => absurd (by decide) c0)
    refine lv_bipush (v := (-2)) hx hb dX10_coat_20 rfl ?_
    exact ret (-2) () _ _ _ _ _ _ rfl trivial hP hD hS dX10_coat_22 (Nat.le_refl _) (Nat.le_refl _)
set_option maxHeartbeats 4000000 in
set_option maxRecDepth 100000 in
theorem sX_X10_misfit_1 (l : Launch) (dC : Nat → ClassId) (dI : Nat → Nat → Nat) (cy : Nat → ClassId) (x0 : Nat) (x : Nat → Nat) (p1 : Int32) (p2 : Int32) (v : Nat → Int32) (f : Nat → Nat → Int32) (hIv : XI v)  : ctI l (dC, dI) cy yX10_misfit cX10_misfit 3 .int 4 133 0 0 ((Nat → Int32) × (Nat → Nat → Int32)) [.ref x0, .int p1, .int p2] (XW cy x0 x v f) (fun r u => KV [] u.1 v ∧ KF [13, 14] u.2 f ∧ XI u.1 ∧ u.1 0 = v 0 ∧ u.1 1 = v 1 ∧ u.1 7 = v 7 ∧ u.1 8 = v 8 ∧ u.1 9 = v 9 ∧ u.1 10 = v 10 ∧ u.1 31 = v 31 ∧ u.1 32 = v 32) (fun u => XW cy x0 x u.1 u.2) := by
  refine ctI_of (by decide) (Nat.le_of_ble_eq_true rfl) (fun p e s m below meth c A ls Q hx hb hml hts hown hE hP hD hA hl ret => ?_)
  have hM_v : KV [] v v := fun _ _ => rfl
  have hA_f : KF [13, 14] f f := fun _ _ => rfl
  have hown : s.vm.findClass RX10 = some m.cls := hown
  have hS : va_S A s.heap s.heap [] := va_S.rf
  have hl : lv_has ls 3 [(0, .ref x0), (1, .int p1), (2, .int p2)] := hl
  refine lv_aload_n hx hb dX10_misfit_0 rfl (lv_at hl 0 rfl) ?_
  refine va_get (D := (dC, dI)) (ci := 10) (v := .ref (x 26)) (C := RX10) (T := TX10) (N := 10) hx hb hts inB_10 hown hE.1 hP 0 rfl rfl 2 (Nat.le_of_ble_eq_true rfl) (hts _ k_493) (fun _ h9 => h9) rfl dX10_misfit_1 ?_
  refine lv_iload_n hx hb dX10_misfit_4 rfl (lv_at hl 1 rfl) ?_
  refine cbVi (n := 1) (rest := []) hx hb hml hown hts hE hP hD hS hA (sX_X7_hasMan_1 0 l dC dI cy x0 x p1 v f hIv ) k_802 k_307 k_308 k_104 k_309 (by decide +kernel) ⟨Nat.le_of_ble_eq_true rfl, Nat.le_of_ble_eq_true rfl⟩ 27 7 rfl rfl (rfl) hl.1 rfl (Nat.le_of_ble_eq_true rfl) dX10_misfit_5 (fun r1 u H locs hw hP hD hS => ?_)
  obtain ⟨hG2, hw⟩ := hw
  rcases hw with ⟨g3, g3_0, g3_1, g3_2⟩ | ⟨g3⟩
  · skip
    subst g3
    refine lv_if_eq (tgt := 34) hx hb dX10_misfit_8 rfl (fun c0 => absurd c0 (by decide)) (fun _ => ?_)
    refine lv_aload_n hx hb dX10_misfit_11 rfl (lv_at hl 0 rfl) ?_
    refine va_get (D := (dC, dI)) (ci := 10) (v := .ref (x 26)) (C := RX10) (T := TX10) (N := 10) hx hb hts inB_10 hown hE.1 hP 0 rfl rfl 2 (Nat.le_of_ble_eq_true rfl) (hts _ k_493) (fun _ h9 => h9) rfl dX10_misfit_12 ?_
    refine lv_iload_n hx hb dX10_misfit_15 rfl (lv_at hl 2 rfl) ?_
    refine cbVi (n := 1) (rest := []) hx hb hml hown hts hE hP hD hS hA (sX_X7_hasCoat_1 0 l dC dI cy x0 x p2 v f hIv ) k_848 k_315 k_316 k_104 k_317 (by decide +kernel) ⟨Nat.le_of_ble_eq_true rfl, Nat.le_of_ble_eq_true rfl⟩ 27 7 rfl rfl (rfl) hl.1 rfl (Nat.le_of_ble_eq_true rfl) dX10_misfit_16 (fun r4 u H locs hw hP hD hS => ?_)
    obtain ⟨hG5, hw⟩ := hw
    rcases hw with ⟨g6, g6_0, g6_1, g6_2⟩ | ⟨g6⟩
    · skip
      subst g6
      refine lv_if_eq (tgt := 34) hx hb dX10_misfit_19 rfl (fun c0 => absurd c0 (by decide)) (fun _ => ?_)
      refine lv_aload_n hx hb dX10_misfit_22 rfl (lv_at hl 0 rfl) ?_
      refine va_get (D := (dC, dI)) (ci := 10) (v := .ref (x 21)) (C := RX10) (T := TX10) (N := 10) hx hb hts inB_10 hown hE.1 hP 0 rfl rfl 3 (Nat.le_of_ble_eq_true rfl) (hts _ k_494) (fun _ h9 => h9) rfl dX10_misfit_23 ?_
      refine lv_iload_n hx hb dX10_misfit_26 rfl (lv_at hl 1 rfl) ?_
      refine lv_iload_n hx hb dX10_misfit_27 rfl (lv_at hl 2 rfl) ?_
      refine cbVi (n := 2) (rest := []) hx hb hml hown hts hE hP hD hS hA (sX_X1_illness_1 l dC dI cy x0 x p1 p2 v f hIv ) k_859 k_823 k_824 k_106 k_825 (by decide +kernel) ⟨Nat.le_of_ble_eq_true rfl, Nat.le_of_ble_eq_true rfl⟩ 22 1 rfl rfl (rfl) hl.1 rfl (Nat.le_of_ble_eq_true rfl) dX10_misfit_28 (fun r7 u H locs hw hP hD hS => ?_)
      obtain ⟨v8, f9⟩ := u
      obtain ⟨kV_v8, kF_f9, hIv8, hk0_v8, hk1_v8, hk7_v8, hk8_v8, hk9_v8, hk10_v8, hk31_v8, hk32_v8⟩ := hw
      have hM_v8 : KV [] v8 v := KV.tr kV_v8 hM_v rfl
      have hA_f9 : KF [13, 14] f9 f := KF.tr kF_f9 hA_f rfl
      have hP : va_P (dC, dI) vwCl (XW cy x0 x v8 f9) H := hP
      have hD : va_D A (XW cy x0 x v8 f9) := hD
      have hq0_v8 : v8 0 = (v 0) := hk0_v8
      have hq1_v8 : v8 1 = (v 1) := hk1_v8
      have hq7_v8 : v8 7 = (v 7) := hk7_v8
      have hq8_v8 : v8 8 = (v 8) := hk8_v8
      have hq9_v8 : v8 9 = (v 9) := hk9_v8
      have hq10_v8 : v8 10 = (v 10) := hk10_v8
      have hq31_v8 : v8 31 = (v 31) := hk31_v8
      have hq32_v8 : v8 32 = (v 32) := hk32_v8
      refine lv_goto (tgt := 35) hx hb dX10_misfit_31 rfl ?_
      exact ret r7 (v8, f9) _ _ _ _ _ _ rfl ⟨hM_v8, hA_f9, hIv8, hk0_v8, hk1_v8, hk7_v8, hk8_v8, hk9_v8, hk10_v8, hk31_v8, hk32_v8⟩ hP hD hS dX10_misfit_35 (Nat.le_refl _) (Nat.le_refl _)
    · skip
      subst g6
      refine lv_if_eq (tgt := 34) hx hb dX10_misfit_19 rfl (fun _ => ?_) (fun c0 => absurd (by decide) c0)
      refine lv_iconst (v := (-1)) hx hb dX10_misfit_34 rfl ?_
      exact ret (-1) (v, f) _ _ _ _ _ _ rfl ⟨hM_v, hA_f, hIv, rfl, rfl, rfl, rfl, rfl, rfl, rfl, rfl⟩ hP hD hS dX10_misfit_35 (Nat.le_refl _) (Nat.le_refl _)
  · skip
    subst g3
    refine lv_if_eq (tgt := 34) hx hb dX10_misfit_8 rfl (fun _ => ?_) (fun c0 => absurd (by decide) c0)
    refine lv_iconst (v := (-1)) hx hb dX10_misfit_34 rfl ?_
    exact ret (-1) (v, f) _ _ _ _ _ _ rfl ⟨hM_v, hA_f, hIv, rfl, rfl, rfl, rfl, rfl, rfl, rfl, rfl⟩ hP hD hS dX10_misfit_35 (Nat.le_refl _) (Nat.le_refl _)
set_option maxHeartbeats 4000000 in
set_option maxRecDepth 100000 in
theorem sX_X1_setWears_1 (l : Launch) (dC : Nat → ClassId) (dI : Nat → Nat → Nat) (cy : Nat → ClassId) (x0 : Nat) (x : Nat → Nat) (p1 : Int32) (p2 : Int32) (v : Nat → Int32) (f : Nat → Nat → Int32) (hIv : XI v)  : ctV l (dC, dI) cy yX1_setWears cX1_setWears 3 2 81 0 0 ((Nat → Int32) × (Nat → Nat → Int32)) [.ref (x 21), .int p1, .int p2] (XW cy x0 x v f) (fun u => KV [] u.1 v ∧ KF [15] u.2 f ∧ XI u.1 ∧ u.1 0 = v 0 ∧ u.1 1 = v 1 ∧ u.1 7 = v 7 ∧ u.1 8 = v 8 ∧ u.1 9 = v 9 ∧ u.1 10 = v 10 ∧ u.1 31 = v 31 ∧ u.1 32 = v 32) (fun u => XW cy x0 x u.1 u.2) := by
  refine ctV_of (by decide) (Nat.le_of_ble_eq_true rfl) (fun p e s m below meth c A ls Q hx hb hml hts hown hnm hE hP hD hA hl ret => ?_)
  have hM_v : KV [] v v := fun _ _ => rfl
  have hA_f : KF [15] f f := fun _ _ => rfl
  have hown : s.vm.findClass RX1 = some m.cls := hown
  have hS : va_S A s.heap s.heap [] := va_S.rf
  have hl : lv_has ls 3 [(0, .ref (x 21)), (1, .int p1), (2, .int p2)] := hl
  refine lv_aload_n hx hb dX1_setWears_0 rfl (lv_at hl 0 rfl) ?_
  refine va_get (D := (dC, dI)) (ci := 1) (v := .ref (x 26)) (C := RX1) (T := TX1) (N := 2) hx hb hts inB_1 hown hE.1 hP 22 rfl rfl 0 (Nat.le_of_ble_eq_true rfl) (hts _ k_318) (fun _ h9 => h9) rfl dX1_setWears_1 ?_
  refine lv_iload_n hx hb dX1_setWears_4 rfl (lv_at hl 1 rfl) ?_
  refine cbVi (n := 1) (rest := []) hx hb hml hown hts hE hP hD hS hA (sX_X7_hasMan_1 0 l dC dI cy x0 x p1 v f hIv ) k_808 k_307 k_308 k_104 k_309 (by decide +kernel) ⟨Nat.le_of_ble_eq_true rfl, Nat.le_of_ble_eq_true rfl⟩ 27 7 rfl rfl (rfl) hl.1 rfl (Nat.le_of_ble_eq_true rfl) dX1_setWears_5 (fun r1 u H locs hw hP hD hS => ?_)
  obtain ⟨hG2, hw⟩ := hw
  rcases hw with ⟨g3, g3_0, g3_1, g3_2⟩ | ⟨g3⟩
  · skip
    subst g3
    refine lv_if_eq (tgt := 21) hx hb dX1_setWears_8 rfl (fun c0 => absurd c0 (by decide)) (fun _ => ?_)
    refine lv_aload_n hx hb dX1_setWears_11 rfl (lv_at hl 0 rfl) ?_
    refine va_get (D := (dC, dI)) (ci := 1) (v := .ref (x 22)) (C := RX1) (T := TX1) (N := 2) hx hb hts inB_1 hown hE.1 hP 22 rfl rfl 1 (Nat.le_of_ble_eq_true rfl) (hts _ k_319) (fun _ h9 => h9) rfl dX1_setWears_12 ?_
    refine lv_bipush (v := 6) hx hb dX1_setWears_15 rfl ?_
    refine lv_iload_n hx hb dX1_setWears_17 rfl (lv_at hl 1 rfl) ?_
    refine lv_iadd hx hb dX1_setWears_18 ?_
    refine lv_topi (fun t4 et4 => ?_)
    have rg5 := fb_rng p1
    have zt4 : t4.toInt = 6 + p1.toInt := by rw [et4]; exact add_i (by decide) rfl (by omega) (by omega)
    refine lv_iload_n hx hb dX1_setWears_19 rfl (lv_at hl 2 rfl) ?_
    refine stI hx hb hE hP hD hS 23 rfl (vp_in_iff.mpr ⟨by omega, by omega⟩) rfl dX1_setWears_20 (fun H locs hP hD hS => ?_)
    obtain ⟨f6, ef6, hP, hD⟩ : ∃ fz9, fz9 = upd2 f 15 (upd (f 15) t4.toNatClampNeg p2) ∧ va_P (dC, dI) vwCl (XW cy x0 x v fz9) H ∧ va_D A (XW cy x0 x v fz9) := ⟨_, rfl, hP, hD⟩
    have hA_f6 : KF [15] f6 f := by rw [ef6]; exact KF.up hA_f rfl
    exact ret (v, f6) _ _ _ _ _ _ ⟨hM_v, hA_f6, hIv, rfl, rfl, rfl, rfl, rfl, rfl, rfl, rfl⟩ hP hD hS dX1_setWears_21 (Nat.le_refl _) (Nat.le_refl _)
  · skip
    subst g3
    refine lv_if_eq (tgt := 21) hx hb dX1_setWears_8 rfl (fun _ => ?_) (fun c0 => absurd (by decide) c0)
    exact ret (v, f) _ _ _ _ _ _ ⟨hM_v, hA_f, hIv, rfl, rfl, rfl, rfl, rfl, rfl, rfl, rfl⟩ hP hD hS dX1_setWears_21 (Nat.le_refl _) (Nat.le_refl _)
set_option maxHeartbeats 4000000 in
set_option maxRecDepth 100000 in
theorem sX_X1_setPart_1 (l : Launch) (dC : Nat → ClassId) (dI : Nat → Nat → Nat) (cy : Nat → ClassId) (x0 : Nat) (x : Nat → Nat) (p1 : Int32) (p2 : Int32) (p3 : Int32) (v : Nat → Int32) (f : Nat → Nat → Int32) (hIv : XI v)  : ctV l (dC, dI) cy yX1_setPart cX1_setPart 4 2 81 0 0 ((Nat → Int32) × (Nat → Nat → Int32)) [.ref (x 21), .int p1, .int p2, .int p3] (XW cy x0 x v f) (fun u => KV [] u.1 v ∧ KF [15] u.2 f ∧ XI u.1 ∧ u.1 0 = v 0 ∧ u.1 1 = v 1 ∧ u.1 7 = v 7 ∧ u.1 8 = v 8 ∧ u.1 9 = v 9 ∧ u.1 10 = v 10 ∧ u.1 31 = v 31 ∧ u.1 32 = v 32) (fun u => XW cy x0 x u.1 u.2) := by
  refine ctV_of (by decide) (Nat.le_of_ble_eq_true rfl) (fun p e s m below meth c A ls Q hx hb hml hts hown hnm hE hP hD hA hl ret => ?_)
  have hM_v : KV [] v v := fun _ _ => rfl
  have hA_f : KF [15] f f := fun _ _ => rfl
  have hown : s.vm.findClass RX1 = some m.cls := hown
  have hS : va_S A s.heap s.heap [] := va_S.rf
  have hl : lv_has ls 4 [(0, .ref (x 21)), (1, .int p1), (2, .int p2), (3, .int p3)] := hl
  refine lv_aload_n hx hb dX1_setPart_0 rfl (lv_at hl 0 rfl) ?_
  refine va_get (D := (dC, dI)) (ci := 1) (v := .ref (x 26)) (C := RX1) (T := TX1) (N := 2) hx hb hts inB_1 hown hE.1 hP 22 rfl rfl 0 (Nat.le_of_ble_eq_true rfl) (hts _ k_318) (fun _ h9 => h9) rfl dX1_setPart_1 ?_
  refine lv_iload_n hx hb dX1_setPart_4 rfl (lv_at hl 2 rfl) ?_
  refine cbVi (n := 1) (rest := []) hx hb hml hown hts hE hP hD hS hA (sX_X7_hasCoat_1 0 l dC dI cy x0 x p2 v f hIv ) k_821 k_315 k_316 k_104 k_317 (by decide +kernel) ⟨Nat.le_of_ble_eq_true rfl, Nat.le_of_ble_eq_true rfl⟩ 27 7 rfl rfl (rfl) hl.1 rfl (Nat.le_of_ble_eq_true rfl) dX1_setPart_5 (fun r1 u H locs hw hP hD hS => ?_)
  obtain ⟨hG2, hw⟩ := hw
  rcases hw with ⟨g3, g3_0, g3_1, g3_2⟩ | ⟨g3⟩
  · skip
    subst g3
    refine lv_if_eq (tgt := 35) hx hb dX1_setPart_8 rfl (fun c0 => absurd c0 (by decide)) (fun _ => ?_)
    refine lv_iload_n hx hb dX1_setPart_11 rfl (lv_at hl 1 rfl) ?_
    refine lv_if_lt (tgt := 35) hx hb dX1_setPart_12 rfl (fun c4 => ?_) (fun c4 => ?_)
    · skip
      have zc4 : p1.toInt < 0 := by rw [fa_lt, show (0 : Int32).toInt = 0 from by decide] at c4; exact c4
      exact ret (v, f) _ _ _ _ _ _ ⟨hM_v, hA_f, hIv, rfl, rfl, rfl, rfl, rfl, rfl, rfl, rfl⟩ hP hD hS dX1_setPart_35 (Nat.le_refl _) (Nat.le_refl _)
    · skip
      have zc4 : ¬ (p1.toInt < 0) := by rw [fa_lt, show (0 : Int32).toInt = 0 from by decide] at c4; exact c4
      refine lv_iload_n hx hb dX1_setPart_15 rfl (lv_at hl 1 rfl) ?_
      refine lv_iconst (v := 5) hx hb dX1_setPart_16 rfl ?_
      refine lv_icmp_ge (tgt := 35) hx hb dX1_setPart_17 rfl (fun c5 => ?_) (fun c5 => ?_)
      · skip
        have zc5 : 5 ≤ p1.toInt := by rw [fa_le, show (5 : Int32).toInt = 5 from by decide] at c5; exact c5
        exact ret (v, f) _ _ _ _ _ _ ⟨hM_v, hA_f, hIv, rfl, rfl, rfl, rfl, rfl, rfl, rfl, rfl⟩ hP hD hS dX1_setPart_35 (Nat.le_refl _) (Nat.le_refl _)
      · skip
        have zc5 : ¬ (5 ≤ p1.toInt) := by rw [fa_le, show (5 : Int32).toInt = 5 from by decide] at c5; exact c5
        refine lv_aload_n hx hb dX1_setPart_20 rfl (lv_at hl 0 rfl) ?_
        refine va_get (D := (dC, dI)) (ci := 1) (v := .ref (x 22)) (C := RX1) (T := TX1) (N := 2) hx hb hts inB_1 hown hE.1 hP 22 rfl rfl 1 (Nat.le_of_ble_eq_true rfl) (hts _ k_319) (fun _ h9 => h9) rfl dX1_setPart_21 ?_
        refine lv_bipush (v := 12) hx hb dX1_setPart_24 rfl ?_
        refine lv_iload_n hx hb dX1_setPart_26 rfl (lv_at hl 1 rfl) ?_
        refine lv_bipush (v := 6) hx hb dX1_setPart_27 rfl ?_
        refine lv_imul hx hb dX1_setPart_29 ?_
        refine lv_topi (fun t6 et6 => ?_)
        have rg7 := fb_rng p1
        have zt6 : t6.toInt = p1.toInt * 6 := by rw [et6]; exact mul_i rfl (by decide) (by omega) (by omega)
        refine lv_iadd hx hb dX1_setPart_30 ?_
        refine lv_topi (fun t8 et8 => ?_)
        have rg9 := fb_rng t6
        have zt8 : t8.toInt = 12 + t6.toInt := by rw [et8]; exact add_i (by decide) rfl (by omega) (by omega)
        refine lv_iload_n hx hb dX1_setPart_31 rfl (lv_at hl 2 rfl) ?_
        refine lv_iadd hx hb dX1_setPart_32 ?_
        refine lv_topi (fun t10 et10 => ?_)
        have rg11 := fb_rng t8
        have rg12 := fb_rng p2
        have zt10 : t10.toInt = t8.toInt + p2.toInt := by rw [et10]; exact add_i rfl rfl (by omega) (by omega)
        refine lv_iload_n hx hb dX1_setPart_33 rfl (lv_at hl 3 rfl) ?_
        refine stI hx hb hE hP hD hS 23 rfl (vp_in_iff.mpr ⟨by omega, by omega⟩) rfl dX1_setPart_34 (fun H locs hP hD hS => ?_)
        obtain ⟨f13, ef13, hP, hD⟩ : ∃ fz9, fz9 = upd2 f 15 (upd (f 15) t10.toNatClampNeg p3) ∧ va_P (dC, dI) vwCl (XW cy x0 x v fz9) H ∧ va_D A (XW cy x0 x v fz9) := ⟨_, rfl, hP, hD⟩
        have hA_f13 : KF [15] f13 f := by rw [ef13]; exact KF.up hA_f rfl
        exact ret (v, f13) _ _ _ _ _ _ ⟨hM_v, hA_f13, hIv, rfl, rfl, rfl, rfl, rfl, rfl, rfl, rfl⟩ hP hD hS dX1_setPart_35 (Nat.le_refl _) (Nat.le_refl _)
  · skip
    subst g3
    refine lv_if_eq (tgt := 35) hx hb dX1_setPart_8 rfl (fun _ => ?_) (fun c0 => absurd (by decide) c0)
    exact ret (v, f) _ _ _ _ _ _ ⟨hM_v, hA_f, hIv, rfl, rfl, rfl, rfl, rfl, rfl, rfl, rfl⟩ hP hD hS dX1_setPart_35 (Nat.le_refl _) (Nat.le_refl _)
set_option maxHeartbeats 4000000 in
set_option maxRecDepth 100000 in
theorem sX_X1_weather_1 (l : Launch) (dC : Nat → ClassId) (dI : Nat → Nat → Nat) (cy : Nat → ClassId) (x0 : Nat) (x : Nat → Nat) (p1 : Int32) (p2 : Int32) (v : Nat → Int32) (f : Nat → Nat → Int32) (hIv : XI v)  : ctV l (dC, dI) cy yX1_weather cX1_weather 3 3 104 0 0 ((Nat → Int32) × (Nat → Nat → Int32)) [.ref (x 21), .int p1, .int p2] (XW cy x0 x v f) (fun u => KV [] u.1 v ∧ KF [15] u.2 f ∧ XI u.1 ∧ u.1 0 = v 0 ∧ u.1 1 = v 1 ∧ u.1 7 = v 7 ∧ u.1 8 = v 8 ∧ u.1 9 = v 9 ∧ u.1 10 = v 10 ∧ u.1 31 = v 31 ∧ u.1 32 = v 32) (fun u => XW cy x0 x u.1 u.2) := by
  refine ctV_of (by decide) (Nat.le_of_ble_eq_true rfl) (fun p e s m below meth c A ls Q hx hb hml hts hown hnm hE hP hD hA hl ret => ?_)
  have hM_v : KV [] v v := fun _ _ => rfl
  have hA_f : KF [15] f f := fun _ _ => rfl
  have hown : s.vm.findClass RX1 = some m.cls := hown
  have hS : va_S A s.heap s.heap [] := va_S.rf
  have hl : lv_has ls 3 [(0, .ref (x 21)), (1, .int p1), (2, .int p2)] := hl
  refine lv_aload_n hx hb dX1_weather_0 rfl (lv_at hl 0 rfl) ?_
  refine lv_iconst (v := 3) hx hb dX1_weather_1 rfl ?_
  refine lv_iload_n hx hb dX1_weather_2 rfl (lv_at hl 1 rfl) ?_
  refine lv_bipush (v := 99) hx hb dX1_weather_3 rfl ?_
  refine lv_aload_n hx hb dX1_weather_5 rfl (lv_at hl 0 rfl) ?_
  refine lv_iconst (v := 3) hx hb dX1_weather_6 rfl ?_
  refine lv_iload_n hx hb dX1_weather_7 rfl (lv_at hl 1 rfl) ?_
  refine cbVi (n := 2) (rest := [.int 99, .int p1, .int 3, .ref (x 21)]) hx hb hml hown hts hE hP hD hS hA (sX_X1_part_1 l dC dI cy x0 x 3 p1 v f hIv ) k_827 k_828 k_829 k_106 k_830 (by decide +kernel) ⟨Nat.le_of_ble_eq_true rfl, Nat.le_of_ble_eq_true rfl⟩ 22 1 rfl rfl (rfl) hl.1 rfl (Nat.le_of_ble_eq_true rfl) dX1_weather_8 (fun r1 u H locs hw hP hD hS => ?_)
  refine lv_iconst (v := 1) hx hb dX1_weather_11 rfl ?_
  refine lv_iadd hx hb dX1_weather_12 ?_
  refine lv_topi (fun t2 et2 => ?_)
  refine va_mmin hx hb (by rw [hml]; exact hl.1.symm) hown (hts _ k_869) (hts _ k_643) (hts _ k_119) (hts _ k_644) (Nat.le_of_ble_eq_true rfl) (Nat.le_of_ble_eq_true rfl) (Nat.le_of_ble_eq_true rfl) (Nat.le_of_ble_eq_true rfl) dX1_weather_13 ?_
  refine lv_topi (fun t3 et3 => ?_)
  have zt3 : t3.toInt = min (99) (t2.toInt) := by rw [et3]; exact mmin_i (by decide) rfl
  refine cbVv (n := 3) (rest := []) hx hb hml hown hts hE hP hD hS hA (sX_X1_setPart_1 l dC dI cy x0 x 3 p1 t3 v f hIv ) k_874 k_875 k_876 k_106 k_877 (by decide +kernel) ⟨Nat.le_of_ble_eq_true rfl, Nat.le_of_ble_eq_true rfl⟩ 22 1 rfl rfl (rfl) hl.1 rfl (Nat.le_of_ble_eq_true rfl) dX1_weather_16 (fun u H locs hw hP hD hS => ?_)
  obtain ⟨v4, f5⟩ := u
  obtain ⟨kV_v4, kF_f5, hIv4, hk0_v4, hk1_v4, hk7_v4, hk8_v4, hk9_v4, hk10_v4, hk31_v4, hk32_v4⟩ := hw
  have hM_v4 : KV [] v4 v := KV.tr kV_v4 hM_v rfl
  have hA_f5 : KF [15] f5 f := KF.tr kF_f5 hA_f rfl
  have hP : va_P (dC, dI) vwCl (XW cy x0 x v4 f5) H := hP
  have hD : va_D A (XW cy x0 x v4 f5) := hD
  have hq0_v4 : v4 0 = (v 0) := hk0_v4
  have hq1_v4 : v4 1 = (v 1) := hk1_v4
  have hq7_v4 : v4 7 = (v 7) := hk7_v4
  have hq8_v4 : v4 8 = (v 8) := hk8_v4
  have hq9_v4 : v4 9 = (v 9) := hk9_v4
  have hq10_v4 : v4 10 = (v 10) := hk10_v4
  have hq31_v4 : v4 31 = (v 31) := hk31_v4
  have hq32_v4 : v4 32 = (v 32) := hk32_v4
  refine lv_aload_n hx hb dX1_weather_19 rfl (lv_at hl 0 rfl) ?_
  refine lv_iconst (v := 1) hx hb dX1_weather_20 rfl ?_
  refine lv_iload_n hx hb dX1_weather_21 rfl (lv_at hl 1 rfl) ?_
  refine lv_iconst (v := 0) hx hb dX1_weather_22 rfl ?_
  refine lv_aload_n hx hb dX1_weather_23 rfl (lv_at hl 0 rfl) ?_
  refine lv_iconst (v := 1) hx hb dX1_weather_24 rfl ?_
  refine lv_iload_n hx hb dX1_weather_25 rfl (lv_at hl 1 rfl) ?_
  refine cbVi (n := 2) (rest := [.int 0, .int p1, .int 1, .ref (x 21)]) hx hb hml hown hts hE hP hD hS hA (sX_X1_part_1 l dC dI cy x0 x 1 p1 v4 f5 hIv4 ) k_827 k_828 k_829 k_106 k_830 (by decide +kernel) ⟨Nat.le_of_ble_eq_true rfl, Nat.le_of_ble_eq_true rfl⟩ 22 1 rfl rfl (rfl) hl.1 rfl (Nat.le_of_ble_eq_true rfl) dX1_weather_26 (fun r6 u H locs hw hP hD hS => ?_)
  refine lv_iload_n hx hb dX1_weather_29 rfl (lv_at hl 2 rfl) ?_
  refine lv_isub hx hb dX1_weather_30 ?_
  refine lv_topi (fun t7 et7 => ?_)
  refine va_mmax hx hb (by rw [hml]; exact hl.1.symm) hown (hts _ k_878) (hts _ k_640) (hts _ k_119) (hts _ k_641) (Nat.le_of_ble_eq_true rfl) (Nat.le_of_ble_eq_true rfl) (Nat.le_of_ble_eq_true rfl) (Nat.le_of_ble_eq_true rfl) dX1_weather_31 ?_
  refine lv_topi (fun t8 et8 => ?_)
  have zt8 : t8.toInt = max (0) (t7.toInt) := by rw [et8]; exact mmax_i (by decide) rfl
  refine cbVv (n := 3) (rest := []) hx hb hml hown hts hE hP hD hS hA (sX_X1_setPart_1 l dC dI cy x0 x 1 p1 t8 v4 f5 hIv4 ) k_874 k_875 k_876 k_106 k_877 (by decide +kernel) ⟨Nat.le_of_ble_eq_true rfl, Nat.le_of_ble_eq_true rfl⟩ 22 1 rfl rfl (rfl) hl.1 rfl (Nat.le_of_ble_eq_true rfl) dX1_weather_34 (fun u H locs hw hP hD hS => ?_)
  obtain ⟨v9, f10⟩ := u
  obtain ⟨kV_v9, kF_f10, hIv9, hk0_v9, hk1_v9, hk7_v9, hk8_v9, hk9_v9, hk10_v9, hk31_v9, hk32_v9⟩ := hw
  have hM_v9 : KV [] v9 v := KV.tr kV_v9 hM_v4 rfl
  have hA_f10 : KF [15] f10 f := KF.tr kF_f10 hA_f5 rfl
  have hP : va_P (dC, dI) vwCl (XW cy x0 x v9 f10) H := hP
  have hD : va_D A (XW cy x0 x v9 f10) := hD
  have hq0_v9 : v9 0 = (v 0) := hk0_v9.trans hq0_v4
  have hq1_v9 : v9 1 = (v 1) := hk1_v9.trans hq1_v4
  have hq7_v9 : v9 7 = (v 7) := hk7_v9.trans hq7_v4
  have hq8_v9 : v9 8 = (v 8) := hk8_v9.trans hq8_v4
  have hq9_v9 : v9 9 = (v 9) := hk9_v9.trans hq9_v4
  have hq10_v9 : v9 10 = (v 10) := hk10_v9.trans hq10_v4
  have hq31_v9 : v9 31 = (v 31) := hk31_v9.trans hq31_v4
  have hq32_v9 : v9 32 = (v 32) := hk32_v9.trans hq32_v4
  refine lv_aload_n hx hb dX1_weather_37 rfl (lv_at hl 0 rfl) ?_
  refine lv_iconst (v := 0) hx hb dX1_weather_38 rfl ?_
  refine lv_iload_n hx hb dX1_weather_39 rfl (lv_at hl 1 rfl) ?_
  refine lv_iconst (v := 0) hx hb dX1_weather_40 rfl ?_
  refine lv_aload_n hx hb dX1_weather_41 rfl (lv_at hl 0 rfl) ?_
  refine lv_iconst (v := 0) hx hb dX1_weather_42 rfl ?_
  refine lv_iload_n hx hb dX1_weather_43 rfl (lv_at hl 1 rfl) ?_
  refine cbVi (n := 2) (rest := [.int 0, .int p1, .int 0, .ref (x 21)]) hx hb hml hown hts hE hP hD hS hA (sX_X1_part_1 l dC dI cy x0 x 0 p1 v9 f10 hIv9 ) k_827 k_828 k_829 k_106 k_830 (by decide +kernel) ⟨Nat.le_of_ble_eq_true rfl, Nat.le_of_ble_eq_true rfl⟩ 22 1 rfl rfl (rfl) hl.1 rfl (Nat.le_of_ble_eq_true rfl) dX1_weather_44 (fun r11 u H locs hw hP hD hS => ?_)
  refine lv_iload_n hx hb dX1_weather_47 rfl (lv_at hl 2 rfl) ?_
  refine lv_isub hx hb dX1_weather_48 ?_
  refine lv_topi (fun t12 et12 => ?_)
  refine va_mmax hx hb (by rw [hml]; exact hl.1.symm) hown (hts _ k_878) (hts _ k_640) (hts _ k_119) (hts _ k_641) (Nat.le_of_ble_eq_true rfl) (Nat.le_of_ble_eq_true rfl) (Nat.le_of_ble_eq_true rfl) (Nat.le_of_ble_eq_true rfl) dX1_weather_49 ?_
  refine lv_topi (fun t13 et13 => ?_)
  have zt13 : t13.toInt = max (0) (t12.toInt) := by rw [et13]; exact mmax_i (by decide) rfl
  refine cbVv (n := 3) (rest := []) hx hb hml hown hts hE hP hD hS hA (sX_X1_setPart_1 l dC dI cy x0 x 0 p1 t13 v9 f10 hIv9 ) k_874 k_875 k_876 k_106 k_877 (by decide +kernel) ⟨Nat.le_of_ble_eq_true rfl, Nat.le_of_ble_eq_true rfl⟩ 22 1 rfl rfl (rfl) hl.1 rfl (Nat.le_of_ble_eq_true rfl) dX1_weather_52 (fun u H locs hw hP hD hS => ?_)
  obtain ⟨v14, f15⟩ := u
  obtain ⟨kV_v14, kF_f15, hIv14, hk0_v14, hk1_v14, hk7_v14, hk8_v14, hk9_v14, hk10_v14, hk31_v14, hk32_v14⟩ := hw
  have hM_v14 : KV [] v14 v := KV.tr kV_v14 hM_v9 rfl
  have hA_f15 : KF [15] f15 f := KF.tr kF_f15 hA_f10 rfl
  have hP : va_P (dC, dI) vwCl (XW cy x0 x v14 f15) H := hP
  have hD : va_D A (XW cy x0 x v14 f15) := hD
  have hq0_v14 : v14 0 = (v 0) := hk0_v14.trans hq0_v9
  have hq1_v14 : v14 1 = (v 1) := hk1_v14.trans hq1_v9
  have hq7_v14 : v14 7 = (v 7) := hk7_v14.trans hq7_v9
  have hq8_v14 : v14 8 = (v 8) := hk8_v14.trans hq8_v9
  have hq9_v14 : v14 9 = (v 9) := hk9_v14.trans hq9_v9
  have hq10_v14 : v14 10 = (v 10) := hk10_v14.trans hq10_v9
  have hq31_v14 : v14 31 = (v 31) := hk31_v14.trans hq31_v9
  have hq32_v14 : v14 32 = (v 32) := hk32_v14.trans hq32_v9
  exact ret (v14, f15) _ _ _ _ _ _ ⟨hM_v14, hA_f15, hIv14, (hk0_v14.trans (hk0_v9.trans hk0_v4)), (hk1_v14.trans (hk1_v9.trans hk1_v4)), (hk7_v14.trans (hk7_v9.trans hk7_v4)), (hk8_v14.trans (hk8_v9.trans hk8_v4)), (hk9_v14.trans (hk9_v9.trans hk9_v4)), (hk10_v14.trans (hk10_v9.trans hk10_v4)), (hk31_v14.trans (hk31_v9.trans hk31_v4)), (hk32_v14.trans (hk32_v9.trans hk32_v4))⟩ hP hD hS dX1_weather_55 (Nat.le_refl _) (Nat.le_refl _)
set_option maxHeartbeats 4000000 in
set_option maxRecDepth 100000 in
theorem sX_X1_passDay_1 (l : Launch) (dC : Nat → ClassId) (dI : Nat → Nat → Nat) (cy : Nat → ClassId) (x0 : Nat) (x : Nat → Nat) (p1 : Int32) (v : Nat → Int32) (f : Nat → Nat → Int32) (hIv : XI v)  : ctI l (dC, dI) cy yX1_passDay cX1_passDay 5 .int 5 155 0 0 ((Nat → Int32) × (Nat → Nat → Int32)) [.ref (x 21), .int p1] (XW cy x0 x v f) (fun r u => KV [] u.1 v ∧ KF [13, 14, 15] u.2 f ∧ XI u.1 ∧ u.1 0 = v 0 ∧ u.1 1 = v 1 ∧ u.1 7 = v 7 ∧ u.1 8 = v 8 ∧ u.1 9 = v 9 ∧ u.1 10 = v 10 ∧ u.1 31 = v 31 ∧ u.1 32 = v 32) (fun u => XW cy x0 x u.1 u.2) := by
  refine ctI_of (by decide) (Nat.le_of_ble_eq_true rfl) (fun p e s m below meth c A ls Q hx hb hml hts hown hE hP hD hA hl ret => ?_)
  have hM_v : KV [] v v := fun _ _ => rfl
  have hA_f : KF [13, 14, 15] f f := fun _ _ => rfl
  have hown : s.vm.findClass RX1 = some m.cls := hown
  have hS : va_S A s.heap s.heap [] := va_S.rf
  have hl : lv_has ls 5 [(0, .ref (x 21)), (1, .int p1)] := hl
  refine lv_iconst (v := 0) hx hb dX1_passDay_0 rfl ?_
  refine lv_istore_n (lv' := [(2, .int 0), (0, .ref (x 21)), (1, .int p1)]) hx hb dX1_passDay_1 rfl hl (Nat.le_of_ble_eq_true rfl) rfl (fun ls hl => ?_)
  have lp1 : ∀ (n1 : Nat) (l2_1 : Int32) (v1 : Nat → Int32) (f1 : Nat → Nat → Int32), XI v1 → v1 0 = (v 0) → v1 1 = (v 1) → v1 7 = (v 7) → v1 8 = (v 8) → v1 9 = (v 9) → v1 10 = (v 10) → v1 31 = (v 31) → v1 32 = (v 32) → ((0 : Int) ≤ l2_1.toInt ∧ l2_1.toInt ≤ 2147483647) → KV [] v1 v → KF [13, 14, 15] f1 f → (2147483647 - l2_1.toInt).toNat < n1 → ∀ (H : Heap) (locs : List Loc) (ls : Array Slot), va_P (dC, dI) vwCl (XW cy x0 x v1 f1) H → va_D A (XW cy x0 x v1 f1) → va_S A s.heap H locs → lv_has ls 5 [(2, .int l2_1), (0, .ref (x 21)), (1, .int p1)] → W p l e { frames := 5, cells := 0, slots := 0, locals := 155 } s m ([.ref (x 21), .int p1] : List Value).toArray below meth c H locs 0 0 Q (F0 m 2 ls []) := by
    intro n1
    induction n1 with
    | zero => intro l2_1 v1 f1 hIv1 hq0_v1 hq1_v1 hq7_v1 hq8_v1 hq9_v1 hq10_v1 hq31_v1 hq32_v1 hr2_1 hM_v1 hA_f1 hm; exact absurd hm (Nat.not_lt_zero _)
    | succ n1 ih1 =>
      intro l2_1 v1 f1 hIv1 hq0_v1 hq1_v1 hq7_v1 hq8_v1 hq9_v1 hq10_v1 hq31_v1 hq32_v1 hr2_1 hM_v1 hA_f1 hm1 H locs ls hP hD hS hl
      refine lv_iload_n hx hb dX1_passDay_2 rfl (lv_at hl 0 rfl) ?_
      refine lv_aload_n hx hb dX1_passDay_3 rfl (lv_at hl 1 rfl) ?_
      refine va_get (D := (dC, dI)) (ci := 1) (v := .ref (x 26)) (C := RX1) (T := TX1) (N := 2) hx hb hts inB_1 hown hE.1 hP 22 rfl rfl 0 (Nat.le_of_ble_eq_true rfl) (hts _ k_318) (fun _ h9 => h9) rfl dX1_passDay_4 ?_
      refine va_getN (D := (dC, dI)) (ci := 7) (v := .int (v1 31)) (C := RX7) (T := TX7) (N := 10) hx hb hts inB_7 hown hE.1 hP 27 rfl rfl 3 (Nat.le_of_ble_eq_true rfl) (va_Nw.use rfl (hE.2 _ k_219)) (fun _ h9 => h9) rfl dX1_passDay_7 ?_
      refine tI (y := (v 31)) hq31_v1 ?_
      have b31_v : 0 ≤ (v 31).toInt ∧ (v 31).toInt ≤ 6 := XI.b hIv 31 (by decide)
      refine lv_icmp_ge (tgt := 46) hx hb dX1_passDay_10 rfl (fun c2 => ?_) (fun c2 => ?_)
      · skip
        have zc2 : (v 31).toInt ≤ l2_1.toInt := by rw [fa_le] at c2; exact c2
        have rg3 := fb_rng l2_1
        have rg4 := fb_rng (v 31)
        refine lv_aload_n hx hb dX1_passDay_46 rfl (lv_at hl 1 rfl) ?_
        refine va_get (D := (dC, dI)) (ci := 1) (v := .ref (x 22)) (C := RX1) (T := TX1) (N := 2) hx hb hts inB_1 hown hE.1 hP 22 rfl rfl 1 (Nat.le_of_ble_eq_true rfl) (hts _ k_319) (fun _ h9 => h9) rfl dX1_passDay_47 ?_
        refine lv_bipush (v := 43) hx hb dX1_passDay_50 rfl ?_
        refine lv_aload_n hx hb dX1_passDay_52 rfl (lv_at hl 1 rfl) ?_
        refine va_get (D := (dC, dI)) (ci := 1) (v := .ref (x 22)) (C := RX1) (T := TX1) (N := 2) hx hb hts inB_1 hown hE.1 hP 22 rfl rfl 1 (Nat.le_of_ble_eq_true rfl) (hts _ k_319) (fun _ h9 => h9) rfl dX1_passDay_53 ?_
        refine lv_bipush (v := 43) hx hb dX1_passDay_56 rfl ?_
        refine ldI hx hb hE hP 23 rfl (vp_in_nI (n := 43) (by decide) (by decide)) rfl rfl dX1_passDay_58 ?_
        refine lv_topi (fun t5 et5 => ?_)
        refine lv_sipush (v := 137) hx hb dX1_passDay_59 rfl ?_
        refine lv_imul hx hb dX1_passDay_62 ?_
        refine lv_topi (fun t6 et6 => ?_)
        refine lv_bipush (v := 71) hx hb dX1_passDay_63 rfl ?_
        refine lv_iadd hx hb dX1_passDay_65 ?_
        refine lv_topi (fun t7 et7 => ?_)
        refine lv_sipush (v := 1000) hx hb dX1_passDay_66 rfl ?_
        refine lv_irem hx hb dX1_passDay_69 (by decide) ?_
        refine lv_topi (fun t8 et8 => ?_)
        refine stI hx hb hE hP hD hS 23 rfl (vp_in_nI (n := 43) (by decide) (by decide)) rfl dX1_passDay_70 (fun H locs hP hD hS => ?_)
        obtain ⟨f9, ef9, hP, hD⟩ : ∃ fz9, fz9 = upd2 f1 15 (upd (f1 15) (43 : Int32).toNatClampNeg t8) ∧ va_P (dC, dI) vwCl (XW cy x0 x v1 fz9) H ∧ va_D A (XW cy x0 x v1 fz9) := ⟨_, rfl, hP, hD⟩
        have hA_f9 : KF [13, 14, 15] f9 f := by rw [ef9]; exact KF.up hA_f1 rfl
        refine lv_aload_n hx hb dX1_passDay_71 rfl (lv_at hl 1 rfl) ?_
        refine va_get (D := (dC, dI)) (ci := 1) (v := .ref (x 22)) (C := RX1) (T := TX1) (N := 2) hx hb hts inB_1 hown hE.1 hP 22 rfl rfl 1 (Nat.le_of_ble_eq_true rfl) (hts _ k_319) (fun _ h9 => h9) rfl dX1_passDay_72 ?_
        refine lv_bipush (v := 43) hx hb dX1_passDay_75 rfl ?_
        refine ldI hx hb hE hP 23 rfl (vp_in_nI (n := 43) (by decide) (by decide)) rfl rfl dX1_passDay_77 ?_
        refine lv_topi (fun t10 et10 => ?_)
        refine lv_bipush (v := 100) hx hb dX1_passDay_78 rfl ?_
        refine lv_irem hx hb dX1_passDay_80 (by decide) ?_
        refine lv_topi (fun t11 et11 => ?_)
        refine lv_iload_n hx hb dX1_passDay_81 rfl (lv_at hl 2 rfl) ?_
        refine lv_icmp_ge (tgt := 89) hx hb dX1_passDay_82 rfl (fun c12 => ?_) (fun c12 => ?_)
        · skip
          have zc12 : p1.toInt ≤ t11.toInt := by rw [fa_le] at c12; exact c12
          have rg13 := fb_rng t11
          have rg14 := fb_rng p1
          refine lv_iconst (v := 0) hx hb dX1_passDay_89 rfl ?_
          refine lv_istore_n (lv' := [(2, .int 0), (0, .ref (x 21)), (1, .int p1)]) hx hb dX1_passDay_90 rfl hl (Nat.le_of_ble_eq_true rfl) rfl (fun ls hl => ?_)
          refine lv_iconst (v := 0) hx hb dX1_passDay_91 rfl ?_
          refine lv_istore_n (lv' := [(3, .int 0), (2, .int 0), (0, .ref (x 21)), (1, .int p1)]) hx hb dX1_passDay_92 rfl hl (Nat.le_of_ble_eq_true rfl) rfl (fun ls hl => ?_)
          have lp15 : ∀ (n15 : Nat) (l3_15 : Int32) (v15 : Nat → Int32) (f15 : Nat → Nat → Int32), XI v15 → v15 0 = (v 0) → v15 1 = (v 1) → v15 7 = (v 7) → v15 8 = (v 8) → v15 9 = (v 9) → v15 10 = (v 10) → v15 31 = (v 31) → v15 32 = (v 32) → ((0 : Int) ≤ l3_15.toInt ∧ l3_15.toInt ≤ 2147483647) → KV [] v15 v → KF [13, 14, 15] f15 f → (2147483647 - l3_15.toInt).toNat < n15 → ∀ (H : Heap) (locs : List Loc) (ls : Array Slot), va_P (dC, dI) vwCl (XW cy x0 x v15 f15) H → va_D A (XW cy x0 x v15 f15) → va_S A s.heap H locs → lv_has ls 5 [(3, .int l3_15), (2, .int 0), (0, .ref (x 21)), (1, .int p1)] → W p l e { frames := 5, cells := 0, slots := 0, locals := 155 } s m ([.ref (x 21), .int p1] : List Value).toArray below meth c H locs 0 0 Q (F0 m 93 ls []) := by
            intro n15
            induction n15 with
            | zero => intro l3_15 v15 f15 hIv15 hq0_v15 hq1_v15 hq7_v15 hq8_v15 hq9_v15 hq10_v15 hq31_v15 hq32_v15 hr3_15 hM_v15 hA_f15 hm; exact absurd hm (Nat.not_lt_zero _)
            | succ n15 ih15 =>
              intro l3_15 v15 f15 hIv15 hq0_v15 hq1_v15 hq7_v15 hq8_v15 hq9_v15 hq10_v15 hq31_v15 hq32_v15 hr3_15 hM_v15 hA_f15 hm15 H locs ls hP hD hS hl
              refine lv_iload_n hx hb dX1_passDay_93 rfl (lv_at hl 0 rfl) ?_
              refine lv_aload_n hx hb dX1_passDay_94 rfl (lv_at hl 2 rfl) ?_
              refine va_get (D := (dC, dI)) (ci := 1) (v := .ref (x 26)) (C := RX1) (T := TX1) (N := 2) hx hb hts inB_1 hown hE.1 hP 22 rfl rfl 0 (Nat.le_of_ble_eq_true rfl) (hts _ k_318) (fun _ h9 => h9) rfl dX1_passDay_95 ?_
              refine va_getN (D := (dC, dI)) (ci := 7) (v := .int (v15 31)) (C := RX7) (T := TX7) (N := 10) hx hb hts inB_7 hown hE.1 hP 27 rfl rfl 3 (Nat.le_of_ble_eq_true rfl) (va_Nw.use rfl (hE.2 _ k_219)) (fun _ h9 => h9) rfl dX1_passDay_98 ?_
              refine tI (y := (v 31)) hq31_v15 ?_
              have b31_v : 0 ≤ (v 31).toInt ∧ (v 31).toInt ≤ 6 := XI.b hIv 31 (by decide)
              refine lv_icmp_ge (tgt := 120) hx hb dX1_passDay_101 rfl (fun c16 => ?_) (fun c16 => ?_)
              · skip
                have zc16 : (v 31).toInt ≤ l3_15.toInt := by rw [fa_le] at c16; exact c16
                have rg17 := fb_rng l3_15
                refine lv_aload_n hx hb dX1_passDay_120 rfl (lv_at hl 2 rfl) ?_
                refine va_get (D := (dC, dI)) (ci := 1) (v := .ref (x 22)) (C := RX1) (T := TX1) (N := 2) hx hb hts inB_1 hown hE.1 hP 22 rfl rfl 1 (Nat.le_of_ble_eq_true rfl) (hts _ k_319) (fun _ h9 => h9) rfl dX1_passDay_121 ?_
                refine lv_bipush (v := 42) hx hb dX1_passDay_124 rfl ?_
                refine lv_dup2_11 hx hb dX1_passDay_126 rfl rfl ?_
                refine ldI hx hb hE hP 23 rfl (vp_in_nI (n := 42) (by decide) (by decide)) rfl rfl dX1_passDay_127 ?_
                refine lv_topi (fun t18 et18 => ?_)
                refine lv_iconst (v := 1) hx hb dX1_passDay_128 rfl ?_
                refine lv_iadd hx hb dX1_passDay_129 ?_
                refine lv_topi (fun t19 et19 => ?_)
                refine stI hx hb hE hP hD hS 23 rfl (vp_in_nI (n := 42) (by decide) (by decide)) rfl dX1_passDay_130 (fun H locs hP hD hS => ?_)
                obtain ⟨f20, ef20, hP, hD⟩ : ∃ fz9, fz9 = upd2 f15 15 (upd (f15 15) (42 : Int32).toNatClampNeg t19) ∧ va_P (dC, dI) vwCl (XW cy x0 x v15 fz9) H ∧ va_D A (XW cy x0 x v15 fz9) := ⟨_, rfl, hP, hD⟩
                have hA_f20 : KF [13, 14, 15] f20 f := by rw [ef20]; exact KF.up hA_f15 rfl
                refine lv_iconst (v := 0) hx hb dX1_passDay_131 rfl ?_
                refine lv_istore_n (lv' := [(3, .int 0), (2, .int 0), (0, .ref (x 21)), (1, .int p1)]) hx hb dX1_passDay_132 rfl hl (Nat.le_of_ble_eq_true rfl) rfl (fun ls hl => ?_)
                refine lv_iconst (v := 0) hx hb dX1_passDay_133 rfl ?_
                refine lv_istore (lv' := [(4, .int 0), (3, .int 0), (2, .int 0), (0, .ref (x 21)), (1, .int p1)]) hx hb dX1_passDay_134 hl (Nat.le_of_ble_eq_true rfl) rfl (fun ls hl => ?_)
                have lp21 : ∀ (n21 : Nat) (l3_21 : Int32) (l4_21 : Int32) (v21 : Nat → Int32) (f21 : Nat → Nat → Int32), XI v21 → v21 0 = (v 0) → v21 1 = (v 1) → v21 7 = (v 7) → v21 8 = (v 8) → v21 9 = (v 9) → v21 10 = (v 10) → v21 31 = (v 31) → v21 32 = (v 32) → ((0 : Int) ≤ l4_21.toInt ∧ l4_21.toInt ≤ 2147483647) → KV [] v21 v → KF [13, 14, 15] f21 f → (2147483647 - l4_21.toInt).toNat < n21 → ∀ (H : Heap) (locs : List Loc) (ls : Array Slot), va_P (dC, dI) vwCl (XW cy x0 x v21 f21) H → va_D A (XW cy x0 x v21 f21) → va_S A s.heap H locs → lv_has ls 5 [(4, .int l4_21), (3, .int l3_21), (2, .int 0), (0, .ref (x 21)), (1, .int p1)] → W p l e { frames := 5, cells := 0, slots := 0, locals := 155 } s m ([.ref (x 21), .int p1] : List Value).toArray below meth c H locs 0 0 Q (F0 m 136 ls []) := by
                  intro n21
                  induction n21 with
                  | zero => intro l3_21 l4_21 v21 f21 hIv21 hq0_v21 hq1_v21 hq7_v21 hq8_v21 hq9_v21 hq10_v21 hq31_v21 hq32_v21 hr4_21 hM_v21 hA_f21 hm; exact absurd hm (Nat.not_lt_zero _)
                  | succ n21 ih21 =>
                    intro l3_21 l4_21 v21 f21 hIv21 hq0_v21 hq1_v21 hq7_v21 hq8_v21 hq9_v21 hq10_v21 hq31_v21 hq32_v21 hr4_21 hM_v21 hA_f21 hm21 H locs ls hP hD hS hl
                    refine lv_iload hx hb dX1_passDay_136 (lv_at hl 0 rfl) ?_
                    refine lv_aload_n hx hb dX1_passDay_138 rfl (lv_at hl 3 rfl) ?_
                    refine va_get (D := (dC, dI)) (ci := 1) (v := .ref (x 26)) (C := RX1) (T := TX1) (N := 2) hx hb hts inB_1 hown hE.1 hP 22 rfl rfl 0 (Nat.le_of_ble_eq_true rfl) (hts _ k_318) (fun _ h9 => h9) rfl dX1_passDay_139 ?_
                    refine va_getN (D := (dC, dI)) (ci := 7) (v := .int (v21 31)) (C := RX7) (T := TX7) (N := 10) hx hb hts inB_7 hown hE.1 hP 27 rfl rfl 3 (Nat.le_of_ble_eq_true rfl) (va_Nw.use rfl (hE.2 _ k_219)) (fun _ h9 => h9) rfl dX1_passDay_142 ?_
                    refine tI (y := (v 31)) hq31_v21 ?_
                    have b31_v : 0 ≤ (v 31).toInt ∧ (v 31).toInt ≤ 6 := XI.b hIv 31 (by decide)
                    refine lv_icmp_ge (tgt := 193) hx hb dX1_passDay_145 rfl (fun c22 => ?_) (fun c22 => ?_)
                    · skip
                      have zc22 : (v 31).toInt ≤ l4_21.toInt := by rw [fa_le] at c22; exact c22
                      have rg23 := fb_rng l4_21
                      refine lv_iload_n hx hb dX1_passDay_193 rfl (lv_at hl 1 rfl) ?_
                      exact ret l3_21 (v21, f21) _ _ _ _ _ _ rfl ⟨hM_v21, hA_f21, hIv21, hq0_v21, hq1_v21, hq7_v21, hq8_v21, hq9_v21, hq10_v21, hq31_v21, hq32_v21⟩ hP hD hS dX1_passDay_194 (Nat.le_refl _) (Nat.le_refl _)
                    · skip
                      have zc22 : ¬ ((v 31).toInt ≤ l4_21.toInt) := by rw [fa_le] at c22; exact c22
                      have rg24 := fb_rng l4_21
                      refine lv_aload_n hx hb dX1_passDay_148 rfl (lv_at hl 3 rfl) ?_
                      refine lv_iload hx hb dX1_passDay_149 (lv_at hl 0 rfl) ?_
                      refine cbVi (n := 1) (rest := []) hx hb hml hown hts hE hP hD hS hA (sX_X1_wears_1 l dC dI cy x0 x l4_21 v21 f21 hIv21 ) k_853 k_810 k_811 k_106 k_812 (by decide +kernel) ⟨Nat.le_of_ble_eq_true rfl, Nat.le_of_ble_eq_true rfl⟩ 22 1 rfl rfl (rfl) hl.1 rfl (Nat.le_of_ble_eq_true rfl) dX1_passDay_151 (fun r25 u H locs hw hP hD hS => ?_)
                      refine lv_iconst (v := (-1)) hx hb dX1_passDay_154 rfl ?_
                      refine lv_icmp_eq (tgt := 187) hx hb dX1_passDay_155 rfl (fun c26 => ?_) (fun c26 => ?_)
                      · skip
                        have zc26 : r25.toInt = (-1) := by rw [fa_eq, show ((-1) : Int32).toInt = -1 from by decide] at c26; exact c26
                        obtain ⟨t27, et27⟩ : ∃ y : Int32, y = l4_21 + 1 := ⟨_, rfl⟩
                        have zt27 : t27.toInt = l4_21.toInt + 1 := by rw [et27]; exact add_i rfl (by decide) (by omega) (by omega)
                        refine lv_iinc (v := t27) (lv' := [(4, .int t27), (3, .int l3_21), (2, .int 0), (0, .ref (x 21)), (1, .int p1)]) hx hb dX1_passDay_187 hl (k := 0) rfl (by rw [et27]; rfl) (by decide) rfl (fun ls hl => ?_)
                        refine lv_goto (tgt := 136) hx hb dX1_passDay_190 rfl ?_
                        have rg28 := fb_rng t27
                        exact ih21 l3_21 t27 v21 f21 hIv21 hq0_v21 hq1_v21 hq7_v21 hq8_v21 hq9_v21 hq10_v21 hq31_v21 hq32_v21 ⟨show (0 : Int) ≤ t27.toInt by omega, show t27.toInt ≤ (2147483647 : Int) by omega⟩ hM_v21 hA_f21 (by show (2147483647 - t27.toInt).toNat < n21; omega) _ _ _ hP hD hS (lv_sub hl [0, 1, 2, 3, 4] rfl)
                      · skip
                        have zc26 : ¬ (r25.toInt = (-1)) := by rw [fa_eq, show ((-1) : Int32).toInt = -1 from by decide] at c26; exact c26
                        refine lv_aload_n hx hb dX1_passDay_158 rfl (lv_at hl 3 rfl) ?_
                        refine lv_iload hx hb dX1_passDay_159 (lv_at hl 0 rfl) ?_
                        refine lv_aload_n hx hb dX1_passDay_161 rfl (lv_at hl 3 rfl) ?_
                        refine lv_iload hx hb dX1_passDay_162 (lv_at hl 0 rfl) ?_
                        refine cbVi (n := 1) (rest := [.int l4_21, .ref (x 21)]) hx hb hml hown hts hE hP hD hS hA (sX_X1_wears_1 l dC dI cy x0 x l4_21 v21 f21 hIv21 ) k_853 k_810 k_811 k_106 k_812 (by decide +kernel) ⟨Nat.le_of_ble_eq_true rfl, Nat.le_of_ble_eq_true rfl⟩ 22 1 rfl rfl (rfl) hl.1 rfl (Nat.le_of_ble_eq_true rfl) dX1_passDay_164 (fun r29 u H locs hw hP hD hS => ?_)
                        refine cbVi (n := 2) (rest := []) hx hb hml hown hts hE hP hD hS hA (sX_X1_fits_1 l dC dI cy x0 x l4_21 r29 v21 f21 hIv21 ) k_817 k_818 k_819 k_106 k_820 (by decide +kernel) ⟨Nat.le_of_ble_eq_true rfl, Nat.le_of_ble_eq_true rfl⟩ 22 1 rfl rfl (rfl) hl.1 rfl (Nat.le_of_ble_eq_true rfl) dX1_passDay_167 (fun r30 u H locs hw hP hD hS => ?_)
                        obtain ⟨v31, f32⟩ := u
                        obtain ⟨kV_v31, kF_f32, hIv31, hk0_v31, hk1_v31, hk7_v31, hk8_v31, hk9_v31, hk10_v31, hk31_v31, hk32_v31, hw⟩ := hw
                        have hM_v31 : KV [] v31 v := KV.tr kV_v31 hM_v21 rfl
                        have hA_f32 : KF [13, 14, 15] f32 f := KF.tr kF_f32 hA_f21 rfl
                        have hP : va_P (dC, dI) vwCl (XW cy x0 x v31 f32) H := hP
                        have hD : va_D A (XW cy x0 x v31 f32) := hD
                        have hq0_v31 : v31 0 = (v 0) := hk0_v31.trans hq0_v21
                        have hq1_v31 : v31 1 = (v 1) := hk1_v31.trans hq1_v21
                        have hq7_v31 : v31 7 = (v 7) := hk7_v31.trans hq7_v21
                        have hq8_v31 : v31 8 = (v 8) := hk8_v31.trans hq8_v21
                        have hq9_v31 : v31 9 = (v 9) := hk9_v31.trans hq9_v21
                        have hq10_v31 : v31 10 = (v 10) := hk10_v31.trans hq10_v21
                        have hq31_v31 : v31 31 = (v 31) := hk31_v31.trans hq31_v21
                        have hq32_v31 : v31 32 = (v 32) := hk32_v31.trans hq32_v21
                        rcases hw with ⟨g33⟩ | ⟨g33⟩
                        · skip
                          subst g33
                          refine lv_if_ne (tgt := 187) hx hb dX1_passDay_170 rfl (fun _ => ?_) (fun c0 => absurd c0 (by decide))
                          obtain ⟨t34, et34⟩ : ∃ y : Int32, y = l4_21 + 1 := ⟨_, rfl⟩
                          have zt34 : t34.toInt = l4_21.toInt + 1 := by rw [et34]; exact add_i rfl (by decide) (by omega) (by omega)
                          refine lv_iinc (v := t34) (lv' := [(4, .int t34), (3, .int l3_21), (2, .int 0), (0, .ref (x 21)), (1, .int p1)]) hx hb dX1_passDay_187 hl (k := 0) rfl (by rw [et34]; rfl) (by decide) rfl (fun ls hl => ?_)
                          refine lv_goto (tgt := 136) hx hb dX1_passDay_190 rfl ?_
                          have rg35 := fb_rng t34
                          exact ih21 l3_21 t34 v31 f32 hIv31 hq0_v31 hq1_v31 hq7_v31 hq8_v31 hq9_v31 hq10_v31 hq31_v31 hq32_v31 ⟨show (0 : Int) ≤ t34.toInt by omega, show t34.toInt ≤ (2147483647 : Int) by omega⟩ hM_v31 hA_f32 (by show (2147483647 - t34.toInt).toNat < n21; omega) _ _ _ hP hD hS (lv_sub hl [0, 1, 2, 3, 4] rfl)
                        · skip
                          subst g33
                          refine lv_if_ne (tgt := 187) hx hb dX1_passDay_170 rfl (fun c0 => absurd (by decide) c0) (fun _ => ?_)
                          refine lv_aload_n hx hb dX1_passDay_173 rfl (lv_at hl 3 rfl) ?_
                          refine lv_iload hx hb dX1_passDay_174 (lv_at hl 0 rfl) ?_
                          refine lv_iconst (v := (-1)) hx hb dX1_passDay_176 rfl ?_
                          refine cbVv (n := 2) (rest := []) hx hb hml hown hts hE hP hD hS hA (sX_X1_setWears_1 l dC dI cy x0 x l4_21 (-1) v31 f32 hIv31 ) k_879 k_880 k_881 k_106 k_882 (by decide +kernel) ⟨Nat.le_of_ble_eq_true rfl, Nat.le_of_ble_eq_true rfl⟩ 22 1 rfl rfl (rfl) hl.1 rfl (Nat.le_of_ble_eq_true rfl) dX1_passDay_177 (fun u H locs hw hP hD hS => ?_)
                          obtain ⟨v36, f37⟩ := u
                          obtain ⟨kV_v36, kF_f37, hIv36, hk0_v36, hk1_v36, hk7_v36, hk8_v36, hk9_v36, hk10_v36, hk31_v36, hk32_v36⟩ := hw
                          have hM_v36 : KV [] v36 v := KV.tr kV_v36 hM_v31 rfl
                          have hA_f37 : KF [13, 14, 15] f37 f := KF.tr kF_f37 hA_f32 rfl
                          have hP : va_P (dC, dI) vwCl (XW cy x0 x v36 f37) H := hP
                          have hD : va_D A (XW cy x0 x v36 f37) := hD
                          have hq0_v36 : v36 0 = (v 0) := hk0_v36.trans hq0_v31
                          have hq1_v36 : v36 1 = (v 1) := hk1_v36.trans hq1_v31
                          have hq7_v36 : v36 7 = (v 7) := hk7_v36.trans hq7_v31
                          have hq8_v36 : v36 8 = (v 8) := hk8_v36.trans hq8_v31
                          have hq9_v36 : v36 9 = (v 9) := hk9_v36.trans hq9_v31
                          have hq10_v36 : v36 10 = (v 10) := hk10_v36.trans hq10_v31
                          have hq31_v36 : v36 31 = (v 31) := hk31_v36.trans hq31_v31
                          have hq32_v36 : v36 32 = (v 32) := hk32_v36.trans hq32_v31
                          refine lv_iload_n hx hb dX1_passDay_180 rfl (lv_at hl 1 rfl) ?_
                          refine lv_iconst (v := 1) hx hb dX1_passDay_181 rfl ?_
                          refine lv_iload hx hb dX1_passDay_182 (lv_at hl 0 rfl) ?_
                          refine lv_ishl hx hb dX1_passDay_184 ?_
                          refine lv_topi (fun t38 et38 => ?_)
                          have zt38 : 1 ≤ t38.toInt ∧ t38.toInt ≤ 32 := by rw [et38]; exact shl1_rng (by omega) (by omega)
                          refine lv_ior hx hb dX1_passDay_185 ?_
                          refine lv_topi (fun t39 et39 => ?_)
                          refine lv_istore_n (lv' := [(3, .int t39), (4, .int l4_21), (2, .int 0), (0, .ref (x 21)), (1, .int p1)]) hx hb dX1_passDay_186 rfl hl (Nat.le_of_ble_eq_true rfl) rfl (fun ls hl => ?_)
                          obtain ⟨t40, et40⟩ : ∃ y : Int32, y = l4_21 + 1 := ⟨_, rfl⟩
                          have zt40 : t40.toInt = l4_21.toInt + 1 := by rw [et40]; exact add_i rfl (by decide) (by omega) (by omega)
                          refine lv_iinc (v := t40) (lv' := [(4, .int t40), (3, .int t39), (2, .int 0), (0, .ref (x 21)), (1, .int p1)]) hx hb dX1_passDay_187 hl (k := 1) rfl (by rw [et40]; rfl) (by decide) rfl (fun ls hl => ?_)
                          refine lv_goto (tgt := 136) hx hb dX1_passDay_190 rfl ?_
                          have rg41 := fb_rng t40
                          exact ih21 t39 t40 v36 f37 hIv36 hq0_v36 hq1_v36 hq7_v36 hq8_v36 hq9_v36 hq10_v36 hq31_v36 hq32_v36 ⟨show (0 : Int) ≤ t40.toInt by omega, show t40.toInt ≤ (2147483647 : Int) by omega⟩ hM_v36 hA_f37 (by show (2147483647 - t40.toInt).toNat < n21; omega) _ _ _ hP hD hS (lv_sub hl [0, 1, 2, 3, 4] rfl)
                exact lp21 _ 0 0 v15 f20 hIv15 hq0_v15 hq1_v15 hq7_v15 hq8_v15 hq9_v15 hq10_v15 hq31_v15 hq32_v15 ⟨by decide, by decide⟩ hM_v15 hA_f20 (Nat.lt_succ_self _) _ _ _ hP hD hS (lv_sub hl [0, 1, 2, 3, 4] rfl)
              · skip
                have zc16 : ¬ ((v 31).toInt ≤ l3_15.toInt) := by rw [fa_le] at c16; exact c16
                have rg42 := fb_rng l3_15
                refine lv_aload_n hx hb dX1_passDay_104 rfl (lv_at hl 2 rfl) ?_
                refine lv_aload_n hx hb dX1_passDay_105 rfl (lv_at hl 2 rfl) ?_
                refine lv_iload_n hx hb dX1_passDay_106 rfl (lv_at hl 0 rfl) ?_
                refine cbVi (n := 1) (rest := [.ref (x 21)]) hx hb hml hown hts hE hP hD hS hA (sX_X1_wears_1 l dC dI cy x0 x l3_15 v15 f15 hIv15 ) k_853 k_810 k_811 k_106 k_812 (by decide +kernel) ⟨Nat.le_of_ble_eq_true rfl, Nat.le_of_ble_eq_true rfl⟩ 22 1 rfl rfl (rfl) hl.1 rfl (Nat.le_of_ble_eq_true rfl) dX1_passDay_107 (fun r43 u H locs hw hP hD hS => ?_)
                refine lv_iload_n hx hb dX1_passDay_110 rfl (lv_at hl 1 rfl) ?_
                refine cbVv (n := 2) (rest := []) hx hb hml hown hts hE hP hD hS hA (sX_X1_weather_1 l dC dI cy x0 x r43 0 v15 f15 hIv15 ) k_870 k_872 k_20 k_106 k_873 (by decide +kernel) ⟨Nat.le_of_ble_eq_true rfl, Nat.le_of_ble_eq_true rfl⟩ 22 1 rfl rfl (rfl) hl.1 rfl (Nat.le_of_ble_eq_true rfl) dX1_passDay_111 (fun u H locs hw hP hD hS => ?_)
                obtain ⟨v44, f45⟩ := u
                obtain ⟨kV_v44, kF_f45, hIv44, hk0_v44, hk1_v44, hk7_v44, hk8_v44, hk9_v44, hk10_v44, hk31_v44, hk32_v44⟩ := hw
                have hM_v44 : KV [] v44 v := KV.tr kV_v44 hM_v15 rfl
                have hA_f45 : KF [13, 14, 15] f45 f := KF.tr kF_f45 hA_f15 rfl
                have hP : va_P (dC, dI) vwCl (XW cy x0 x v44 f45) H := hP
                have hD : va_D A (XW cy x0 x v44 f45) := hD
                have hq0_v44 : v44 0 = (v 0) := hk0_v44.trans hq0_v15
                have hq1_v44 : v44 1 = (v 1) := hk1_v44.trans hq1_v15
                have hq7_v44 : v44 7 = (v 7) := hk7_v44.trans hq7_v15
                have hq8_v44 : v44 8 = (v 8) := hk8_v44.trans hq8_v15
                have hq9_v44 : v44 9 = (v 9) := hk9_v44.trans hq9_v15
                have hq10_v44 : v44 10 = (v 10) := hk10_v44.trans hq10_v15
                have hq31_v44 : v44 31 = (v 31) := hk31_v44.trans hq31_v15
                have hq32_v44 : v44 32 = (v 32) := hk32_v44.trans hq32_v15
                obtain ⟨t46, et46⟩ : ∃ y : Int32, y = l3_15 + 1 := ⟨_, rfl⟩
                have zt46 : t46.toInt = l3_15.toInt + 1 := by rw [et46]; exact add_i rfl (by decide) (by omega) (by omega)
                refine lv_iinc (v := t46) (lv' := [(3, .int t46), (2, .int 0), (0, .ref (x 21)), (1, .int p1)]) hx hb dX1_passDay_114 hl (k := 0) rfl (by rw [et46]; rfl) (by decide) rfl (fun ls hl => ?_)
                refine lv_goto (tgt := 93) hx hb dX1_passDay_117 rfl ?_
                have rg47 := fb_rng t46
                exact ih15 t46 v44 f45 hIv44 hq0_v44 hq1_v44 hq7_v44 hq8_v44 hq9_v44 hq10_v44 hq31_v44 hq32_v44 ⟨show (0 : Int) ≤ t46.toInt by omega, show t46.toInt ≤ (2147483647 : Int) by omega⟩ hM_v44 hA_f45 (by show (2147483647 - t46.toInt).toNat < n15; omega) _ _ _ hP hD hS (lv_sub hl [0, 1, 2, 3] rfl)
          exact lp15 _ 0 v1 f9 hIv1 hq0_v1 hq1_v1 hq7_v1 hq8_v1 hq9_v1 hq10_v1 hq31_v1 hq32_v1 ⟨by decide, by decide⟩ hM_v1 hA_f9 (Nat.lt_succ_self _) _ _ _ hP hD hS (lv_sub hl [0, 1, 2, 3] rfl)
        · skip
          have zc12 : ¬ (p1.toInt ≤ t11.toInt) := by rw [fa_le] at c12; exact c12
          have rg48 := fb_rng t11
          have rg49 := fb_rng p1
          refine lv_iconst (v := 1) hx hb dX1_passDay_85 rfl ?_
          refine lv_goto (tgt := 90) hx hb dX1_passDay_86 rfl ?_
          refine lv_istore_n (lv' := [(2, .int 1), (0, .ref (x 21)), (1, .int p1)]) hx hb dX1_passDay_90 rfl hl (Nat.le_of_ble_eq_true rfl) rfl (fun ls hl => ?_)
          refine lv_iconst (v := 0) hx hb dX1_passDay_91 rfl ?_
          refine lv_istore_n (lv' := [(3, .int 0), (2, .int 1), (0, .ref (x 21)), (1, .int p1)]) hx hb dX1_passDay_92 rfl hl (Nat.le_of_ble_eq_true rfl) rfl (fun ls hl => ?_)
          have lp50 : ∀ (n50 : Nat) (l3_50 : Int32) (v50 : Nat → Int32) (f50 : Nat → Nat → Int32), XI v50 → v50 0 = (v 0) → v50 1 = (v 1) → v50 7 = (v 7) → v50 8 = (v 8) → v50 9 = (v 9) → v50 10 = (v 10) → v50 31 = (v 31) → v50 32 = (v 32) → ((0 : Int) ≤ l3_50.toInt ∧ l3_50.toInt ≤ 2147483647) → KV [] v50 v → KF [13, 14, 15] f50 f → (2147483647 - l3_50.toInt).toNat < n50 → ∀ (H : Heap) (locs : List Loc) (ls : Array Slot), va_P (dC, dI) vwCl (XW cy x0 x v50 f50) H → va_D A (XW cy x0 x v50 f50) → va_S A s.heap H locs → lv_has ls 5 [(3, .int l3_50), (2, .int 1), (0, .ref (x 21)), (1, .int p1)] → W p l e { frames := 5, cells := 0, slots := 0, locals := 155 } s m ([.ref (x 21), .int p1] : List Value).toArray below meth c H locs 0 0 Q (F0 m 93 ls []) := by
            intro n50
            induction n50 with
            | zero => intro l3_50 v50 f50 hIv50 hq0_v50 hq1_v50 hq7_v50 hq8_v50 hq9_v50 hq10_v50 hq31_v50 hq32_v50 hr3_50 hM_v50 hA_f50 hm; exact absurd hm (Nat.not_lt_zero _)
            | succ n50 ih50 =>
              intro l3_50 v50 f50 hIv50 hq0_v50 hq1_v50 hq7_v50 hq8_v50 hq9_v50 hq10_v50 hq31_v50 hq32_v50 hr3_50 hM_v50 hA_f50 hm50 H locs ls hP hD hS hl
              refine lv_iload_n hx hb dX1_passDay_93 rfl (lv_at hl 0 rfl) ?_
              refine lv_aload_n hx hb dX1_passDay_94 rfl (lv_at hl 2 rfl) ?_
              refine va_get (D := (dC, dI)) (ci := 1) (v := .ref (x 26)) (C := RX1) (T := TX1) (N := 2) hx hb hts inB_1 hown hE.1 hP 22 rfl rfl 0 (Nat.le_of_ble_eq_true rfl) (hts _ k_318) (fun _ h9 => h9) rfl dX1_passDay_95 ?_
              refine va_getN (D := (dC, dI)) (ci := 7) (v := .int (v50 31)) (C := RX7) (T := TX7) (N := 10) hx hb hts inB_7 hown hE.1 hP 27 rfl rfl 3 (Nat.le_of_ble_eq_true rfl) (va_Nw.use rfl (hE.2 _ k_219)) (fun _ h9 => h9) rfl dX1_passDay_98 ?_
              refine tI (y := (v 31)) hq31_v50 ?_
              have b31_v : 0 ≤ (v 31).toInt ∧ (v 31).toInt ≤ 6 := XI.b hIv 31 (by decide)
              refine lv_icmp_ge (tgt := 120) hx hb dX1_passDay_101 rfl (fun c51 => ?_) (fun c51 => ?_)
              · skip
                have zc51 : (v 31).toInt ≤ l3_50.toInt := by rw [fa_le] at c51; exact c51
                have rg52 := fb_rng l3_50
                refine lv_aload_n hx hb dX1_passDay_120 rfl (lv_at hl 2 rfl) ?_
                refine va_get (D := (dC, dI)) (ci := 1) (v := .ref (x 22)) (C := RX1) (T := TX1) (N := 2) hx hb hts inB_1 hown hE.1 hP 22 rfl rfl 1 (Nat.le_of_ble_eq_true rfl) (hts _ k_319) (fun _ h9 => h9) rfl dX1_passDay_121 ?_
                refine lv_bipush (v := 42) hx hb dX1_passDay_124 rfl ?_
                refine lv_dup2_11 hx hb dX1_passDay_126 rfl rfl ?_
                refine ldI hx hb hE hP 23 rfl (vp_in_nI (n := 42) (by decide) (by decide)) rfl rfl dX1_passDay_127 ?_
                refine lv_topi (fun t53 et53 => ?_)
                refine lv_iconst (v := 1) hx hb dX1_passDay_128 rfl ?_
                refine lv_iadd hx hb dX1_passDay_129 ?_
                refine lv_topi (fun t54 et54 => ?_)
                refine stI hx hb hE hP hD hS 23 rfl (vp_in_nI (n := 42) (by decide) (by decide)) rfl dX1_passDay_130 (fun H locs hP hD hS => ?_)
                obtain ⟨f55, ef55, hP, hD⟩ : ∃ fz9, fz9 = upd2 f50 15 (upd (f50 15) (42 : Int32).toNatClampNeg t54) ∧ va_P (dC, dI) vwCl (XW cy x0 x v50 fz9) H ∧ va_D A (XW cy x0 x v50 fz9) := ⟨_, rfl, hP, hD⟩
                have hA_f55 : KF [13, 14, 15] f55 f := by rw [ef55]; exact KF.up hA_f50 rfl
                refine lv_iconst (v := 0) hx hb dX1_passDay_131 rfl ?_
                refine lv_istore_n (lv' := [(3, .int 0), (2, .int 1), (0, .ref (x 21)), (1, .int p1)]) hx hb dX1_passDay_132 rfl hl (Nat.le_of_ble_eq_true rfl) rfl (fun ls hl => ?_)
                refine lv_iconst (v := 0) hx hb dX1_passDay_133 rfl ?_
                refine lv_istore (lv' := [(4, .int 0), (3, .int 0), (2, .int 1), (0, .ref (x 21)), (1, .int p1)]) hx hb dX1_passDay_134 hl (Nat.le_of_ble_eq_true rfl) rfl (fun ls hl => ?_)
                have lp56 : ∀ (n56 : Nat) (l3_56 : Int32) (l4_56 : Int32) (v56 : Nat → Int32) (f56 : Nat → Nat → Int32), XI v56 → v56 0 = (v 0) → v56 1 = (v 1) → v56 7 = (v 7) → v56 8 = (v 8) → v56 9 = (v 9) → v56 10 = (v 10) → v56 31 = (v 31) → v56 32 = (v 32) → ((0 : Int) ≤ l4_56.toInt ∧ l4_56.toInt ≤ 2147483647) → KV [] v56 v → KF [13, 14, 15] f56 f → (2147483647 - l4_56.toInt).toNat < n56 → ∀ (H : Heap) (locs : List Loc) (ls : Array Slot), va_P (dC, dI) vwCl (XW cy x0 x v56 f56) H → va_D A (XW cy x0 x v56 f56) → va_S A s.heap H locs → lv_has ls 5 [(4, .int l4_56), (3, .int l3_56), (2, .int 1), (0, .ref (x 21)), (1, .int p1)] → W p l e { frames := 5, cells := 0, slots := 0, locals := 155 } s m ([.ref (x 21), .int p1] : List Value).toArray below meth c H locs 0 0 Q (F0 m 136 ls []) := by
                  intro n56
                  induction n56 with
                  | zero => intro l3_56 l4_56 v56 f56 hIv56 hq0_v56 hq1_v56 hq7_v56 hq8_v56 hq9_v56 hq10_v56 hq31_v56 hq32_v56 hr4_56 hM_v56 hA_f56 hm; exact absurd hm (Nat.not_lt_zero _)
                  | succ n56 ih56 =>
                    intro l3_56 l4_56 v56 f56 hIv56 hq0_v56 hq1_v56 hq7_v56 hq8_v56 hq9_v56 hq10_v56 hq31_v56 hq32_v56 hr4_56 hM_v56 hA_f56 hm56 H locs ls hP hD hS hl
                    refine lv_iload hx hb dX1_passDay_136 (lv_at hl 0 rfl) ?_
                    refine lv_aload_n hx hb dX1_passDay_138 rfl (lv_at hl 3 rfl) ?_
                    refine va_get (D := (dC, dI)) (ci := 1) (v := .ref (x 26)) (C := RX1) (T := TX1) (N := 2) hx hb hts inB_1 hown hE.1 hP 22 rfl rfl 0 (Nat.le_of_ble_eq_true rfl) (hts _ k_318) (fun _ h9 => h9) rfl dX1_passDay_139 ?_
                    refine va_getN (D := (dC, dI)) (ci := 7) (v := .int (v56 31)) (C := RX7) (T := TX7) (N := 10) hx hb hts inB_7 hown hE.1 hP 27 rfl rfl 3 (Nat.le_of_ble_eq_true rfl) (va_Nw.use rfl (hE.2 _ k_219)) (fun _ h9 => h9) rfl dX1_passDay_142 ?_
                    refine tI (y := (v 31)) hq31_v56 ?_
                    have b31_v : 0 ≤ (v 31).toInt ∧ (v 31).toInt ≤ 6 := XI.b hIv 31 (by decide)
                    refine lv_icmp_ge (tgt := 193) hx hb dX1_passDay_145 rfl (fun c57 => ?_) (fun c57 => ?_)
                    · skip
                      have zc57 : (v 31).toInt ≤ l4_56.toInt := by rw [fa_le] at c57; exact c57
                      have rg58 := fb_rng l4_56
                      refine lv_iload_n hx hb dX1_passDay_193 rfl (lv_at hl 1 rfl) ?_
                      exact ret l3_56 (v56, f56) _ _ _ _ _ _ rfl ⟨hM_v56, hA_f56, hIv56, hq0_v56, hq1_v56, hq7_v56, hq8_v56, hq9_v56, hq10_v56, hq31_v56, hq32_v56⟩ hP hD hS dX1_passDay_194 (Nat.le_refl _) (Nat.le_refl _)
                    · skip
                      have zc57 : ¬ ((v 31).toInt ≤ l4_56.toInt) := by rw [fa_le] at c57; exact c57
                      have rg59 := fb_rng l4_56
                      refine lv_aload_n hx hb dX1_passDay_148 rfl (lv_at hl 3 rfl) ?_
                      refine lv_iload hx hb dX1_passDay_149 (lv_at hl 0 rfl) ?_
                      refine cbVi (n := 1) (rest := []) hx hb hml hown hts hE hP hD hS hA (sX_X1_wears_1 l dC dI cy x0 x l4_56 v56 f56 hIv56 ) k_853 k_810 k_811 k_106 k_812 (by decide +kernel) ⟨Nat.le_of_ble_eq_true rfl, Nat.le_of_ble_eq_true rfl⟩ 22 1 rfl rfl (rfl) hl.1 rfl (Nat.le_of_ble_eq_true rfl) dX1_passDay_151 (fun r60 u H locs hw hP hD hS => ?_)
                      refine lv_iconst (v := (-1)) hx hb dX1_passDay_154 rfl ?_
                      refine lv_icmp_eq (tgt := 187) hx hb dX1_passDay_155 rfl (fun c61 => ?_) (fun c61 => ?_)
                      · skip
                        have zc61 : r60.toInt = (-1) := by rw [fa_eq, show ((-1) : Int32).toInt = -1 from by decide] at c61; exact c61
                        obtain ⟨t62, et62⟩ : ∃ y : Int32, y = l4_56 + 1 := ⟨_, rfl⟩
                        have zt62 : t62.toInt = l4_56.toInt + 1 := by rw [et62]; exact add_i rfl (by decide) (by omega) (by omega)
                        refine lv_iinc (v := t62) (lv' := [(4, .int t62), (3, .int l3_56), (2, .int 1), (0, .ref (x 21)), (1, .int p1)]) hx hb dX1_passDay_187 hl (k := 0) rfl (by rw [et62]; rfl) (by decide) rfl (fun ls hl => ?_)
                        refine lv_goto (tgt := 136) hx hb dX1_passDay_190 rfl ?_
                        have rg63 := fb_rng t62
                        exact ih56 l3_56 t62 v56 f56 hIv56 hq0_v56 hq1_v56 hq7_v56 hq8_v56 hq9_v56 hq10_v56 hq31_v56 hq32_v56 ⟨show (0 : Int) ≤ t62.toInt by omega, show t62.toInt ≤ (2147483647 : Int) by omega⟩ hM_v56 hA_f56 (by show (2147483647 - t62.toInt).toNat < n56; omega) _ _ _ hP hD hS (lv_sub hl [0, 1, 2, 3, 4] rfl)
                      · skip
                        have zc61 : ¬ (r60.toInt = (-1)) := by rw [fa_eq, show ((-1) : Int32).toInt = -1 from by decide] at c61; exact c61
                        refine lv_aload_n hx hb dX1_passDay_158 rfl (lv_at hl 3 rfl) ?_
                        refine lv_iload hx hb dX1_passDay_159 (lv_at hl 0 rfl) ?_
                        refine lv_aload_n hx hb dX1_passDay_161 rfl (lv_at hl 3 rfl) ?_
                        refine lv_iload hx hb dX1_passDay_162 (lv_at hl 0 rfl) ?_
                        refine cbVi (n := 1) (rest := [.int l4_56, .ref (x 21)]) hx hb hml hown hts hE hP hD hS hA (sX_X1_wears_1 l dC dI cy x0 x l4_56 v56 f56 hIv56 ) k_853 k_810 k_811 k_106 k_812 (by decide +kernel) ⟨Nat.le_of_ble_eq_true rfl, Nat.le_of_ble_eq_true rfl⟩ 22 1 rfl rfl (rfl) hl.1 rfl (Nat.le_of_ble_eq_true rfl) dX1_passDay_164 (fun r64 u H locs hw hP hD hS => ?_)
                        refine cbVi (n := 2) (rest := []) hx hb hml hown hts hE hP hD hS hA (sX_X1_fits_1 l dC dI cy x0 x l4_56 r64 v56 f56 hIv56 ) k_817 k_818 k_819 k_106 k_820 (by decide +kernel) ⟨Nat.le_of_ble_eq_true rfl, Nat.le_of_ble_eq_true rfl⟩ 22 1 rfl rfl (rfl) hl.1 rfl (Nat.le_of_ble_eq_true rfl) dX1_passDay_167 (fun r65 u H locs hw hP hD hS => ?_)
                        obtain ⟨v66, f67⟩ := u
                        obtain ⟨kV_v66, kF_f67, hIv66, hk0_v66, hk1_v66, hk7_v66, hk8_v66, hk9_v66, hk10_v66, hk31_v66, hk32_v66, hw⟩ := hw
                        have hM_v66 : KV [] v66 v := KV.tr kV_v66 hM_v56 rfl
                        have hA_f67 : KF [13, 14, 15] f67 f := KF.tr kF_f67 hA_f56 rfl
                        have hP : va_P (dC, dI) vwCl (XW cy x0 x v66 f67) H := hP
                        have hD : va_D A (XW cy x0 x v66 f67) := hD
                        have hq0_v66 : v66 0 = (v 0) := hk0_v66.trans hq0_v56
                        have hq1_v66 : v66 1 = (v 1) := hk1_v66.trans hq1_v56
                        have hq7_v66 : v66 7 = (v 7) := hk7_v66.trans hq7_v56
                        have hq8_v66 : v66 8 = (v 8) := hk8_v66.trans hq8_v56
                        have hq9_v66 : v66 9 = (v 9) := hk9_v66.trans hq9_v56
                        have hq10_v66 : v66 10 = (v 10) := hk10_v66.trans hq10_v56
                        have hq31_v66 : v66 31 = (v 31) := hk31_v66.trans hq31_v56
                        have hq32_v66 : v66 32 = (v 32) := hk32_v66.trans hq32_v56
                        rcases hw with ⟨g68⟩ | ⟨g68⟩
                        · skip
                          subst g68
                          refine lv_if_ne (tgt := 187) hx hb dX1_passDay_170 rfl (fun _ => ?_) (fun c0 => absurd c0 (by decide))
                          obtain ⟨t69, et69⟩ : ∃ y : Int32, y = l4_56 + 1 := ⟨_, rfl⟩
                          have zt69 : t69.toInt = l4_56.toInt + 1 := by rw [et69]; exact add_i rfl (by decide) (by omega) (by omega)
                          refine lv_iinc (v := t69) (lv' := [(4, .int t69), (3, .int l3_56), (2, .int 1), (0, .ref (x 21)), (1, .int p1)]) hx hb dX1_passDay_187 hl (k := 0) rfl (by rw [et69]; rfl) (by decide) rfl (fun ls hl => ?_)
                          refine lv_goto (tgt := 136) hx hb dX1_passDay_190 rfl ?_
                          have rg70 := fb_rng t69
                          exact ih56 l3_56 t69 v66 f67 hIv66 hq0_v66 hq1_v66 hq7_v66 hq8_v66 hq9_v66 hq10_v66 hq31_v66 hq32_v66 ⟨show (0 : Int) ≤ t69.toInt by omega, show t69.toInt ≤ (2147483647 : Int) by omega⟩ hM_v66 hA_f67 (by show (2147483647 - t69.toInt).toNat < n56; omega) _ _ _ hP hD hS (lv_sub hl [0, 1, 2, 3, 4] rfl)
                        · skip
                          subst g68
                          refine lv_if_ne (tgt := 187) hx hb dX1_passDay_170 rfl (fun c0 => absurd (by decide) c0) (fun _ => ?_)
                          refine lv_aload_n hx hb dX1_passDay_173 rfl (lv_at hl 3 rfl) ?_
                          refine lv_iload hx hb dX1_passDay_174 (lv_at hl 0 rfl) ?_
                          refine lv_iconst (v := (-1)) hx hb dX1_passDay_176 rfl ?_
                          refine cbVv (n := 2) (rest := []) hx hb hml hown hts hE hP hD hS hA (sX_X1_setWears_1 l dC dI cy x0 x l4_56 (-1) v66 f67 hIv66 ) k_879 k_880 k_881 k_106 k_882 (by decide +kernel) ⟨Nat.le_of_ble_eq_true rfl, Nat.le_of_ble_eq_true rfl⟩ 22 1 rfl rfl (rfl) hl.1 rfl (Nat.le_of_ble_eq_true rfl) dX1_passDay_177 (fun u H locs hw hP hD hS => ?_)
                          obtain ⟨v71, f72⟩ := u
                          obtain ⟨kV_v71, kF_f72, hIv71, hk0_v71, hk1_v71, hk7_v71, hk8_v71, hk9_v71, hk10_v71, hk31_v71, hk32_v71⟩ := hw
                          have hM_v71 : KV [] v71 v := KV.tr kV_v71 hM_v66 rfl
                          have hA_f72 : KF [13, 14, 15] f72 f := KF.tr kF_f72 hA_f67 rfl
                          have hP : va_P (dC, dI) vwCl (XW cy x0 x v71 f72) H := hP
                          have hD : va_D A (XW cy x0 x v71 f72) := hD
                          have hq0_v71 : v71 0 = (v 0) := hk0_v71.trans hq0_v66
                          have hq1_v71 : v71 1 = (v 1) := hk1_v71.trans hq1_v66
                          have hq7_v71 : v71 7 = (v 7) := hk7_v71.trans hq7_v66
                          have hq8_v71 : v71 8 = (v 8) := hk8_v71.trans hq8_v66
                          have hq9_v71 : v71 9 = (v 9) := hk9_v71.trans hq9_v66
                          have hq10_v71 : v71 10 = (v 10) := hk10_v71.trans hq10_v66
                          have hq31_v71 : v71 31 = (v 31) := hk31_v71.trans hq31_v66
                          have hq32_v71 : v71 32 = (v 32) := hk32_v71.trans hq32_v66
                          refine lv_iload_n hx hb dX1_passDay_180 rfl (lv_at hl 1 rfl) ?_
                          refine lv_iconst (v := 1) hx hb dX1_passDay_181 rfl ?_
                          refine lv_iload hx hb dX1_passDay_182 (lv_at hl 0 rfl) ?_
                          refine lv_ishl hx hb dX1_passDay_184 ?_
                          refine lv_topi (fun t73 et73 => ?_)
                          have zt73 : 1 ≤ t73.toInt ∧ t73.toInt ≤ 32 := by rw [et73]; exact shl1_rng (by omega) (by omega)
                          refine lv_ior hx hb dX1_passDay_185 ?_
                          refine lv_topi (fun t74 et74 => ?_)
                          refine lv_istore_n (lv' := [(3, .int t74), (4, .int l4_56), (2, .int 1), (0, .ref (x 21)), (1, .int p1)]) hx hb dX1_passDay_186 rfl hl (Nat.le_of_ble_eq_true rfl) rfl (fun ls hl => ?_)
                          obtain ⟨t75, et75⟩ : ∃ y : Int32, y = l4_56 + 1 := ⟨_, rfl⟩
                          have zt75 : t75.toInt = l4_56.toInt + 1 := by rw [et75]; exact add_i rfl (by decide) (by omega) (by omega)
                          refine lv_iinc (v := t75) (lv' := [(4, .int t75), (3, .int t74), (2, .int 1), (0, .ref (x 21)), (1, .int p1)]) hx hb dX1_passDay_187 hl (k := 1) rfl (by rw [et75]; rfl) (by decide) rfl (fun ls hl => ?_)
                          refine lv_goto (tgt := 136) hx hb dX1_passDay_190 rfl ?_
                          have rg76 := fb_rng t75
                          exact ih56 t74 t75 v71 f72 hIv71 hq0_v71 hq1_v71 hq7_v71 hq8_v71 hq9_v71 hq10_v71 hq31_v71 hq32_v71 ⟨show (0 : Int) ≤ t75.toInt by omega, show t75.toInt ≤ (2147483647 : Int) by omega⟩ hM_v71 hA_f72 (by show (2147483647 - t75.toInt).toNat < n56; omega) _ _ _ hP hD hS (lv_sub hl [0, 1, 2, 3, 4] rfl)
                exact lp56 _ 0 0 v50 f55 hIv50 hq0_v50 hq1_v50 hq7_v50 hq8_v50 hq9_v50 hq10_v50 hq31_v50 hq32_v50 ⟨by decide, by decide⟩ hM_v50 hA_f55 (Nat.lt_succ_self _) _ _ _ hP hD hS (lv_sub hl [0, 1, 2, 3, 4] rfl)
              · skip
                have zc51 : ¬ ((v 31).toInt ≤ l3_50.toInt) := by rw [fa_le] at c51; exact c51
                have rg77 := fb_rng l3_50
                refine lv_aload_n hx hb dX1_passDay_104 rfl (lv_at hl 2 rfl) ?_
                refine lv_aload_n hx hb dX1_passDay_105 rfl (lv_at hl 2 rfl) ?_
                refine lv_iload_n hx hb dX1_passDay_106 rfl (lv_at hl 0 rfl) ?_
                refine cbVi (n := 1) (rest := [.ref (x 21)]) hx hb hml hown hts hE hP hD hS hA (sX_X1_wears_1 l dC dI cy x0 x l3_50 v50 f50 hIv50 ) k_853 k_810 k_811 k_106 k_812 (by decide +kernel) ⟨Nat.le_of_ble_eq_true rfl, Nat.le_of_ble_eq_true rfl⟩ 22 1 rfl rfl (rfl) hl.1 rfl (Nat.le_of_ble_eq_true rfl) dX1_passDay_107 (fun r78 u H locs hw hP hD hS => ?_)
                refine lv_iload_n hx hb dX1_passDay_110 rfl (lv_at hl 1 rfl) ?_
                refine cbVv (n := 2) (rest := []) hx hb hml hown hts hE hP hD hS hA (sX_X1_weather_1 l dC dI cy x0 x r78 1 v50 f50 hIv50 ) k_870 k_872 k_20 k_106 k_873 (by decide +kernel) ⟨Nat.le_of_ble_eq_true rfl, Nat.le_of_ble_eq_true rfl⟩ 22 1 rfl rfl (rfl) hl.1 rfl (Nat.le_of_ble_eq_true rfl) dX1_passDay_111 (fun u H locs hw hP hD hS => ?_)
                obtain ⟨v79, f80⟩ := u
                obtain ⟨kV_v79, kF_f80, hIv79, hk0_v79, hk1_v79, hk7_v79, hk8_v79, hk9_v79, hk10_v79, hk31_v79, hk32_v79⟩ := hw
                have hM_v79 : KV [] v79 v := KV.tr kV_v79 hM_v50 rfl
                have hA_f80 : KF [13, 14, 15] f80 f := KF.tr kF_f80 hA_f50 rfl
                have hP : va_P (dC, dI) vwCl (XW cy x0 x v79 f80) H := hP
                have hD : va_D A (XW cy x0 x v79 f80) := hD
                have hq0_v79 : v79 0 = (v 0) := hk0_v79.trans hq0_v50
                have hq1_v79 : v79 1 = (v 1) := hk1_v79.trans hq1_v50
                have hq7_v79 : v79 7 = (v 7) := hk7_v79.trans hq7_v50
                have hq8_v79 : v79 8 = (v 8) := hk8_v79.trans hq8_v50
                have hq9_v79 : v79 9 = (v 9) := hk9_v79.trans hq9_v50
                have hq10_v79 : v79 10 = (v 10) := hk10_v79.trans hq10_v50
                have hq31_v79 : v79 31 = (v 31) := hk31_v79.trans hq31_v50
                have hq32_v79 : v79 32 = (v 32) := hk32_v79.trans hq32_v50
                obtain ⟨t81, et81⟩ : ∃ y : Int32, y = l3_50 + 1 := ⟨_, rfl⟩
                have zt81 : t81.toInt = l3_50.toInt + 1 := by rw [et81]; exact add_i rfl (by decide) (by omega) (by omega)
                refine lv_iinc (v := t81) (lv' := [(3, .int t81), (2, .int 1), (0, .ref (x 21)), (1, .int p1)]) hx hb dX1_passDay_114 hl (k := 0) rfl (by rw [et81]; rfl) (by decide) rfl (fun ls hl => ?_)
                refine lv_goto (tgt := 93) hx hb dX1_passDay_117 rfl ?_
                have rg82 := fb_rng t81
                exact ih50 t81 v79 f80 hIv79 hq0_v79 hq1_v79 hq7_v79 hq8_v79 hq9_v79 hq10_v79 hq31_v79 hq32_v79 ⟨show (0 : Int) ≤ t81.toInt by omega, show t81.toInt ≤ (2147483647 : Int) by omega⟩ hM_v79 hA_f80 (by show (2147483647 - t81.toInt).toNat < n50; omega) _ _ _ hP hD hS (lv_sub hl [0, 1, 2, 3] rfl)
          exact lp50 _ 0 v1 f9 hIv1 hq0_v1 hq1_v1 hq7_v1 hq8_v1 hq9_v1 hq10_v1 hq31_v1 hq32_v1 ⟨by decide, by decide⟩ hM_v1 hA_f9 (Nat.lt_succ_self _) _ _ _ hP hD hS (lv_sub hl [0, 1, 2, 3] rfl)
      · skip
        have zc2 : ¬ ((v 31).toInt ≤ l2_1.toInt) := by rw [fa_le] at c2; exact c2
        have rg83 := fb_rng l2_1
        have rg84 := fb_rng (v 31)
        refine lv_aload_n hx hb dX1_passDay_13 rfl (lv_at hl 1 rfl) ?_
        refine va_get (D := (dC, dI)) (ci := 1) (v := .ref (x 22)) (C := RX1) (T := TX1) (N := 2) hx hb hts inB_1 hown hE.1 hP 22 rfl rfl 1 (Nat.le_of_ble_eq_true rfl) (hts _ k_319) (fun _ h9 => h9) rfl dX1_passDay_14 ?_
        refine lv_iload_n hx hb dX1_passDay_17 rfl (lv_at hl 0 rfl) ?_
        refine lv_bipush (v := 99) hx hb dX1_passDay_18 rfl ?_
        refine lv_aload_n hx hb dX1_passDay_20 rfl (lv_at hl 1 rfl) ?_
        refine va_get (D := (dC, dI)) (ci := 1) (v := .ref (x 22)) (C := RX1) (T := TX1) (N := 2) hx hb hts inB_1 hown hE.1 hP 22 rfl rfl 1 (Nat.le_of_ble_eq_true rfl) (hts _ k_319) (fun _ h9 => h9) rfl dX1_passDay_21 ?_
        refine lv_iload_n hx hb dX1_passDay_24 rfl (lv_at hl 0 rfl) ?_
        refine ldI hx hb hE hP 23 rfl (vp_in_iff.mpr ⟨by omega, by omega⟩) rfl rfl dX1_passDay_25 ?_
        refine lv_topi (fun t85 et85 => ?_)
        refine lv_aload_n hx hb dX1_passDay_26 rfl (lv_at hl 1 rfl) ?_
        refine va_get (D := (dC, dI)) (ci := 1) (v := .ref (x 26)) (C := RX1) (T := TX1) (N := 2) hx hb hts inB_1 hown hE.1 hP 22 rfl rfl 0 (Nat.le_of_ble_eq_true rfl) (hts _ k_318) (fun _ h9 => h9) rfl dX1_passDay_27 ?_
        refine lv_iconst (v := 2) hx hb dX1_passDay_30 rfl ?_
        refine lv_iload_n hx hb dX1_passDay_31 rfl (lv_at hl 0 rfl) ?_
        refine cbVi (n := 2) (rest := [.int t85, .int 99, .int l2_1, .ref (x 22)]) hx hb hml hown hts hE hP hD hS hA (sX_X7_manPart_1 0 l dC dI cy x0 x 2 l2_1 v1 f1 hIv1 ) k_302 k_303 k_304 k_104 k_305 (by decide +kernel) ⟨Nat.le_of_ble_eq_true rfl, Nat.le_of_ble_eq_true rfl⟩ 27 7 rfl rfl (rfl) hl.1 rfl (Nat.le_of_ble_eq_true rfl) dX1_passDay_32 (fun r86 u H locs hw hP hD hS => ?_)
        have hG87 := hw
        refine lv_iadd hx hb dX1_passDay_35 ?_
        refine lv_topi (fun t88 et88 => ?_)
        refine va_mmin hx hb (by rw [hml]; exact hl.1.symm) hown (hts _ k_869) (hts _ k_643) (hts _ k_119) (hts _ k_644) (Nat.le_of_ble_eq_true rfl) (Nat.le_of_ble_eq_true rfl) (Nat.le_of_ble_eq_true rfl) (Nat.le_of_ble_eq_true rfl) dX1_passDay_36 ?_
        refine lv_topi (fun t89 et89 => ?_)
        have zt89 : t89.toInt = min (99) (t88.toInt) := by rw [et89]; exact mmin_i (by decide) rfl
        refine stI hx hb hE hP hD hS 23 rfl (vp_in_iff.mpr ⟨by omega, by omega⟩) rfl dX1_passDay_39 (fun H locs hP hD hS => ?_)
        obtain ⟨f90, ef90, hP, hD⟩ : ∃ fz9, fz9 = upd2 f1 15 (upd (f1 15) l2_1.toNatClampNeg t89) ∧ va_P (dC, dI) vwCl (XW cy x0 x v1 fz9) H ∧ va_D A (XW cy x0 x v1 fz9) := ⟨_, rfl, hP, hD⟩
        have hA_f90 : KF [13, 14, 15] f90 f := by rw [ef90]; exact KF.up hA_f1 rfl
        obtain ⟨t91, et91⟩ : ∃ y : Int32, y = l2_1 + 1 := ⟨_, rfl⟩
        have zt91 : t91.toInt = l2_1.toInt + 1 := by rw [et91]; exact add_i rfl (by decide) (by omega) (by omega)
        refine lv_iinc (v := t91) (lv' := [(2, .int t91), (0, .ref (x 21)), (1, .int p1)]) hx hb dX1_passDay_40 hl (k := 0) rfl (by rw [et91]; rfl) (by decide) rfl (fun ls hl => ?_)
        refine lv_goto (tgt := 2) hx hb dX1_passDay_43 rfl ?_
        have rg92 := fb_rng t91
        exact ih1 t91 v1 f90 hIv1 hq0_v1 hq1_v1 hq7_v1 hq8_v1 hq9_v1 hq10_v1 hq31_v1 hq32_v1 ⟨show (0 : Int) ≤ t91.toInt by omega, show t91.toInt ≤ (2147483647 : Int) by omega⟩ hM_v1 hA_f90 (by show (2147483647 - t91.toInt).toNat < n1; omega) _ _ _ hP hD hS (lv_sub hl [0, 1, 2] rfl)
  exact lp1 _ 0 v f hIv rfl rfl rfl rfl rfl rfl rfl rfl ⟨by decide, by decide⟩ hM_v hA_f (Nat.lt_succ_self _) _ _ _ hP hD hS (lv_sub hl [0, 1, 2] rfl)
set_option maxHeartbeats 4000000 in
set_option maxRecDepth 100000 in
theorem sX_X5_keepAct_1 (l : Launch) (dC : Nat → ClassId) (dI : Nat → Nat → Nat) (cy : Nat → ClassId) (x0 : Nat) (x : Nat → Nat)  (v : Nat → Int32) (f : Nat → Nat → Int32) (hIv : XI v)  : ctV l (dC, dI) cy yX5_keepAct cX5_keepAct 1 2 122 0 0 ((Nat → Int32) × (Nat → Nat → Int32)) [.ref (x 20)] (XW cy x0 x v f) (fun u => KV [21, 22, 23] u.1 v ∧ KF [17] u.2 f ∧ XI u.1 ∧ u.1 0 = v 0 ∧ u.1 1 = v 1 ∧ u.1 7 = v 7 ∧ u.1 8 = v 8 ∧ u.1 9 = v 9 ∧ u.1 10 = v 10 ∧ u.1 31 = v 31 ∧ u.1 32 = v 32) (fun u => XW cy x0 x u.1 u.2) := by
  refine ctV_of (by decide) (Nat.le_of_ble_eq_true rfl) (fun p e s m below meth c A ls Q hx hb hml hts hown hnm hE hP hD hA hl ret => ?_)
  have hM_v : KV [21, 22, 23] v v := fun _ _ => rfl
  have hA_f : KF [17] f f := fun _ _ => rfl
  have hown : s.vm.findClass RX5 = some m.cls := hown
  have hS : va_S A s.heap s.heap [] := va_S.rf
  have hl : lv_has ls 1 [(0, .ref (x 20))] := hl
  refine lv_aload_n hx hb dX5_keepAct_0 rfl (lv_at hl 0 rfl) ?_
  refine lv_iconst (v := 0) hx hb dX5_keepAct_1 rfl ?_
  refine va_put (D := (dC, dI)) (ci := 5) (v := .int 0) (ty := tyX5 6) (C := RX5) (T := TX5) (N := 7) hx hb hts inB_5 tyX5 tyX5_ok nmX5 hown hE.1 hP hD hS 21 rfl rfl 6 (Nat.le_of_ble_eq_true rfl) (hts _ k_345) (fun _ h9 => h9) rfl (tyX5_ok 6 (by decide)) rfl rfl (Nat.le_of_ble_eq_true rfl) dX5_keepAct_2 (fun H locs hP hD hS => ?_)
  have hP : va_P (dC, dI) vwCl (XW cy x0 x (upd v 23 0) f) H := hP
  have hD : va_D A (XW cy x0 x (upd v 23 0) f) := hD
  refine lv_aload_n hx hb dX5_keepAct_5 rfl (lv_at hl 0 rfl) ?_
  refine va_get (D := (dC, dI)) (ci := 5) (v := .int (v 22)) (C := RX5) (T := TX5) (N := 7) hx hb hts inB_5 hown hE.1 hP 21 rfl rfl 5 (Nat.le_of_ble_eq_true rfl) (hts _ k_343) (fun _ h9 => h9) rfl dX5_keepAct_6 ?_
  refine lv_bipush (v := 40) hx hb dX5_keepAct_9 rfl ?_
  refine lv_icmp_ge (tgt := 27) hx hb dX5_keepAct_11 rfl (fun c1 => ?_) (fun c1 => ?_)
  · skip
    have zc1 : 40 ≤ (v 22).toInt := by rw [fa_le, show (40 : Int32).toInt = 40 from by decide] at c1; exact c1
    refine lv_aload_n hx hb dX5_keepAct_27 rfl (lv_at hl 0 rfl) ?_
    refine lv_aload_n hx hb dX5_keepAct_28 rfl (lv_at hl 0 rfl) ?_
    refine va_get (D := (dC, dI)) (ci := 5) (v := .int (v 21)) (C := RX5) (T := TX5) (N := 7) hx hb hts inB_5 hown hE.1 hP 21 rfl rfl 4 (Nat.le_of_ble_eq_true rfl) (hts _ k_342) (fun _ h9 => h9) rfl dX5_keepAct_29 ?_
    refine lv_iconst (v := 1) hx hb dX5_keepAct_32 rfl ?_
    refine lv_iadd hx hb dX5_keepAct_33 ?_
    refine lv_topi (fun t2 et2 => ?_)
    refine lv_bipush (v := 41) hx hb dX5_keepAct_34 rfl ?_
    refine lv_irem hx hb dX5_keepAct_36 (by decide) ?_
    refine lv_topi (fun t3 et3 => ?_)
    refine va_put (D := (dC, dI)) (ci := 5) (v := .int t3) (ty := tyX5 4) (C := RX5) (T := TX5) (N := 7) hx hb hts inB_5 tyX5 tyX5_ok nmX5 hown hE.1 hP hD hS 21 rfl rfl 4 (Nat.le_of_ble_eq_true rfl) (hts _ k_342) (fun _ h9 => h9) rfl (tyX5_ok 4 (by decide)) rfl rfl (Nat.le_of_ble_eq_true rfl) dX5_keepAct_37 (fun H locs hP hD hS => ?_)
    have hP : va_P (dC, dI) vwCl (XW cy x0 x (upd (upd v 23 0) 21 t3) f) H := hP
    have hD : va_D A (XW cy x0 x (upd (upd v 23 0) 21 t3) f) := hD
    refine lv_aload_n hx hb dX5_keepAct_40 rfl (lv_at hl 0 rfl) ?_
    refine va_get (D := (dC, dI)) (ci := 5) (v := .ref (x 21)) (C := RX5) (T := TX5) (N := 7) hx hb hts inB_5 hown hE.1 hP 21 rfl rfl 0 (Nat.le_of_ble_eq_true rfl) (hts _ k_338) (fun _ h9 => h9) rfl dX5_keepAct_41 ?_
    refine lv_aload_n hx hb dX5_keepAct_44 rfl (lv_at hl 0 rfl) ?_
    refine va_get (D := (dC, dI)) (ci := 5) (v := .ref (x 24)) (C := RX5) (T := TX5) (N := 7) hx hb hts inB_5 hown hE.1 hP 21 rfl rfl 1 (Nat.le_of_ble_eq_true rfl) (hts _ k_339) (fun _ h9 => h9) rfl dX5_keepAct_45 ?_
    refine lv_aload_n hx hb dX5_keepAct_48 rfl (lv_at hl 0 rfl) ?_
    refine va_get (D := (dC, dI)) (ci := 5) (v := .int t3) (C := RX5) (T := TX5) (N := 7) hx hb hts inB_5 hown hE.1 hP 21 rfl rfl 4 (Nat.le_of_ble_eq_true rfl) (hts _ k_342) (fun _ h9 => h9) rfl dX5_keepAct_49 ?_
    refine lv_aload_n hx hb dX5_keepAct_52 rfl (lv_at hl 0 rfl) ?_
    refine va_get (D := (dC, dI)) (ci := 5) (v := .int (v 22)) (C := RX5) (T := TX5) (N := 7) hx hb hts inB_5 hown hE.1 hP 21 rfl rfl 5 (Nat.le_of_ble_eq_true rfl) (hts _ k_343) (fun _ h9 => h9) rfl dX5_keepAct_53 ?_
    refine lv_iadd hx hb dX5_keepAct_56 ?_
    refine lv_topi (fun t4 et4 => ?_)
    refine lv_bipush (v := 41) hx hb dX5_keepAct_57 rfl ?_
    refine lv_irem hx hb dX5_keepAct_59 (by decide) ?_
    refine lv_topi (fun t5 et5 => ?_)
    refine cbVv (n := 2) (rest := []) hx hb hml hown hts hE hP hD hS hA (sX_X1_saveTo_1 0 l dC dI cy x0 x t5 (upd (upd v 23 0) 21 t3) f (XI.upd (j := 21) (x := t3) (XI.upd (j := 23) (x := 0) hIv (rlo _) (rhi _)) (rlo _) (rhi _)) ) k_331 k_332 k_333 k_106 k_334 (by decide +kernel) ⟨Nat.le_of_ble_eq_true rfl, Nat.le_of_ble_eq_true rfl⟩ 22 1 rfl rfl (rfl) hl.1 rfl (Nat.le_of_ble_eq_true rfl) dX5_keepAct_60 (fun u H locs hw hP hD hS => ?_)
    obtain ⟨hG6, hw⟩ := hw
    obtain ⟨v7, f8⟩ := u
    obtain ⟨kV_v7, kF_f8, hIv7, hk0_v7, hk1_v7, hk7_v7, hk8_v7, hk9_v7, hk10_v7, hk31_v7, hk32_v7⟩ := hw
    have hM_v7 : KV [21, 22, 23] v7 v := KV.tr kV_v7 (KV.up (j := 21) (x := t3) (KV.up (j := 23) (x := 0) hM_v rfl) rfl) rfl
    have hA_f8 : KF [17] f8 f := KF.tr kF_f8 hA_f rfl
    have hP : va_P (dC, dI) vwCl (XW cy x0 x v7 f8) H := hP
    have hD : va_D A (XW cy x0 x v7 f8) := hD
    have hq0_v7 : v7 0 = (v 0) := hk0_v7
    have hq1_v7 : v7 1 = (v 1) := hk1_v7
    have hq7_v7 : v7 7 = (v 7) := hk7_v7
    have hq8_v7 : v7 8 = (v 8) := hk8_v7
    have hq9_v7 : v7 9 = (v 9) := hk9_v7
    have hq10_v7 : v7 10 = (v 10) := hk10_v7
    have hq31_v7 : v7 31 = (v 31) := hk31_v7
    have hq32_v7 : v7 32 = (v 32) := hk32_v7
    exact ret (v7, f8) _ _ _ _ _ _ ⟨hM_v7, hA_f8, hIv7, hk0_v7, hk1_v7, hk7_v7, hk8_v7, hk9_v7, hk10_v7, hk31_v7, hk32_v7⟩ hP hD hS dX5_keepAct_63 (Nat.le_refl _) (Nat.le_refl _)
  · skip
    have zc1 : ¬ (40 ≤ (v 22).toInt) := by rw [fa_le, show (40 : Int32).toInt = 40 from by decide] at c1; exact c1
    refine lv_aload_n hx hb dX5_keepAct_14 rfl (lv_at hl 0 rfl) ?_
    refine lv_dup hx hb dX5_keepAct_15 rfl ?_
    refine va_get (D := (dC, dI)) (ci := 5) (v := .int (v 22)) (C := RX5) (T := TX5) (N := 7) hx hb hts inB_5 hown hE.1 hP 21 rfl rfl 5 (Nat.le_of_ble_eq_true rfl) (hts _ k_343) (fun _ h9 => h9) rfl dX5_keepAct_16 ?_
    refine lv_iconst (v := 1) hx hb dX5_keepAct_19 rfl ?_
    refine lv_iadd hx hb dX5_keepAct_20 ?_
    refine lv_topi (fun t9 et9 => ?_)
    have rg10 := fb_rng (v 22)
    have zt9 : t9.toInt = (v 22).toInt + 1 := by rw [et9]; exact add_i rfl (by decide) (by omega) (by omega)
    refine va_put (D := (dC, dI)) (ci := 5) (v := .int t9) (ty := tyX5 5) (C := RX5) (T := TX5) (N := 7) hx hb hts inB_5 tyX5 tyX5_ok nmX5 hown hE.1 hP hD hS 21 rfl rfl 5 (Nat.le_of_ble_eq_true rfl) (hts _ k_343) (fun _ h9 => h9) rfl (tyX5_ok 5 (by decide)) rfl rfl (Nat.le_of_ble_eq_true rfl) dX5_keepAct_21 (fun H locs hP hD hS => ?_)
    have hP : va_P (dC, dI) vwCl (XW cy x0 x (upd (upd v 23 0) 22 t9) f) H := hP
    have hD : va_D A (XW cy x0 x (upd (upd v 23 0) 22 t9) f) := hD
    refine lv_goto (tgt := 40) hx hb dX5_keepAct_24 rfl ?_
    refine lv_aload_n hx hb dX5_keepAct_40 rfl (lv_at hl 0 rfl) ?_
    refine va_get (D := (dC, dI)) (ci := 5) (v := .ref (x 21)) (C := RX5) (T := TX5) (N := 7) hx hb hts inB_5 hown hE.1 hP 21 rfl rfl 0 (Nat.le_of_ble_eq_true rfl) (hts _ k_338) (fun _ h9 => h9) rfl dX5_keepAct_41 ?_
    refine lv_aload_n hx hb dX5_keepAct_44 rfl (lv_at hl 0 rfl) ?_
    refine va_get (D := (dC, dI)) (ci := 5) (v := .ref (x 24)) (C := RX5) (T := TX5) (N := 7) hx hb hts inB_5 hown hE.1 hP 21 rfl rfl 1 (Nat.le_of_ble_eq_true rfl) (hts _ k_339) (fun _ h9 => h9) rfl dX5_keepAct_45 ?_
    refine lv_aload_n hx hb dX5_keepAct_48 rfl (lv_at hl 0 rfl) ?_
    refine va_get (D := (dC, dI)) (ci := 5) (v := .int (v 21)) (C := RX5) (T := TX5) (N := 7) hx hb hts inB_5 hown hE.1 hP 21 rfl rfl 4 (Nat.le_of_ble_eq_true rfl) (hts _ k_342) (fun _ h9 => h9) rfl dX5_keepAct_49 ?_
    refine lv_aload_n hx hb dX5_keepAct_52 rfl (lv_at hl 0 rfl) ?_
    refine va_get (D := (dC, dI)) (ci := 5) (v := .int t9) (C := RX5) (T := TX5) (N := 7) hx hb hts inB_5 hown hE.1 hP 21 rfl rfl 5 (Nat.le_of_ble_eq_true rfl) (hts _ k_343) (fun _ h9 => h9) rfl dX5_keepAct_53 ?_
    refine lv_iadd hx hb dX5_keepAct_56 ?_
    refine lv_topi (fun t11 et11 => ?_)
    refine lv_bipush (v := 41) hx hb dX5_keepAct_57 rfl ?_
    refine lv_irem hx hb dX5_keepAct_59 (by decide) ?_
    refine lv_topi (fun t12 et12 => ?_)
    refine cbVv (n := 2) (rest := []) hx hb hml hown hts hE hP hD hS hA (sX_X1_saveTo_1 0 l dC dI cy x0 x t12 (upd (upd v 23 0) 22 t9) f (XI.upd (j := 22) (x := t9) (XI.upd (j := 23) (x := 0) hIv (rlo _) (rhi _)) (rlo _) (rhi _)) ) k_331 k_332 k_333 k_106 k_334 (by decide +kernel) ⟨Nat.le_of_ble_eq_true rfl, Nat.le_of_ble_eq_true rfl⟩ 22 1 rfl rfl (rfl) hl.1 rfl (Nat.le_of_ble_eq_true rfl) dX5_keepAct_60 (fun u H locs hw hP hD hS => ?_)
    obtain ⟨hG13, hw⟩ := hw
    obtain ⟨v14, f15⟩ := u
    obtain ⟨kV_v14, kF_f15, hIv14, hk0_v14, hk1_v14, hk7_v14, hk8_v14, hk9_v14, hk10_v14, hk31_v14, hk32_v14⟩ := hw
    have hM_v14 : KV [21, 22, 23] v14 v := KV.tr kV_v14 (KV.up (j := 22) (x := t9) (KV.up (j := 23) (x := 0) hM_v rfl) rfl) rfl
    have hA_f15 : KF [17] f15 f := KF.tr kF_f15 hA_f rfl
    have hP : va_P (dC, dI) vwCl (XW cy x0 x v14 f15) H := hP
    have hD : va_D A (XW cy x0 x v14 f15) := hD
    have hq0_v14 : v14 0 = (v 0) := hk0_v14
    have hq1_v14 : v14 1 = (v 1) := hk1_v14
    have hq7_v14 : v14 7 = (v 7) := hk7_v14
    have hq8_v14 : v14 8 = (v 8) := hk8_v14
    have hq9_v14 : v14 9 = (v 9) := hk9_v14
    have hq10_v14 : v14 10 = (v 10) := hk10_v14
    have hq31_v14 : v14 31 = (v 31) := hk31_v14
    have hq32_v14 : v14 32 = (v 32) := hk32_v14
    exact ret (v14, f15) _ _ _ _ _ _ ⟨hM_v14, hA_f15, hIv14, hk0_v14, hk1_v14, hk7_v14, hk8_v14, hk9_v14, hk10_v14, hk31_v14, hk32_v14⟩ hP hD hS dX5_keepAct_63 (Nat.le_refl _) (Nat.le_refl _)
set_option maxHeartbeats 4000000 in
set_option maxRecDepth 100000 in
theorem sX_X10_day_1 (l : Launch) (dC : Nat → ClassId) (dI : Nat → Nat → Nat) (cy : Nat → ClassId) (x0 : Nat) (x : Nat → Nat)  (v : Nat → Int32) (f : Nat → Nat → Int32) (hIv : XI v)  : ctI l (dC, dI) cy yX10_day cX10_day 2 .int 6 179 0 0 ((Nat → Int32) × (Nat → Nat → Int32)) [.ref x0] (XW cy x0 x v f) (fun r u => KV [21, 22, 23] u.1 v ∧ KF [13, 14, 15, 17] u.2 f ∧ XI u.1 ∧ u.1 0 = v 0 ∧ u.1 1 = v 1 ∧ u.1 7 = v 7 ∧ u.1 8 = v 8 ∧ u.1 9 = v 9 ∧ u.1 10 = v 10 ∧ u.1 31 = v 31 ∧ u.1 32 = v 32) (fun u => XW cy x0 x u.1 u.2) := by
  refine ctI_of (by decide) (Nat.le_of_ble_eq_true rfl) (fun p e s m below meth c A ls Q hx hb hml hts hown hE hP hD hA hl ret => ?_)
  have hM_v : KV [21, 22, 23] v v := fun _ _ => rfl
  have hA_f : KF [13, 14, 15, 17] f f := fun _ _ => rfl
  have hown : s.vm.findClass RX10 = some m.cls := hown
  have hS : va_S A s.heap s.heap [] := va_S.rf
  have hl : lv_has ls 2 [(0, .ref x0)] := hl
  refine lv_aload_n hx hb dX10_day_0 rfl (lv_at hl 0 rfl) ?_
  refine va_get (D := (dC, dI)) (ci := 10) (v := .ref (x 21)) (C := RX10) (T := TX10) (N := 10) hx hb hts inB_10 hown hE.1 hP 0 rfl rfl 3 (Nat.le_of_ble_eq_true rfl) (hts _ k_494) (fun _ h9 => h9) rfl dX10_day_1 ?_
  refine cbVi (n := 0) (rest := []) hx hb hml hown hts hE hP hD hS hA (sX_X1_today_1 l dC dI cy x0 x  v f hIv ) k_864 k_832 k_833 k_106 k_834 (by decide +kernel) ⟨Nat.le_of_ble_eq_true rfl, Nat.le_of_ble_eq_true rfl⟩ 22 1 rfl rfl (rfl) hl.1 rfl (Nat.le_of_ble_eq_true rfl) dX10_day_4 (fun r1 u H locs hw hP hD hS => ?_)
  refine lv_sipush (v := 999) hx hb dX10_day_7 rfl ?_
  refine lv_icmp_lt (tgt := 15) hx hb dX10_day_10 rfl (fun c2 => ?_) (fun c2 => ?_)
  · skip
    have zc2 : r1.toInt < 999 := by rw [fa_lt, show (999 : Int32).toInt = 999 from by decide] at c2; exact c2
    refine lv_aload_n hx hb dX10_day_15 rfl (lv_at hl 0 rfl) ?_
    refine va_get (D := (dC, dI)) (ci := 10) (v := .ref (x 21)) (C := RX10) (T := TX10) (N := 10) hx hb hts inB_10 hown hE.1 hP 0 rfl rfl 3 (Nat.le_of_ble_eq_true rfl) (hts _ k_494) (fun _ h9 => h9) rfl dX10_day_16 ?_
    refine lv_aload_n hx hb dX10_day_19 rfl (lv_at hl 0 rfl) ?_
    refine va_get (D := (dC, dI)) (ci := 10) (v := .ref (x 26)) (C := RX10) (T := TX10) (N := 10) hx hb hts inB_10 hown hE.1 hP 0 rfl rfl 2 (Nat.le_of_ble_eq_true rfl) (hts _ k_493) (fun _ h9 => h9) rfl dX10_day_20 ?_
    refine va_getN (D := (dC, dI)) (ci := 7) (v := .int (v 36)) (C := RX7) (T := TX7) (N := 10) hx hb hts inB_7 hown hE.1 hP 27 rfl rfl 8 (Nat.le_of_ble_eq_true rfl) (va_Nw.use rfl (hE.2 _ k_241)) (fun _ h9 => h9) rfl dX10_day_23 ?_
    refine cbVi (n := 1) (rest := []) hx hb hml hown hts hE hP hD hS hA (sX_X1_passDay_1 l dC dI cy x0 x (v 36) v f hIv ) k_865 k_866 k_867 k_106 k_868 (by decide +kernel) ⟨Nat.le_of_ble_eq_true rfl, Nat.le_of_ble_eq_true rfl⟩ 22 1 rfl rfl (rfl) hl.1 rfl (Nat.le_of_ble_eq_true rfl) dX10_day_26 (fun r3 u H locs hw hP hD hS => ?_)
    obtain ⟨v4, f5⟩ := u
    obtain ⟨kV_v4, kF_f5, hIv4, hk0_v4, hk1_v4, hk7_v4, hk8_v4, hk9_v4, hk10_v4, hk31_v4, hk32_v4⟩ := hw
    have hM_v4 : KV [21, 22, 23] v4 v := KV.tr kV_v4 hM_v rfl
    have hA_f5 : KF [13, 14, 15, 17] f5 f := KF.tr kF_f5 hA_f rfl
    have hP : va_P (dC, dI) vwCl (XW cy x0 x v4 f5) H := hP
    have hD : va_D A (XW cy x0 x v4 f5) := hD
    have hq0_v4 : v4 0 = (v 0) := hk0_v4
    have hq1_v4 : v4 1 = (v 1) := hk1_v4
    have hq7_v4 : v4 7 = (v 7) := hk7_v4
    have hq8_v4 : v4 8 = (v 8) := hk8_v4
    have hq9_v4 : v4 9 = (v 9) := hk9_v4
    have hq10_v4 : v4 10 = (v 10) := hk10_v4
    have hq31_v4 : v4 31 = (v 31) := hk31_v4
    have hq32_v4 : v4 32 = (v 32) := hk32_v4
    refine lv_istore_n (lv' := [(1, .int r3), (0, .ref x0)]) hx hb dX10_day_29 rfl hl (Nat.le_of_ble_eq_true rfl) rfl (fun ls hl => ?_)
    refine lv_aload_n hx hb dX10_day_30 rfl (lv_at hl 1 rfl) ?_
    refine va_get (D := (dC, dI)) (ci := 10) (v := .ref (x 20)) (C := RX10) (T := TX10) (N := 10) hx hb hts inB_10 hown hE.1 hP 0 rfl rfl 4 (Nat.le_of_ble_eq_true rfl) (hts _ k_495) (fun _ h9 => h9) rfl dX10_day_31 ?_
    refine cbVv (n := 0) (rest := []) hx hb hml hown hts hE hP hD hS hA (sX_X5_keepAct_1 l dC dI cy x0 x  v4 f5 hIv4 ) k_883 k_884 k_885 k_107 k_886 (by decide +kernel) ⟨Nat.le_of_ble_eq_true rfl, Nat.le_of_ble_eq_true rfl⟩ 21 5 rfl rfl (rfl) hl.1 rfl (Nat.le_of_ble_eq_true rfl) dX10_day_34 (fun u H locs hw hP hD hS => ?_)
    obtain ⟨v6, f7⟩ := u
    obtain ⟨kV_v6, kF_f7, hIv6, hk0_v6, hk1_v6, hk7_v6, hk8_v6, hk9_v6, hk10_v6, hk31_v6, hk32_v6⟩ := hw
    have hM_v6 : KV [21, 22, 23] v6 v := KV.tr kV_v6 hM_v4 rfl
    have hA_f7 : KF [13, 14, 15, 17] f7 f := KF.tr kF_f7 hA_f5 rfl
    have hP : va_P (dC, dI) vwCl (XW cy x0 x v6 f7) H := hP
    have hD : va_D A (XW cy x0 x v6 f7) := hD
    have hq0_v6 : v6 0 = (v 0) := hk0_v6.trans hq0_v4
    have hq1_v6 : v6 1 = (v 1) := hk1_v6.trans hq1_v4
    have hq7_v6 : v6 7 = (v 7) := hk7_v6.trans hq7_v4
    have hq8_v6 : v6 8 = (v 8) := hk8_v6.trans hq8_v4
    have hq9_v6 : v6 9 = (v 9) := hk9_v6.trans hq9_v4
    have hq10_v6 : v6 10 = (v 10) := hk10_v6.trans hq10_v4
    have hq31_v6 : v6 31 = (v 31) := hk31_v6.trans hq31_v4
    have hq32_v6 : v6 32 = (v 32) := hk32_v6.trans hq32_v4
    refine lv_iload_n hx hb dX10_day_37 rfl (lv_at hl 0 rfl) ?_
    exact ret r3 (v6, f7) _ _ _ _ _ _ rfl ⟨hM_v6, hA_f7, hIv6, (hk0_v6.trans hk0_v4), (hk1_v6.trans hk1_v4), (hk7_v6.trans hk7_v4), (hk8_v6.trans hk8_v4), (hk9_v6.trans hk9_v4), (hk10_v6.trans hk10_v4), (hk31_v6.trans hk31_v4), (hk32_v6.trans hk32_v4)⟩ hP hD hS dX10_day_38 (Nat.le_refl _) (Nat.le_refl _)
  · skip
    have zc2 : ¬ (r1.toInt < 999) := by rw [fa_lt, show (999 : Int32).toInt = 999 from by decide] at c2; exact c2
    refine lv_iconst (v := (-1)) hx hb dX10_day_13 rfl ?_
    exact ret (-1) (v, f) _ _ _ _ _ _ rfl ⟨hM_v, hA_f, hIv, rfl, rfl, rfl, rfl, rfl, rfl, rfl, rfl⟩ hP hD hS dX10_day_14 (Nat.le_refl _) (Nat.le_refl _)
set_option maxHeartbeats 4000000 in
set_option maxRecDepth 100000 in
theorem sX_X10_don_1 (l : Launch) (dC : Nat → ClassId) (dI : Nat → Nat → Nat) (cy : Nat → ClassId) (x0 : Nat) (x : Nat → Nat) (p1 : Int32) (p2 : Int32) (v : Nat → Int32) (f : Nat → Nat → Int32) (hIv : XI v)  : ctI l (dC, dI) cy yX10_don cX10_don 4 .int 4 142 0 0 ((Nat → Int32) × (Nat → Nat → Int32)) [.ref x0, .int p1, .int p2] (XW cy x0 x v f) (fun r u => KV [21, 22, 23] u.1 v ∧ KF [15, 17] u.2 f ∧ XI u.1 ∧ u.1 0 = v 0 ∧ u.1 1 = v 1 ∧ u.1 7 = v 7 ∧ u.1 8 = v 8 ∧ u.1 9 = v 9 ∧ u.1 10 = v 10 ∧ u.1 31 = v 31 ∧ u.1 32 = v 32) (fun u => XW cy x0 x u.1 u.2) := by
  refine ctI_of (by decide) (Nat.le_of_ble_eq_true rfl) (fun p e s m below meth c A ls Q hx hb hml hts hown hE hP hD hA hl ret => ?_)
  have hM_v : KV [21, 22, 23] v v := fun _ _ => rfl
  have hA_f : KF [15, 17] f f := fun _ _ => rfl
  have hown : s.vm.findClass RX10 = some m.cls := hown
  have hS : va_S A s.heap s.heap [] := va_S.rf
  have hl : lv_has ls 4 [(0, .ref x0), (1, .int p1), (2, .int p2)] := hl
  refine lv_aload_n hx hb dX10_don_0 rfl (lv_at hl 0 rfl) ?_
  refine va_get (D := (dC, dI)) (ci := 10) (v := .ref (x 26)) (C := RX10) (T := TX10) (N := 10) hx hb hts inB_10 hown hE.1 hP 0 rfl rfl 2 (Nat.le_of_ble_eq_true rfl) (hts _ k_493) (fun _ h9 => h9) rfl dX10_don_1 ?_
  refine lv_iload_n hx hb dX10_don_4 rfl (lv_at hl 1 rfl) ?_
  refine cbVi (n := 1) (rest := []) hx hb hml hown hts hE hP hD hS hA (sX_X7_hasMan_1 0 l dC dI cy x0 x p1 v f hIv ) k_802 k_307 k_308 k_104 k_309 (by decide +kernel) ⟨Nat.le_of_ble_eq_true rfl, Nat.le_of_ble_eq_true rfl⟩ 27 7 rfl rfl (rfl) hl.1 rfl (Nat.le_of_ble_eq_true rfl) dX10_don_5 (fun r1 u H locs hw hP hD hS => ?_)
  obtain ⟨hG2, hw⟩ := hw
  rcases hw with ⟨g3, g3_0, g3_1, g3_2⟩ | ⟨g3⟩
  · skip
    subst g3
    refine lv_if_eq (tgt := 34) hx hb dX10_don_8 rfl (fun c0 => absurd c0 (by decide)) (fun _ => ?_)
    refine lv_aload_n hx hb dX10_don_11 rfl (lv_at hl 0 rfl) ?_
    refine va_get (D := (dC, dI)) (ci := 10) (v := .ref (x 26)) (C := RX10) (T := TX10) (N := 10) hx hb hts inB_10 hown hE.1 hP 0 rfl rfl 2 (Nat.le_of_ble_eq_true rfl) (hts _ k_493) (fun _ h9 => h9) rfl dX10_don_12 ?_
    refine lv_iload_n hx hb dX10_don_15 rfl (lv_at hl 2 rfl) ?_
    refine cbVi (n := 1) (rest := []) hx hb hml hown hts hE hP hD hS hA (sX_X7_hasCoat_1 0 l dC dI cy x0 x p2 v f hIv ) k_848 k_315 k_316 k_104 k_317 (by decide +kernel) ⟨Nat.le_of_ble_eq_true rfl, Nat.le_of_ble_eq_true rfl⟩ 27 7 rfl rfl (rfl) hl.1 rfl (Nat.le_of_ble_eq_true rfl) dX10_don_16 (fun r4 u H locs hw hP hD hS => ?_)
    obtain ⟨hG5, hw⟩ := hw
    rcases hw with ⟨g6, g6_0, g6_1, g6_2⟩ | ⟨g6⟩
    · skip
      subst g6
      refine lv_if_eq (tgt := 34) hx hb dX10_don_19 rfl (fun c0 => absurd c0 (by decide)) (fun _ => ?_)
      refine lv_aload_n hx hb dX10_don_22 rfl (lv_at hl 0 rfl) ?_
      refine va_get (D := (dC, dI)) (ci := 10) (v := .ref (x 21)) (C := RX10) (T := TX10) (N := 10) hx hb hts inB_10 hown hE.1 hP 0 rfl rfl 3 (Nat.le_of_ble_eq_true rfl) (hts _ k_494) (fun _ h9 => h9) rfl dX10_don_23 ?_
      refine lv_iload_n hx hb dX10_don_26 rfl (lv_at hl 2 rfl) ?_
      refine cbVi (n := 1) (rest := []) hx hb hml hown hts hE hP hD hS hA (sX_X1_wearer_1 l dC dI cy x0 x p2 v f hIv ) k_849 k_850 k_851 k_106 k_852 (by decide +kernel) ⟨Nat.le_of_ble_eq_true rfl, Nat.le_of_ble_eq_true rfl⟩ 22 1 rfl rfl (rfl) hl.1 rfl (Nat.le_of_ble_eq_true rfl) dX10_don_27 (fun r7 u H locs hw hP hD hS => ?_)
      refine lv_iconst (v := (-1)) hx hb dX10_don_30 rfl ?_
      refine lv_icmp_eq (tgt := 37) hx hb dX10_don_31 rfl (fun c8 => ?_) (fun c8 => ?_)
      · skip
        have zc8 : r7.toInt = (-1) := by rw [fa_eq, show ((-1) : Int32).toInt = -1 from by decide] at c8; exact c8
        refine lv_aload_n hx hb dX10_don_37 rfl (lv_at hl 0 rfl) ?_
        refine va_get (D := (dC, dI)) (ci := 10) (v := .ref (x 21)) (C := RX10) (T := TX10) (N := 10) hx hb hts inB_10 hown hE.1 hP 0 rfl rfl 3 (Nat.le_of_ble_eq_true rfl) (hts _ k_494) (fun _ h9 => h9) rfl dX10_don_38 ?_
        refine lv_iload_n hx hb dX10_don_41 rfl (lv_at hl 1 rfl) ?_
        refine cbVi (n := 1) (rest := []) hx hb hml hown hts hE hP hD hS hA (sX_X1_wears_1 l dC dI cy x0 x p1 v f hIv ) k_809 k_810 k_811 k_106 k_812 (by decide +kernel) ⟨Nat.le_of_ble_eq_true rfl, Nat.le_of_ble_eq_true rfl⟩ 22 1 rfl rfl (rfl) hl.1 rfl (Nat.le_of_ble_eq_true rfl) dX10_don_42 (fun r9 u H locs hw hP hD hS => ?_)
        refine lv_istore_n (lv' := [(3, .int r9), (0, .ref x0), (1, .int p1), (2, .int p2)]) hx hb dX10_don_45 rfl hl (Nat.le_of_ble_eq_true rfl) rfl (fun ls hl => ?_)
        refine lv_aload_n hx hb dX10_don_46 rfl (lv_at hl 1 rfl) ?_
        refine va_get (D := (dC, dI)) (ci := 10) (v := .ref (x 21)) (C := RX10) (T := TX10) (N := 10) hx hb hts inB_10 hown hE.1 hP 0 rfl rfl 3 (Nat.le_of_ble_eq_true rfl) (hts _ k_494) (fun _ h9 => h9) rfl dX10_don_47 ?_
        refine lv_iload_n hx hb dX10_don_50 rfl (lv_at hl 2 rfl) ?_
        refine lv_iload_n hx hb dX10_don_51 rfl (lv_at hl 3 rfl) ?_
        refine cbVv (n := 2) (rest := []) hx hb hml hown hts hE hP hD hS hA (sX_X1_setWears_1 l dC dI cy x0 x p1 p2 v f hIv ) k_891 k_880 k_881 k_106 k_882 (by decide +kernel) ⟨Nat.le_of_ble_eq_true rfl, Nat.le_of_ble_eq_true rfl⟩ 22 1 rfl rfl (rfl) hl.1 rfl (Nat.le_of_ble_eq_true rfl) dX10_don_52 (fun u H locs hw hP hD hS => ?_)
        obtain ⟨v10, f11⟩ := u
        obtain ⟨kV_v10, kF_f11, hIv10, hk0_v10, hk1_v10, hk7_v10, hk8_v10, hk9_v10, hk10_v10, hk31_v10, hk32_v10⟩ := hw
        have hM_v10 : KV [21, 22, 23] v10 v := KV.tr kV_v10 hM_v rfl
        have hA_f11 : KF [15, 17] f11 f := KF.tr kF_f11 hA_f rfl
        have hP : va_P (dC, dI) vwCl (XW cy x0 x v10 f11) H := hP
        have hD : va_D A (XW cy x0 x v10 f11) := hD
        have hq0_v10 : v10 0 = (v 0) := hk0_v10
        have hq1_v10 : v10 1 = (v 1) := hk1_v10
        have hq7_v10 : v10 7 = (v 7) := hk7_v10
        have hq8_v10 : v10 8 = (v 8) := hk8_v10
        have hq9_v10 : v10 9 = (v 9) := hk9_v10
        have hq10_v10 : v10 10 = (v 10) := hk10_v10
        have hq31_v10 : v10 31 = (v 31) := hk31_v10
        have hq32_v10 : v10 32 = (v 32) := hk32_v10
        refine lv_aload_n hx hb dX10_don_55 rfl (lv_at hl 1 rfl) ?_
        refine va_get (D := (dC, dI)) (ci := 10) (v := .ref (x 20)) (C := RX10) (T := TX10) (N := 10) hx hb hts inB_10 hown hE.1 hP 0 rfl rfl 4 (Nat.le_of_ble_eq_true rfl) (hts _ k_495) (fun _ h9 => h9) rfl dX10_don_56 ?_
        refine cbVv (n := 0) (rest := []) hx hb hml hown hts hE hP hD hS hA (sX_X5_keepAct_1 l dC dI cy x0 x  v10 f11 hIv10 ) k_883 k_884 k_885 k_107 k_886 (by decide +kernel) ⟨Nat.le_of_ble_eq_true rfl, Nat.le_of_ble_eq_true rfl⟩ 21 5 rfl rfl (rfl) hl.1 rfl (Nat.le_of_ble_eq_true rfl) dX10_don_59 (fun u H locs hw hP hD hS => ?_)
        obtain ⟨v12, f13⟩ := u
        obtain ⟨kV_v12, kF_f13, hIv12, hk0_v12, hk1_v12, hk7_v12, hk8_v12, hk9_v12, hk10_v12, hk31_v12, hk32_v12⟩ := hw
        have hM_v12 : KV [21, 22, 23] v12 v := KV.tr kV_v12 hM_v10 rfl
        have hA_f13 : KF [15, 17] f13 f := KF.tr kF_f13 hA_f11 rfl
        have hP : va_P (dC, dI) vwCl (XW cy x0 x v12 f13) H := hP
        have hD : va_D A (XW cy x0 x v12 f13) := hD
        have hq0_v12 : v12 0 = (v 0) := hk0_v12.trans hq0_v10
        have hq1_v12 : v12 1 = (v 1) := hk1_v12.trans hq1_v10
        have hq7_v12 : v12 7 = (v 7) := hk7_v12.trans hq7_v10
        have hq8_v12 : v12 8 = (v 8) := hk8_v12.trans hq8_v10
        have hq9_v12 : v12 9 = (v 9) := hk9_v12.trans hq9_v10
        have hq10_v12 : v12 10 = (v 10) := hk10_v12.trans hq10_v10
        have hq31_v12 : v12 31 = (v 31) := hk31_v12.trans hq31_v10
        have hq32_v12 : v12 32 = (v 32) := hk32_v12.trans hq32_v10
        refine lv_iload_n hx hb dX10_don_62 rfl (lv_at hl 0 rfl) ?_
        exact ret r9 (v12, f13) _ _ _ _ _ _ rfl ⟨hM_v12, hA_f13, hIv12, (hk0_v12.trans hk0_v10), (hk1_v12.trans hk1_v10), (hk7_v12.trans hk7_v10), (hk8_v12.trans hk8_v10), (hk9_v12.trans hk9_v10), (hk10_v12.trans hk10_v10), (hk31_v12.trans hk31_v10), (hk32_v12.trans hk32_v10)⟩ hP hD hS dX10_don_63 (Nat.le_refl _) (Nat.le_refl _)
      · skip
        have zc8 : ¬ (r7.toInt = (-1)) := by rw [fa_eq, show ((-1) : Int32).toInt = -1 from by decide] at c8; exact c8
        refine lv_bipush (v := (-2)) hx hb dX10_don_34 rfl ?_
        exact ret (-2) (v, f) _ _ _ _ _ _ rfl ⟨hM_v, hA_f, hIv, rfl, rfl, rfl, rfl, rfl, rfl, rfl, rfl⟩ hP hD hS dX10_don_36 (Nat.le_refl _) (Nat.le_refl _)
    · skip
      subst g6
      refine lv_if_eq (tgt := 34) hx hb dX10_don_19 rfl (fun _ => ?_) (fun c0 => absurd (by decide) c0)
      refine lv_bipush (v := (-2)) hx hb dX10_don_34 rfl ?_
      exact ret (-2) (v, f) _ _ _ _ _ _ rfl ⟨hM_v, hA_f, hIv, rfl, rfl, rfl, rfl, rfl, rfl, rfl, rfl⟩ hP hD hS dX10_don_36 (Nat.le_refl _) (Nat.le_refl _)
  · skip
    subst g3
    refine lv_if_eq (tgt := 34) hx hb dX10_don_8 rfl (fun _ => ?_) (fun c0 => absurd (by decide) c0)
    refine lv_bipush (v := (-2)) hx hb dX10_don_34 rfl ?_
    exact ret (-2) (v, f) _ _ _ _ _ _ rfl ⟨hM_v, hA_f, hIv, rfl, rfl, rfl, rfl, rfl, rfl, rfl, rfl⟩ hP hD hS dX10_don_36 (Nat.le_refl _) (Nat.le_refl _)
set_option maxHeartbeats 4000000 in
set_option maxRecDepth 100000 in
theorem sX_X10_doff_1 (l : Launch) (dC : Nat → ClassId) (dI : Nat → Nat → Nat) (cy : Nat → ClassId) (x0 : Nat) (x : Nat → Nat) (p1 : Int32) (v : Nat → Int32) (f : Nat → Nat → Int32) (hIv : XI v)  : ctI l (dC, dI) cy yX10_doff cX10_doff 3 .int 3 142 0 0 ((Nat → Int32) × (Nat → Nat → Int32)) [.ref x0, .int p1] (XW cy x0 x v f) (fun r u => KV [21, 22, 23] u.1 v ∧ KF [15, 17] u.2 f ∧ XI u.1 ∧ u.1 0 = v 0 ∧ u.1 1 = v 1 ∧ u.1 7 = v 7 ∧ u.1 8 = v 8 ∧ u.1 9 = v 9 ∧ u.1 10 = v 10 ∧ u.1 31 = v 31 ∧ u.1 32 = v 32) (fun u => XW cy x0 x u.1 u.2) := by
  refine ctI_of (by decide) (Nat.le_of_ble_eq_true rfl) (fun p e s m below meth c A ls Q hx hb hml hts hown hE hP hD hA hl ret => ?_)
  have hM_v : KV [21, 22, 23] v v := fun _ _ => rfl
  have hA_f : KF [15, 17] f f := fun _ _ => rfl
  have hown : s.vm.findClass RX10 = some m.cls := hown
  have hS : va_S A s.heap s.heap [] := va_S.rf
  have hl : lv_has ls 3 [(0, .ref x0), (1, .int p1)] := hl
  refine lv_aload_n hx hb dX10_doff_0 rfl (lv_at hl 0 rfl) ?_
  refine va_get (D := (dC, dI)) (ci := 10) (v := .ref (x 21)) (C := RX10) (T := TX10) (N := 10) hx hb hts inB_10 hown hE.1 hP 0 rfl rfl 3 (Nat.le_of_ble_eq_true rfl) (hts _ k_494) (fun _ h9 => h9) rfl dX10_doff_1 ?_
  refine lv_iload_n hx hb dX10_doff_4 rfl (lv_at hl 1 rfl) ?_
  refine cbVi (n := 1) (rest := []) hx hb hml hown hts hE hP hD hS hA (sX_X1_wears_1 l dC dI cy x0 x p1 v f hIv ) k_809 k_810 k_811 k_106 k_812 (by decide +kernel) ⟨Nat.le_of_ble_eq_true rfl, Nat.le_of_ble_eq_true rfl⟩ 22 1 rfl rfl (rfl) hl.1 rfl (Nat.le_of_ble_eq_true rfl) dX10_doff_5 (fun r1 u H locs hw hP hD hS => ?_)
  refine lv_istore_n (lv' := [(2, .int r1), (0, .ref x0), (1, .int p1)]) hx hb dX10_doff_8 rfl hl (Nat.le_of_ble_eq_true rfl) rfl (fun ls hl => ?_)
  refine lv_iload_n hx hb dX10_doff_9 rfl (lv_at hl 0 rfl) ?_
  refine lv_iconst (v := (-1)) hx hb dX10_doff_10 rfl ?_
  refine lv_icmp_ne (tgt := 16) hx hb dX10_doff_11 rfl (fun c2 => ?_) (fun c2 => ?_)
  · skip
    have zc2 : ¬ (r1.toInt = (-1)) := by rw [fa_eq, show ((-1) : Int32).toInt = -1 from by decide] at c2; exact c2
    refine lv_aload_n hx hb dX10_doff_16 rfl (lv_at hl 1 rfl) ?_
    refine va_get (D := (dC, dI)) (ci := 10) (v := .ref (x 21)) (C := RX10) (T := TX10) (N := 10) hx hb hts inB_10 hown hE.1 hP 0 rfl rfl 3 (Nat.le_of_ble_eq_true rfl) (hts _ k_494) (fun _ h9 => h9) rfl dX10_doff_17 ?_
    refine lv_iload_n hx hb dX10_doff_20 rfl (lv_at hl 2 rfl) ?_
    refine lv_iconst (v := (-1)) hx hb dX10_doff_21 rfl ?_
    refine cbVv (n := 2) (rest := []) hx hb hml hown hts hE hP hD hS hA (sX_X1_setWears_1 l dC dI cy x0 x p1 (-1) v f hIv ) k_891 k_880 k_881 k_106 k_882 (by decide +kernel) ⟨Nat.le_of_ble_eq_true rfl, Nat.le_of_ble_eq_true rfl⟩ 22 1 rfl rfl (rfl) hl.1 rfl (Nat.le_of_ble_eq_true rfl) dX10_doff_22 (fun u H locs hw hP hD hS => ?_)
    obtain ⟨v3, f4⟩ := u
    obtain ⟨kV_v3, kF_f4, hIv3, hk0_v3, hk1_v3, hk7_v3, hk8_v3, hk9_v3, hk10_v3, hk31_v3, hk32_v3⟩ := hw
    have hM_v3 : KV [21, 22, 23] v3 v := KV.tr kV_v3 hM_v rfl
    have hA_f4 : KF [15, 17] f4 f := KF.tr kF_f4 hA_f rfl
    have hP : va_P (dC, dI) vwCl (XW cy x0 x v3 f4) H := hP
    have hD : va_D A (XW cy x0 x v3 f4) := hD
    have hq0_v3 : v3 0 = (v 0) := hk0_v3
    have hq1_v3 : v3 1 = (v 1) := hk1_v3
    have hq7_v3 : v3 7 = (v 7) := hk7_v3
    have hq8_v3 : v3 8 = (v 8) := hk8_v3
    have hq9_v3 : v3 9 = (v 9) := hk9_v3
    have hq10_v3 : v3 10 = (v 10) := hk10_v3
    have hq31_v3 : v3 31 = (v 31) := hk31_v3
    have hq32_v3 : v3 32 = (v 32) := hk32_v3
    refine lv_aload_n hx hb dX10_doff_25 rfl (lv_at hl 1 rfl) ?_
    refine va_get (D := (dC, dI)) (ci := 10) (v := .ref (x 20)) (C := RX10) (T := TX10) (N := 10) hx hb hts inB_10 hown hE.1 hP 0 rfl rfl 4 (Nat.le_of_ble_eq_true rfl) (hts _ k_495) (fun _ h9 => h9) rfl dX10_doff_26 ?_
    refine cbVv (n := 0) (rest := []) hx hb hml hown hts hE hP hD hS hA (sX_X5_keepAct_1 l dC dI cy x0 x  v3 f4 hIv3 ) k_883 k_884 k_885 k_107 k_886 (by decide +kernel) ⟨Nat.le_of_ble_eq_true rfl, Nat.le_of_ble_eq_true rfl⟩ 21 5 rfl rfl (rfl) hl.1 rfl (Nat.le_of_ble_eq_true rfl) dX10_doff_29 (fun u H locs hw hP hD hS => ?_)
    obtain ⟨v5, f6⟩ := u
    obtain ⟨kV_v5, kF_f6, hIv5, hk0_v5, hk1_v5, hk7_v5, hk8_v5, hk9_v5, hk10_v5, hk31_v5, hk32_v5⟩ := hw
    have hM_v5 : KV [21, 22, 23] v5 v := KV.tr kV_v5 hM_v3 rfl
    have hA_f6 : KF [15, 17] f6 f := KF.tr kF_f6 hA_f4 rfl
    have hP : va_P (dC, dI) vwCl (XW cy x0 x v5 f6) H := hP
    have hD : va_D A (XW cy x0 x v5 f6) := hD
    have hq0_v5 : v5 0 = (v 0) := hk0_v5.trans hq0_v3
    have hq1_v5 : v5 1 = (v 1) := hk1_v5.trans hq1_v3
    have hq7_v5 : v5 7 = (v 7) := hk7_v5.trans hq7_v3
    have hq8_v5 : v5 8 = (v 8) := hk8_v5.trans hq8_v3
    have hq9_v5 : v5 9 = (v 9) := hk9_v5.trans hq9_v3
    have hq10_v5 : v5 10 = (v 10) := hk10_v5.trans hq10_v3
    have hq31_v5 : v5 31 = (v 31) := hk31_v5.trans hq31_v3
    have hq32_v5 : v5 32 = (v 32) := hk32_v5.trans hq32_v3
    refine lv_iload_n hx hb dX10_doff_32 rfl (lv_at hl 0 rfl) ?_
    exact ret r1 (v5, f6) _ _ _ _ _ _ rfl ⟨hM_v5, hA_f6, hIv5, (hk0_v5.trans hk0_v3), (hk1_v5.trans hk1_v3), (hk7_v5.trans hk7_v3), (hk8_v5.trans hk8_v3), (hk9_v5.trans hk9_v3), (hk10_v5.trans hk10_v3), (hk31_v5.trans hk31_v3), (hk32_v5.trans hk32_v3)⟩ hP hD hS dX10_doff_33 (Nat.le_refl _) (Nat.le_refl _)
  · skip
    have zc2 : r1.toInt = (-1) := by rw [fa_eq, show ((-1) : Int32).toInt = -1 from by decide] at c2; exact c2
    refine lv_iconst (v := (-1)) hx hb dX10_doff_14 rfl ?_
    exact ret (-1) (v, f) _ _ _ _ _ _ rfl ⟨hM_v, hA_f, hIv, rfl, rfl, rfl, rfl, rfl, rfl, rfl, rfl⟩ hP hD hS dX10_doff_15 (Nat.le_refl _) (Nat.le_refl _)
set_option maxHeartbeats 4000000 in
set_option maxRecDepth 100000 in
theorem sX_X10_widen_1 (l : Launch) (dC : Nat → ClassId) (dI : Nat → Nat → Nat) (cy : Nat → ClassId) (x0 : Nat) (x : Nat → Nat) (p1 : Int32) (p2 : Int32) (v : Nat → Int32) (f : Nat → Nat → Int32) (hIv : XI v)  : ctI l (dC, dI) cy yX10_widen cX10_widen 5 .int 3 142 0 0 ((Nat → Int32) × (Nat → Nat → Int32)) [.ref x0, .int p1, .int p2] (XW cy x0 x v f) (fun r u => KV [21, 22, 23] u.1 v ∧ KF [15, 17] u.2 f ∧ XI u.1 ∧ u.1 0 = v 0 ∧ u.1 1 = v 1 ∧ u.1 7 = v 7 ∧ u.1 8 = v 8 ∧ u.1 9 = v 9 ∧ u.1 10 = v 10 ∧ u.1 31 = v 31 ∧ u.1 32 = v 32) (fun u => XW cy x0 x u.1 u.2) := by
  refine ctI_of (by decide) (Nat.le_of_ble_eq_true rfl) (fun p e s m below meth c A ls Q hx hb hml hts hown hE hP hD hA hl ret => ?_)
  have hM_v : KV [21, 22, 23] v v := fun _ _ => rfl
  have hA_f : KF [15, 17] f f := fun _ _ => rfl
  have hown : s.vm.findClass RX10 = some m.cls := hown
  have hS : va_S A s.heap s.heap [] := va_S.rf
  have hl : lv_has ls 5 [(0, .ref x0), (1, .int p1), (2, .int p2)] := hl
  refine lv_aload_n hx hb dX10_widen_0 rfl (lv_at hl 0 rfl) ?_
  refine va_get (D := (dC, dI)) (ci := 10) (v := .ref (x 21)) (C := RX10) (T := TX10) (N := 10) hx hb hts inB_10 hown hE.1 hP 0 rfl rfl 3 (Nat.le_of_ble_eq_true rfl) (hts _ k_494) (fun _ h9 => h9) rfl dX10_widen_1 ?_
  refine lv_iconst (v := 1) hx hb dX10_widen_4 rfl ?_
  refine lv_iload_n hx hb dX10_widen_5 rfl (lv_at hl 1 rfl) ?_
  refine cbVi (n := 2) (rest := []) hx hb hml hown hts hE hP hD hS hA (sX_X1_part_1 l dC dI cy x0 x 1 p1 v f hIv ) k_854 k_828 k_829 k_106 k_830 (by decide +kernel) ⟨Nat.le_of_ble_eq_true rfl, Nat.le_of_ble_eq_true rfl⟩ 22 1 rfl rfl (rfl) hl.1 rfl (Nat.le_of_ble_eq_true rfl) dX10_widen_6 (fun r1 u H locs hw hP hD hS => ?_)
  refine lv_iload_n hx hb dX10_widen_9 rfl (lv_at hl 2 rfl) ?_
  refine lv_iadd hx hb dX10_widen_10 ?_
  refine lv_topi (fun t2 et2 => ?_)
  refine lv_istore_n (lv' := [(3, .int t2), (0, .ref x0), (1, .int p1), (2, .int p2)]) hx hb dX10_widen_11 rfl hl (Nat.le_of_ble_eq_true rfl) rfl (fun ls hl => ?_)
  refine lv_aload_n hx hb dX10_widen_12 rfl (lv_at hl 1 rfl) ?_
  refine va_get (D := (dC, dI)) (ci := 10) (v := .ref (x 21)) (C := RX10) (T := TX10) (N := 10) hx hb hts inB_10 hown hE.1 hP 0 rfl rfl 3 (Nat.le_of_ble_eq_true rfl) (hts _ k_494) (fun _ h9 => h9) rfl dX10_widen_13 ?_
  refine lv_iconst (v := 2) hx hb dX10_widen_16 rfl ?_
  refine lv_iload_n hx hb dX10_widen_17 rfl (lv_at hl 2 rfl) ?_
  refine cbVi (n := 2) (rest := []) hx hb hml hown hts hE hP hD hS hA (sX_X1_part_1 l dC dI cy x0 x 2 p1 v f hIv ) k_854 k_828 k_829 k_106 k_830 (by decide +kernel) ⟨Nat.le_of_ble_eq_true rfl, Nat.le_of_ble_eq_true rfl⟩ 22 1 rfl rfl (rfl) hl.1 rfl (Nat.le_of_ble_eq_true rfl) dX10_widen_18 (fun r3 u H locs hw hP hD hS => ?_)
  refine lv_iload_n hx hb dX10_widen_21 rfl (lv_at hl 3 rfl) ?_
  refine lv_isub hx hb dX10_widen_22 ?_
  refine lv_topi (fun t4 et4 => ?_)
  refine lv_istore (lv' := [(4, .int t4), (3, .int t2), (0, .ref x0), (1, .int p1), (2, .int p2)]) hx hb dX10_widen_23 hl (Nat.le_of_ble_eq_true rfl) rfl (fun ls hl => ?_)
  refine lv_iload_n hx hb dX10_widen_25 rfl (lv_at hl 1 rfl) ?_
  refine lv_bipush (v := 99) hx hb dX10_widen_26 rfl ?_
  refine lv_icmp_gt (tgt := 38) hx hb dX10_widen_28 rfl (fun c5 => ?_) (fun c5 => ?_)
  · skip
    have zc5 : 99 < t2.toInt := by rw [fa_lt, show (99 : Int32).toInt = 99 from by decide] at c5; exact c5
    refine lv_iconst (v := (-1)) hx hb dX10_widen_38 rfl ?_
    exact ret (-1) (v, f) _ _ _ _ _ _ rfl ⟨hM_v, hA_f, hIv, rfl, rfl, rfl, rfl, rfl, rfl, rfl, rfl⟩ hP hD hS dX10_widen_39 (Nat.le_refl _) (Nat.le_refl _)
  · skip
    have zc5 : ¬ (99 < t2.toInt) := by rw [fa_lt, show (99 : Int32).toInt = 99 from by decide] at c5; exact c5
    refine lv_iload hx hb dX10_widen_31 (lv_at hl 0 rfl) ?_
    refine lv_bipush (v := 99) hx hb dX10_widen_33 rfl ?_
    refine lv_icmp_le (tgt := 40) hx hb dX10_widen_35 rfl (fun c6 => ?_) (fun c6 => ?_)
    · skip
      have zc6 : t4.toInt ≤ 99 := by rw [fa_le, show (99 : Int32).toInt = 99 from by decide] at c6; exact c6
      refine lv_aload_n hx hb dX10_widen_40 rfl (lv_at hl 2 rfl) ?_
      refine va_get (D := (dC, dI)) (ci := 10) (v := .ref (x 21)) (C := RX10) (T := TX10) (N := 10) hx hb hts inB_10 hown hE.1 hP 0 rfl rfl 3 (Nat.le_of_ble_eq_true rfl) (hts _ k_494) (fun _ h9 => h9) rfl dX10_widen_41 ?_
      refine lv_iconst (v := 1) hx hb dX10_widen_44 rfl ?_
      refine lv_iload_n hx hb dX10_widen_45 rfl (lv_at hl 3 rfl) ?_
      refine lv_iload_n hx hb dX10_widen_46 rfl (lv_at hl 1 rfl) ?_
      refine cbVv (n := 3) (rest := []) hx hb hml hown hts hE hP hD hS hA (sX_X1_setPart_1 l dC dI cy x0 x 1 p1 t2 v f hIv ) k_904 k_875 k_876 k_106 k_877 (by decide +kernel) ⟨Nat.le_of_ble_eq_true rfl, Nat.le_of_ble_eq_true rfl⟩ 22 1 rfl rfl (rfl) hl.1 rfl (Nat.le_of_ble_eq_true rfl) dX10_widen_47 (fun u H locs hw hP hD hS => ?_)
      obtain ⟨v7, f8⟩ := u
      obtain ⟨kV_v7, kF_f8, hIv7, hk0_v7, hk1_v7, hk7_v7, hk8_v7, hk9_v7, hk10_v7, hk31_v7, hk32_v7⟩ := hw
      have hM_v7 : KV [21, 22, 23] v7 v := KV.tr kV_v7 hM_v rfl
      have hA_f8 : KF [15, 17] f8 f := KF.tr kF_f8 hA_f rfl
      have hP : va_P (dC, dI) vwCl (XW cy x0 x v7 f8) H := hP
      have hD : va_D A (XW cy x0 x v7 f8) := hD
      have hq0_v7 : v7 0 = (v 0) := hk0_v7
      have hq1_v7 : v7 1 = (v 1) := hk1_v7
      have hq7_v7 : v7 7 = (v 7) := hk7_v7
      have hq8_v7 : v7 8 = (v 8) := hk8_v7
      have hq9_v7 : v7 9 = (v 9) := hk9_v7
      have hq10_v7 : v7 10 = (v 10) := hk10_v7
      have hq31_v7 : v7 31 = (v 31) := hk31_v7
      have hq32_v7 : v7 32 = (v 32) := hk32_v7
      refine lv_aload_n hx hb dX10_widen_50 rfl (lv_at hl 2 rfl) ?_
      refine va_get (D := (dC, dI)) (ci := 10) (v := .ref (x 21)) (C := RX10) (T := TX10) (N := 10) hx hb hts inB_10 hown hE.1 hP 0 rfl rfl 3 (Nat.le_of_ble_eq_true rfl) (hts _ k_494) (fun _ h9 => h9) rfl dX10_widen_51 ?_
      refine lv_iconst (v := 2) hx hb dX10_widen_54 rfl ?_
      refine lv_iload_n hx hb dX10_widen_55 rfl (lv_at hl 3 rfl) ?_
      refine lv_iload hx hb dX10_widen_56 (lv_at hl 0 rfl) ?_
      refine cbVv (n := 3) (rest := []) hx hb hml hown hts hE hP hD hS hA (sX_X1_setPart_1 l dC dI cy x0 x 2 p1 t4 v7 f8 hIv7 ) k_904 k_875 k_876 k_106 k_877 (by decide +kernel) ⟨Nat.le_of_ble_eq_true rfl, Nat.le_of_ble_eq_true rfl⟩ 22 1 rfl rfl (rfl) hl.1 rfl (Nat.le_of_ble_eq_true rfl) dX10_widen_58 (fun u H locs hw hP hD hS => ?_)
      obtain ⟨v9, f10⟩ := u
      obtain ⟨kV_v9, kF_f10, hIv9, hk0_v9, hk1_v9, hk7_v9, hk8_v9, hk9_v9, hk10_v9, hk31_v9, hk32_v9⟩ := hw
      have hM_v9 : KV [21, 22, 23] v9 v := KV.tr kV_v9 hM_v7 rfl
      have hA_f10 : KF [15, 17] f10 f := KF.tr kF_f10 hA_f8 rfl
      have hP : va_P (dC, dI) vwCl (XW cy x0 x v9 f10) H := hP
      have hD : va_D A (XW cy x0 x v9 f10) := hD
      have hq0_v9 : v9 0 = (v 0) := hk0_v9.trans hq0_v7
      have hq1_v9 : v9 1 = (v 1) := hk1_v9.trans hq1_v7
      have hq7_v9 : v9 7 = (v 7) := hk7_v9.trans hq7_v7
      have hq8_v9 : v9 8 = (v 8) := hk8_v9.trans hq8_v7
      have hq9_v9 : v9 9 = (v 9) := hk9_v9.trans hq9_v7
      have hq10_v9 : v9 10 = (v 10) := hk10_v9.trans hq10_v7
      have hq31_v9 : v9 31 = (v 31) := hk31_v9.trans hq31_v7
      have hq32_v9 : v9 32 = (v 32) := hk32_v9.trans hq32_v7
      refine lv_aload_n hx hb dX10_widen_61 rfl (lv_at hl 2 rfl) ?_
      refine va_get (D := (dC, dI)) (ci := 10) (v := .ref (x 20)) (C := RX10) (T := TX10) (N := 10) hx hb hts inB_10 hown hE.1 hP 0 rfl rfl 4 (Nat.le_of_ble_eq_true rfl) (hts _ k_495) (fun _ h9 => h9) rfl dX10_widen_62 ?_
      refine cbVv (n := 0) (rest := []) hx hb hml hown hts hE hP hD hS hA (sX_X5_keepAct_1 l dC dI cy x0 x  v9 f10 hIv9 ) k_883 k_884 k_885 k_107 k_886 (by decide +kernel) ⟨Nat.le_of_ble_eq_true rfl, Nat.le_of_ble_eq_true rfl⟩ 21 5 rfl rfl (rfl) hl.1 rfl (Nat.le_of_ble_eq_true rfl) dX10_widen_65 (fun u H locs hw hP hD hS => ?_)
      obtain ⟨v11, f12⟩ := u
      obtain ⟨kV_v11, kF_f12, hIv11, hk0_v11, hk1_v11, hk7_v11, hk8_v11, hk9_v11, hk10_v11, hk31_v11, hk32_v11⟩ := hw
      have hM_v11 : KV [21, 22, 23] v11 v := KV.tr kV_v11 hM_v9 rfl
      have hA_f12 : KF [15, 17] f12 f := KF.tr kF_f12 hA_f10 rfl
      have hP : va_P (dC, dI) vwCl (XW cy x0 x v11 f12) H := hP
      have hD : va_D A (XW cy x0 x v11 f12) := hD
      have hq0_v11 : v11 0 = (v 0) := hk0_v11.trans hq0_v9
      have hq1_v11 : v11 1 = (v 1) := hk1_v11.trans hq1_v9
      have hq7_v11 : v11 7 = (v 7) := hk7_v11.trans hq7_v9
      have hq8_v11 : v11 8 = (v 8) := hk8_v11.trans hq8_v9
      have hq9_v11 : v11 9 = (v 9) := hk9_v11.trans hq9_v9
      have hq10_v11 : v11 10 = (v 10) := hk10_v11.trans hq10_v9
      have hq31_v11 : v11 31 = (v 31) := hk31_v11.trans hq31_v9
      have hq32_v11 : v11 32 = (v 32) := hk32_v11.trans hq32_v9
      refine lv_iload_n hx hb dX10_widen_68 rfl (lv_at hl 1 rfl) ?_
      exact ret t2 (v11, f12) _ _ _ _ _ _ rfl ⟨hM_v11, hA_f12, hIv11, (hk0_v11.trans (hk0_v9.trans hk0_v7)), (hk1_v11.trans (hk1_v9.trans hk1_v7)), (hk7_v11.trans (hk7_v9.trans hk7_v7)), (hk8_v11.trans (hk8_v9.trans hk8_v7)), (hk9_v11.trans (hk9_v9.trans hk9_v7)), (hk10_v11.trans (hk10_v9.trans hk10_v7)), (hk31_v11.trans (hk31_v9.trans hk31_v7)), (hk32_v11.trans (hk32_v9.trans hk32_v7))⟩ hP hD hS dX10_widen_69 (Nat.le_refl _) (Nat.le_refl _)
    · skip
      have zc6 : ¬ (t4.toInt ≤ 99) := by rw [fa_le, show (99 : Int32).toInt = 99 from by decide] at c6; exact c6
      refine lv_iconst (v := (-1)) hx hb dX10_widen_38 rfl ?_
      exact ret (-1) (v, f) _ _ _ _ _ _ rfl ⟨hM_v, hA_f, hIv, rfl, rfl, rfl, rfl, rfl, rfl, rfl, rfl⟩ hP hD hS dX10_widen_39 (Nat.le_refl _) (Nat.le_refl _)
set_option maxHeartbeats 4000000 in
set_option maxRecDepth 100000 in
theorem sX_X10_letout_1 (l : Launch) (dC : Nat → ClassId) (dI : Nat → Nat → Nat) (cy : Nat → ClassId) (x0 : Nat) (x : Nat → Nat) (p1 : Int32) (p2 : Int32) (v : Nat → Int32) (f : Nat → Nat → Int32) (hIv : XI v)  : ctI l (dC, dI) cy yX10_letout cX10_letout 3 .int 4 166 0 0 ((Nat → Int32) × (Nat → Nat → Int32)) [.ref x0, .int p1, .int p2] (XW cy x0 x v f) (fun r u => KV [21, 22, 23] u.1 v ∧ KF [15, 17] u.2 f ∧ XI u.1 ∧ u.1 0 = v 0 ∧ u.1 1 = v 1 ∧ u.1 7 = v 7 ∧ u.1 8 = v 8 ∧ u.1 9 = v 9 ∧ u.1 10 = v 10 ∧ u.1 31 = v 31 ∧ u.1 32 = v 32) (fun u => XW cy x0 x u.1 u.2) := by
  refine ctI_of (by decide) (Nat.le_of_ble_eq_true rfl) (fun p e s m below meth c A ls Q hx hb hml hts hown hE hP hD hA hl ret => ?_)
  have hM_v : KV [21, 22, 23] v v := fun _ _ => rfl
  have hA_f : KF [15, 17] f f := fun _ _ => rfl
  have hown : s.vm.findClass RX10 = some m.cls := hown
  have hS : va_S A s.heap s.heap [] := va_S.rf
  have hl : lv_has ls 3 [(0, .ref x0), (1, .int p1), (2, .int p2)] := hl
  refine lv_iload_n hx hb dX10_letout_0 rfl (lv_at hl 2 rfl) ?_
  refine lv_iconst (v := 1) hx hb dX10_letout_1 rfl ?_
  refine lv_icmp_lt (tgt := 18) hx hb dX10_letout_2 rfl (fun c1 => ?_) (fun c1 => ?_)
  · skip
    have zc1 : p2.toInt < 1 := by rw [fa_lt, show (1 : Int32).toInt = 1 from by decide] at c1; exact c1
    refine lv_iconst (v := (-1)) hx hb dX10_letout_18 rfl ?_
    exact ret (-1) (v, f) _ _ _ _ _ _ rfl ⟨hM_v, hA_f, hIv, rfl, rfl, rfl, rfl, rfl, rfl, rfl, rfl⟩ hP hD hS dX10_letout_19 (Nat.le_refl _) (Nat.le_refl _)
  · skip
    have zc1 : ¬ (p2.toInt < 1) := by rw [fa_lt, show (1 : Int32).toInt = 1 from by decide] at c1; exact c1
    refine lv_iload_n hx hb dX10_letout_5 rfl (lv_at hl 2 rfl) ?_
    refine lv_aload_n hx hb dX10_letout_6 rfl (lv_at hl 0 rfl) ?_
    refine va_get (D := (dC, dI)) (ci := 10) (v := .ref (x 21)) (C := RX10) (T := TX10) (N := 10) hx hb hts inB_10 hown hE.1 hP 0 rfl rfl 3 (Nat.le_of_ble_eq_true rfl) (hts _ k_494) (fun _ h9 => h9) rfl dX10_letout_7 ?_
    refine lv_iconst (v := 2) hx hb dX10_letout_10 rfl ?_
    refine lv_iload_n hx hb dX10_letout_11 rfl (lv_at hl 1 rfl) ?_
    refine cbVi (n := 2) (rest := [.int p2]) hx hb hml hown hts hE hP hD hS hA (sX_X1_part_1 l dC dI cy x0 x 2 p1 v f hIv ) k_854 k_828 k_829 k_106 k_830 (by decide +kernel) ⟨Nat.le_of_ble_eq_true rfl, Nat.le_of_ble_eq_true rfl⟩ 22 1 rfl rfl (rfl) hl.1 rfl (Nat.le_of_ble_eq_true rfl) dX10_letout_12 (fun r2 u H locs hw hP hD hS => ?_)
    refine lv_icmp_le (tgt := 20) hx hb dX10_letout_15 rfl (fun c3 => ?_) (fun c3 => ?_)
    · skip
      have zc3 : p2.toInt ≤ r2.toInt := by rw [fa_le] at c3; exact c3
      have rg4 := fb_rng p2
      have rg5 := fb_rng r2
      refine lv_aload_n hx hb dX10_letout_20 rfl (lv_at hl 0 rfl) ?_
      refine lv_iload_n hx hb dX10_letout_21 rfl (lv_at hl 1 rfl) ?_
      refine lv_iload_n hx hb dX10_letout_22 rfl (lv_at hl 2 rfl) ?_
      refine cbVi (n := 2) (rest := []) hx hb hml hown hts hE hP hD hS hA (sX_X10_widen_1 l dC dI cy x0 x p1 p2 v f hIv ) k_900 k_902 k_21 k_101 k_903 (by decide +kernel) ⟨Nat.le_of_ble_eq_true rfl, Nat.le_of_ble_eq_true rfl⟩ 0 10 rfl rfl (rfl) hl.1 rfl (Nat.le_of_ble_eq_true rfl) dX10_letout_23 (fun r6 u H locs hw hP hD hS => ?_)
      obtain ⟨v7, f8⟩ := u
      obtain ⟨kV_v7, kF_f8, hIv7, hk0_v7, hk1_v7, hk7_v7, hk8_v7, hk9_v7, hk10_v7, hk31_v7, hk32_v7⟩ := hw
      have hM_v7 : KV [21, 22, 23] v7 v := KV.tr kV_v7 hM_v rfl
      have hA_f8 : KF [15, 17] f8 f := KF.tr kF_f8 hA_f rfl
      have hP : va_P (dC, dI) vwCl (XW cy x0 x v7 f8) H := hP
      have hD : va_D A (XW cy x0 x v7 f8) := hD
      have hq0_v7 : v7 0 = (v 0) := hk0_v7
      have hq1_v7 : v7 1 = (v 1) := hk1_v7
      have hq7_v7 : v7 7 = (v 7) := hk7_v7
      have hq8_v7 : v7 8 = (v 8) := hk8_v7
      have hq9_v7 : v7 9 = (v 9) := hk9_v7
      have hq10_v7 : v7 10 = (v 10) := hk10_v7
      have hq31_v7 : v7 31 = (v 31) := hk31_v7
      have hq32_v7 : v7 32 = (v 32) := hk32_v7
      exact ret r6 (v7, f8) _ _ _ _ _ _ rfl ⟨hM_v7, hA_f8, hIv7, hk0_v7, hk1_v7, hk7_v7, hk8_v7, hk9_v7, hk10_v7, hk31_v7, hk32_v7⟩ hP hD hS dX10_letout_26 (Nat.le_refl _) (Nat.le_refl _)
    · skip
      have zc3 : ¬ (p2.toInt ≤ r2.toInt) := by rw [fa_le] at c3; exact c3
      have rg9 := fb_rng p2
      have rg10 := fb_rng r2
      refine lv_iconst (v := (-1)) hx hb dX10_letout_18 rfl ?_
      exact ret (-1) (v, f) _ _ _ _ _ _ rfl ⟨hM_v, hA_f, hIv, rfl, rfl, rfl, rfl, rfl, rfl, rfl, rfl⟩ hP hD hS dX10_letout_19 (Nat.le_refl _) (Nat.le_refl _)
set_option maxHeartbeats 4000000 in
set_option maxRecDepth 100000 in
theorem sX_X10_takein_1 (l : Launch) (dC : Nat → ClassId) (dI : Nat → Nat → Nat) (cy : Nat → ClassId) (x0 : Nat) (x : Nat → Nat) (p1 : Int32) (p2 : Int32) (v : Nat → Int32) (f : Nat → Nat → Int32) (hIv : XI v)  : ctI l (dC, dI) cy yX10_takein cX10_takein 3 .int 4 166 0 0 ((Nat → Int32) × (Nat → Nat → Int32)) [.ref x0, .int p1, .int p2] (XW cy x0 x v f) (fun r u => KV [21, 22, 23] u.1 v ∧ KF [15, 17] u.2 f ∧ XI u.1 ∧ u.1 0 = v 0 ∧ u.1 1 = v 1 ∧ u.1 7 = v 7 ∧ u.1 8 = v 8 ∧ u.1 9 = v 9 ∧ u.1 10 = v 10 ∧ u.1 31 = v 31 ∧ u.1 32 = v 32) (fun u => XW cy x0 x u.1 u.2) := by
  refine ctI_of (by decide) (Nat.le_of_ble_eq_true rfl) (fun p e s m below meth c A ls Q hx hb hml hts hown hE hP hD hA hl ret => ?_)
  have hM_v : KV [21, 22, 23] v v := fun _ _ => rfl
  have hA_f : KF [15, 17] f f := fun _ _ => rfl
  have hown : s.vm.findClass RX10 = some m.cls := hown
  have hS : va_S A s.heap s.heap [] := va_S.rf
  have hl : lv_has ls 3 [(0, .ref x0), (1, .int p1), (2, .int p2)] := hl
  refine lv_iload_n hx hb dX10_takein_0 rfl (lv_at hl 2 rfl) ?_
  refine lv_iconst (v := 1) hx hb dX10_takein_1 rfl ?_
  refine lv_icmp_lt (tgt := 18) hx hb dX10_takein_2 rfl (fun c1 => ?_) (fun c1 => ?_)
  · skip
    have zc1 : p2.toInt < 1 := by rw [fa_lt, show (1 : Int32).toInt = 1 from by decide] at c1; exact c1
    refine lv_iconst (v := (-1)) hx hb dX10_takein_18 rfl ?_
    exact ret (-1) (v, f) _ _ _ _ _ _ rfl ⟨hM_v, hA_f, hIv, rfl, rfl, rfl, rfl, rfl, rfl, rfl, rfl⟩ hP hD hS dX10_takein_19 (Nat.le_refl _) (Nat.le_refl _)
  · skip
    have zc1 : ¬ (p2.toInt < 1) := by rw [fa_lt, show (1 : Int32).toInt = 1 from by decide] at c1; exact c1
    refine lv_iload_n hx hb dX10_takein_5 rfl (lv_at hl 2 rfl) ?_
    refine lv_aload_n hx hb dX10_takein_6 rfl (lv_at hl 0 rfl) ?_
    refine va_get (D := (dC, dI)) (ci := 10) (v := .ref (x 21)) (C := RX10) (T := TX10) (N := 10) hx hb hts inB_10 hown hE.1 hP 0 rfl rfl 3 (Nat.le_of_ble_eq_true rfl) (hts _ k_494) (fun _ h9 => h9) rfl dX10_takein_7 ?_
    refine lv_iconst (v := 1) hx hb dX10_takein_10 rfl ?_
    refine lv_iload_n hx hb dX10_takein_11 rfl (lv_at hl 1 rfl) ?_
    refine cbVi (n := 2) (rest := [.int p2]) hx hb hml hown hts hE hP hD hS hA (sX_X1_part_1 l dC dI cy x0 x 1 p1 v f hIv ) k_854 k_828 k_829 k_106 k_830 (by decide +kernel) ⟨Nat.le_of_ble_eq_true rfl, Nat.le_of_ble_eq_true rfl⟩ 22 1 rfl rfl (rfl) hl.1 rfl (Nat.le_of_ble_eq_true rfl) dX10_takein_12 (fun r2 u H locs hw hP hD hS => ?_)
    refine lv_icmp_le (tgt := 20) hx hb dX10_takein_15 rfl (fun c3 => ?_) (fun c3 => ?_)
    · skip
      have zc3 : p2.toInt ≤ r2.toInt := by rw [fa_le] at c3; exact c3
      have rg4 := fb_rng p2
      have rg5 := fb_rng r2
      refine lv_aload_n hx hb dX10_takein_20 rfl (lv_at hl 0 rfl) ?_
      refine lv_iload_n hx hb dX10_takein_21 rfl (lv_at hl 1 rfl) ?_
      refine lv_iload_n hx hb dX10_takein_22 rfl (lv_at hl 2 rfl) ?_
      refine lv_ineg hx hb dX10_takein_23 ?_
      refine lv_topi (fun t6 et6 => ?_)
      refine cbVi (n := 2) (rest := []) hx hb hml hown hts hE hP hD hS hA (sX_X10_widen_1 l dC dI cy x0 x p1 t6 v f hIv ) k_900 k_902 k_21 k_101 k_903 (by decide +kernel) ⟨Nat.le_of_ble_eq_true rfl, Nat.le_of_ble_eq_true rfl⟩ 0 10 rfl rfl (rfl) hl.1 rfl (Nat.le_of_ble_eq_true rfl) dX10_takein_24 (fun r7 u H locs hw hP hD hS => ?_)
      obtain ⟨v8, f9⟩ := u
      obtain ⟨kV_v8, kF_f9, hIv8, hk0_v8, hk1_v8, hk7_v8, hk8_v8, hk9_v8, hk10_v8, hk31_v8, hk32_v8⟩ := hw
      have hM_v8 : KV [21, 22, 23] v8 v := KV.tr kV_v8 hM_v rfl
      have hA_f9 : KF [15, 17] f9 f := KF.tr kF_f9 hA_f rfl
      have hP : va_P (dC, dI) vwCl (XW cy x0 x v8 f9) H := hP
      have hD : va_D A (XW cy x0 x v8 f9) := hD
      have hq0_v8 : v8 0 = (v 0) := hk0_v8
      have hq1_v8 : v8 1 = (v 1) := hk1_v8
      have hq7_v8 : v8 7 = (v 7) := hk7_v8
      have hq8_v8 : v8 8 = (v 8) := hk8_v8
      have hq9_v8 : v8 9 = (v 9) := hk9_v8
      have hq10_v8 : v8 10 = (v 10) := hk10_v8
      have hq31_v8 : v8 31 = (v 31) := hk31_v8
      have hq32_v8 : v8 32 = (v 32) := hk32_v8
      exact ret r7 (v8, f9) _ _ _ _ _ _ rfl ⟨hM_v8, hA_f9, hIv8, hk0_v8, hk1_v8, hk7_v8, hk8_v8, hk9_v8, hk10_v8, hk31_v8, hk32_v8⟩ hP hD hS dX10_takein_27 (Nat.le_refl _) (Nat.le_refl _)
    · skip
      have zc3 : ¬ (p2.toInt ≤ r2.toInt) := by rw [fa_le] at c3; exact c3
      have rg10 := fb_rng p2
      have rg11 := fb_rng r2
      refine lv_iconst (v := (-1)) hx hb dX10_takein_18 rfl ?_
      exact ret (-1) (v, f) _ _ _ _ _ _ rfl ⟨hM_v, hA_f, hIv, rfl, rfl, rfl, rfl, rfl, rfl, rfl, rfl⟩ hP hD hS dX10_takein_19 (Nat.le_refl _) (Nat.le_refl _)
set_option maxHeartbeats 4000000 in
set_option maxRecDepth 100000 in
theorem sX_X10_hem_1 (l : Launch) (dC : Nat → ClassId) (dI : Nat → Nat → Nat) (cy : Nat → ClassId) (x0 : Nat) (x : Nat → Nat) (p1 : Int32) (p2 : Int32) (v : Nat → Int32) (f : Nat → Nat → Int32) (hIv : XI v)  : ctI l (dC, dI) cy yX10_hem cX10_hem 4 .int 3 142 0 0 ((Nat → Int32) × (Nat → Nat → Int32)) [.ref x0, .int p1, .int p2] (XW cy x0 x v f) (fun r u => KV [21, 22, 23] u.1 v ∧ KF [15, 17] u.2 f ∧ XI u.1 ∧ u.1 0 = v 0 ∧ u.1 1 = v 1 ∧ u.1 7 = v 7 ∧ u.1 8 = v 8 ∧ u.1 9 = v 9 ∧ u.1 10 = v 10 ∧ u.1 31 = v 31 ∧ u.1 32 = v 32) (fun u => XW cy x0 x u.1 u.2) := by
  refine ctI_of (by decide) (Nat.le_of_ble_eq_true rfl) (fun p e s m below meth c A ls Q hx hb hml hts hown hE hP hD hA hl ret => ?_)
  have hM_v : KV [21, 22, 23] v v := fun _ _ => rfl
  have hA_f : KF [15, 17] f f := fun _ _ => rfl
  have hown : s.vm.findClass RX10 = some m.cls := hown
  have hS : va_S A s.heap s.heap [] := va_S.rf
  have hl : lv_has ls 4 [(0, .ref x0), (1, .int p1), (2, .int p2)] := hl
  refine lv_aload_n hx hb dX10_hem_0 rfl (lv_at hl 0 rfl) ?_
  refine va_get (D := (dC, dI)) (ci := 10) (v := .ref (x 21)) (C := RX10) (T := TX10) (N := 10) hx hb hts inB_10 hown hE.1 hP 0 rfl rfl 3 (Nat.le_of_ble_eq_true rfl) (hts _ k_494) (fun _ h9 => h9) rfl dX10_hem_1 ?_
  refine lv_iconst (v := 0) hx hb dX10_hem_4 rfl ?_
  refine lv_iload_n hx hb dX10_hem_5 rfl (lv_at hl 1 rfl) ?_
  refine cbVi (n := 2) (rest := []) hx hb hml hown hts hE hP hD hS hA (sX_X1_part_1 l dC dI cy x0 x 0 p1 v f hIv ) k_854 k_828 k_829 k_106 k_830 (by decide +kernel) ⟨Nat.le_of_ble_eq_true rfl, Nat.le_of_ble_eq_true rfl⟩ 22 1 rfl rfl (rfl) hl.1 rfl (Nat.le_of_ble_eq_true rfl) dX10_hem_6 (fun r1 u H locs hw hP hD hS => ?_)
  refine lv_istore_n (lv' := [(3, .int r1), (0, .ref x0), (1, .int p1), (2, .int p2)]) hx hb dX10_hem_9 rfl hl (Nat.le_of_ble_eq_true rfl) rfl (fun ls hl => ?_)
  refine lv_iload_n hx hb dX10_hem_10 rfl (lv_at hl 3 rfl) ?_
  refine lv_iconst (v := 1) hx hb dX10_hem_11 rfl ?_
  refine lv_icmp_lt (tgt := 20) hx hb dX10_hem_12 rfl (fun c2 => ?_) (fun c2 => ?_)
  · skip
    have zc2 : p2.toInt < 1 := by rw [fa_lt, show (1 : Int32).toInt = 1 from by decide] at c2; exact c2
    refine lv_iconst (v := (-1)) hx hb dX10_hem_20 rfl ?_
    exact ret (-1) (v, f) _ _ _ _ _ _ rfl ⟨hM_v, hA_f, hIv, rfl, rfl, rfl, rfl, rfl, rfl, rfl, rfl⟩ hP hD hS dX10_hem_21 (Nat.le_refl _) (Nat.le_refl _)
  · skip
    have zc2 : ¬ (p2.toInt < 1) := by rw [fa_lt, show (1 : Int32).toInt = 1 from by decide] at c2; exact c2
    refine lv_iload_n hx hb dX10_hem_15 rfl (lv_at hl 3 rfl) ?_
    refine lv_iload_n hx hb dX10_hem_16 rfl (lv_at hl 0 rfl) ?_
    refine lv_icmp_le (tgt := 22) hx hb dX10_hem_17 rfl (fun c3 => ?_) (fun c3 => ?_)
    · skip
      have zc3 : p2.toInt ≤ r1.toInt := by rw [fa_le] at c3; exact c3
      have rg4 := fb_rng p2
      have rg5 := fb_rng r1
      refine lv_aload_n hx hb dX10_hem_22 rfl (lv_at hl 1 rfl) ?_
      refine va_get (D := (dC, dI)) (ci := 10) (v := .ref (x 21)) (C := RX10) (T := TX10) (N := 10) hx hb hts inB_10 hown hE.1 hP 0 rfl rfl 3 (Nat.le_of_ble_eq_true rfl) (hts _ k_494) (fun _ h9 => h9) rfl dX10_hem_23 ?_
      refine lv_iconst (v := 0) hx hb dX10_hem_26 rfl ?_
      refine lv_iload_n hx hb dX10_hem_27 rfl (lv_at hl 2 rfl) ?_
      refine lv_iload_n hx hb dX10_hem_28 rfl (lv_at hl 0 rfl) ?_
      refine lv_iload_n hx hb dX10_hem_29 rfl (lv_at hl 3 rfl) ?_
      refine lv_isub hx hb dX10_hem_30 ?_
      refine lv_topi (fun t6 et6 => ?_)
      have zt6 : t6.toInt = r1.toInt - p2.toInt := by rw [et6]; exact sub_i rfl rfl (by omega) (by omega)
      refine cbVv (n := 3) (rest := []) hx hb hml hown hts hE hP hD hS hA (sX_X1_setPart_1 l dC dI cy x0 x 0 p1 t6 v f hIv ) k_904 k_875 k_876 k_106 k_877 (by decide +kernel) ⟨Nat.le_of_ble_eq_true rfl, Nat.le_of_ble_eq_true rfl⟩ 22 1 rfl rfl (rfl) hl.1 rfl (Nat.le_of_ble_eq_true rfl) dX10_hem_31 (fun u H locs hw hP hD hS => ?_)
      obtain ⟨v7, f8⟩ := u
      obtain ⟨kV_v7, kF_f8, hIv7, hk0_v7, hk1_v7, hk7_v7, hk8_v7, hk9_v7, hk10_v7, hk31_v7, hk32_v7⟩ := hw
      have hM_v7 : KV [21, 22, 23] v7 v := KV.tr kV_v7 hM_v rfl
      have hA_f8 : KF [15, 17] f8 f := KF.tr kF_f8 hA_f rfl
      have hP : va_P (dC, dI) vwCl (XW cy x0 x v7 f8) H := hP
      have hD : va_D A (XW cy x0 x v7 f8) := hD
      have hq0_v7 : v7 0 = (v 0) := hk0_v7
      have hq1_v7 : v7 1 = (v 1) := hk1_v7
      have hq7_v7 : v7 7 = (v 7) := hk7_v7
      have hq8_v7 : v7 8 = (v 8) := hk8_v7
      have hq9_v7 : v7 9 = (v 9) := hk9_v7
      have hq10_v7 : v7 10 = (v 10) := hk10_v7
      have hq31_v7 : v7 31 = (v 31) := hk31_v7
      have hq32_v7 : v7 32 = (v 32) := hk32_v7
      refine lv_aload_n hx hb dX10_hem_34 rfl (lv_at hl 1 rfl) ?_
      refine va_get (D := (dC, dI)) (ci := 10) (v := .ref (x 20)) (C := RX10) (T := TX10) (N := 10) hx hb hts inB_10 hown hE.1 hP 0 rfl rfl 4 (Nat.le_of_ble_eq_true rfl) (hts _ k_495) (fun _ h9 => h9) rfl dX10_hem_35 ?_
      refine cbVv (n := 0) (rest := []) hx hb hml hown hts hE hP hD hS hA (sX_X5_keepAct_1 l dC dI cy x0 x  v7 f8 hIv7 ) k_883 k_884 k_885 k_107 k_886 (by decide +kernel) ⟨Nat.le_of_ble_eq_true rfl, Nat.le_of_ble_eq_true rfl⟩ 21 5 rfl rfl (rfl) hl.1 rfl (Nat.le_of_ble_eq_true rfl) dX10_hem_38 (fun u H locs hw hP hD hS => ?_)
      obtain ⟨v9, f10⟩ := u
      obtain ⟨kV_v9, kF_f10, hIv9, hk0_v9, hk1_v9, hk7_v9, hk8_v9, hk9_v9, hk10_v9, hk31_v9, hk32_v9⟩ := hw
      have hM_v9 : KV [21, 22, 23] v9 v := KV.tr kV_v9 hM_v7 rfl
      have hA_f10 : KF [15, 17] f10 f := KF.tr kF_f10 hA_f8 rfl
      have hP : va_P (dC, dI) vwCl (XW cy x0 x v9 f10) H := hP
      have hD : va_D A (XW cy x0 x v9 f10) := hD
      have hq0_v9 : v9 0 = (v 0) := hk0_v9.trans hq0_v7
      have hq1_v9 : v9 1 = (v 1) := hk1_v9.trans hq1_v7
      have hq7_v9 : v9 7 = (v 7) := hk7_v9.trans hq7_v7
      have hq8_v9 : v9 8 = (v 8) := hk8_v9.trans hq8_v7
      have hq9_v9 : v9 9 = (v 9) := hk9_v9.trans hq9_v7
      have hq10_v9 : v9 10 = (v 10) := hk10_v9.trans hq10_v7
      have hq31_v9 : v9 31 = (v 31) := hk31_v9.trans hq31_v7
      have hq32_v9 : v9 32 = (v 32) := hk32_v9.trans hq32_v7
      refine lv_iload_n hx hb dX10_hem_41 rfl (lv_at hl 0 rfl) ?_
      refine lv_iload_n hx hb dX10_hem_42 rfl (lv_at hl 3 rfl) ?_
      refine lv_isub hx hb dX10_hem_43 ?_
      refine tI (y := t6) et6.symm ?_
      exact ret t6 (v9, f10) _ _ _ _ _ _ rfl ⟨hM_v9, hA_f10, hIv9, (hk0_v9.trans hk0_v7), (hk1_v9.trans hk1_v7), (hk7_v9.trans hk7_v7), (hk8_v9.trans hk8_v7), (hk9_v9.trans hk9_v7), (hk10_v9.trans hk10_v7), (hk31_v9.trans hk31_v7), (hk32_v9.trans hk32_v7)⟩ hP hD hS dX10_hem_44 (Nat.le_refl _) (Nat.le_refl _)
    · skip
      have zc3 : ¬ (p2.toInt ≤ r1.toInt) := by rw [fa_le] at c3; exact c3
      have rg11 := fb_rng p2
      have rg12 := fb_rng r1
      refine lv_iconst (v := (-1)) hx hb dX10_hem_20 rfl ?_
      exact ret (-1) (v, f) _ _ _ _ _ _ rfl ⟨hM_v, hA_f, hIv, rfl, rfl, rfl, rfl, rfl, rfl, rfl, rfl⟩ hP hD hS dX10_hem_21 (Nat.le_refl _) (Nat.le_refl _)
set_option maxHeartbeats 4000000 in
set_option maxRecDepth 100000 in
theorem sX_X10_turn_1 (l : Launch) (dC : Nat → ClassId) (dI : Nat → Nat → Nat) (cy : Nat → ClassId) (x0 : Nat) (x : Nat → Nat) (p1 : Int32) (v : Nat → Int32) (f : Nat → Nat → Int32) (hIv : XI v)  : ctI l (dC, dI) cy yX10_turn cX10_turn 3 .int 3 142 0 0 ((Nat → Int32) × (Nat → Nat → Int32)) [.ref x0, .int p1] (XW cy x0 x v f) (fun r u => KV [21, 22, 23] u.1 v ∧ KF [15, 17] u.2 f ∧ XI u.1 ∧ u.1 0 = v 0 ∧ u.1 1 = v 1 ∧ u.1 7 = v 7 ∧ u.1 8 = v 8 ∧ u.1 9 = v 9 ∧ u.1 10 = v 10 ∧ u.1 31 = v 31 ∧ u.1 32 = v 32) (fun u => XW cy x0 x u.1 u.2) := by
  refine ctI_of (by decide) (Nat.le_of_ble_eq_true rfl) (fun p e s m below meth c A ls Q hx hb hml hts hown hE hP hD hA hl ret => ?_)
  have hM_v : KV [21, 22, 23] v v := fun _ _ => rfl
  have hA_f : KF [15, 17] f f := fun _ _ => rfl
  have hown : s.vm.findClass RX10 = some m.cls := hown
  have hS : va_S A s.heap s.heap [] := va_S.rf
  have hl : lv_has ls 3 [(0, .ref x0), (1, .int p1)] := hl
  refine lv_aload_n hx hb dX10_turn_0 rfl (lv_at hl 0 rfl) ?_
  refine va_get (D := (dC, dI)) (ci := 10) (v := .ref (x 26)) (C := RX10) (T := TX10) (N := 10) hx hb hts inB_10 hown hE.1 hP 0 rfl rfl 2 (Nat.le_of_ble_eq_true rfl) (hts _ k_493) (fun _ h9 => h9) rfl dX10_turn_1 ?_
  refine lv_iload_n hx hb dX10_turn_4 rfl (lv_at hl 1 rfl) ?_
  refine cbVi (n := 1) (rest := []) hx hb hml hown hts hE hP hD hS hA (sX_X7_hasCoat_1 0 l dC dI cy x0 x p1 v f hIv ) k_848 k_315 k_316 k_104 k_317 (by decide +kernel) ⟨Nat.le_of_ble_eq_true rfl, Nat.le_of_ble_eq_true rfl⟩ 27 7 rfl rfl (rfl) hl.1 rfl (Nat.le_of_ble_eq_true rfl) dX10_turn_5 (fun r1 u H locs hw hP hD hS => ?_)
  obtain ⟨hG2, hw⟩ := hw
  rcases hw with ⟨g3, g3_0, g3_1, g3_2⟩ | ⟨g3⟩
  · skip
    subst g3
    refine lv_if_eq (tgt := 23) hx hb dX10_turn_8 rfl (fun c0 => absurd c0 (by decide)) (fun _ => ?_)
    refine lv_aload_n hx hb dX10_turn_11 rfl (lv_at hl 0 rfl) ?_
    refine va_get (D := (dC, dI)) (ci := 10) (v := .ref (x 21)) (C := RX10) (T := TX10) (N := 10) hx hb hts inB_10 hown hE.1 hP 0 rfl rfl 3 (Nat.le_of_ble_eq_true rfl) (hts _ k_494) (fun _ h9 => h9) rfl dX10_turn_12 ?_
    refine lv_iconst (v := 4) hx hb dX10_turn_15 rfl ?_
    refine lv_iload_n hx hb dX10_turn_16 rfl (lv_at hl 1 rfl) ?_
    refine cbVi (n := 2) (rest := []) hx hb hml hown hts hE hP hD hS hA (sX_X1_part_1 l dC dI cy x0 x 4 p1 v f hIv ) k_854 k_828 k_829 k_106 k_830 (by decide +kernel) ⟨Nat.le_of_ble_eq_true rfl, Nat.le_of_ble_eq_true rfl⟩ 22 1 rfl rfl (rfl) hl.1 rfl (Nat.le_of_ble_eq_true rfl) dX10_turn_17 (fun r4 u H locs hw hP hD hS => ?_)
    refine lv_if_eq (tgt := 25) hx hb dX10_turn_20 rfl (fun c5 => ?_) (fun c5 => ?_)
    · skip
      have zc5 : r4.toInt = 0 := by rw [fa_eq, show (0 : Int32).toInt = 0 from by decide] at c5; exact c5
      refine lv_aload_n hx hb dX10_turn_25 rfl (lv_at hl 0 rfl) ?_
      refine va_get (D := (dC, dI)) (ci := 10) (v := .ref (x 21)) (C := RX10) (T := TX10) (N := 10) hx hb hts inB_10 hown hE.1 hP 0 rfl rfl 3 (Nat.le_of_ble_eq_true rfl) (hts _ k_494) (fun _ h9 => h9) rfl dX10_turn_26 ?_
      refine lv_iconst (v := 3) hx hb dX10_turn_29 rfl ?_
      refine lv_iload_n hx hb dX10_turn_30 rfl (lv_at hl 1 rfl) ?_
      refine cbVi (n := 2) (rest := []) hx hb hml hown hts hE hP hD hS hA (sX_X1_part_1 l dC dI cy x0 x 3 p1 v f hIv ) k_854 k_828 k_829 k_106 k_830 (by decide +kernel) ⟨Nat.le_of_ble_eq_true rfl, Nat.le_of_ble_eq_true rfl⟩ 22 1 rfl rfl (rfl) hl.1 rfl (Nat.le_of_ble_eq_true rfl) dX10_turn_31 (fun r6 u H locs hw hP hD hS => ?_)
      refine lv_istore_n (lv' := [(2, .int r6), (0, .ref x0), (1, .int p1)]) hx hb dX10_turn_34 rfl hl (Nat.le_of_ble_eq_true rfl) rfl (fun ls hl => ?_)
      refine lv_aload_n hx hb dX10_turn_35 rfl (lv_at hl 1 rfl) ?_
      refine va_get (D := (dC, dI)) (ci := 10) (v := .ref (x 21)) (C := RX10) (T := TX10) (N := 10) hx hb hts inB_10 hown hE.1 hP 0 rfl rfl 3 (Nat.le_of_ble_eq_true rfl) (hts _ k_494) (fun _ h9 => h9) rfl dX10_turn_36 ?_
      refine lv_iconst (v := 3) hx hb dX10_turn_39 rfl ?_
      refine lv_iload_n hx hb dX10_turn_40 rfl (lv_at hl 2 rfl) ?_
      refine lv_iconst (v := 0) hx hb dX10_turn_41 rfl ?_
      refine cbVv (n := 3) (rest := []) hx hb hml hown hts hE hP hD hS hA (sX_X1_setPart_1 l dC dI cy x0 x 3 p1 0 v f hIv ) k_904 k_875 k_876 k_106 k_877 (by decide +kernel) ⟨Nat.le_of_ble_eq_true rfl, Nat.le_of_ble_eq_true rfl⟩ 22 1 rfl rfl (rfl) hl.1 rfl (Nat.le_of_ble_eq_true rfl) dX10_turn_42 (fun u H locs hw hP hD hS => ?_)
      obtain ⟨v7, f8⟩ := u
      obtain ⟨kV_v7, kF_f8, hIv7, hk0_v7, hk1_v7, hk7_v7, hk8_v7, hk9_v7, hk10_v7, hk31_v7, hk32_v7⟩ := hw
      have hM_v7 : KV [21, 22, 23] v7 v := KV.tr kV_v7 hM_v rfl
      have hA_f8 : KF [15, 17] f8 f := KF.tr kF_f8 hA_f rfl
      have hP : va_P (dC, dI) vwCl (XW cy x0 x v7 f8) H := hP
      have hD : va_D A (XW cy x0 x v7 f8) := hD
      have hq0_v7 : v7 0 = (v 0) := hk0_v7
      have hq1_v7 : v7 1 = (v 1) := hk1_v7
      have hq7_v7 : v7 7 = (v 7) := hk7_v7
      have hq8_v7 : v7 8 = (v 8) := hk8_v7
      have hq9_v7 : v7 9 = (v 9) := hk9_v7
      have hq10_v7 : v7 10 = (v 10) := hk10_v7
      have hq31_v7 : v7 31 = (v 31) := hk31_v7
      have hq32_v7 : v7 32 = (v 32) := hk32_v7
      refine lv_aload_n hx hb dX10_turn_45 rfl (lv_at hl 1 rfl) ?_
      refine va_get (D := (dC, dI)) (ci := 10) (v := .ref (x 21)) (C := RX10) (T := TX10) (N := 10) hx hb hts inB_10 hown hE.1 hP 0 rfl rfl 3 (Nat.le_of_ble_eq_true rfl) (hts _ k_494) (fun _ h9 => h9) rfl dX10_turn_46 ?_
      refine lv_iconst (v := 4) hx hb dX10_turn_49 rfl ?_
      refine lv_iload_n hx hb dX10_turn_50 rfl (lv_at hl 2 rfl) ?_
      refine lv_iconst (v := 1) hx hb dX10_turn_51 rfl ?_
      refine cbVv (n := 3) (rest := []) hx hb hml hown hts hE hP hD hS hA (sX_X1_setPart_1 l dC dI cy x0 x 4 p1 1 v7 f8 hIv7 ) k_904 k_875 k_876 k_106 k_877 (by decide +kernel) ⟨Nat.le_of_ble_eq_true rfl, Nat.le_of_ble_eq_true rfl⟩ 22 1 rfl rfl (rfl) hl.1 rfl (Nat.le_of_ble_eq_true rfl) dX10_turn_52 (fun u H locs hw hP hD hS => ?_)
      obtain ⟨v9, f10⟩ := u
      obtain ⟨kV_v9, kF_f10, hIv9, hk0_v9, hk1_v9, hk7_v9, hk8_v9, hk9_v9, hk10_v9, hk31_v9, hk32_v9⟩ := hw
      have hM_v9 : KV [21, 22, 23] v9 v := KV.tr kV_v9 hM_v7 rfl
      have hA_f10 : KF [15, 17] f10 f := KF.tr kF_f10 hA_f8 rfl
      have hP : va_P (dC, dI) vwCl (XW cy x0 x v9 f10) H := hP
      have hD : va_D A (XW cy x0 x v9 f10) := hD
      have hq0_v9 : v9 0 = (v 0) := hk0_v9.trans hq0_v7
      have hq1_v9 : v9 1 = (v 1) := hk1_v9.trans hq1_v7
      have hq7_v9 : v9 7 = (v 7) := hk7_v9.trans hq7_v7
      have hq8_v9 : v9 8 = (v 8) := hk8_v9.trans hq8_v7
      have hq9_v9 : v9 9 = (v 9) := hk9_v9.trans hq9_v7
      have hq10_v9 : v9 10 = (v 10) := hk10_v9.trans hq10_v7
      have hq31_v9 : v9 31 = (v 31) := hk31_v9.trans hq31_v7
      have hq32_v9 : v9 32 = (v 32) := hk32_v9.trans hq32_v7
      refine lv_aload_n hx hb dX10_turn_55 rfl (lv_at hl 1 rfl) ?_
      refine va_get (D := (dC, dI)) (ci := 10) (v := .ref (x 20)) (C := RX10) (T := TX10) (N := 10) hx hb hts inB_10 hown hE.1 hP 0 rfl rfl 4 (Nat.le_of_ble_eq_true rfl) (hts _ k_495) (fun _ h9 => h9) rfl dX10_turn_56 ?_
      refine cbVv (n := 0) (rest := []) hx hb hml hown hts hE hP hD hS hA (sX_X5_keepAct_1 l dC dI cy x0 x  v9 f10 hIv9 ) k_883 k_884 k_885 k_107 k_886 (by decide +kernel) ⟨Nat.le_of_ble_eq_true rfl, Nat.le_of_ble_eq_true rfl⟩ 21 5 rfl rfl (rfl) hl.1 rfl (Nat.le_of_ble_eq_true rfl) dX10_turn_59 (fun u H locs hw hP hD hS => ?_)
      obtain ⟨v11, f12⟩ := u
      obtain ⟨kV_v11, kF_f12, hIv11, hk0_v11, hk1_v11, hk7_v11, hk8_v11, hk9_v11, hk10_v11, hk31_v11, hk32_v11⟩ := hw
      have hM_v11 : KV [21, 22, 23] v11 v := KV.tr kV_v11 hM_v9 rfl
      have hA_f12 : KF [15, 17] f12 f := KF.tr kF_f12 hA_f10 rfl
      have hP : va_P (dC, dI) vwCl (XW cy x0 x v11 f12) H := hP
      have hD : va_D A (XW cy x0 x v11 f12) := hD
      have hq0_v11 : v11 0 = (v 0) := hk0_v11.trans hq0_v9
      have hq1_v11 : v11 1 = (v 1) := hk1_v11.trans hq1_v9
      have hq7_v11 : v11 7 = (v 7) := hk7_v11.trans hq7_v9
      have hq8_v11 : v11 8 = (v 8) := hk8_v11.trans hq8_v9
      have hq9_v11 : v11 9 = (v 9) := hk9_v11.trans hq9_v9
      have hq10_v11 : v11 10 = (v 10) := hk10_v11.trans hq10_v9
      have hq31_v11 : v11 31 = (v 31) := hk31_v11.trans hq31_v9
      have hq32_v11 : v11 32 = (v 32) := hk32_v11.trans hq32_v9
      refine lv_iload_n hx hb dX10_turn_62 rfl (lv_at hl 0 rfl) ?_
      exact ret r6 (v11, f12) _ _ _ _ _ _ rfl ⟨hM_v11, hA_f12, hIv11, (hk0_v11.trans (hk0_v9.trans hk0_v7)), (hk1_v11.trans (hk1_v9.trans hk1_v7)), (hk7_v11.trans (hk7_v9.trans hk7_v7)), (hk8_v11.trans (hk8_v9.trans hk8_v7)), (hk9_v11.trans (hk9_v9.trans hk9_v7)), (hk10_v11.trans (hk10_v9.trans hk10_v7)), (hk31_v11.trans (hk31_v9.trans hk31_v7)), (hk32_v11.trans (hk32_v9.trans hk32_v7))⟩ hP hD hS dX10_turn_63 (Nat.le_refl _) (Nat.le_refl _)
    · skip
      have zc5 : ¬ (r4.toInt = 0) := by rw [fa_eq, show (0 : Int32).toInt = 0 from by decide] at c5; exact c5
      refine lv_iconst (v := (-1)) hx hb dX10_turn_23 rfl ?_
      exact ret (-1) (v, f) _ _ _ _ _ _ rfl ⟨hM_v, hA_f, hIv, rfl, rfl, rfl, rfl, rfl, rfl, rfl, rfl⟩ hP hD hS dX10_turn_24 (Nat.le_refl _) (Nat.le_refl _)
  · skip
    subst g3
    refine lv_if_eq (tgt := 23) hx hb dX10_turn_8 rfl (fun _ => ?_) (fun c0 => absurd (by decide) c0)
    refine lv_iconst (v := (-1)) hx hb dX10_turn_23 rfl ?_
    exact ret (-1) (v, f) _ _ _ _ _ _ rfl ⟨hM_v, hA_f, hIv, rfl, rfl, rfl, rfl, rfl, rfl, rfl, rfl⟩ hP hD hS dX10_turn_24 (Nat.le_refl _) (Nat.le_refl _)
set_option maxHeartbeats 4000000 in
set_option maxRecDepth 100000 in
theorem sX_X1_loadFrom_1 (l : Launch) (dC : Nat → ClassId) (dI : Nat → Nat → Nat) (cy : Nat → ClassId) (x0 : Nat) (x : Nat → Nat) (p2 : Int32) (v : Nat → Int32) (f : Nat → Nat → Int32) (hIv : XI v)  : ctV l (dC, dI) cy yX1_loadFrom cX1_loadFrom 3 1 100 0 0 ((Nat → Int32) × (Nat → Nat → Int32)) [.ref (x 21), .ref (x 24), .int p2] (XW cy x0 x v f) (fun u => KV [] u.1 v ∧ KF [15] u.2 f ∧ XI u.1 ∧ u.1 0 = v 0 ∧ u.1 1 = v 1 ∧ u.1 7 = v 7 ∧ u.1 8 = v 8 ∧ u.1 9 = v 9 ∧ u.1 10 = v 10 ∧ u.1 31 = v 31 ∧ u.1 32 = v 32) (fun u => XW cy x0 x u.1 u.2) := by
  refine ctV_of (by decide) (Nat.le_of_ble_eq_true rfl) (fun p e s m below meth c A ls Q hx hb hml hts hown hnm hE hP hD hA hl ret => ?_)
  have hM_v : KV [] v v := fun _ _ => rfl
  have hA_f : KF [15] f f := fun _ _ => rfl
  have hown : s.vm.findClass RX1 = some m.cls := hown
  have hS : va_S A s.heap s.heap [] := va_S.rf
  have hl : lv_has ls 3 [(0, .ref (x 21)), (1, .ref (x 24)), (2, .int p2)] := hl
  refine lv_iload_n hx hb dX1_loadFrom_0 rfl (lv_at hl 2 rfl) ?_
  refine lv_if_lt (tgt := 28) hx hb dX1_loadFrom_1 rfl (fun c1 => ?_) (fun c1 => ?_)
  · skip
    have zc1 : p2.toInt < 0 := by rw [fa_lt, show (0 : Int32).toInt = 0 from by decide] at c1; exact c1
    exact ret (v, f) _ _ _ _ _ _ ⟨hM_v, hA_f, hIv, rfl, rfl, rfl, rfl, rfl, rfl, rfl, rfl⟩ hP hD hS dX1_loadFrom_28 (Nat.le_refl _) (Nat.le_refl _)
  · skip
    have zc1 : ¬ (p2.toInt < 0) := by rw [fa_lt, show (0 : Int32).toInt = 0 from by decide] at c1; exact c1
    refine lv_iload_n hx hb dX1_loadFrom_4 rfl (lv_at hl 2 rfl) ?_
    refine lv_aload_n hx hb dX1_loadFrom_5 rfl (lv_at hl 1 rfl) ?_
    refine va_alen (v := 1804) hx hb hE.1 hP 25 1 rfl rfl rfl dX1_loadFrom_6 ?_
    refine lv_bipush (v := 44) hx hb dX1_loadFrom_7 rfl ?_
    refine lv_idiv hx hb dX1_loadFrom_9 (by decide) ?_
    refine tI (y := 41) (by decide) ?_
    refine lv_icmp_ge (tgt := 28) hx hb dX1_loadFrom_10 rfl (fun c2 => ?_) (fun c2 => ?_)
    · skip
      have zc2 : 41 ≤ p2.toInt := by rw [fa_le, show (41 : Int32).toInt = 41 from by decide] at c2; exact c2
      exact ret (v, f) _ _ _ _ _ _ ⟨hM_v, hA_f, hIv, rfl, rfl, rfl, rfl, rfl, rfl, rfl, rfl⟩ hP hD hS dX1_loadFrom_28 (Nat.le_refl _) (Nat.le_refl _)
    · skip
      have zc2 : ¬ (41 ≤ p2.toInt) := by rw [fa_le, show (41 : Int32).toInt = 41 from by decide] at c2; exact c2
      refine lv_aload_n hx hb dX1_loadFrom_13 rfl (lv_at hl 1 rfl) ?_
      refine lv_iload_n hx hb dX1_loadFrom_14 rfl (lv_at hl 2 rfl) ?_
      refine lv_bipush (v := 44) hx hb dX1_loadFrom_15 rfl ?_
      refine lv_imul hx hb dX1_loadFrom_17 ?_
      refine lv_topi (fun t3 et3 => ?_)
      have rg4 := fb_rng p2
      have zt3 : t3.toInt = p2.toInt * 44 := by rw [et3]; exact mul_i rfl (by decide) (by omega) (by omega)
      refine lv_aload_n hx hb dX1_loadFrom_18 rfl (lv_at hl 0 rfl) ?_
      refine va_get (D := (dC, dI)) (ci := 1) (v := .ref (x 22)) (C := RX1) (T := TX1) (N := 2) hx hb hts inB_1 hown hE.1 hP 22 rfl rfl 1 (Nat.le_of_ble_eq_true rfl) (hts _ k_319) (fun _ h9 => h9) rfl dX1_loadFrom_19 ?_
      refine lv_iconst (v := 0) hx hb dX1_loadFrom_22 rfl ?_
      refine lv_bipush (v := 44) hx hb dX1_loadFrom_23 rfl ?_
      refine cpG (zs := t3.toInt) (zd := 0) (zn := 44) hx hb (by rw [hml]; exact hl.1.symm) hown (hts _ k_335) (hts _ k_337) (hts _ k_336) (hts _ k_108) hE hP hD hS 25 23 rfl rfl rfl (by decide) (by decide) (by omega) (by omega) (by omega) (by omega) (by omega) (Nat.le_of_ble_eq_true rfl) (Nat.le_of_ble_eq_true rfl) dX1_loadFrom_25 (fun g9 H locs hP hD hS => ?_)
      obtain ⟨f5, ef5, hP, hD⟩ : ∃ fz9, fz9 = upd2 f 15 g9 ∧ va_P (dC, dI) vwCl (XW cy x0 x v fz9) H ∧ va_D A (XW cy x0 x v fz9) := ⟨_, rfl, hP, hD⟩
      have hA_f5 : KF [15] f5 f := by rw [ef5]; exact KF.up hA_f rfl
      exact ret (v, f5) _ _ _ _ _ _ ⟨hM_v, hA_f5, hIv, rfl, rfl, rfl, rfl, rfl, rfl, rfl, rfl⟩ hP hD hS dX1_loadFrom_28 (Nat.le_refl _) (Nat.le_refl _)
set_option maxHeartbeats 4000000 in
set_option maxRecDepth 100000 in
theorem sX_X5_stepBack_1 (l : Launch) (dC : Nat → ClassId) (dI : Nat → Nat → Nat) (cy : Nat → ClassId) (x0 : Nat) (x : Nat → Nat)  (v : Nat → Int32) (f : Nat → Nat → Int32) (hIv : XI v)  : ctI l (dC, dI) cy yX5_stepBack cX5_stepBack 1 .boolean 2 122 0 0 ((Nat → Int32) × (Nat → Nat → Int32)) [.ref (x 20)] (XW cy x0 x v f) (fun r u => KV [22, 23] u.1 v ∧ KF [15] u.2 f ∧ XI u.1 ∧ u.1 0 = v 0 ∧ u.1 1 = v 1 ∧ u.1 7 = v 7 ∧ u.1 8 = v 8 ∧ u.1 9 = v 9 ∧ u.1 10 = v 10 ∧ u.1 31 = v 31 ∧ u.1 32 = v 32 ∧ ((r = 1) ∨ (r = 0))) (fun u => XW cy x0 x u.1 u.2) := by
  refine ctI_of (by decide) (Nat.le_of_ble_eq_true rfl) (fun p e s m below meth c A ls Q hx hb hml hts hown hE hP hD hA hl ret => ?_)
  have hM_v : KV [22, 23] v v := fun _ _ => rfl
  have hA_f : KF [15] f f := fun _ _ => rfl
  have hown : s.vm.findClass RX5 = some m.cls := hown
  have hS : va_S A s.heap s.heap [] := va_S.rf
  have hl : lv_has ls 1 [(0, .ref (x 20))] := hl
  refine lv_aload_n hx hb dX5_stepBack_0 rfl (lv_at hl 0 rfl) ?_
  refine va_get (D := (dC, dI)) (ci := 5) (v := .int (v 22)) (C := RX5) (T := TX5) (N := 7) hx hb hts inB_5 hown hE.1 hP 21 rfl rfl 5 (Nat.le_of_ble_eq_true rfl) (hts _ k_343) (fun _ h9 => h9) rfl dX5_stepBack_1 ?_
  refine lv_if_ne (tgt := 9) hx hb dX5_stepBack_4 rfl (fun c1 => ?_) (fun c1 => ?_)
  · skip
    have zc1 : ¬ ((v 22).toInt = 0) := by rw [fa_eq, show (0 : Int32).toInt = 0 from by decide] at c1; exact c1
    refine lv_aload_n hx hb dX5_stepBack_9 rfl (lv_at hl 0 rfl) ?_
    refine lv_dup hx hb dX5_stepBack_10 rfl ?_
    refine va_get (D := (dC, dI)) (ci := 5) (v := .int (v 22)) (C := RX5) (T := TX5) (N := 7) hx hb hts inB_5 hown hE.1 hP 21 rfl rfl 5 (Nat.le_of_ble_eq_true rfl) (hts _ k_343) (fun _ h9 => h9) rfl dX5_stepBack_11 ?_
    refine lv_iconst (v := 1) hx hb dX5_stepBack_14 rfl ?_
    refine lv_isub hx hb dX5_stepBack_15 ?_
    refine lv_topi (fun t2 et2 => ?_)
    refine va_put (D := (dC, dI)) (ci := 5) (v := .int t2) (ty := tyX5 5) (C := RX5) (T := TX5) (N := 7) hx hb hts inB_5 tyX5 tyX5_ok nmX5 hown hE.1 hP hD hS 21 rfl rfl 5 (Nat.le_of_ble_eq_true rfl) (hts _ k_343) (fun _ h9 => h9) rfl (tyX5_ok 5 (by decide)) rfl rfl (Nat.le_of_ble_eq_true rfl) dX5_stepBack_16 (fun H locs hP hD hS => ?_)
    have hP : va_P (dC, dI) vwCl (XW cy x0 x (upd v 22 t2) f) H := hP
    have hD : va_D A (XW cy x0 x (upd v 22 t2) f) := hD
    refine lv_aload_n hx hb dX5_stepBack_19 rfl (lv_at hl 0 rfl) ?_
    refine lv_dup hx hb dX5_stepBack_20 rfl ?_
    refine va_get (D := (dC, dI)) (ci := 5) (v := .int (v 23)) (C := RX5) (T := TX5) (N := 7) hx hb hts inB_5 hown hE.1 hP 21 rfl rfl 6 (Nat.le_of_ble_eq_true rfl) (hts _ k_345) (fun _ h9 => h9) rfl dX5_stepBack_21 ?_
    refine lv_iconst (v := 1) hx hb dX5_stepBack_24 rfl ?_
    refine lv_iadd hx hb dX5_stepBack_25 ?_
    refine lv_topi (fun t3 et3 => ?_)
    refine va_put (D := (dC, dI)) (ci := 5) (v := .int t3) (ty := tyX5 6) (C := RX5) (T := TX5) (N := 7) hx hb hts inB_5 tyX5 tyX5_ok nmX5 hown hE.1 hP hD hS 21 rfl rfl 6 (Nat.le_of_ble_eq_true rfl) (hts _ k_345) (fun _ h9 => h9) rfl (tyX5_ok 6 (by decide)) rfl rfl (Nat.le_of_ble_eq_true rfl) dX5_stepBack_26 (fun H locs hP hD hS => ?_)
    have hP : va_P (dC, dI) vwCl (XW cy x0 x (upd (upd v 22 t2) 23 t3) f) H := hP
    have hD : va_D A (XW cy x0 x (upd (upd v 22 t2) 23 t3) f) := hD
    refine lv_aload_n hx hb dX5_stepBack_29 rfl (lv_at hl 0 rfl) ?_
    refine va_get (D := (dC, dI)) (ci := 5) (v := .ref (x 21)) (C := RX5) (T := TX5) (N := 7) hx hb hts inB_5 hown hE.1 hP 21 rfl rfl 0 (Nat.le_of_ble_eq_true rfl) (hts _ k_338) (fun _ h9 => h9) rfl dX5_stepBack_30 ?_
    refine lv_aload_n hx hb dX5_stepBack_33 rfl (lv_at hl 0 rfl) ?_
    refine va_get (D := (dC, dI)) (ci := 5) (v := .ref (x 24)) (C := RX5) (T := TX5) (N := 7) hx hb hts inB_5 hown hE.1 hP 21 rfl rfl 1 (Nat.le_of_ble_eq_true rfl) (hts _ k_339) (fun _ h9 => h9) rfl dX5_stepBack_34 ?_
    refine lv_aload_n hx hb dX5_stepBack_37 rfl (lv_at hl 0 rfl) ?_
    refine va_get (D := (dC, dI)) (ci := 5) (v := .int (v 21)) (C := RX5) (T := TX5) (N := 7) hx hb hts inB_5 hown hE.1 hP 21 rfl rfl 4 (Nat.le_of_ble_eq_true rfl) (hts _ k_342) (fun _ h9 => h9) rfl dX5_stepBack_38 ?_
    refine lv_aload_n hx hb dX5_stepBack_41 rfl (lv_at hl 0 rfl) ?_
    refine va_get (D := (dC, dI)) (ci := 5) (v := .int t2) (C := RX5) (T := TX5) (N := 7) hx hb hts inB_5 hown hE.1 hP 21 rfl rfl 5 (Nat.le_of_ble_eq_true rfl) (hts _ k_343) (fun _ h9 => h9) rfl dX5_stepBack_42 ?_
    refine lv_iadd hx hb dX5_stepBack_45 ?_
    refine lv_topi (fun t4 et4 => ?_)
    refine lv_bipush (v := 41) hx hb dX5_stepBack_46 rfl ?_
    refine lv_irem hx hb dX5_stepBack_48 (by decide) ?_
    refine lv_topi (fun t5 et5 => ?_)
    refine cbVv (n := 2) (rest := []) hx hb hml hown hts hE hP hD hS hA (sX_X1_loadFrom_1 l dC dI cy x0 x t5 (upd (upd v 22 t2) 23 t3) f (XI.upd (j := 23) (x := t3) (XI.upd (j := 22) (x := t2) hIv (rlo _) (rhi _)) (rlo _) (rhi _)) ) k_925 k_926 k_927 k_106 k_928 (by decide +kernel) ⟨Nat.le_of_ble_eq_true rfl, Nat.le_of_ble_eq_true rfl⟩ 22 1 rfl rfl (rfl) hl.1 rfl (Nat.le_of_ble_eq_true rfl) dX5_stepBack_49 (fun u H locs hw hP hD hS => ?_)
    obtain ⟨v6, f7⟩ := u
    obtain ⟨kV_v6, kF_f7, hIv6, hk0_v6, hk1_v6, hk7_v6, hk8_v6, hk9_v6, hk10_v6, hk31_v6, hk32_v6⟩ := hw
    have hM_v6 : KV [22, 23] v6 v := KV.tr kV_v6 (KV.up (j := 23) (x := t3) (KV.up (j := 22) (x := t2) hM_v rfl) rfl) rfl
    have hA_f7 : KF [15] f7 f := KF.tr kF_f7 hA_f rfl
    have hP : va_P (dC, dI) vwCl (XW cy x0 x v6 f7) H := hP
    have hD : va_D A (XW cy x0 x v6 f7) := hD
    have hq0_v6 : v6 0 = (v 0) := hk0_v6
    have hq1_v6 : v6 1 = (v 1) := hk1_v6
    have hq7_v6 : v6 7 = (v 7) := hk7_v6
    have hq8_v6 : v6 8 = (v 8) := hk8_v6
    have hq9_v6 : v6 9 = (v 9) := hk9_v6
    have hq10_v6 : v6 10 = (v 10) := hk10_v6
    have hq31_v6 : v6 31 = (v 31) := hk31_v6
    have hq32_v6 : v6 32 = (v 32) := hk32_v6
    refine lv_iconst (v := 1) hx hb dX5_stepBack_52 rfl ?_
    exact ret 1 (v6, f7) _ _ _ _ _ _ rfl ⟨hM_v6, hA_f7, hIv6, hk0_v6, hk1_v6, hk7_v6, hk8_v6, hk9_v6, hk10_v6, hk31_v6, hk32_v6, (Or.inl rfl)⟩ hP hD hS dX5_stepBack_53 (Nat.le_refl _) (Nat.le_refl _)
  · skip
    have zc1 : (v 22).toInt = 0 := by rw [fa_eq, show (0 : Int32).toInt = 0 from by decide] at c1; exact c1
    refine lv_iconst (v := 0) hx hb dX5_stepBack_7 rfl ?_
    exact ret 0 (v, f) _ _ _ _ _ _ rfl ⟨hM_v, hA_f, hIv, rfl, rfl, rfl, rfl, rfl, rfl, rfl, rfl, (Or.inr rfl)⟩ hP hD hS dX5_stepBack_8 (Nat.le_refl _) (Nat.le_refl _)
set_option maxHeartbeats 4000000 in
set_option maxRecDepth 100000 in
theorem sX_X10_undo_1 (l : Launch) (dC : Nat → ClassId) (dI : Nat → Nat → Nat) (cy : Nat → ClassId) (x0 : Nat) (x : Nat → Nat)  (v : Nat → Int32) (f : Nat → Nat → Int32) (hIv : XI v)  : ctI l (dC, dI) cy yX10_undo cX10_undo 1 .boolean 3 142 0 0 ((Nat → Int32) × (Nat → Nat → Int32)) [.ref x0] (XW cy x0 x v f) (fun r u => KV [22, 23] u.1 v ∧ KF [15] u.2 f ∧ XI u.1 ∧ u.1 0 = v 0 ∧ u.1 1 = v 1 ∧ u.1 7 = v 7 ∧ u.1 8 = v 8 ∧ u.1 9 = v 9 ∧ u.1 10 = v 10 ∧ u.1 31 = v 31 ∧ u.1 32 = v 32 ∧ ((r = 1) ∨ (r = 0))) (fun u => XW cy x0 x u.1 u.2) := by
  refine ctI_of (by decide) (Nat.le_of_ble_eq_true rfl) (fun p e s m below meth c A ls Q hx hb hml hts hown hE hP hD hA hl ret => ?_)
  have hM_v : KV [22, 23] v v := fun _ _ => rfl
  have hA_f : KF [15] f f := fun _ _ => rfl
  have hown : s.vm.findClass RX10 = some m.cls := hown
  have hS : va_S A s.heap s.heap [] := va_S.rf
  have hl : lv_has ls 1 [(0, .ref x0)] := hl
  refine lv_aload_n hx hb dX10_undo_0 rfl (lv_at hl 0 rfl) ?_
  refine va_get (D := (dC, dI)) (ci := 10) (v := .ref (x 20)) (C := RX10) (T := TX10) (N := 10) hx hb hts inB_10 hown hE.1 hP 0 rfl rfl 4 (Nat.le_of_ble_eq_true rfl) (hts _ k_495) (fun _ h9 => h9) rfl dX10_undo_1 ?_
  refine cbVi (n := 0) (rest := []) hx hb hml hown hts hE hP hD hS hA (sX_X5_stepBack_1 l dC dI cy x0 x  v f hIv ) k_921 k_922 k_923 k_107 k_924 (by decide +kernel) ⟨Nat.le_of_ble_eq_true rfl, Nat.le_of_ble_eq_true rfl⟩ 21 5 rfl rfl (rfl) hl.1 rfl (Nat.le_of_ble_eq_true rfl) dX10_undo_4 (fun r1 u H locs hw hP hD hS => ?_)
  obtain ⟨v2, f3⟩ := u
  obtain ⟨kV_v2, kF_f3, hIv2, hk0_v2, hk1_v2, hk7_v2, hk8_v2, hk9_v2, hk10_v2, hk31_v2, hk32_v2, hw⟩ := hw
  have hM_v2 : KV [22, 23] v2 v := KV.tr kV_v2 hM_v rfl
  have hA_f3 : KF [15] f3 f := KF.tr kF_f3 hA_f rfl
  have hP : va_P (dC, dI) vwCl (XW cy x0 x v2 f3) H := hP
  have hD : va_D A (XW cy x0 x v2 f3) := hD
  have hq0_v2 : v2 0 = (v 0) := hk0_v2
  have hq1_v2 : v2 1 = (v 1) := hk1_v2
  have hq7_v2 : v2 7 = (v 7) := hk7_v2
  have hq8_v2 : v2 8 = (v 8) := hk8_v2
  have hq9_v2 : v2 9 = (v 9) := hk9_v2
  have hq10_v2 : v2 10 = (v 10) := hk10_v2
  have hq31_v2 : v2 31 = (v 31) := hk31_v2
  have hq32_v2 : v2 32 = (v 32) := hk32_v2
  rcases hw with ⟨g4⟩ | ⟨g4⟩
  · skip
    subst g4
    exact ret 1 (v2, f3) _ _ _ _ _ _ rfl ⟨hM_v2, hA_f3, hIv2, hk0_v2, hk1_v2, hk7_v2, hk8_v2, hk9_v2, hk10_v2, hk31_v2, hk32_v2, (Or.inl rfl)⟩ hP hD hS dX10_undo_7 (Nat.le_refl _) (Nat.le_refl _)
  · skip
    subst g4
    exact ret 0 (v2, f3) _ _ _ _ _ _ rfl ⟨hM_v2, hA_f3, hIv2, hk0_v2, hk1_v2, hk7_v2, hk8_v2, hk9_v2, hk10_v2, hk31_v2, hk32_v2, (Or.inr rfl)⟩ hP hD hS dX10_undo_7 (Nat.le_refl _) (Nat.le_refl _)
set_option maxHeartbeats 4000000 in
set_option maxRecDepth 100000 in
theorem sX_X5_stepOn_1 (l : Launch) (dC : Nat → ClassId) (dI : Nat → Nat → Nat) (cy : Nat → ClassId) (x0 : Nat) (x : Nat → Nat)  (v : Nat → Int32) (f : Nat → Nat → Int32) (hIv : XI v)  : ctI l (dC, dI) cy yX5_stepOn cX5_stepOn 1 .boolean 2 122 0 0 ((Nat → Int32) × (Nat → Nat → Int32)) [.ref (x 20)] (XW cy x0 x v f) (fun r u => KV [22, 23] u.1 v ∧ KF [15] u.2 f ∧ XI u.1 ∧ u.1 0 = v 0 ∧ u.1 1 = v 1 ∧ u.1 7 = v 7 ∧ u.1 8 = v 8 ∧ u.1 9 = v 9 ∧ u.1 10 = v 10 ∧ u.1 31 = v 31 ∧ u.1 32 = v 32 ∧ ((r = 1) ∨ (r = 0))) (fun u => XW cy x0 x u.1 u.2) := by
  refine ctI_of (by decide) (Nat.le_of_ble_eq_true rfl) (fun p e s m below meth c A ls Q hx hb hml hts hown hE hP hD hA hl ret => ?_)
  have hM_v : KV [22, 23] v v := fun _ _ => rfl
  have hA_f : KF [15] f f := fun _ _ => rfl
  have hown : s.vm.findClass RX5 = some m.cls := hown
  have hS : va_S A s.heap s.heap [] := va_S.rf
  have hl : lv_has ls 1 [(0, .ref (x 20))] := hl
  refine lv_aload_n hx hb dX5_stepOn_0 rfl (lv_at hl 0 rfl) ?_
  refine va_get (D := (dC, dI)) (ci := 5) (v := .int (v 23)) (C := RX5) (T := TX5) (N := 7) hx hb hts inB_5 hown hE.1 hP 21 rfl rfl 6 (Nat.le_of_ble_eq_true rfl) (hts _ k_345) (fun _ h9 => h9) rfl dX5_stepOn_1 ?_
  refine lv_if_ne (tgt := 9) hx hb dX5_stepOn_4 rfl (fun c1 => ?_) (fun c1 => ?_)
  · skip
    have zc1 : ¬ ((v 23).toInt = 0) := by rw [fa_eq, show (0 : Int32).toInt = 0 from by decide] at c1; exact c1
    refine lv_aload_n hx hb dX5_stepOn_9 rfl (lv_at hl 0 rfl) ?_
    refine lv_dup hx hb dX5_stepOn_10 rfl ?_
    refine va_get (D := (dC, dI)) (ci := 5) (v := .int (v 22)) (C := RX5) (T := TX5) (N := 7) hx hb hts inB_5 hown hE.1 hP 21 rfl rfl 5 (Nat.le_of_ble_eq_true rfl) (hts _ k_343) (fun _ h9 => h9) rfl dX5_stepOn_11 ?_
    refine lv_iconst (v := 1) hx hb dX5_stepOn_14 rfl ?_
    refine lv_iadd hx hb dX5_stepOn_15 ?_
    refine lv_topi (fun t2 et2 => ?_)
    refine va_put (D := (dC, dI)) (ci := 5) (v := .int t2) (ty := tyX5 5) (C := RX5) (T := TX5) (N := 7) hx hb hts inB_5 tyX5 tyX5_ok nmX5 hown hE.1 hP hD hS 21 rfl rfl 5 (Nat.le_of_ble_eq_true rfl) (hts _ k_343) (fun _ h9 => h9) rfl (tyX5_ok 5 (by decide)) rfl rfl (Nat.le_of_ble_eq_true rfl) dX5_stepOn_16 (fun H locs hP hD hS => ?_)
    have hP : va_P (dC, dI) vwCl (XW cy x0 x (upd v 22 t2) f) H := hP
    have hD : va_D A (XW cy x0 x (upd v 22 t2) f) := hD
    refine lv_aload_n hx hb dX5_stepOn_19 rfl (lv_at hl 0 rfl) ?_
    refine lv_dup hx hb dX5_stepOn_20 rfl ?_
    refine va_get (D := (dC, dI)) (ci := 5) (v := .int (v 23)) (C := RX5) (T := TX5) (N := 7) hx hb hts inB_5 hown hE.1 hP 21 rfl rfl 6 (Nat.le_of_ble_eq_true rfl) (hts _ k_345) (fun _ h9 => h9) rfl dX5_stepOn_21 ?_
    refine lv_iconst (v := 1) hx hb dX5_stepOn_24 rfl ?_
    refine lv_isub hx hb dX5_stepOn_25 ?_
    refine lv_topi (fun t3 et3 => ?_)
    refine va_put (D := (dC, dI)) (ci := 5) (v := .int t3) (ty := tyX5 6) (C := RX5) (T := TX5) (N := 7) hx hb hts inB_5 tyX5 tyX5_ok nmX5 hown hE.1 hP hD hS 21 rfl rfl 6 (Nat.le_of_ble_eq_true rfl) (hts _ k_345) (fun _ h9 => h9) rfl (tyX5_ok 6 (by decide)) rfl rfl (Nat.le_of_ble_eq_true rfl) dX5_stepOn_26 (fun H locs hP hD hS => ?_)
    have hP : va_P (dC, dI) vwCl (XW cy x0 x (upd (upd v 22 t2) 23 t3) f) H := hP
    have hD : va_D A (XW cy x0 x (upd (upd v 22 t2) 23 t3) f) := hD
    refine lv_aload_n hx hb dX5_stepOn_29 rfl (lv_at hl 0 rfl) ?_
    refine va_get (D := (dC, dI)) (ci := 5) (v := .ref (x 21)) (C := RX5) (T := TX5) (N := 7) hx hb hts inB_5 hown hE.1 hP 21 rfl rfl 0 (Nat.le_of_ble_eq_true rfl) (hts _ k_338) (fun _ h9 => h9) rfl dX5_stepOn_30 ?_
    refine lv_aload_n hx hb dX5_stepOn_33 rfl (lv_at hl 0 rfl) ?_
    refine va_get (D := (dC, dI)) (ci := 5) (v := .ref (x 24)) (C := RX5) (T := TX5) (N := 7) hx hb hts inB_5 hown hE.1 hP 21 rfl rfl 1 (Nat.le_of_ble_eq_true rfl) (hts _ k_339) (fun _ h9 => h9) rfl dX5_stepOn_34 ?_
    refine lv_aload_n hx hb dX5_stepOn_37 rfl (lv_at hl 0 rfl) ?_
    refine va_get (D := (dC, dI)) (ci := 5) (v := .int (v 21)) (C := RX5) (T := TX5) (N := 7) hx hb hts inB_5 hown hE.1 hP 21 rfl rfl 4 (Nat.le_of_ble_eq_true rfl) (hts _ k_342) (fun _ h9 => h9) rfl dX5_stepOn_38 ?_
    refine lv_aload_n hx hb dX5_stepOn_41 rfl (lv_at hl 0 rfl) ?_
    refine va_get (D := (dC, dI)) (ci := 5) (v := .int t2) (C := RX5) (T := TX5) (N := 7) hx hb hts inB_5 hown hE.1 hP 21 rfl rfl 5 (Nat.le_of_ble_eq_true rfl) (hts _ k_343) (fun _ h9 => h9) rfl dX5_stepOn_42 ?_
    refine lv_iadd hx hb dX5_stepOn_45 ?_
    refine lv_topi (fun t4 et4 => ?_)
    refine lv_bipush (v := 41) hx hb dX5_stepOn_46 rfl ?_
    refine lv_irem hx hb dX5_stepOn_48 (by decide) ?_
    refine lv_topi (fun t5 et5 => ?_)
    refine cbVv (n := 2) (rest := []) hx hb hml hown hts hE hP hD hS hA (sX_X1_loadFrom_1 l dC dI cy x0 x t5 (upd (upd v 22 t2) 23 t3) f (XI.upd (j := 23) (x := t3) (XI.upd (j := 22) (x := t2) hIv (rlo _) (rhi _)) (rlo _) (rhi _)) ) k_925 k_926 k_927 k_106 k_928 (by decide +kernel) ⟨Nat.le_of_ble_eq_true rfl, Nat.le_of_ble_eq_true rfl⟩ 22 1 rfl rfl (rfl) hl.1 rfl (Nat.le_of_ble_eq_true rfl) dX5_stepOn_49 (fun u H locs hw hP hD hS => ?_)
    obtain ⟨v6, f7⟩ := u
    obtain ⟨kV_v6, kF_f7, hIv6, hk0_v6, hk1_v6, hk7_v6, hk8_v6, hk9_v6, hk10_v6, hk31_v6, hk32_v6⟩ := hw
    have hM_v6 : KV [22, 23] v6 v := KV.tr kV_v6 (KV.up (j := 23) (x := t3) (KV.up (j := 22) (x := t2) hM_v rfl) rfl) rfl
    have hA_f7 : KF [15] f7 f := KF.tr kF_f7 hA_f rfl
    have hP : va_P (dC, dI) vwCl (XW cy x0 x v6 f7) H := hP
    have hD : va_D A (XW cy x0 x v6 f7) := hD
    have hq0_v6 : v6 0 = (v 0) := hk0_v6
    have hq1_v6 : v6 1 = (v 1) := hk1_v6
    have hq7_v6 : v6 7 = (v 7) := hk7_v6
    have hq8_v6 : v6 8 = (v 8) := hk8_v6
    have hq9_v6 : v6 9 = (v 9) := hk9_v6
    have hq10_v6 : v6 10 = (v 10) := hk10_v6
    have hq31_v6 : v6 31 = (v 31) := hk31_v6
    have hq32_v6 : v6 32 = (v 32) := hk32_v6
    refine lv_iconst (v := 1) hx hb dX5_stepOn_52 rfl ?_
    exact ret 1 (v6, f7) _ _ _ _ _ _ rfl ⟨hM_v6, hA_f7, hIv6, hk0_v6, hk1_v6, hk7_v6, hk8_v6, hk9_v6, hk10_v6, hk31_v6, hk32_v6, (Or.inl rfl)⟩ hP hD hS dX5_stepOn_53 (Nat.le_refl _) (Nat.le_refl _)
  · skip
    have zc1 : (v 23).toInt = 0 := by rw [fa_eq, show (0 : Int32).toInt = 0 from by decide] at c1; exact c1
    refine lv_iconst (v := 0) hx hb dX5_stepOn_7 rfl ?_
    exact ret 0 (v, f) _ _ _ _ _ _ rfl ⟨hM_v, hA_f, hIv, rfl, rfl, rfl, rfl, rfl, rfl, rfl, rfl, (Or.inr rfl)⟩ hP hD hS dX5_stepOn_8 (Nat.le_refl _) (Nat.le_refl _)
set_option maxHeartbeats 4000000 in
set_option maxRecDepth 100000 in
theorem sX_X10_redo_1 (l : Launch) (dC : Nat → ClassId) (dI : Nat → Nat → Nat) (cy : Nat → ClassId) (x0 : Nat) (x : Nat → Nat)  (v : Nat → Int32) (f : Nat → Nat → Int32) (hIv : XI v)  : ctI l (dC, dI) cy yX10_redo cX10_redo 1 .boolean 3 142 0 0 ((Nat → Int32) × (Nat → Nat → Int32)) [.ref x0] (XW cy x0 x v f) (fun r u => KV [22, 23] u.1 v ∧ KF [15] u.2 f ∧ XI u.1 ∧ u.1 0 = v 0 ∧ u.1 1 = v 1 ∧ u.1 7 = v 7 ∧ u.1 8 = v 8 ∧ u.1 9 = v 9 ∧ u.1 10 = v 10 ∧ u.1 31 = v 31 ∧ u.1 32 = v 32 ∧ ((r = 1) ∨ (r = 0))) (fun u => XW cy x0 x u.1 u.2) := by
  refine ctI_of (by decide) (Nat.le_of_ble_eq_true rfl) (fun p e s m below meth c A ls Q hx hb hml hts hown hE hP hD hA hl ret => ?_)
  have hM_v : KV [22, 23] v v := fun _ _ => rfl
  have hA_f : KF [15] f f := fun _ _ => rfl
  have hown : s.vm.findClass RX10 = some m.cls := hown
  have hS : va_S A s.heap s.heap [] := va_S.rf
  have hl : lv_has ls 1 [(0, .ref x0)] := hl
  refine lv_aload_n hx hb dX10_redo_0 rfl (lv_at hl 0 rfl) ?_
  refine va_get (D := (dC, dI)) (ci := 10) (v := .ref (x 20)) (C := RX10) (T := TX10) (N := 10) hx hb hts inB_10 hown hE.1 hP 0 rfl rfl 4 (Nat.le_of_ble_eq_true rfl) (hts _ k_495) (fun _ h9 => h9) rfl dX10_redo_1 ?_
  refine cbVi (n := 0) (rest := []) hx hb hml hown hts hE hP hD hS hA (sX_X5_stepOn_1 l dC dI cy x0 x  v f hIv ) k_933 k_934 k_935 k_107 k_936 (by decide +kernel) ⟨Nat.le_of_ble_eq_true rfl, Nat.le_of_ble_eq_true rfl⟩ 21 5 rfl rfl (rfl) hl.1 rfl (Nat.le_of_ble_eq_true rfl) dX10_redo_4 (fun r1 u H locs hw hP hD hS => ?_)
  obtain ⟨v2, f3⟩ := u
  obtain ⟨kV_v2, kF_f3, hIv2, hk0_v2, hk1_v2, hk7_v2, hk8_v2, hk9_v2, hk10_v2, hk31_v2, hk32_v2, hw⟩ := hw
  have hM_v2 : KV [22, 23] v2 v := KV.tr kV_v2 hM_v rfl
  have hA_f3 : KF [15] f3 f := KF.tr kF_f3 hA_f rfl
  have hP : va_P (dC, dI) vwCl (XW cy x0 x v2 f3) H := hP
  have hD : va_D A (XW cy x0 x v2 f3) := hD
  have hq0_v2 : v2 0 = (v 0) := hk0_v2
  have hq1_v2 : v2 1 = (v 1) := hk1_v2
  have hq7_v2 : v2 7 = (v 7) := hk7_v2
  have hq8_v2 : v2 8 = (v 8) := hk8_v2
  have hq9_v2 : v2 9 = (v 9) := hk9_v2
  have hq10_v2 : v2 10 = (v 10) := hk10_v2
  have hq31_v2 : v2 31 = (v 31) := hk31_v2
  have hq32_v2 : v2 32 = (v 32) := hk32_v2
  rcases hw with ⟨g4⟩ | ⟨g4⟩
  · skip
    subst g4
    exact ret 1 (v2, f3) _ _ _ _ _ _ rfl ⟨hM_v2, hA_f3, hIv2, hk0_v2, hk1_v2, hk7_v2, hk8_v2, hk9_v2, hk10_v2, hk31_v2, hk32_v2, (Or.inl rfl)⟩ hP hD hS dX10_redo_7 (Nat.le_refl _) (Nat.le_refl _)
  · skip
    subst g4
    exact ret 0 (v2, f3) _ _ _ _ _ _ rfl ⟨hM_v2, hA_f3, hIv2, hk0_v2, hk1_v2, hk7_v2, hk8_v2, hk9_v2, hk10_v2, hk31_v2, hk32_v2, (Or.inr rfl)⟩ hP hD hS dX10_redo_7 (Nat.le_refl _) (Nat.le_refl _)
set_option maxHeartbeats 4000000 in
set_option maxRecDepth 100000 in
theorem sX_X1_copy_1 (l : Launch) (dC : Nat → ClassId) (dI : Nat → Nat → Nat) (cy : Nat → ClassId) (x0 : Nat) (x : Nat → Nat)  (v : Nat → Int32) (f : Nat → Nat → Int32) (hIv : XI v)  : ctV l (dC, dI) cy yX1_copy cX1_copy 2 1 100 0 0 ((Nat → Int32) × (Nat → Nat → Int32)) [.ref (x 27), .ref (x 21)] (XW cy x0 x v f) (fun u => KV [] u.1 v ∧ KF [18] u.2 f ∧ XI u.1 ∧ u.1 0 = v 0 ∧ u.1 1 = v 1 ∧ u.1 7 = v 7 ∧ u.1 8 = v 8 ∧ u.1 9 = v 9 ∧ u.1 10 = v 10 ∧ u.1 31 = v 31 ∧ u.1 32 = v 32) (fun u => XW cy x0 x u.1 u.2) := by
  refine ctV_of (by decide) (Nat.le_of_ble_eq_true rfl) (fun p e s m below meth c A ls Q hx hb hml hts hown hnm hE hP hD hA hl ret => ?_)
  have hM_v : KV [] v v := fun _ _ => rfl
  have hA_f : KF [18] f f := fun _ _ => rfl
  have hown : s.vm.findClass RX1 = some m.cls := hown
  have hS : va_S A s.heap s.heap [] := va_S.rf
  have hl : lv_has ls 2 [(0, .ref (x 27)), (1, .ref (x 21))] := hl
  refine lv_aload_n hx hb dX1_copy_0 rfl (lv_at hl 1 rfl) ?_
  refine va_get (D := (dC, dI)) (ci := 1) (v := .ref (x 22)) (C := RX1) (T := TX1) (N := 2) hx hb hts inB_1 hown hE.1 hP 22 rfl rfl 1 (Nat.le_of_ble_eq_true rfl) (hts _ k_319) (fun _ h9 => h9) rfl dX1_copy_1 ?_
  refine lv_iconst (v := 0) hx hb dX1_copy_4 rfl ?_
  refine lv_aload_n hx hb dX1_copy_5 rfl (lv_at hl 0 rfl) ?_
  refine va_get (D := (dC, dI)) (ci := 1) (v := .ref (x 28)) (C := RX1) (T := TX1) (N := 2) hx hb hts inB_1 hown hE.1 hP 28 rfl rfl 1 (Nat.le_of_ble_eq_true rfl) (hts _ k_319) (fun _ h9 => h9) rfl dX1_copy_6 ?_
  refine lv_iconst (v := 0) hx hb dX1_copy_9 rfl ?_
  refine lv_bipush (v := 44) hx hb dX1_copy_10 rfl ?_
  refine cpG (zs := 0) (zd := 0) (zn := 44) hx hb (by rw [hml]; exact hl.1.symm) hown (hts _ k_335) (hts _ k_337) (hts _ k_336) (hts _ k_108) hE hP hD hS 23 29 rfl rfl (by decide) (by decide) (by decide) (by omega) (by omega) (by omega) (by omega) (by omega) (Nat.le_of_ble_eq_true rfl) (Nat.le_of_ble_eq_true rfl) dX1_copy_12 (fun g9 H locs hP hD hS => ?_)
  obtain ⟨f1, ef1, hP, hD⟩ : ∃ fz9, fz9 = upd2 f 18 g9 ∧ va_P (dC, dI) vwCl (XW cy x0 x v fz9) H ∧ va_D A (XW cy x0 x v fz9) := ⟨_, rfl, hP, hD⟩
  have hA_f1 : KF [18] f1 f := by rw [ef1]; exact KF.up hA_f rfl
  exact ret (v, f1) _ _ _ _ _ _ ⟨hM_v, hA_f1, hIv, rfl, rfl, rfl, rfl, rfl, rfl, rfl, rfl⟩ hP hD hS dX1_copy_15 (Nat.le_refl _) (Nat.le_refl _)
set_option maxHeartbeats 4000000 in
set_option maxRecDepth 100000 in
theorem sX_X1_wears_2 (l : Launch) (dC : Nat → ClassId) (dI : Nat → Nat → Nat) (cy : Nat → ClassId) (x0 : Nat) (x : Nat → Nat) (p1 : Int32) (v : Nat → Int32) (f : Nat → Nat → Int32) (hIv : XI v)  : ctI l (dC, dI) cy yX1_wears cX1_wears 2 .int 2 81 0 0 Unit [.ref (x 27), .int p1] (XW cy x0 x v f) (fun r u => True) (fun u => XW cy x0 x v f) := by
  refine ctI_of (by decide) (Nat.le_of_ble_eq_true rfl) (fun p e s m below meth c A ls Q hx hb hml hts hown hE hP hD hA hl ret => ?_)
  have hown : s.vm.findClass RX1 = some m.cls := hown
  have hS : va_S A s.heap s.heap [] := va_S.rf
  have hl : lv_has ls 2 [(0, .ref (x 27)), (1, .int p1)] := hl
  refine lv_aload_n hx hb dX1_wears_0 rfl (lv_at hl 0 rfl) ?_
  refine va_get (D := (dC, dI)) (ci := 1) (v := .ref (x 26)) (C := RX1) (T := TX1) (N := 2) hx hb hts inB_1 hown hE.1 hP 28 rfl rfl 0 (Nat.le_of_ble_eq_true rfl) (hts _ k_318) (fun _ h9 => h9) rfl dX1_wears_1 ?_
  refine lv_iload_n hx hb dX1_wears_4 rfl (lv_at hl 1 rfl) ?_
  refine cbVi (n := 1) (rest := []) hx hb hml hown hts hE hP hD hS hA (sX_X7_hasMan_1 0 l dC dI cy x0 x p1 v f hIv ) k_808 k_307 k_308 k_104 k_309 (by decide +kernel) ⟨Nat.le_of_ble_eq_true rfl, Nat.le_of_ble_eq_true rfl⟩ 27 7 rfl rfl (rfl) hl.1 rfl (Nat.le_of_ble_eq_true rfl) dX1_wears_5 (fun r1 u H locs hw hP hD hS => ?_)
  obtain ⟨hG2, hw⟩ := hw
  rcases hw with ⟨g3, g3_0, g3_1, g3_2⟩ | ⟨g3⟩
  · skip
    subst g3
    refine lv_if_eq (tgt := 23) hx hb dX1_wears_8 rfl (fun c0 => absurd c0 (by decide)) (fun _ => ?_)
    refine lv_aload_n hx hb dX1_wears_11 rfl (lv_at hl 0 rfl) ?_
    refine va_get (D := (dC, dI)) (ci := 1) (v := .ref (x 28)) (C := RX1) (T := TX1) (N := 2) hx hb hts inB_1 hown hE.1 hP 28 rfl rfl 1 (Nat.le_of_ble_eq_true rfl) (hts _ k_319) (fun _ h9 => h9) rfl dX1_wears_12 ?_
    refine lv_bipush (v := 6) hx hb dX1_wears_15 rfl ?_
    refine lv_iload_n hx hb dX1_wears_17 rfl (lv_at hl 1 rfl) ?_
    refine lv_iadd hx hb dX1_wears_18 ?_
    refine lv_topi (fun t4 et4 => ?_)
    have rg5 := fb_rng p1
    have zt4 : t4.toInt = 6 + p1.toInt := by rw [et4]; exact add_i (by decide) rfl (by omega) (by omega)
    refine ldI hx hb hE hP 29 rfl (vp_in_iff.mpr ⟨by omega, by omega⟩) rfl rfl dX1_wears_19 ?_
    refine lv_topi (fun t6 et6 => ?_)
    refine lv_goto (tgt := 24) hx hb dX1_wears_20 rfl ?_
    exact ret t6 () _ _ _ _ _ _ rfl trivial hP hD hS dX1_wears_24 (Nat.le_refl _) (Nat.le_refl _)
  · skip
    subst g3
    refine lv_if_eq (tgt := 23) hx hb dX1_wears_8 rfl (fun _ => ?_) (fun c0 => absurd (by decide) c0)
    refine lv_iconst (v := (-1)) hx hb dX1_wears_23 rfl ?_
    exact ret (-1) () _ _ _ _ _ _ rfl trivial hP hD hS dX1_wears_24 (Nat.le_refl _) (Nat.le_refl _)
set_option maxHeartbeats 4000000 in
set_option maxRecDepth 100000 in
theorem sX_X1_manWide_2 (l : Launch) (dC : Nat → ClassId) (dI : Nat → Nat → Nat) (cy : Nat → ClassId) (x0 : Nat) (x : Nat → Nat) (p1 : Int32) (v : Nat → Int32) (f : Nat → Nat → Int32) (hIv : XI v)  : ctI l (dC, dI) cy yX1_manWide cX1_manWide 2 .int 2 81 0 0 Unit [.ref (x 27), .int p1] (XW cy x0 x v f) (fun r u => True) (fun u => XW cy x0 x v f) := by
  refine ctI_of (by decide) (Nat.le_of_ble_eq_true rfl) (fun p e s m below meth c A ls Q hx hb hml hts hown hE hP hD hA hl ret => ?_)
  have hown : s.vm.findClass RX1 = some m.cls := hown
  have hS : va_S A s.heap s.heap [] := va_S.rf
  have hl : lv_has ls 2 [(0, .ref (x 27)), (1, .int p1)] := hl
  refine lv_aload_n hx hb dX1_manWide_0 rfl (lv_at hl 0 rfl) ?_
  refine va_get (D := (dC, dI)) (ci := 1) (v := .ref (x 26)) (C := RX1) (T := TX1) (N := 2) hx hb hts inB_1 hown hE.1 hP 28 rfl rfl 0 (Nat.le_of_ble_eq_true rfl) (hts _ k_318) (fun _ h9 => h9) rfl dX1_manWide_1 ?_
  refine lv_iload_n hx hb dX1_manWide_4 rfl (lv_at hl 1 rfl) ?_
  refine cbVi (n := 1) (rest := []) hx hb hml hown hts hE hP hD hS hA (sX_X7_hasMan_1 0 l dC dI cy x0 x p1 v f hIv ) k_808 k_307 k_308 k_104 k_309 (by decide +kernel) ⟨Nat.le_of_ble_eq_true rfl, Nat.le_of_ble_eq_true rfl⟩ 27 7 rfl rfl (rfl) hl.1 rfl (Nat.le_of_ble_eq_true rfl) dX1_manWide_5 (fun r1 u H locs hw hP hD hS => ?_)
  obtain ⟨hG2, hw⟩ := hw
  rcases hw with ⟨g3, g3_0, g3_1, g3_2⟩ | ⟨g3⟩
  · skip
    subst g3
    refine lv_if_eq (tgt := 20) hx hb dX1_manWide_8 rfl (fun c0 => absurd c0 (by decide)) (fun _ => ?_)
    refine lv_aload_n hx hb dX1_manWide_11 rfl (lv_at hl 0 rfl) ?_
    refine va_get (D := (dC, dI)) (ci := 1) (v := .ref (x 28)) (C := RX1) (T := TX1) (N := 2) hx hb hts inB_1 hown hE.1 hP 28 rfl rfl 1 (Nat.le_of_ble_eq_true rfl) (hts _ k_319) (fun _ h9 => h9) rfl dX1_manWide_12 ?_
    refine lv_iload_n hx hb dX1_manWide_15 rfl (lv_at hl 1 rfl) ?_
    refine ldI hx hb hE hP 29 rfl (vp_in_iff.mpr ⟨by omega, by omega⟩) rfl rfl dX1_manWide_16 ?_
    refine lv_topi (fun t4 et4 => ?_)
    refine lv_goto (tgt := 21) hx hb dX1_manWide_17 rfl ?_
    exact ret t4 () _ _ _ _ _ _ rfl trivial hP hD hS dX1_manWide_21 (Nat.le_refl _) (Nat.le_refl _)
  · skip
    subst g3
    refine lv_if_eq (tgt := 20) hx hb dX1_manWide_8 rfl (fun _ => ?_) (fun c0 => absurd (by decide) c0)
    refine lv_iconst (v := 0) hx hb dX1_manWide_20 rfl ?_
    exact ret 0 () _ _ _ _ _ _ rfl trivial hP hD hS dX1_manWide_21 (Nat.le_refl _) (Nat.le_refl _)
set_option maxHeartbeats 4000000 in
set_option maxRecDepth 100000 in
theorem sX_X1_part_2 (l : Launch) (dC : Nat → ClassId) (dI : Nat → Nat → Nat) (cy : Nat → ClassId) (x0 : Nat) (x : Nat → Nat) (p1 : Int32) (p2 : Int32) (v : Nat → Int32) (f : Nat → Nat → Int32) (hIv : XI v)  : ctI l (dC, dI) cy yX1_part cX1_part 4 .int 2 81 0 0 Unit [.ref (x 27), .int p1, .int p2] (XW cy x0 x v f) (fun r u => True) (fun u => XW cy x0 x v f) := by
  refine ctI_of (by decide) (Nat.le_of_ble_eq_true rfl) (fun p e s m below meth c A ls Q hx hb hml hts hown hE hP hD hA hl ret => ?_)
  have hown : s.vm.findClass RX1 = some m.cls := hown
  have hS : va_S A s.heap s.heap [] := va_S.rf
  have hl : lv_has ls 4 [(0, .ref (x 27)), (1, .int p1), (2, .int p2)] := hl
  refine lv_aload_n hx hb dX1_part_0 rfl (lv_at hl 0 rfl) ?_
  refine va_get (D := (dC, dI)) (ci := 1) (v := .ref (x 26)) (C := RX1) (T := TX1) (N := 2) hx hb hts inB_1 hown hE.1 hP 28 rfl rfl 0 (Nat.le_of_ble_eq_true rfl) (hts _ k_318) (fun _ h9 => h9) rfl dX1_part_1 ?_
  refine lv_iload_n hx hb dX1_part_4 rfl (lv_at hl 2 rfl) ?_
  refine cbVi (n := 1) (rest := []) hx hb hml hown hts hE hP hD hS hA (sX_X7_hasCoat_1 0 l dC dI cy x0 x p2 v f hIv ) k_821 k_315 k_316 k_104 k_317 (by decide +kernel) ⟨Nat.le_of_ble_eq_true rfl, Nat.le_of_ble_eq_true rfl⟩ 27 7 rfl rfl (rfl) hl.1 rfl (Nat.le_of_ble_eq_true rfl) dX1_part_5 (fun r1 u H locs hw hP hD hS => ?_)
  obtain ⟨hG2, hw⟩ := hw
  rcases hw with ⟨g3, g3_0, g3_1, g3_2⟩ | ⟨g3⟩
  · skip
    subst g3
    refine lv_if_eq (tgt := 24) hx hb dX1_part_8 rfl (fun c0 => absurd c0 (by decide)) (fun _ => ?_)
    refine lv_iload_n hx hb dX1_part_11 rfl (lv_at hl 1 rfl) ?_
    refine lv_if_lt (tgt := 24) hx hb dX1_part_12 rfl (fun c4 => ?_) (fun c4 => ?_)
    · skip
      have zc4 : p1.toInt < 0 := by rw [fa_lt, show (0 : Int32).toInt = 0 from by decide] at c4; exact c4
      refine lv_iconst (v := 0) hx hb dX1_part_24 rfl ?_
      refine lv_istore_n (lv' := [(3, .int 0), (0, .ref (x 27)), (1, .int p1), (2, .int p2)]) hx hb dX1_part_25 rfl hl (Nat.le_of_ble_eq_true rfl) rfl (fun ls hl => ?_)
      refine lv_iload_n hx hb dX1_part_26 rfl (lv_at hl 0 rfl) ?_
      refine lv_if_eq (tgt := 47) hx hb dX1_part_27 rfl (fun _ => ?_) (fun c0 => absurd (by decide) c0)
      refine lv_iconst (v := 0) hx hb dX1_part_47 rfl ?_
      exact ret 0 () _ _ _ _ _ _ rfl trivial hP hD hS dX1_part_48 (Nat.le_refl _) (Nat.le_refl _)
    · skip
      have zc4 : ¬ (p1.toInt < 0) := by rw [fa_lt, show (0 : Int32).toInt = 0 from by decide] at c4; exact c4
      refine lv_iload_n hx hb dX1_part_15 rfl (lv_at hl 1 rfl) ?_
      refine lv_iconst (v := 5) hx hb dX1_part_16 rfl ?_
      refine lv_icmp_ge (tgt := 24) hx hb dX1_part_17 rfl (fun c5 => ?_) (fun c5 => ?_)
      · skip
        have zc5 : 5 ≤ p1.toInt := by rw [fa_le, show (5 : Int32).toInt = 5 from by decide] at c5; exact c5
        refine lv_iconst (v := 0) hx hb dX1_part_24 rfl ?_
        refine lv_istore_n (lv' := [(3, .int 0), (0, .ref (x 27)), (1, .int p1), (2, .int p2)]) hx hb dX1_part_25 rfl hl (Nat.le_of_ble_eq_true rfl) rfl (fun ls hl => ?_)
        refine lv_iload_n hx hb dX1_part_26 rfl (lv_at hl 0 rfl) ?_
        refine lv_if_eq (tgt := 47) hx hb dX1_part_27 rfl (fun _ => ?_) (fun c0 => absurd (by decide) c0)
        refine lv_iconst (v := 0) hx hb dX1_part_47 rfl ?_
        exact ret 0 () _ _ _ _ _ _ rfl trivial hP hD hS dX1_part_48 (Nat.le_refl _) (Nat.le_refl _)
      · skip
        have zc5 : ¬ (5 ≤ p1.toInt) := by rw [fa_le, show (5 : Int32).toInt = 5 from by decide] at c5; exact c5
        refine lv_iconst (v := 1) hx hb dX1_part_20 rfl ?_
        refine lv_goto (tgt := 25) hx hb dX1_part_21 rfl ?_
        refine lv_istore_n (lv' := [(3, .int 1), (0, .ref (x 27)), (1, .int p1), (2, .int p2)]) hx hb dX1_part_25 rfl hl (Nat.le_of_ble_eq_true rfl) rfl (fun ls hl => ?_)
        refine lv_iload_n hx hb dX1_part_26 rfl (lv_at hl 0 rfl) ?_
        refine lv_if_eq (tgt := 47) hx hb dX1_part_27 rfl (fun c0 => absurd c0 (by decide)) (fun _ => ?_)
        refine lv_aload_n hx hb dX1_part_30 rfl (lv_at hl 1 rfl) ?_
        refine va_get (D := (dC, dI)) (ci := 1) (v := .ref (x 28)) (C := RX1) (T := TX1) (N := 2) hx hb hts inB_1 hown hE.1 hP 28 rfl rfl 1 (Nat.le_of_ble_eq_true rfl) (hts _ k_319) (fun _ h9 => h9) rfl dX1_part_31 ?_
        refine lv_bipush (v := 12) hx hb dX1_part_34 rfl ?_
        refine lv_iload_n hx hb dX1_part_36 rfl (lv_at hl 2 rfl) ?_
        refine lv_bipush (v := 6) hx hb dX1_part_37 rfl ?_
        refine lv_imul hx hb dX1_part_39 ?_
        refine lv_topi (fun t6 et6 => ?_)
        have rg7 := fb_rng p1
        have zt6 : t6.toInt = p1.toInt * 6 := by rw [et6]; exact mul_i rfl (by decide) (by omega) (by omega)
        refine lv_iadd hx hb dX1_part_40 ?_
        refine lv_topi (fun t8 et8 => ?_)
        have rg9 := fb_rng t6
        have zt8 : t8.toInt = 12 + t6.toInt := by rw [et8]; exact add_i (by decide) rfl (by omega) (by omega)
        refine lv_iload_n hx hb dX1_part_41 rfl (lv_at hl 3 rfl) ?_
        refine lv_iadd hx hb dX1_part_42 ?_
        refine lv_topi (fun t10 et10 => ?_)
        have rg11 := fb_rng t8
        have rg12 := fb_rng p2
        have zt10 : t10.toInt = t8.toInt + p2.toInt := by rw [et10]; exact add_i rfl rfl (by omega) (by omega)
        refine ldI hx hb hE hP 29 rfl (vp_in_iff.mpr ⟨by omega, by omega⟩) rfl rfl dX1_part_43 ?_
        refine lv_topi (fun t13 et13 => ?_)
        refine lv_goto (tgt := 48) hx hb dX1_part_44 rfl ?_
        exact ret t13 () _ _ _ _ _ _ rfl trivial hP hD hS dX1_part_48 (Nat.le_refl _) (Nat.le_refl _)
  · skip
    subst g3
    refine lv_if_eq (tgt := 24) hx hb dX1_part_8 rfl (fun _ => ?_) (fun c0 => absurd (by decide) c0)
    refine lv_iconst (v := 0) hx hb dX1_part_24 rfl ?_
    refine lv_istore_n (lv' := [(3, .int 0), (0, .ref (x 27)), (1, .int p1), (2, .int p2)]) hx hb dX1_part_25 rfl hl (Nat.le_of_ble_eq_true rfl) rfl (fun ls hl => ?_)
    refine lv_iload_n hx hb dX1_part_26 rfl (lv_at hl 0 rfl) ?_
    refine lv_if_eq (tgt := 47) hx hb dX1_part_27 rfl (fun _ => ?_) (fun c0 => absurd (by decide) c0)
    refine lv_iconst (v := 0) hx hb dX1_part_47 rfl ?_
    exact ret 0 () _ _ _ _ _ _ rfl trivial hP hD hS dX1_part_48 (Nat.le_refl _) (Nat.le_refl _)
set_option maxHeartbeats 4000000 in
set_option maxRecDepth 100000 in
theorem sX_X1_today_2 (l : Launch) (dC : Nat → ClassId) (dI : Nat → Nat → Nat) (cy : Nat → ClassId) (x0 : Nat) (x : Nat → Nat)  (v : Nat → Int32) (f : Nat → Nat → Int32) (hIv : XI v)  : ctI l (dC, dI) cy yX1_today cX1_today 1 .int 1 60 0 0 Unit [.ref (x 27)] (XW cy x0 x v f) (fun r u => True) (fun u => XW cy x0 x v f) := by
  refine ctI_of (by decide) (Nat.le_of_ble_eq_true rfl) (fun p e s m below meth c A ls Q hx hb hml hts hown hE hP hD hA hl ret => ?_)
  have hown : s.vm.findClass RX1 = some m.cls := hown
  have hS : va_S A s.heap s.heap [] := va_S.rf
  have hl : lv_has ls 1 [(0, .ref (x 27))] := hl
  refine lv_aload_n hx hb dX1_today_0 rfl (lv_at hl 0 rfl) ?_
  refine va_get (D := (dC, dI)) (ci := 1) (v := .ref (x 28)) (C := RX1) (T := TX1) (N := 2) hx hb hts inB_1 hown hE.1 hP 28 rfl rfl 1 (Nat.le_of_ble_eq_true rfl) (hts _ k_319) (fun _ h9 => h9) rfl dX1_today_1 ?_
  refine lv_bipush (v := 42) hx hb dX1_today_4 rfl ?_
  refine ldI hx hb hE hP 29 rfl (vp_in_nI (n := 42) (by decide) (by decide)) rfl rfl dX1_today_6 ?_
  refine lv_topi (fun t1 et1 => ?_)
  exact ret t1 () _ _ _ _ _ _ rfl trivial hP hD hS dX1_today_7 (Nat.le_refl _) (Nat.le_refl _)
set_option maxHeartbeats 4000000 in
set_option maxRecDepth 100000 in
theorem sX_X1_illness_2 (l : Launch) (dC : Nat → ClassId) (dI : Nat → Nat → Nat) (cy : Nat → ClassId) (x0 : Nat) (x : Nat → Nat) (p1 : Int32) (p2 : Int32) (v : Nat → Int32) (f : Nat → Nat → Int32) (hIv : XI v)  : ctI l (dC, dI) cy yX1_illness cX1_illness 3 .int 3 111 0 0 ((Nat → Int32) × (Nat → Nat → Int32)) [.ref (x 27), .int p1, .int p2] (XW cy x0 x v f) (fun r u => KV [] u.1 v ∧ KF [13, 14] u.2 f ∧ XI u.1 ∧ u.1 0 = v 0 ∧ u.1 1 = v 1 ∧ u.1 7 = v 7 ∧ u.1 8 = v 8 ∧ u.1 9 = v 9 ∧ u.1 10 = v 10 ∧ u.1 31 = v 31 ∧ u.1 32 = v 32) (fun u => XW cy x0 x u.1 u.2) := by
  refine ctI_of (by decide) (Nat.le_of_ble_eq_true rfl) (fun p e s m below meth c A ls Q hx hb hml hts hown hE hP hD hA hl ret => ?_)
  have hM_v : KV [] v v := fun _ _ => rfl
  have hA_f : KF [13, 14] f f := fun _ _ => rfl
  have hown : s.vm.findClass RX1 = some m.cls := hown
  have hS : va_S A s.heap s.heap [] := va_S.rf
  have hl : lv_has ls 3 [(0, .ref (x 27)), (1, .int p1), (2, .int p2)] := hl
  refine lv_aload_n hx hb dX1_illness_0 rfl (lv_at hl 0 rfl) ?_
  refine va_get (D := (dC, dI)) (ci := 1) (v := .ref (x 26)) (C := RX1) (T := TX1) (N := 2) hx hb hts inB_1 hown hE.1 hP 28 rfl rfl 0 (Nat.le_of_ble_eq_true rfl) (hts _ k_318) (fun _ h9 => h9) rfl dX1_illness_1 ?_
  refine va_getN (D := (dC, dI)) (ci := 7) (v := .ref (x 15)) (C := RX7) (T := TX7) (N := 10) hx hb hts inB_7 hown hE.1 hP 27 rfl rfl 2 (Nat.le_of_ble_eq_true rfl) (va_Nw.use rfl (hE.2 _ k_209)) (fun _ h9 => h9) rfl dX1_illness_4 ?_
  refine lv_aload_n hx hb dX1_illness_7 rfl (lv_at hl 0 rfl) ?_
  refine va_get (D := (dC, dI)) (ci := 1) (v := .ref (x 26)) (C := RX1) (T := TX1) (N := 2) hx hb hts inB_1 hown hE.1 hP 28 rfl rfl 0 (Nat.le_of_ble_eq_true rfl) (hts _ k_318) (fun _ h9 => h9) rfl dX1_illness_8 ?_
  refine lv_iconst (v := 0) hx hb dX1_illness_11 rfl ?_
  refine lv_iload_n hx hb dX1_illness_12 rfl (lv_at hl 1 rfl) ?_
  refine cbVi (n := 2) (rest := [.ref (x 15)]) hx hb hml hown hts hE hP hD hS hA (sX_X7_manPart_1 0 l dC dI cy x0 x 0 p1 v f hIv ) k_302 k_303 k_304 k_104 k_305 (by decide +kernel) ⟨Nat.le_of_ble_eq_true rfl, Nat.le_of_ble_eq_true rfl⟩ 27 7 rfl rfl (rfl) hl.1 rfl (Nat.le_of_ble_eq_true rfl) dX1_illness_13 (fun r1 u H locs hw hP hD hS => ?_)
  have hG2 := hw
  refine lv_aload_n hx hb dX1_illness_16 rfl (lv_at hl 0 rfl) ?_
  refine lv_iload_n hx hb dX1_illness_17 rfl (lv_at hl 1 rfl) ?_
  refine cbVi (n := 1) (rest := [.int r1, .ref (x 15)]) hx hb hml hown hts hE hP hD hS hA (sX_X1_manWide_2 l dC dI cy x0 x p1 v f hIv ) k_826 k_805 k_806 k_106 k_807 (by decide +kernel) ⟨Nat.le_of_ble_eq_true rfl, Nat.le_of_ble_eq_true rfl⟩ 28 1 rfl rfl (rfl) hl.1 rfl (Nat.le_of_ble_eq_true rfl) dX1_illness_18 (fun r3 u H locs hw hP hD hS => ?_)
  refine lv_aload_n hx hb dX1_illness_21 rfl (lv_at hl 0 rfl) ?_
  refine lv_iconst (v := 0) hx hb dX1_illness_22 rfl ?_
  refine lv_iload_n hx hb dX1_illness_23 rfl (lv_at hl 2 rfl) ?_
  refine cbVi (n := 2) (rest := [.int r3, .int r1, .ref (x 15)]) hx hb hml hown hts hE hP hD hS hA (sX_X1_part_2 l dC dI cy x0 x 0 p2 v f hIv ) k_827 k_828 k_829 k_106 k_830 (by decide +kernel) ⟨Nat.le_of_ble_eq_true rfl, Nat.le_of_ble_eq_true rfl⟩ 28 1 rfl rfl (rfl) hl.1 rfl (Nat.le_of_ble_eq_true rfl) dX1_illness_24 (fun r4 u H locs hw hP hD hS => ?_)
  refine lv_aload_n hx hb dX1_illness_27 rfl (lv_at hl 0 rfl) ?_
  refine lv_iconst (v := 1) hx hb dX1_illness_28 rfl ?_
  refine lv_iload_n hx hb dX1_illness_29 rfl (lv_at hl 2 rfl) ?_
  refine cbVi (n := 2) (rest := [.int r4, .int r3, .int r1, .ref (x 15)]) hx hb hml hown hts hE hP hD hS hA (sX_X1_part_2 l dC dI cy x0 x 1 p2 v f hIv ) k_827 k_828 k_829 k_106 k_830 (by decide +kernel) ⟨Nat.le_of_ble_eq_true rfl, Nat.le_of_ble_eq_true rfl⟩ 28 1 rfl rfl (rfl) hl.1 rfl (Nat.le_of_ble_eq_true rfl) dX1_illness_30 (fun r5 u H locs hw hP hD hS => ?_)
  refine lv_aload_n hx hb dX1_illness_33 rfl (lv_at hl 0 rfl) ?_
  refine lv_iconst (v := 3) hx hb dX1_illness_34 rfl ?_
  refine lv_iload_n hx hb dX1_illness_35 rfl (lv_at hl 2 rfl) ?_
  refine cbVi (n := 2) (rest := [.int r5, .int r4, .int r3, .int r1, .ref (x 15)]) hx hb hml hown hts hE hP hD hS hA (sX_X1_part_2 l dC dI cy x0 x 3 p2 v f hIv ) k_827 k_828 k_829 k_106 k_830 (by decide +kernel) ⟨Nat.le_of_ble_eq_true rfl, Nat.le_of_ble_eq_true rfl⟩ 28 1 rfl rfl (rfl) hl.1 rfl (Nat.le_of_ble_eq_true rfl) dX1_illness_36 (fun r6 u H locs hw hP hD hS => ?_)
  refine lv_aload_n hx hb dX1_illness_39 rfl (lv_at hl 0 rfl) ?_
  refine cbVi (n := 0) (rest := [.int r6, .int r5, .int r4, .int r3, .int r1, .ref (x 15)]) hx hb hml hown hts hE hP hD hS hA (sX_X1_today_2 l dC dI cy x0 x  v f hIv ) k_831 k_832 k_833 k_106 k_834 (by decide +kernel) ⟨Nat.le_of_ble_eq_true rfl, Nat.le_of_ble_eq_true rfl⟩ 28 1 rfl rfl (rfl) hl.1 rfl (Nat.le_of_ble_eq_true rfl) dX1_illness_40 (fun r7 u H locs hw hP hD hS => ?_)
  refine cbVi (n := 6) (rest := []) hx hb hml hown hts hE hP hD hS hA (sX_X4_worth_1 l dC dI cy x0 x r1 r3 r4 r5 r6 r7 v f hIv ) k_835 k_836 k_837 k_105 k_838 (by decide +kernel) ⟨Nat.le_of_ble_eq_true rfl, Nat.le_of_ble_eq_true rfl⟩ 16 4 rfl rfl (rfl) hl.1 rfl (Nat.le_of_ble_eq_true rfl) dX1_illness_43 (fun r8 u H locs hw hP hD hS => ?_)
  obtain ⟨v9, f10⟩ := u
  obtain ⟨kV_v9, kF_f10, hIv9, hk0_v9, hk1_v9, hk7_v9, hk8_v9, hk9_v9, hk10_v9, hk31_v9, hk32_v9⟩ := hw
  have hM_v9 : KV [] v9 v := KV.tr kV_v9 hM_v rfl
  have hA_f10 : KF [13, 14] f10 f := KF.tr kF_f10 hA_f rfl
  have hP : va_P (dC, dI) vwCl (XW cy x0 x v9 f10) H := hP
  have hD : va_D A (XW cy x0 x v9 f10) := hD
  have hq0_v9 : v9 0 = (v 0) := hk0_v9
  have hq1_v9 : v9 1 = (v 1) := hk1_v9
  have hq7_v9 : v9 7 = (v 7) := hk7_v9
  have hq8_v9 : v9 8 = (v 8) := hk8_v9
  have hq9_v9 : v9 9 = (v 9) := hk9_v9
  have hq10_v9 : v9 10 = (v 10) := hk10_v9
  have hq31_v9 : v9 31 = (v 31) := hk31_v9
  have hq32_v9 : v9 32 = (v 32) := hk32_v9
  exact ret r8 (v9, f10) _ _ _ _ _ _ rfl ⟨hM_v9, hA_f10, hIv9, hk0_v9, hk1_v9, hk7_v9, hk8_v9, hk9_v9, hk10_v9, hk31_v9, hk32_v9⟩ hP hD hS dX1_illness_46 (Nat.le_refl _) (Nat.le_refl _)
set_option maxHeartbeats 4000000 in
set_option maxRecDepth 100000 in
theorem sX_X1_fits_2 (l : Launch) (dC : Nat → ClassId) (dI : Nat → Nat → Nat) (cy : Nat → ClassId) (x0 : Nat) (x : Nat → Nat) (p1 : Int32) (p2 : Int32) (v : Nat → Int32) (f : Nat → Nat → Int32) (hIv : XI v)  : ctI l (dC, dI) cy yX1_fits cX1_fits 3 .boolean 4 133 0 0 ((Nat → Int32) × (Nat → Nat → Int32)) [.ref (x 27), .int p1, .int p2] (XW cy x0 x v f) (fun r u => KV [] u.1 v ∧ KF [13, 14] u.2 f ∧ XI u.1 ∧ u.1 0 = v 0 ∧ u.1 1 = v 1 ∧ u.1 7 = v 7 ∧ u.1 8 = v 8 ∧ u.1 9 = v 9 ∧ u.1 10 = v 10 ∧ u.1 31 = v 31 ∧ u.1 32 = v 32 ∧ ((r = 1) ∨ (r = 0))) (fun u => XW cy x0 x u.1 u.2) := by
  refine ctI_of (by decide) (Nat.le_of_ble_eq_true rfl) (fun p e s m below meth c A ls Q hx hb hml hts hown hE hP hD hA hl ret => ?_)
  have hM_v : KV [] v v := fun _ _ => rfl
  have hA_f : KF [13, 14] f f := fun _ _ => rfl
  have hown : s.vm.findClass RX1 = some m.cls := hown
  have hS : va_S A s.heap s.heap [] := va_S.rf
  have hl : lv_has ls 3 [(0, .ref (x 27)), (1, .int p1), (2, .int p2)] := hl
  refine lv_aload_n hx hb dX1_fits_0 rfl (lv_at hl 0 rfl) ?_
  refine va_get (D := (dC, dI)) (ci := 1) (v := .ref (x 26)) (C := RX1) (T := TX1) (N := 2) hx hb hts inB_1 hown hE.1 hP 28 rfl rfl 0 (Nat.le_of_ble_eq_true rfl) (hts _ k_318) (fun _ h9 => h9) rfl dX1_fits_1 ?_
  refine lv_iload_n hx hb dX1_fits_4 rfl (lv_at hl 1 rfl) ?_
  refine cbVi (n := 1) (rest := []) hx hb hml hown hts hE hP hD hS hA (sX_X7_hasMan_1 0 l dC dI cy x0 x p1 v f hIv ) k_808 k_307 k_308 k_104 k_309 (by decide +kernel) ⟨Nat.le_of_ble_eq_true rfl, Nat.le_of_ble_eq_true rfl⟩ 27 7 rfl rfl (rfl) hl.1 rfl (Nat.le_of_ble_eq_true rfl) dX1_fits_5 (fun r1 u H locs hw hP hD hS => ?_)
  obtain ⟨hG2, hw⟩ := hw
  rcases hw with ⟨g3, g3_0, g3_1, g3_2⟩ | ⟨g3⟩
  · skip
    subst g3
    refine lv_if_eq (tgt := 42) hx hb dX1_fits_8 rfl (fun c0 => absurd c0 (by decide)) (fun _ => ?_)
    refine lv_aload_n hx hb dX1_fits_11 rfl (lv_at hl 0 rfl) ?_
    refine va_get (D := (dC, dI)) (ci := 1) (v := .ref (x 26)) (C := RX1) (T := TX1) (N := 2) hx hb hts inB_1 hown hE.1 hP 28 rfl rfl 0 (Nat.le_of_ble_eq_true rfl) (hts _ k_318) (fun _ h9 => h9) rfl dX1_fits_12 ?_
    refine lv_iload_n hx hb dX1_fits_15 rfl (lv_at hl 2 rfl) ?_
    refine cbVi (n := 1) (rest := []) hx hb hml hown hts hE hP hD hS hA (sX_X7_hasCoat_1 0 l dC dI cy x0 x p2 v f hIv ) k_821 k_315 k_316 k_104 k_317 (by decide +kernel) ⟨Nat.le_of_ble_eq_true rfl, Nat.le_of_ble_eq_true rfl⟩ 27 7 rfl rfl (rfl) hl.1 rfl (Nat.le_of_ble_eq_true rfl) dX1_fits_16 (fun r4 u H locs hw hP hD hS => ?_)
    obtain ⟨hG5, hw⟩ := hw
    rcases hw with ⟨g6, g6_0, g6_1, g6_2⟩ | ⟨g6⟩
    · skip
      subst g6
      refine lv_if_eq (tgt := 42) hx hb dX1_fits_19 rfl (fun c0 => absurd c0 (by decide)) (fun _ => ?_)
      refine lv_aload_n hx hb dX1_fits_22 rfl (lv_at hl 0 rfl) ?_
      refine lv_iload_n hx hb dX1_fits_23 rfl (lv_at hl 1 rfl) ?_
      refine lv_iload_n hx hb dX1_fits_24 rfl (lv_at hl 2 rfl) ?_
      refine cbVi (n := 2) (rest := []) hx hb hml hown hts hE hP hD hS hA (sX_X1_illness_2 l dC dI cy x0 x p1 p2 v f hIv ) k_822 k_823 k_824 k_106 k_825 (by decide +kernel) ⟨Nat.le_of_ble_eq_true rfl, Nat.le_of_ble_eq_true rfl⟩ 28 1 rfl rfl (rfl) hl.1 rfl (Nat.le_of_ble_eq_true rfl) dX1_fits_25 (fun r7 u H locs hw hP hD hS => ?_)
      obtain ⟨v8, f9⟩ := u
      obtain ⟨kV_v8, kF_f9, hIv8, hk0_v8, hk1_v8, hk7_v8, hk8_v8, hk9_v8, hk10_v8, hk31_v8, hk32_v8⟩ := hw
      have hM_v8 : KV [] v8 v := KV.tr kV_v8 hM_v rfl
      have hA_f9 : KF [13, 14] f9 f := KF.tr kF_f9 hA_f rfl
      have hP : va_P (dC, dI) vwCl (XW cy x0 x v8 f9) H := hP
      have hD : va_D A (XW cy x0 x v8 f9) := hD
      have hq0_v8 : v8 0 = (v 0) := hk0_v8
      have hq1_v8 : v8 1 = (v 1) := hk1_v8
      have hq7_v8 : v8 7 = (v 7) := hk7_v8
      have hq8_v8 : v8 8 = (v 8) := hk8_v8
      have hq9_v8 : v8 9 = (v 9) := hk9_v8
      have hq10_v8 : v8 10 = (v 10) := hk10_v8
      have hq31_v8 : v8 31 = (v 31) := hk31_v8
      have hq32_v8 : v8 32 = (v 32) := hk32_v8
      refine lv_aload_n hx hb dX1_fits_28 rfl (lv_at hl 0 rfl) ?_
      refine va_get (D := (dC, dI)) (ci := 1) (v := .ref (x 26)) (C := RX1) (T := TX1) (N := 2) hx hb hts inB_1 hown hE.1 hP 28 rfl rfl 0 (Nat.le_of_ble_eq_true rfl) (hts _ k_318) (fun _ h9 => h9) rfl dX1_fits_29 ?_
      refine va_getN (D := (dC, dI)) (ci := 7) (v := .int (v8 33)) (C := RX7) (T := TX7) (N := 10) hx hb hts inB_7 hown hE.1 hP 27 rfl rfl 5 (Nat.le_of_ble_eq_true rfl) (va_Nw.use rfl (hE.2 _ k_232)) (fun _ h9 => h9) rfl dX1_fits_32 ?_
      refine lv_icmp_gt (tgt := 42) hx hb dX1_fits_35 rfl (fun c10 => ?_) (fun c10 => ?_)
      · skip
        have zc10 : (v8 33).toInt < r7.toInt := by rw [fa_lt] at c10; exact c10
        have rg11 := fb_rng r7
        have rg12 := fb_rng (v8 33)
        refine lv_iconst (v := 0) hx hb dX1_fits_42 rfl ?_
        exact ret 0 (v8, f9) _ _ _ _ _ _ rfl ⟨hM_v8, hA_f9, hIv8, hk0_v8, hk1_v8, hk7_v8, hk8_v8, hk9_v8, hk10_v8, hk31_v8, hk32_v8, (Or.inr rfl)⟩ hP hD hS dX1_fits_43 (Nat.le_refl _) (Nat.le_refl _)
      · skip
        have zc10 : ¬ ((v8 33).toInt < r7.toInt) := by rw [fa_lt] at c10; exact c10
        have rg13 := fb_rng r7
        have rg14 := fb_rng (v8 33)
        refine lv_iconst (v := 1) hx hb dX1_fits_38 rfl ?_
        refine lv_goto (tgt := 43) hx hb dX1_fits_39 rfl ?_
        exact ret 1 (v8, f9) _ _ _ _ _ _ rfl ⟨hM_v8, hA_f9, hIv8, hk0_v8, hk1_v8, hk7_v8, hk8_v8, hk9_v8, hk10_v8, hk31_v8, hk32_v8, (Or.inl rfl)⟩ hP hD hS dX1_fits_43 (Nat.le_refl _) (Nat.le_refl _)
    · skip
      subst g6
      refine lv_if_eq (tgt := 42) hx hb dX1_fits_19 rfl (fun _ => ?_) (fun c0 => absurd (by decide) c0)
      refine lv_iconst (v := 0) hx hb dX1_fits_42 rfl ?_
      exact ret 0 (v, f) _ _ _ _ _ _ rfl ⟨hM_v, hA_f, hIv, rfl, rfl, rfl, rfl, rfl, rfl, rfl, rfl, (Or.inr rfl)⟩ hP hD hS dX1_fits_43 (Nat.le_refl _) (Nat.le_refl _)
  · skip
    subst g3
    refine lv_if_eq (tgt := 42) hx hb dX1_fits_8 rfl (fun _ => ?_) (fun c0 => absurd (by decide) c0)
    refine lv_iconst (v := 0) hx hb dX1_fits_42 rfl ?_
    exact ret 0 (v, f) _ _ _ _ _ _ rfl ⟨hM_v, hA_f, hIv, rfl, rfl, rfl, rfl, rfl, rfl, rfl, rfl, (Or.inr rfl)⟩ hP hD hS dX1_fits_43 (Nat.le_refl _) (Nat.le_refl _)
set_option maxHeartbeats 4000000 in
set_option maxRecDepth 100000 in
theorem sX_X1_setWears_2 (l : Launch) (dC : Nat → ClassId) (dI : Nat → Nat → Nat) (cy : Nat → ClassId) (x0 : Nat) (x : Nat → Nat) (p1 : Int32) (p2 : Int32) (v : Nat → Int32) (f : Nat → Nat → Int32) (hIv : XI v)  : ctV l (dC, dI) cy yX1_setWears cX1_setWears 3 2 81 0 0 ((Nat → Int32) × (Nat → Nat → Int32)) [.ref (x 27), .int p1, .int p2] (XW cy x0 x v f) (fun u => KV [] u.1 v ∧ KF [18] u.2 f ∧ XI u.1 ∧ u.1 0 = v 0 ∧ u.1 1 = v 1 ∧ u.1 7 = v 7 ∧ u.1 8 = v 8 ∧ u.1 9 = v 9 ∧ u.1 10 = v 10 ∧ u.1 31 = v 31 ∧ u.1 32 = v 32) (fun u => XW cy x0 x u.1 u.2) := by
  refine ctV_of (by decide) (Nat.le_of_ble_eq_true rfl) (fun p e s m below meth c A ls Q hx hb hml hts hown hnm hE hP hD hA hl ret => ?_)
  have hM_v : KV [] v v := fun _ _ => rfl
  have hA_f : KF [18] f f := fun _ _ => rfl
  have hown : s.vm.findClass RX1 = some m.cls := hown
  have hS : va_S A s.heap s.heap [] := va_S.rf
  have hl : lv_has ls 3 [(0, .ref (x 27)), (1, .int p1), (2, .int p2)] := hl
  refine lv_aload_n hx hb dX1_setWears_0 rfl (lv_at hl 0 rfl) ?_
  refine va_get (D := (dC, dI)) (ci := 1) (v := .ref (x 26)) (C := RX1) (T := TX1) (N := 2) hx hb hts inB_1 hown hE.1 hP 28 rfl rfl 0 (Nat.le_of_ble_eq_true rfl) (hts _ k_318) (fun _ h9 => h9) rfl dX1_setWears_1 ?_
  refine lv_iload_n hx hb dX1_setWears_4 rfl (lv_at hl 1 rfl) ?_
  refine cbVi (n := 1) (rest := []) hx hb hml hown hts hE hP hD hS hA (sX_X7_hasMan_1 0 l dC dI cy x0 x p1 v f hIv ) k_808 k_307 k_308 k_104 k_309 (by decide +kernel) ⟨Nat.le_of_ble_eq_true rfl, Nat.le_of_ble_eq_true rfl⟩ 27 7 rfl rfl (rfl) hl.1 rfl (Nat.le_of_ble_eq_true rfl) dX1_setWears_5 (fun r1 u H locs hw hP hD hS => ?_)
  obtain ⟨hG2, hw⟩ := hw
  rcases hw with ⟨g3, g3_0, g3_1, g3_2⟩ | ⟨g3⟩
  · skip
    subst g3
    refine lv_if_eq (tgt := 21) hx hb dX1_setWears_8 rfl (fun c0 => absurd c0 (by decide)) (fun _ => ?_)
    refine lv_aload_n hx hb dX1_setWears_11 rfl (lv_at hl 0 rfl) ?_
    refine va_get (D := (dC, dI)) (ci := 1) (v := .ref (x 28)) (C := RX1) (T := TX1) (N := 2) hx hb hts inB_1 hown hE.1 hP 28 rfl rfl 1 (Nat.le_of_ble_eq_true rfl) (hts _ k_319) (fun _ h9 => h9) rfl dX1_setWears_12 ?_
    refine lv_bipush (v := 6) hx hb dX1_setWears_15 rfl ?_
    refine lv_iload_n hx hb dX1_setWears_17 rfl (lv_at hl 1 rfl) ?_
    refine lv_iadd hx hb dX1_setWears_18 ?_
    refine lv_topi (fun t4 et4 => ?_)
    have rg5 := fb_rng p1
    have zt4 : t4.toInt = 6 + p1.toInt := by rw [et4]; exact add_i (by decide) rfl (by omega) (by omega)
    refine lv_iload_n hx hb dX1_setWears_19 rfl (lv_at hl 2 rfl) ?_
    refine stI hx hb hE hP hD hS 29 rfl (vp_in_iff.mpr ⟨by omega, by omega⟩) rfl dX1_setWears_20 (fun H locs hP hD hS => ?_)
    obtain ⟨f6, ef6, hP, hD⟩ : ∃ fz9, fz9 = upd2 f 18 (upd (f 18) t4.toNatClampNeg p2) ∧ va_P (dC, dI) vwCl (XW cy x0 x v fz9) H ∧ va_D A (XW cy x0 x v fz9) := ⟨_, rfl, hP, hD⟩
    have hA_f6 : KF [18] f6 f := by rw [ef6]; exact KF.up hA_f rfl
    exact ret (v, f6) _ _ _ _ _ _ ⟨hM_v, hA_f6, hIv, rfl, rfl, rfl, rfl, rfl, rfl, rfl, rfl⟩ hP hD hS dX1_setWears_21 (Nat.le_refl _) (Nat.le_refl _)
  · skip
    subst g3
    refine lv_if_eq (tgt := 21) hx hb dX1_setWears_8 rfl (fun _ => ?_) (fun c0 => absurd (by decide) c0)
    exact ret (v, f) _ _ _ _ _ _ ⟨hM_v, hA_f, hIv, rfl, rfl, rfl, rfl, rfl, rfl, rfl, rfl⟩ hP hD hS dX1_setWears_21 (Nat.le_refl _) (Nat.le_refl _)
set_option maxHeartbeats 4000000 in
set_option maxRecDepth 100000 in
theorem sX_X1_setPart_2 (l : Launch) (dC : Nat → ClassId) (dI : Nat → Nat → Nat) (cy : Nat → ClassId) (x0 : Nat) (x : Nat → Nat) (p1 : Int32) (p2 : Int32) (p3 : Int32) (v : Nat → Int32) (f : Nat → Nat → Int32) (hIv : XI v)  : ctV l (dC, dI) cy yX1_setPart cX1_setPart 4 2 81 0 0 ((Nat → Int32) × (Nat → Nat → Int32)) [.ref (x 27), .int p1, .int p2, .int p3] (XW cy x0 x v f) (fun u => KV [] u.1 v ∧ KF [18] u.2 f ∧ XI u.1 ∧ u.1 0 = v 0 ∧ u.1 1 = v 1 ∧ u.1 7 = v 7 ∧ u.1 8 = v 8 ∧ u.1 9 = v 9 ∧ u.1 10 = v 10 ∧ u.1 31 = v 31 ∧ u.1 32 = v 32) (fun u => XW cy x0 x u.1 u.2) := by
  refine ctV_of (by decide) (Nat.le_of_ble_eq_true rfl) (fun p e s m below meth c A ls Q hx hb hml hts hown hnm hE hP hD hA hl ret => ?_)
  have hM_v : KV [] v v := fun _ _ => rfl
  have hA_f : KF [18] f f := fun _ _ => rfl
  have hown : s.vm.findClass RX1 = some m.cls := hown
  have hS : va_S A s.heap s.heap [] := va_S.rf
  have hl : lv_has ls 4 [(0, .ref (x 27)), (1, .int p1), (2, .int p2), (3, .int p3)] := hl
  refine lv_aload_n hx hb dX1_setPart_0 rfl (lv_at hl 0 rfl) ?_
  refine va_get (D := (dC, dI)) (ci := 1) (v := .ref (x 26)) (C := RX1) (T := TX1) (N := 2) hx hb hts inB_1 hown hE.1 hP 28 rfl rfl 0 (Nat.le_of_ble_eq_true rfl) (hts _ k_318) (fun _ h9 => h9) rfl dX1_setPart_1 ?_
  refine lv_iload_n hx hb dX1_setPart_4 rfl (lv_at hl 2 rfl) ?_
  refine cbVi (n := 1) (rest := []) hx hb hml hown hts hE hP hD hS hA (sX_X7_hasCoat_1 0 l dC dI cy x0 x p2 v f hIv ) k_821 k_315 k_316 k_104 k_317 (by decide +kernel) ⟨Nat.le_of_ble_eq_true rfl, Nat.le_of_ble_eq_true rfl⟩ 27 7 rfl rfl (rfl) hl.1 rfl (Nat.le_of_ble_eq_true rfl) dX1_setPart_5 (fun r1 u H locs hw hP hD hS => ?_)
  obtain ⟨hG2, hw⟩ := hw
  rcases hw with ⟨g3, g3_0, g3_1, g3_2⟩ | ⟨g3⟩
  · skip
    subst g3
    refine lv_if_eq (tgt := 35) hx hb dX1_setPart_8 rfl (fun c0 => absurd c0 (by decide)) (fun _ => ?_)
    refine lv_iload_n hx hb dX1_setPart_11 rfl (lv_at hl 1 rfl) ?_
    refine lv_if_lt (tgt := 35) hx hb dX1_setPart_12 rfl (fun c4 => ?_) (fun c4 => ?_)
    · skip
      have zc4 : p1.toInt < 0 := by rw [fa_lt, show (0 : Int32).toInt = 0 from by decide] at c4; exact c4
      exact ret (v, f) _ _ _ _ _ _ ⟨hM_v, hA_f, hIv, rfl, rfl, rfl, rfl, rfl, rfl, rfl, rfl⟩ hP hD hS dX1_setPart_35 (Nat.le_refl _) (Nat.le_refl _)
    · skip
      have zc4 : ¬ (p1.toInt < 0) := by rw [fa_lt, show (0 : Int32).toInt = 0 from by decide] at c4; exact c4
      refine lv_iload_n hx hb dX1_setPart_15 rfl (lv_at hl 1 rfl) ?_
      refine lv_iconst (v := 5) hx hb dX1_setPart_16 rfl ?_
      refine lv_icmp_ge (tgt := 35) hx hb dX1_setPart_17 rfl (fun c5 => ?_) (fun c5 => ?_)
      · skip
        have zc5 : 5 ≤ p1.toInt := by rw [fa_le, show (5 : Int32).toInt = 5 from by decide] at c5; exact c5
        exact ret (v, f) _ _ _ _ _ _ ⟨hM_v, hA_f, hIv, rfl, rfl, rfl, rfl, rfl, rfl, rfl, rfl⟩ hP hD hS dX1_setPart_35 (Nat.le_refl _) (Nat.le_refl _)
      · skip
        have zc5 : ¬ (5 ≤ p1.toInt) := by rw [fa_le, show (5 : Int32).toInt = 5 from by decide] at c5; exact c5
        refine lv_aload_n hx hb dX1_setPart_20 rfl (lv_at hl 0 rfl) ?_
        refine va_get (D := (dC, dI)) (ci := 1) (v := .ref (x 28)) (C := RX1) (T := TX1) (N := 2) hx hb hts inB_1 hown hE.1 hP 28 rfl rfl 1 (Nat.le_of_ble_eq_true rfl) (hts _ k_319) (fun _ h9 => h9) rfl dX1_setPart_21 ?_
        refine lv_bipush (v := 12) hx hb dX1_setPart_24 rfl ?_
        refine lv_iload_n hx hb dX1_setPart_26 rfl (lv_at hl 1 rfl) ?_
        refine lv_bipush (v := 6) hx hb dX1_setPart_27 rfl ?_
        refine lv_imul hx hb dX1_setPart_29 ?_
        refine lv_topi (fun t6 et6 => ?_)
        have rg7 := fb_rng p1
        have zt6 : t6.toInt = p1.toInt * 6 := by rw [et6]; exact mul_i rfl (by decide) (by omega) (by omega)
        refine lv_iadd hx hb dX1_setPart_30 ?_
        refine lv_topi (fun t8 et8 => ?_)
        have rg9 := fb_rng t6
        have zt8 : t8.toInt = 12 + t6.toInt := by rw [et8]; exact add_i (by decide) rfl (by omega) (by omega)
        refine lv_iload_n hx hb dX1_setPart_31 rfl (lv_at hl 2 rfl) ?_
        refine lv_iadd hx hb dX1_setPart_32 ?_
        refine lv_topi (fun t10 et10 => ?_)
        have rg11 := fb_rng t8
        have rg12 := fb_rng p2
        have zt10 : t10.toInt = t8.toInt + p2.toInt := by rw [et10]; exact add_i rfl rfl (by omega) (by omega)
        refine lv_iload_n hx hb dX1_setPart_33 rfl (lv_at hl 3 rfl) ?_
        refine stI hx hb hE hP hD hS 29 rfl (vp_in_iff.mpr ⟨by omega, by omega⟩) rfl dX1_setPart_34 (fun H locs hP hD hS => ?_)
        obtain ⟨f13, ef13, hP, hD⟩ : ∃ fz9, fz9 = upd2 f 18 (upd (f 18) t10.toNatClampNeg p3) ∧ va_P (dC, dI) vwCl (XW cy x0 x v fz9) H ∧ va_D A (XW cy x0 x v fz9) := ⟨_, rfl, hP, hD⟩
        have hA_f13 : KF [18] f13 f := by rw [ef13]; exact KF.up hA_f rfl
        exact ret (v, f13) _ _ _ _ _ _ ⟨hM_v, hA_f13, hIv, rfl, rfl, rfl, rfl, rfl, rfl, rfl, rfl⟩ hP hD hS dX1_setPart_35 (Nat.le_refl _) (Nat.le_refl _)
  · skip
    subst g3
    refine lv_if_eq (tgt := 35) hx hb dX1_setPart_8 rfl (fun _ => ?_) (fun c0 => absurd (by decide) c0)
    exact ret (v, f) _ _ _ _ _ _ ⟨hM_v, hA_f, hIv, rfl, rfl, rfl, rfl, rfl, rfl, rfl, rfl⟩ hP hD hS dX1_setPart_35 (Nat.le_refl _) (Nat.le_refl _)
set_option maxHeartbeats 4000000 in
set_option maxRecDepth 100000 in
theorem sX_X1_weather_2 (l : Launch) (dC : Nat → ClassId) (dI : Nat → Nat → Nat) (cy : Nat → ClassId) (x0 : Nat) (x : Nat → Nat) (p1 : Int32) (p2 : Int32) (v : Nat → Int32) (f : Nat → Nat → Int32) (hIv : XI v)  : ctV l (dC, dI) cy yX1_weather cX1_weather 3 3 104 0 0 ((Nat → Int32) × (Nat → Nat → Int32)) [.ref (x 27), .int p1, .int p2] (XW cy x0 x v f) (fun u => KV [] u.1 v ∧ KF [18] u.2 f ∧ XI u.1 ∧ u.1 0 = v 0 ∧ u.1 1 = v 1 ∧ u.1 7 = v 7 ∧ u.1 8 = v 8 ∧ u.1 9 = v 9 ∧ u.1 10 = v 10 ∧ u.1 31 = v 31 ∧ u.1 32 = v 32) (fun u => XW cy x0 x u.1 u.2) := by
  refine ctV_of (by decide) (Nat.le_of_ble_eq_true rfl) (fun p e s m below meth c A ls Q hx hb hml hts hown hnm hE hP hD hA hl ret => ?_)
  have hM_v : KV [] v v := fun _ _ => rfl
  have hA_f : KF [18] f f := fun _ _ => rfl
  have hown : s.vm.findClass RX1 = some m.cls := hown
  have hS : va_S A s.heap s.heap [] := va_S.rf
  have hl : lv_has ls 3 [(0, .ref (x 27)), (1, .int p1), (2, .int p2)] := hl
  refine lv_aload_n hx hb dX1_weather_0 rfl (lv_at hl 0 rfl) ?_
  refine lv_iconst (v := 3) hx hb dX1_weather_1 rfl ?_
  refine lv_iload_n hx hb dX1_weather_2 rfl (lv_at hl 1 rfl) ?_
  refine lv_bipush (v := 99) hx hb dX1_weather_3 rfl ?_
  refine lv_aload_n hx hb dX1_weather_5 rfl (lv_at hl 0 rfl) ?_
  refine lv_iconst (v := 3) hx hb dX1_weather_6 rfl ?_
  refine lv_iload_n hx hb dX1_weather_7 rfl (lv_at hl 1 rfl) ?_
  refine cbVi (n := 2) (rest := [.int 99, .int p1, .int 3, .ref (x 27)]) hx hb hml hown hts hE hP hD hS hA (sX_X1_part_2 l dC dI cy x0 x 3 p1 v f hIv ) k_827 k_828 k_829 k_106 k_830 (by decide +kernel) ⟨Nat.le_of_ble_eq_true rfl, Nat.le_of_ble_eq_true rfl⟩ 28 1 rfl rfl (rfl) hl.1 rfl (Nat.le_of_ble_eq_true rfl) dX1_weather_8 (fun r1 u H locs hw hP hD hS => ?_)
  refine lv_iconst (v := 1) hx hb dX1_weather_11 rfl ?_
  refine lv_iadd hx hb dX1_weather_12 ?_
  refine lv_topi (fun t2 et2 => ?_)
  refine va_mmin hx hb (by rw [hml]; exact hl.1.symm) hown (hts _ k_869) (hts _ k_643) (hts _ k_119) (hts _ k_644) (Nat.le_of_ble_eq_true rfl) (Nat.le_of_ble_eq_true rfl) (Nat.le_of_ble_eq_true rfl) (Nat.le_of_ble_eq_true rfl) dX1_weather_13 ?_
  refine lv_topi (fun t3 et3 => ?_)
  have zt3 : t3.toInt = min (99) (t2.toInt) := by rw [et3]; exact mmin_i (by decide) rfl
  refine cbVv (n := 3) (rest := []) hx hb hml hown hts hE hP hD hS hA (sX_X1_setPart_2 l dC dI cy x0 x 3 p1 t3 v f hIv ) k_874 k_875 k_876 k_106 k_877 (by decide +kernel) ⟨Nat.le_of_ble_eq_true rfl, Nat.le_of_ble_eq_true rfl⟩ 28 1 rfl rfl (rfl) hl.1 rfl (Nat.le_of_ble_eq_true rfl) dX1_weather_16 (fun u H locs hw hP hD hS => ?_)
  obtain ⟨v4, f5⟩ := u
  obtain ⟨kV_v4, kF_f5, hIv4, hk0_v4, hk1_v4, hk7_v4, hk8_v4, hk9_v4, hk10_v4, hk31_v4, hk32_v4⟩ := hw
  have hM_v4 : KV [] v4 v := KV.tr kV_v4 hM_v rfl
  have hA_f5 : KF [18] f5 f := KF.tr kF_f5 hA_f rfl
  have hP : va_P (dC, dI) vwCl (XW cy x0 x v4 f5) H := hP
  have hD : va_D A (XW cy x0 x v4 f5) := hD
  have hq0_v4 : v4 0 = (v 0) := hk0_v4
  have hq1_v4 : v4 1 = (v 1) := hk1_v4
  have hq7_v4 : v4 7 = (v 7) := hk7_v4
  have hq8_v4 : v4 8 = (v 8) := hk8_v4
  have hq9_v4 : v4 9 = (v 9) := hk9_v4
  have hq10_v4 : v4 10 = (v 10) := hk10_v4
  have hq31_v4 : v4 31 = (v 31) := hk31_v4
  have hq32_v4 : v4 32 = (v 32) := hk32_v4
  refine lv_aload_n hx hb dX1_weather_19 rfl (lv_at hl 0 rfl) ?_
  refine lv_iconst (v := 1) hx hb dX1_weather_20 rfl ?_
  refine lv_iload_n hx hb dX1_weather_21 rfl (lv_at hl 1 rfl) ?_
  refine lv_iconst (v := 0) hx hb dX1_weather_22 rfl ?_
  refine lv_aload_n hx hb dX1_weather_23 rfl (lv_at hl 0 rfl) ?_
  refine lv_iconst (v := 1) hx hb dX1_weather_24 rfl ?_
  refine lv_iload_n hx hb dX1_weather_25 rfl (lv_at hl 1 rfl) ?_
  refine cbVi (n := 2) (rest := [.int 0, .int p1, .int 1, .ref (x 27)]) hx hb hml hown hts hE hP hD hS hA (sX_X1_part_2 l dC dI cy x0 x 1 p1 v4 f5 hIv4 ) k_827 k_828 k_829 k_106 k_830 (by decide +kernel) ⟨Nat.le_of_ble_eq_true rfl, Nat.le_of_ble_eq_true rfl⟩ 28 1 rfl rfl (rfl) hl.1 rfl (Nat.le_of_ble_eq_true rfl) dX1_weather_26 (fun r6 u H locs hw hP hD hS => ?_)
  refine lv_iload_n hx hb dX1_weather_29 rfl (lv_at hl 2 rfl) ?_
  refine lv_isub hx hb dX1_weather_30 ?_
  refine lv_topi (fun t7 et7 => ?_)
  refine va_mmax hx hb (by rw [hml]; exact hl.1.symm) hown (hts _ k_878) (hts _ k_640) (hts _ k_119) (hts _ k_641) (Nat.le_of_ble_eq_true rfl) (Nat.le_of_ble_eq_true rfl) (Nat.le_of_ble_eq_true rfl) (Nat.le_of_ble_eq_true rfl) dX1_weather_31 ?_
  refine lv_topi (fun t8 et8 => ?_)
  have zt8 : t8.toInt = max (0) (t7.toInt) := by rw [et8]; exact mmax_i (by decide) rfl
  refine cbVv (n := 3) (rest := []) hx hb hml hown hts hE hP hD hS hA (sX_X1_setPart_2 l dC dI cy x0 x 1 p1 t8 v4 f5 hIv4 ) k_874 k_875 k_876 k_106 k_877 (by decide +kernel) ⟨Nat.le_of_ble_eq_true rfl, Nat.le_of_ble_eq_true rfl⟩ 28 1 rfl rfl (rfl) hl.1 rfl (Nat.le_of_ble_eq_true rfl) dX1_weather_34 (fun u H locs hw hP hD hS => ?_)
  obtain ⟨v9, f10⟩ := u
  obtain ⟨kV_v9, kF_f10, hIv9, hk0_v9, hk1_v9, hk7_v9, hk8_v9, hk9_v9, hk10_v9, hk31_v9, hk32_v9⟩ := hw
  have hM_v9 : KV [] v9 v := KV.tr kV_v9 hM_v4 rfl
  have hA_f10 : KF [18] f10 f := KF.tr kF_f10 hA_f5 rfl
  have hP : va_P (dC, dI) vwCl (XW cy x0 x v9 f10) H := hP
  have hD : va_D A (XW cy x0 x v9 f10) := hD
  have hq0_v9 : v9 0 = (v 0) := hk0_v9.trans hq0_v4
  have hq1_v9 : v9 1 = (v 1) := hk1_v9.trans hq1_v4
  have hq7_v9 : v9 7 = (v 7) := hk7_v9.trans hq7_v4
  have hq8_v9 : v9 8 = (v 8) := hk8_v9.trans hq8_v4
  have hq9_v9 : v9 9 = (v 9) := hk9_v9.trans hq9_v4
  have hq10_v9 : v9 10 = (v 10) := hk10_v9.trans hq10_v4
  have hq31_v9 : v9 31 = (v 31) := hk31_v9.trans hq31_v4
  have hq32_v9 : v9 32 = (v 32) := hk32_v9.trans hq32_v4
  refine lv_aload_n hx hb dX1_weather_37 rfl (lv_at hl 0 rfl) ?_
  refine lv_iconst (v := 0) hx hb dX1_weather_38 rfl ?_
  refine lv_iload_n hx hb dX1_weather_39 rfl (lv_at hl 1 rfl) ?_
  refine lv_iconst (v := 0) hx hb dX1_weather_40 rfl ?_
  refine lv_aload_n hx hb dX1_weather_41 rfl (lv_at hl 0 rfl) ?_
  refine lv_iconst (v := 0) hx hb dX1_weather_42 rfl ?_
  refine lv_iload_n hx hb dX1_weather_43 rfl (lv_at hl 1 rfl) ?_
  refine cbVi (n := 2) (rest := [.int 0, .int p1, .int 0, .ref (x 27)]) hx hb hml hown hts hE hP hD hS hA (sX_X1_part_2 l dC dI cy x0 x 0 p1 v9 f10 hIv9 ) k_827 k_828 k_829 k_106 k_830 (by decide +kernel) ⟨Nat.le_of_ble_eq_true rfl, Nat.le_of_ble_eq_true rfl⟩ 28 1 rfl rfl (rfl) hl.1 rfl (Nat.le_of_ble_eq_true rfl) dX1_weather_44 (fun r11 u H locs hw hP hD hS => ?_)
  refine lv_iload_n hx hb dX1_weather_47 rfl (lv_at hl 2 rfl) ?_
  refine lv_isub hx hb dX1_weather_48 ?_
  refine lv_topi (fun t12 et12 => ?_)
  refine va_mmax hx hb (by rw [hml]; exact hl.1.symm) hown (hts _ k_878) (hts _ k_640) (hts _ k_119) (hts _ k_641) (Nat.le_of_ble_eq_true rfl) (Nat.le_of_ble_eq_true rfl) (Nat.le_of_ble_eq_true rfl) (Nat.le_of_ble_eq_true rfl) dX1_weather_49 ?_
  refine lv_topi (fun t13 et13 => ?_)
  have zt13 : t13.toInt = max (0) (t12.toInt) := by rw [et13]; exact mmax_i (by decide) rfl
  refine cbVv (n := 3) (rest := []) hx hb hml hown hts hE hP hD hS hA (sX_X1_setPart_2 l dC dI cy x0 x 0 p1 t13 v9 f10 hIv9 ) k_874 k_875 k_876 k_106 k_877 (by decide +kernel) ⟨Nat.le_of_ble_eq_true rfl, Nat.le_of_ble_eq_true rfl⟩ 28 1 rfl rfl (rfl) hl.1 rfl (Nat.le_of_ble_eq_true rfl) dX1_weather_52 (fun u H locs hw hP hD hS => ?_)
  obtain ⟨v14, f15⟩ := u
  obtain ⟨kV_v14, kF_f15, hIv14, hk0_v14, hk1_v14, hk7_v14, hk8_v14, hk9_v14, hk10_v14, hk31_v14, hk32_v14⟩ := hw
  have hM_v14 : KV [] v14 v := KV.tr kV_v14 hM_v9 rfl
  have hA_f15 : KF [18] f15 f := KF.tr kF_f15 hA_f10 rfl
  have hP : va_P (dC, dI) vwCl (XW cy x0 x v14 f15) H := hP
  have hD : va_D A (XW cy x0 x v14 f15) := hD
  have hq0_v14 : v14 0 = (v 0) := hk0_v14.trans hq0_v9
  have hq1_v14 : v14 1 = (v 1) := hk1_v14.trans hq1_v9
  have hq7_v14 : v14 7 = (v 7) := hk7_v14.trans hq7_v9
  have hq8_v14 : v14 8 = (v 8) := hk8_v14.trans hq8_v9
  have hq9_v14 : v14 9 = (v 9) := hk9_v14.trans hq9_v9
  have hq10_v14 : v14 10 = (v 10) := hk10_v14.trans hq10_v9
  have hq31_v14 : v14 31 = (v 31) := hk31_v14.trans hq31_v9
  have hq32_v14 : v14 32 = (v 32) := hk32_v14.trans hq32_v9
  exact ret (v14, f15) _ _ _ _ _ _ ⟨hM_v14, hA_f15, hIv14, (hk0_v14.trans (hk0_v9.trans hk0_v4)), (hk1_v14.trans (hk1_v9.trans hk1_v4)), (hk7_v14.trans (hk7_v9.trans hk7_v4)), (hk8_v14.trans (hk8_v9.trans hk8_v4)), (hk9_v14.trans (hk9_v9.trans hk9_v4)), (hk10_v14.trans (hk10_v9.trans hk10_v4)), (hk31_v14.trans (hk31_v9.trans hk31_v4)), (hk32_v14.trans (hk32_v9.trans hk32_v4))⟩ hP hD hS dX1_weather_55 (Nat.le_refl _) (Nat.le_refl _)
set_option maxHeartbeats 4000000 in
set_option maxRecDepth 100000 in
theorem sX_X1_passDay_2 (l : Launch) (dC : Nat → ClassId) (dI : Nat → Nat → Nat) (cy : Nat → ClassId) (x0 : Nat) (x : Nat → Nat) (p1 : Int32) (v : Nat → Int32) (f : Nat → Nat → Int32) (hIv : XI v)  : ctI l (dC, dI) cy yX1_passDay cX1_passDay 5 .int 5 155 0 0 ((Nat → Int32) × (Nat → Nat → Int32)) [.ref (x 27), .int p1] (XW cy x0 x v f) (fun r u => KV [] u.1 v ∧ KF [13, 14, 18] u.2 f ∧ XI u.1 ∧ u.1 0 = v 0 ∧ u.1 1 = v 1 ∧ u.1 7 = v 7 ∧ u.1 8 = v 8 ∧ u.1 9 = v 9 ∧ u.1 10 = v 10 ∧ u.1 31 = v 31 ∧ u.1 32 = v 32) (fun u => XW cy x0 x u.1 u.2) := by
  refine ctI_of (by decide) (Nat.le_of_ble_eq_true rfl) (fun p e s m below meth c A ls Q hx hb hml hts hown hE hP hD hA hl ret => ?_)
  have hM_v : KV [] v v := fun _ _ => rfl
  have hA_f : KF [13, 14, 18] f f := fun _ _ => rfl
  have hown : s.vm.findClass RX1 = some m.cls := hown
  have hS : va_S A s.heap s.heap [] := va_S.rf
  have hl : lv_has ls 5 [(0, .ref (x 27)), (1, .int p1)] := hl
  refine lv_iconst (v := 0) hx hb dX1_passDay_0 rfl ?_
  refine lv_istore_n (lv' := [(2, .int 0), (0, .ref (x 27)), (1, .int p1)]) hx hb dX1_passDay_1 rfl hl (Nat.le_of_ble_eq_true rfl) rfl (fun ls hl => ?_)
  have lp1 : ∀ (n1 : Nat) (l2_1 : Int32) (v1 : Nat → Int32) (f1 : Nat → Nat → Int32), XI v1 → v1 0 = (v 0) → v1 1 = (v 1) → v1 7 = (v 7) → v1 8 = (v 8) → v1 9 = (v 9) → v1 10 = (v 10) → v1 31 = (v 31) → v1 32 = (v 32) → ((0 : Int) ≤ l2_1.toInt ∧ l2_1.toInt ≤ 2147483647) → KV [] v1 v → KF [13, 14, 18] f1 f → (2147483647 - l2_1.toInt).toNat < n1 → ∀ (H : Heap) (locs : List Loc) (ls : Array Slot), va_P (dC, dI) vwCl (XW cy x0 x v1 f1) H → va_D A (XW cy x0 x v1 f1) → va_S A s.heap H locs → lv_has ls 5 [(2, .int l2_1), (0, .ref (x 27)), (1, .int p1)] → W p l e { frames := 5, cells := 0, slots := 0, locals := 155 } s m ([.ref (x 27), .int p1] : List Value).toArray below meth c H locs 0 0 Q (F0 m 2 ls []) := by
    intro n1
    induction n1 with
    | zero => intro l2_1 v1 f1 hIv1 hq0_v1 hq1_v1 hq7_v1 hq8_v1 hq9_v1 hq10_v1 hq31_v1 hq32_v1 hr2_1 hM_v1 hA_f1 hm; exact absurd hm (Nat.not_lt_zero _)
    | succ n1 ih1 =>
      intro l2_1 v1 f1 hIv1 hq0_v1 hq1_v1 hq7_v1 hq8_v1 hq9_v1 hq10_v1 hq31_v1 hq32_v1 hr2_1 hM_v1 hA_f1 hm1 H locs ls hP hD hS hl
      refine lv_iload_n hx hb dX1_passDay_2 rfl (lv_at hl 0 rfl) ?_
      refine lv_aload_n hx hb dX1_passDay_3 rfl (lv_at hl 1 rfl) ?_
      refine va_get (D := (dC, dI)) (ci := 1) (v := .ref (x 26)) (C := RX1) (T := TX1) (N := 2) hx hb hts inB_1 hown hE.1 hP 28 rfl rfl 0 (Nat.le_of_ble_eq_true rfl) (hts _ k_318) (fun _ h9 => h9) rfl dX1_passDay_4 ?_
      refine va_getN (D := (dC, dI)) (ci := 7) (v := .int (v1 31)) (C := RX7) (T := TX7) (N := 10) hx hb hts inB_7 hown hE.1 hP 27 rfl rfl 3 (Nat.le_of_ble_eq_true rfl) (va_Nw.use rfl (hE.2 _ k_219)) (fun _ h9 => h9) rfl dX1_passDay_7 ?_
      refine tI (y := (v 31)) hq31_v1 ?_
      have b31_v : 0 ≤ (v 31).toInt ∧ (v 31).toInt ≤ 6 := XI.b hIv 31 (by decide)
      refine lv_icmp_ge (tgt := 46) hx hb dX1_passDay_10 rfl (fun c2 => ?_) (fun c2 => ?_)
      · skip
        have zc2 : (v 31).toInt ≤ l2_1.toInt := by rw [fa_le] at c2; exact c2
        have rg3 := fb_rng l2_1
        have rg4 := fb_rng (v 31)
        refine lv_aload_n hx hb dX1_passDay_46 rfl (lv_at hl 1 rfl) ?_
        refine va_get (D := (dC, dI)) (ci := 1) (v := .ref (x 28)) (C := RX1) (T := TX1) (N := 2) hx hb hts inB_1 hown hE.1 hP 28 rfl rfl 1 (Nat.le_of_ble_eq_true rfl) (hts _ k_319) (fun _ h9 => h9) rfl dX1_passDay_47 ?_
        refine lv_bipush (v := 43) hx hb dX1_passDay_50 rfl ?_
        refine lv_aload_n hx hb dX1_passDay_52 rfl (lv_at hl 1 rfl) ?_
        refine va_get (D := (dC, dI)) (ci := 1) (v := .ref (x 28)) (C := RX1) (T := TX1) (N := 2) hx hb hts inB_1 hown hE.1 hP 28 rfl rfl 1 (Nat.le_of_ble_eq_true rfl) (hts _ k_319) (fun _ h9 => h9) rfl dX1_passDay_53 ?_
        refine lv_bipush (v := 43) hx hb dX1_passDay_56 rfl ?_
        refine ldI hx hb hE hP 29 rfl (vp_in_nI (n := 43) (by decide) (by decide)) rfl rfl dX1_passDay_58 ?_
        refine lv_topi (fun t5 et5 => ?_)
        refine lv_sipush (v := 137) hx hb dX1_passDay_59 rfl ?_
        refine lv_imul hx hb dX1_passDay_62 ?_
        refine lv_topi (fun t6 et6 => ?_)
        refine lv_bipush (v := 71) hx hb dX1_passDay_63 rfl ?_
        refine lv_iadd hx hb dX1_passDay_65 ?_
        refine lv_topi (fun t7 et7 => ?_)
        refine lv_sipush (v := 1000) hx hb dX1_passDay_66 rfl ?_
        refine lv_irem hx hb dX1_passDay_69 (by decide) ?_
        refine lv_topi (fun t8 et8 => ?_)
        refine stI hx hb hE hP hD hS 29 rfl (vp_in_nI (n := 43) (by decide) (by decide)) rfl dX1_passDay_70 (fun H locs hP hD hS => ?_)
        obtain ⟨f9, ef9, hP, hD⟩ : ∃ fz9, fz9 = upd2 f1 18 (upd (f1 18) (43 : Int32).toNatClampNeg t8) ∧ va_P (dC, dI) vwCl (XW cy x0 x v1 fz9) H ∧ va_D A (XW cy x0 x v1 fz9) := ⟨_, rfl, hP, hD⟩
        have hA_f9 : KF [13, 14, 18] f9 f := by rw [ef9]; exact KF.up hA_f1 rfl
        refine lv_aload_n hx hb dX1_passDay_71 rfl (lv_at hl 1 rfl) ?_
        refine va_get (D := (dC, dI)) (ci := 1) (v := .ref (x 28)) (C := RX1) (T := TX1) (N := 2) hx hb hts inB_1 hown hE.1 hP 28 rfl rfl 1 (Nat.le_of_ble_eq_true rfl) (hts _ k_319) (fun _ h9 => h9) rfl dX1_passDay_72 ?_
        refine lv_bipush (v := 43) hx hb dX1_passDay_75 rfl ?_
        refine ldI hx hb hE hP 29 rfl (vp_in_nI (n := 43) (by decide) (by decide)) rfl rfl dX1_passDay_77 ?_
        refine lv_topi (fun t10 et10 => ?_)
        refine lv_bipush (v := 100) hx hb dX1_passDay_78 rfl ?_
        refine lv_irem hx hb dX1_passDay_80 (by decide) ?_
        refine lv_topi (fun t11 et11 => ?_)
        refine lv_iload_n hx hb dX1_passDay_81 rfl (lv_at hl 2 rfl) ?_
        refine lv_icmp_ge (tgt := 89) hx hb dX1_passDay_82 rfl (fun c12 => ?_) (fun c12 => ?_)
        · skip
          have zc12 : p1.toInt ≤ t11.toInt := by rw [fa_le] at c12; exact c12
          have rg13 := fb_rng t11
          have rg14 := fb_rng p1
          refine lv_iconst (v := 0) hx hb dX1_passDay_89 rfl ?_
          refine lv_istore_n (lv' := [(2, .int 0), (0, .ref (x 27)), (1, .int p1)]) hx hb dX1_passDay_90 rfl hl (Nat.le_of_ble_eq_true rfl) rfl (fun ls hl => ?_)
          refine lv_iconst (v := 0) hx hb dX1_passDay_91 rfl ?_
          refine lv_istore_n (lv' := [(3, .int 0), (2, .int 0), (0, .ref (x 27)), (1, .int p1)]) hx hb dX1_passDay_92 rfl hl (Nat.le_of_ble_eq_true rfl) rfl (fun ls hl => ?_)
          have lp15 : ∀ (n15 : Nat) (l3_15 : Int32) (v15 : Nat → Int32) (f15 : Nat → Nat → Int32), XI v15 → v15 0 = (v 0) → v15 1 = (v 1) → v15 7 = (v 7) → v15 8 = (v 8) → v15 9 = (v 9) → v15 10 = (v 10) → v15 31 = (v 31) → v15 32 = (v 32) → ((0 : Int) ≤ l3_15.toInt ∧ l3_15.toInt ≤ 2147483647) → KV [] v15 v → KF [13, 14, 18] f15 f → (2147483647 - l3_15.toInt).toNat < n15 → ∀ (H : Heap) (locs : List Loc) (ls : Array Slot), va_P (dC, dI) vwCl (XW cy x0 x v15 f15) H → va_D A (XW cy x0 x v15 f15) → va_S A s.heap H locs → lv_has ls 5 [(3, .int l3_15), (2, .int 0), (0, .ref (x 27)), (1, .int p1)] → W p l e { frames := 5, cells := 0, slots := 0, locals := 155 } s m ([.ref (x 27), .int p1] : List Value).toArray below meth c H locs 0 0 Q (F0 m 93 ls []) := by
            intro n15
            induction n15 with
            | zero => intro l3_15 v15 f15 hIv15 hq0_v15 hq1_v15 hq7_v15 hq8_v15 hq9_v15 hq10_v15 hq31_v15 hq32_v15 hr3_15 hM_v15 hA_f15 hm; exact absurd hm (Nat.not_lt_zero _)
            | succ n15 ih15 =>
              intro l3_15 v15 f15 hIv15 hq0_v15 hq1_v15 hq7_v15 hq8_v15 hq9_v15 hq10_v15 hq31_v15 hq32_v15 hr3_15 hM_v15 hA_f15 hm15 H locs ls hP hD hS hl
              refine lv_iload_n hx hb dX1_passDay_93 rfl (lv_at hl 0 rfl) ?_
              refine lv_aload_n hx hb dX1_passDay_94 rfl (lv_at hl 2 rfl) ?_
              refine va_get (D := (dC, dI)) (ci := 1) (v := .ref (x 26)) (C := RX1) (T := TX1) (N := 2) hx hb hts inB_1 hown hE.1 hP 28 rfl rfl 0 (Nat.le_of_ble_eq_true rfl) (hts _ k_318) (fun _ h9 => h9) rfl dX1_passDay_95 ?_
              refine va_getN (D := (dC, dI)) (ci := 7) (v := .int (v15 31)) (C := RX7) (T := TX7) (N := 10) hx hb hts inB_7 hown hE.1 hP 27 rfl rfl 3 (Nat.le_of_ble_eq_true rfl) (va_Nw.use rfl (hE.2 _ k_219)) (fun _ h9 => h9) rfl dX1_passDay_98 ?_
              refine tI (y := (v 31)) hq31_v15 ?_
              have b31_v : 0 ≤ (v 31).toInt ∧ (v 31).toInt ≤ 6 := XI.b hIv 31 (by decide)
              refine lv_icmp_ge (tgt := 120) hx hb dX1_passDay_101 rfl (fun c16 => ?_) (fun c16 => ?_)
              · skip
                have zc16 : (v 31).toInt ≤ l3_15.toInt := by rw [fa_le] at c16; exact c16
                have rg17 := fb_rng l3_15
                refine lv_aload_n hx hb dX1_passDay_120 rfl (lv_at hl 2 rfl) ?_
                refine va_get (D := (dC, dI)) (ci := 1) (v := .ref (x 28)) (C := RX1) (T := TX1) (N := 2) hx hb hts inB_1 hown hE.1 hP 28 rfl rfl 1 (Nat.le_of_ble_eq_true rfl) (hts _ k_319) (fun _ h9 => h9) rfl dX1_passDay_121 ?_
                refine lv_bipush (v := 42) hx hb dX1_passDay_124 rfl ?_
                refine lv_dup2_11 hx hb dX1_passDay_126 rfl rfl ?_
                refine ldI hx hb hE hP 29 rfl (vp_in_nI (n := 42) (by decide) (by decide)) rfl rfl dX1_passDay_127 ?_
                refine lv_topi (fun t18 et18 => ?_)
                refine lv_iconst (v := 1) hx hb dX1_passDay_128 rfl ?_
                refine lv_iadd hx hb dX1_passDay_129 ?_
                refine lv_topi (fun t19 et19 => ?_)
                refine stI hx hb hE hP hD hS 29 rfl (vp_in_nI (n := 42) (by decide) (by decide)) rfl dX1_passDay_130 (fun H locs hP hD hS => ?_)
                obtain ⟨f20, ef20, hP, hD⟩ : ∃ fz9, fz9 = upd2 f15 18 (upd (f15 18) (42 : Int32).toNatClampNeg t19) ∧ va_P (dC, dI) vwCl (XW cy x0 x v15 fz9) H ∧ va_D A (XW cy x0 x v15 fz9) := ⟨_, rfl, hP, hD⟩
                have hA_f20 : KF [13, 14, 18] f20 f := by rw [ef20]; exact KF.up hA_f15 rfl
                refine lv_iconst (v := 0) hx hb dX1_passDay_131 rfl ?_
                refine lv_istore_n (lv' := [(3, .int 0), (2, .int 0), (0, .ref (x 27)), (1, .int p1)]) hx hb dX1_passDay_132 rfl hl (Nat.le_of_ble_eq_true rfl) rfl (fun ls hl => ?_)
                refine lv_iconst (v := 0) hx hb dX1_passDay_133 rfl ?_
                refine lv_istore (lv' := [(4, .int 0), (3, .int 0), (2, .int 0), (0, .ref (x 27)), (1, .int p1)]) hx hb dX1_passDay_134 hl (Nat.le_of_ble_eq_true rfl) rfl (fun ls hl => ?_)
                have lp21 : ∀ (n21 : Nat) (l3_21 : Int32) (l4_21 : Int32) (v21 : Nat → Int32) (f21 : Nat → Nat → Int32), XI v21 → v21 0 = (v 0) → v21 1 = (v 1) → v21 7 = (v 7) → v21 8 = (v 8) → v21 9 = (v 9) → v21 10 = (v 10) → v21 31 = (v 31) → v21 32 = (v 32) → ((0 : Int) ≤ l4_21.toInt ∧ l4_21.toInt ≤ 2147483647) → KV [] v21 v → KF [13, 14, 18] f21 f → (2147483647 - l4_21.toInt).toNat < n21 → ∀ (H : Heap) (locs : List Loc) (ls : Array Slot), va_P (dC, dI) vwCl (XW cy x0 x v21 f21) H → va_D A (XW cy x0 x v21 f21) → va_S A s.heap H locs → lv_has ls 5 [(4, .int l4_21), (3, .int l3_21), (2, .int 0), (0, .ref (x 27)), (1, .int p1)] → W p l e { frames := 5, cells := 0, slots := 0, locals := 155 } s m ([.ref (x 27), .int p1] : List Value).toArray below meth c H locs 0 0 Q (F0 m 136 ls []) := by
                  intro n21
                  induction n21 with
                  | zero => intro l3_21 l4_21 v21 f21 hIv21 hq0_v21 hq1_v21 hq7_v21 hq8_v21 hq9_v21 hq10_v21 hq31_v21 hq32_v21 hr4_21 hM_v21 hA_f21 hm; exact absurd hm (Nat.not_lt_zero _)
                  | succ n21 ih21 =>
                    intro l3_21 l4_21 v21 f21 hIv21 hq0_v21 hq1_v21 hq7_v21 hq8_v21 hq9_v21 hq10_v21 hq31_v21 hq32_v21 hr4_21 hM_v21 hA_f21 hm21 H locs ls hP hD hS hl
                    refine lv_iload hx hb dX1_passDay_136 (lv_at hl 0 rfl) ?_
                    refine lv_aload_n hx hb dX1_passDay_138 rfl (lv_at hl 3 rfl) ?_
                    refine va_get (D := (dC, dI)) (ci := 1) (v := .ref (x 26)) (C := RX1) (T := TX1) (N := 2) hx hb hts inB_1 hown hE.1 hP 28 rfl rfl 0 (Nat.le_of_ble_eq_true rfl) (hts _ k_318) (fun _ h9 => h9) rfl dX1_passDay_139 ?_
                    refine va_getN (D := (dC, dI)) (ci := 7) (v := .int (v21 31)) (C := RX7) (T := TX7) (N := 10) hx hb hts inB_7 hown hE.1 hP 27 rfl rfl 3 (Nat.le_of_ble_eq_true rfl) (va_Nw.use rfl (hE.2 _ k_219)) (fun _ h9 => h9) rfl dX1_passDay_142 ?_
                    refine tI (y := (v 31)) hq31_v21 ?_
                    have b31_v : 0 ≤ (v 31).toInt ∧ (v 31).toInt ≤ 6 := XI.b hIv 31 (by decide)
                    refine lv_icmp_ge (tgt := 193) hx hb dX1_passDay_145 rfl (fun c22 => ?_) (fun c22 => ?_)
                    · skip
                      have zc22 : (v 31).toInt ≤ l4_21.toInt := by rw [fa_le] at c22; exact c22
                      have rg23 := fb_rng l4_21
                      refine lv_iload_n hx hb dX1_passDay_193 rfl (lv_at hl 1 rfl) ?_
                      exact ret l3_21 (v21, f21) _ _ _ _ _ _ rfl ⟨hM_v21, hA_f21, hIv21, hq0_v21, hq1_v21, hq7_v21, hq8_v21, hq9_v21, hq10_v21, hq31_v21, hq32_v21⟩ hP hD hS dX1_passDay_194 (Nat.le_refl _) (Nat.le_refl _)
                    · skip
                      have zc22 : ¬ ((v 31).toInt ≤ l4_21.toInt) := by rw [fa_le] at c22; exact c22
                      have rg24 := fb_rng l4_21
                      refine lv_aload_n hx hb dX1_passDay_148 rfl (lv_at hl 3 rfl) ?_
                      refine lv_iload hx hb dX1_passDay_149 (lv_at hl 0 rfl) ?_
                      refine cbVi (n := 1) (rest := []) hx hb hml hown hts hE hP hD hS hA (sX_X1_wears_2 l dC dI cy x0 x l4_21 v21 f21 hIv21 ) k_853 k_810 k_811 k_106 k_812 (by decide +kernel) ⟨Nat.le_of_ble_eq_true rfl, Nat.le_of_ble_eq_true rfl⟩ 28 1 rfl rfl (rfl) hl.1 rfl (Nat.le_of_ble_eq_true rfl) dX1_passDay_151 (fun r25 u H locs hw hP hD hS => ?_)
                      refine lv_iconst (v := (-1)) hx hb dX1_passDay_154 rfl ?_
                      refine lv_icmp_eq (tgt := 187) hx hb dX1_passDay_155 rfl (fun c26 => ?_) (fun c26 => ?_)
                      · skip
                        have zc26 : r25.toInt = (-1) := by rw [fa_eq, show ((-1) : Int32).toInt = -1 from by decide] at c26; exact c26
                        obtain ⟨t27, et27⟩ : ∃ y : Int32, y = l4_21 + 1 := ⟨_, rfl⟩
                        have zt27 : t27.toInt = l4_21.toInt + 1 := by rw [et27]; exact add_i rfl (by decide) (by omega) (by omega)
                        refine lv_iinc (v := t27) (lv' := [(4, .int t27), (3, .int l3_21), (2, .int 0), (0, .ref (x 27)), (1, .int p1)]) hx hb dX1_passDay_187 hl (k := 0) rfl (by rw [et27]; rfl) (by decide) rfl (fun ls hl => ?_)
                        refine lv_goto (tgt := 136) hx hb dX1_passDay_190 rfl ?_
                        have rg28 := fb_rng t27
                        exact ih21 l3_21 t27 v21 f21 hIv21 hq0_v21 hq1_v21 hq7_v21 hq8_v21 hq9_v21 hq10_v21 hq31_v21 hq32_v21 ⟨show (0 : Int) ≤ t27.toInt by omega, show t27.toInt ≤ (2147483647 : Int) by omega⟩ hM_v21 hA_f21 (by show (2147483647 - t27.toInt).toNat < n21; omega) _ _ _ hP hD hS (lv_sub hl [0, 1, 2, 3, 4] rfl)
                      · skip
                        have zc26 : ¬ (r25.toInt = (-1)) := by rw [fa_eq, show ((-1) : Int32).toInt = -1 from by decide] at c26; exact c26
                        refine lv_aload_n hx hb dX1_passDay_158 rfl (lv_at hl 3 rfl) ?_
                        refine lv_iload hx hb dX1_passDay_159 (lv_at hl 0 rfl) ?_
                        refine lv_aload_n hx hb dX1_passDay_161 rfl (lv_at hl 3 rfl) ?_
                        refine lv_iload hx hb dX1_passDay_162 (lv_at hl 0 rfl) ?_
                        refine cbVi (n := 1) (rest := [.int l4_21, .ref (x 27)]) hx hb hml hown hts hE hP hD hS hA (sX_X1_wears_2 l dC dI cy x0 x l4_21 v21 f21 hIv21 ) k_853 k_810 k_811 k_106 k_812 (by decide +kernel) ⟨Nat.le_of_ble_eq_true rfl, Nat.le_of_ble_eq_true rfl⟩ 28 1 rfl rfl (rfl) hl.1 rfl (Nat.le_of_ble_eq_true rfl) dX1_passDay_164 (fun r29 u H locs hw hP hD hS => ?_)
                        refine cbVi (n := 2) (rest := []) hx hb hml hown hts hE hP hD hS hA (sX_X1_fits_2 l dC dI cy x0 x l4_21 r29 v21 f21 hIv21 ) k_817 k_818 k_819 k_106 k_820 (by decide +kernel) ⟨Nat.le_of_ble_eq_true rfl, Nat.le_of_ble_eq_true rfl⟩ 28 1 rfl rfl (rfl) hl.1 rfl (Nat.le_of_ble_eq_true rfl) dX1_passDay_167 (fun r30 u H locs hw hP hD hS => ?_)
                        obtain ⟨v31, f32⟩ := u
                        obtain ⟨kV_v31, kF_f32, hIv31, hk0_v31, hk1_v31, hk7_v31, hk8_v31, hk9_v31, hk10_v31, hk31_v31, hk32_v31, hw⟩ := hw
                        have hM_v31 : KV [] v31 v := KV.tr kV_v31 hM_v21 rfl
                        have hA_f32 : KF [13, 14, 18] f32 f := KF.tr kF_f32 hA_f21 rfl
                        have hP : va_P (dC, dI) vwCl (XW cy x0 x v31 f32) H := hP
                        have hD : va_D A (XW cy x0 x v31 f32) := hD
                        have hq0_v31 : v31 0 = (v 0) := hk0_v31.trans hq0_v21
                        have hq1_v31 : v31 1 = (v 1) := hk1_v31.trans hq1_v21
                        have hq7_v31 : v31 7 = (v 7) := hk7_v31.trans hq7_v21
                        have hq8_v31 : v31 8 = (v 8) := hk8_v31.trans hq8_v21
                        have hq9_v31 : v31 9 = (v 9) := hk9_v31.trans hq9_v21
                        have hq10_v31 : v31 10 = (v 10) := hk10_v31.trans hq10_v21
                        have hq31_v31 : v31 31 = (v 31) := hk31_v31.trans hq31_v21
                        have hq32_v31 : v31 32 = (v 32) := hk32_v31.trans hq32_v21
                        rcases hw with ⟨g33⟩ | ⟨g33⟩
                        · skip
                          subst g33
                          refine lv_if_ne (tgt := 187) hx hb dX1_passDay_170 rfl (fun _ => ?_) (fun c0 => absurd c0 (by decide))
                          obtain ⟨t34, et34⟩ : ∃ y : Int32, y = l4_21 + 1 := ⟨_, rfl⟩
                          have zt34 : t34.toInt = l4_21.toInt + 1 := by rw [et34]; exact add_i rfl (by decide) (by omega) (by omega)
                          refine lv_iinc (v := t34) (lv' := [(4, .int t34), (3, .int l3_21), (2, .int 0), (0, .ref (x 27)), (1, .int p1)]) hx hb dX1_passDay_187 hl (k := 0) rfl (by rw [et34]; rfl) (by decide) rfl (fun ls hl => ?_)
                          refine lv_goto (tgt := 136) hx hb dX1_passDay_190 rfl ?_
                          have rg35 := fb_rng t34
                          exact ih21 l3_21 t34 v31 f32 hIv31 hq0_v31 hq1_v31 hq7_v31 hq8_v31 hq9_v31 hq10_v31 hq31_v31 hq32_v31 ⟨show (0 : Int) ≤ t34.toInt by omega, show t34.toInt ≤ (2147483647 : Int) by omega⟩ hM_v31 hA_f32 (by show (2147483647 - t34.toInt).toNat < n21; omega) _ _ _ hP hD hS (lv_sub hl [0, 1, 2, 3, 4] rfl)
                        · skip
                          subst g33
                          refine lv_if_ne (tgt := 187) hx hb dX1_passDay_170 rfl (fun c0 => absurd (by decide) c0) (fun _ => ?_)
                          refine lv_aload_n hx hb dX1_passDay_173 rfl (lv_at hl 3 rfl) ?_
                          refine lv_iload hx hb dX1_passDay_174 (lv_at hl 0 rfl) ?_
                          refine lv_iconst (v := (-1)) hx hb dX1_passDay_176 rfl ?_
                          refine cbVv (n := 2) (rest := []) hx hb hml hown hts hE hP hD hS hA (sX_X1_setWears_2 l dC dI cy x0 x l4_21 (-1) v31 f32 hIv31 ) k_879 k_880 k_881 k_106 k_882 (by decide +kernel) ⟨Nat.le_of_ble_eq_true rfl, Nat.le_of_ble_eq_true rfl⟩ 28 1 rfl rfl (rfl) hl.1 rfl (Nat.le_of_ble_eq_true rfl) dX1_passDay_177 (fun u H locs hw hP hD hS => ?_)
                          obtain ⟨v36, f37⟩ := u
                          obtain ⟨kV_v36, kF_f37, hIv36, hk0_v36, hk1_v36, hk7_v36, hk8_v36, hk9_v36, hk10_v36, hk31_v36, hk32_v36⟩ := hw
                          have hM_v36 : KV [] v36 v := KV.tr kV_v36 hM_v31 rfl
                          have hA_f37 : KF [13, 14, 18] f37 f := KF.tr kF_f37 hA_f32 rfl
                          have hP : va_P (dC, dI) vwCl (XW cy x0 x v36 f37) H := hP
                          have hD : va_D A (XW cy x0 x v36 f37) := hD
                          have hq0_v36 : v36 0 = (v 0) := hk0_v36.trans hq0_v31
                          have hq1_v36 : v36 1 = (v 1) := hk1_v36.trans hq1_v31
                          have hq7_v36 : v36 7 = (v 7) := hk7_v36.trans hq7_v31
                          have hq8_v36 : v36 8 = (v 8) := hk8_v36.trans hq8_v31
                          have hq9_v36 : v36 9 = (v 9) := hk9_v36.trans hq9_v31
                          have hq10_v36 : v36 10 = (v 10) := hk10_v36.trans hq10_v31
                          have hq31_v36 : v36 31 = (v 31) := hk31_v36.trans hq31_v31
                          have hq32_v36 : v36 32 = (v 32) := hk32_v36.trans hq32_v31
                          refine lv_iload_n hx hb dX1_passDay_180 rfl (lv_at hl 1 rfl) ?_
                          refine lv_iconst (v := 1) hx hb dX1_passDay_181 rfl ?_
                          refine lv_iload hx hb dX1_passDay_182 (lv_at hl 0 rfl) ?_
                          refine lv_ishl hx hb dX1_passDay_184 ?_
                          refine lv_topi (fun t38 et38 => ?_)
                          have zt38 : 1 ≤ t38.toInt ∧ t38.toInt ≤ 32 := by rw [et38]; exact shl1_rng (by omega) (by omega)
                          refine lv_ior hx hb dX1_passDay_185 ?_
                          refine lv_topi (fun t39 et39 => ?_)
                          refine lv_istore_n (lv' := [(3, .int t39), (4, .int l4_21), (2, .int 0), (0, .ref (x 27)), (1, .int p1)]) hx hb dX1_passDay_186 rfl hl (Nat.le_of_ble_eq_true rfl) rfl (fun ls hl => ?_)
                          obtain ⟨t40, et40⟩ : ∃ y : Int32, y = l4_21 + 1 := ⟨_, rfl⟩
                          have zt40 : t40.toInt = l4_21.toInt + 1 := by rw [et40]; exact add_i rfl (by decide) (by omega) (by omega)
                          refine lv_iinc (v := t40) (lv' := [(4, .int t40), (3, .int t39), (2, .int 0), (0, .ref (x 27)), (1, .int p1)]) hx hb dX1_passDay_187 hl (k := 1) rfl (by rw [et40]; rfl) (by decide) rfl (fun ls hl => ?_)
                          refine lv_goto (tgt := 136) hx hb dX1_passDay_190 rfl ?_
                          have rg41 := fb_rng t40
                          exact ih21 t39 t40 v36 f37 hIv36 hq0_v36 hq1_v36 hq7_v36 hq8_v36 hq9_v36 hq10_v36 hq31_v36 hq32_v36 ⟨show (0 : Int) ≤ t40.toInt by omega, show t40.toInt ≤ (2147483647 : Int) by omega⟩ hM_v36 hA_f37 (by show (2147483647 - t40.toInt).toNat < n21; omega) _ _ _ hP hD hS (lv_sub hl [0, 1, 2, 3, 4] rfl)
                exact lp21 _ 0 0 v15 f20 hIv15 hq0_v15 hq1_v15 hq7_v15 hq8_v15 hq9_v15 hq10_v15 hq31_v15 hq32_v15 ⟨by decide, by decide⟩ hM_v15 hA_f20 (Nat.lt_succ_self _) _ _ _ hP hD hS (lv_sub hl [0, 1, 2, 3, 4] rfl)
              · skip
                have zc16 : ¬ ((v 31).toInt ≤ l3_15.toInt) := by rw [fa_le] at c16; exact c16
                have rg42 := fb_rng l3_15
                refine lv_aload_n hx hb dX1_passDay_104 rfl (lv_at hl 2 rfl) ?_
                refine lv_aload_n hx hb dX1_passDay_105 rfl (lv_at hl 2 rfl) ?_
                refine lv_iload_n hx hb dX1_passDay_106 rfl (lv_at hl 0 rfl) ?_
                refine cbVi (n := 1) (rest := [.ref (x 27)]) hx hb hml hown hts hE hP hD hS hA (sX_X1_wears_2 l dC dI cy x0 x l3_15 v15 f15 hIv15 ) k_853 k_810 k_811 k_106 k_812 (by decide +kernel) ⟨Nat.le_of_ble_eq_true rfl, Nat.le_of_ble_eq_true rfl⟩ 28 1 rfl rfl (rfl) hl.1 rfl (Nat.le_of_ble_eq_true rfl) dX1_passDay_107 (fun r43 u H locs hw hP hD hS => ?_)
                refine lv_iload_n hx hb dX1_passDay_110 rfl (lv_at hl 1 rfl) ?_
                refine cbVv (n := 2) (rest := []) hx hb hml hown hts hE hP hD hS hA (sX_X1_weather_2 l dC dI cy x0 x r43 0 v15 f15 hIv15 ) k_870 k_872 k_20 k_106 k_873 (by decide +kernel) ⟨Nat.le_of_ble_eq_true rfl, Nat.le_of_ble_eq_true rfl⟩ 28 1 rfl rfl (rfl) hl.1 rfl (Nat.le_of_ble_eq_true rfl) dX1_passDay_111 (fun u H locs hw hP hD hS => ?_)
                obtain ⟨v44, f45⟩ := u
                obtain ⟨kV_v44, kF_f45, hIv44, hk0_v44, hk1_v44, hk7_v44, hk8_v44, hk9_v44, hk10_v44, hk31_v44, hk32_v44⟩ := hw
                have hM_v44 : KV [] v44 v := KV.tr kV_v44 hM_v15 rfl
                have hA_f45 : KF [13, 14, 18] f45 f := KF.tr kF_f45 hA_f15 rfl
                have hP : va_P (dC, dI) vwCl (XW cy x0 x v44 f45) H := hP
                have hD : va_D A (XW cy x0 x v44 f45) := hD
                have hq0_v44 : v44 0 = (v 0) := hk0_v44.trans hq0_v15
                have hq1_v44 : v44 1 = (v 1) := hk1_v44.trans hq1_v15
                have hq7_v44 : v44 7 = (v 7) := hk7_v44.trans hq7_v15
                have hq8_v44 : v44 8 = (v 8) := hk8_v44.trans hq8_v15
                have hq9_v44 : v44 9 = (v 9) := hk9_v44.trans hq9_v15
                have hq10_v44 : v44 10 = (v 10) := hk10_v44.trans hq10_v15
                have hq31_v44 : v44 31 = (v 31) := hk31_v44.trans hq31_v15
                have hq32_v44 : v44 32 = (v 32) := hk32_v44.trans hq32_v15
                obtain ⟨t46, et46⟩ : ∃ y : Int32, y = l3_15 + 1 := ⟨_, rfl⟩
                have zt46 : t46.toInt = l3_15.toInt + 1 := by rw [et46]; exact add_i rfl (by decide) (by omega) (by omega)
                refine lv_iinc (v := t46) (lv' := [(3, .int t46), (2, .int 0), (0, .ref (x 27)), (1, .int p1)]) hx hb dX1_passDay_114 hl (k := 0) rfl (by rw [et46]; rfl) (by decide) rfl (fun ls hl => ?_)
                refine lv_goto (tgt := 93) hx hb dX1_passDay_117 rfl ?_
                have rg47 := fb_rng t46
                exact ih15 t46 v44 f45 hIv44 hq0_v44 hq1_v44 hq7_v44 hq8_v44 hq9_v44 hq10_v44 hq31_v44 hq32_v44 ⟨show (0 : Int) ≤ t46.toInt by omega, show t46.toInt ≤ (2147483647 : Int) by omega⟩ hM_v44 hA_f45 (by show (2147483647 - t46.toInt).toNat < n15; omega) _ _ _ hP hD hS (lv_sub hl [0, 1, 2, 3] rfl)
          exact lp15 _ 0 v1 f9 hIv1 hq0_v1 hq1_v1 hq7_v1 hq8_v1 hq9_v1 hq10_v1 hq31_v1 hq32_v1 ⟨by decide, by decide⟩ hM_v1 hA_f9 (Nat.lt_succ_self _) _ _ _ hP hD hS (lv_sub hl [0, 1, 2, 3] rfl)
        · skip
          have zc12 : ¬ (p1.toInt ≤ t11.toInt) := by rw [fa_le] at c12; exact c12
          have rg48 := fb_rng t11
          have rg49 := fb_rng p1
          refine lv_iconst (v := 1) hx hb dX1_passDay_85 rfl ?_
          refine lv_goto (tgt := 90) hx hb dX1_passDay_86 rfl ?_
          refine lv_istore_n (lv' := [(2, .int 1), (0, .ref (x 27)), (1, .int p1)]) hx hb dX1_passDay_90 rfl hl (Nat.le_of_ble_eq_true rfl) rfl (fun ls hl => ?_)
          refine lv_iconst (v := 0) hx hb dX1_passDay_91 rfl ?_
          refine lv_istore_n (lv' := [(3, .int 0), (2, .int 1), (0, .ref (x 27)), (1, .int p1)]) hx hb dX1_passDay_92 rfl hl (Nat.le_of_ble_eq_true rfl) rfl (fun ls hl => ?_)
          have lp50 : ∀ (n50 : Nat) (l3_50 : Int32) (v50 : Nat → Int32) (f50 : Nat → Nat → Int32), XI v50 → v50 0 = (v 0) → v50 1 = (v 1) → v50 7 = (v 7) → v50 8 = (v 8) → v50 9 = (v 9) → v50 10 = (v 10) → v50 31 = (v 31) → v50 32 = (v 32) → ((0 : Int) ≤ l3_50.toInt ∧ l3_50.toInt ≤ 2147483647) → KV [] v50 v → KF [13, 14, 18] f50 f → (2147483647 - l3_50.toInt).toNat < n50 → ∀ (H : Heap) (locs : List Loc) (ls : Array Slot), va_P (dC, dI) vwCl (XW cy x0 x v50 f50) H → va_D A (XW cy x0 x v50 f50) → va_S A s.heap H locs → lv_has ls 5 [(3, .int l3_50), (2, .int 1), (0, .ref (x 27)), (1, .int p1)] → W p l e { frames := 5, cells := 0, slots := 0, locals := 155 } s m ([.ref (x 27), .int p1] : List Value).toArray below meth c H locs 0 0 Q (F0 m 93 ls []) := by
            intro n50
            induction n50 with
            | zero => intro l3_50 v50 f50 hIv50 hq0_v50 hq1_v50 hq7_v50 hq8_v50 hq9_v50 hq10_v50 hq31_v50 hq32_v50 hr3_50 hM_v50 hA_f50 hm; exact absurd hm (Nat.not_lt_zero _)
            | succ n50 ih50 =>
              intro l3_50 v50 f50 hIv50 hq0_v50 hq1_v50 hq7_v50 hq8_v50 hq9_v50 hq10_v50 hq31_v50 hq32_v50 hr3_50 hM_v50 hA_f50 hm50 H locs ls hP hD hS hl
              refine lv_iload_n hx hb dX1_passDay_93 rfl (lv_at hl 0 rfl) ?_
              refine lv_aload_n hx hb dX1_passDay_94 rfl (lv_at hl 2 rfl) ?_
              refine va_get (D := (dC, dI)) (ci := 1) (v := .ref (x 26)) (C := RX1) (T := TX1) (N := 2) hx hb hts inB_1 hown hE.1 hP 28 rfl rfl 0 (Nat.le_of_ble_eq_true rfl) (hts _ k_318) (fun _ h9 => h9) rfl dX1_passDay_95 ?_
              refine va_getN (D := (dC, dI)) (ci := 7) (v := .int (v50 31)) (C := RX7) (T := TX7) (N := 10) hx hb hts inB_7 hown hE.1 hP 27 rfl rfl 3 (Nat.le_of_ble_eq_true rfl) (va_Nw.use rfl (hE.2 _ k_219)) (fun _ h9 => h9) rfl dX1_passDay_98 ?_
              refine tI (y := (v 31)) hq31_v50 ?_
              have b31_v : 0 ≤ (v 31).toInt ∧ (v 31).toInt ≤ 6 := XI.b hIv 31 (by decide)
              refine lv_icmp_ge (tgt := 120) hx hb dX1_passDay_101 rfl (fun c51 => ?_) (fun c51 => ?_)
              · skip
                have zc51 : (v 31).toInt ≤ l3_50.toInt := by rw [fa_le] at c51; exact c51
                have rg52 := fb_rng l3_50
                refine lv_aload_n hx hb dX1_passDay_120 rfl (lv_at hl 2 rfl) ?_
                refine va_get (D := (dC, dI)) (ci := 1) (v := .ref (x 28)) (C := RX1) (T := TX1) (N := 2) hx hb hts inB_1 hown hE.1 hP 28 rfl rfl 1 (Nat.le_of_ble_eq_true rfl) (hts _ k_319) (fun _ h9 => h9) rfl dX1_passDay_121 ?_
                refine lv_bipush (v := 42) hx hb dX1_passDay_124 rfl ?_
                refine lv_dup2_11 hx hb dX1_passDay_126 rfl rfl ?_
                refine ldI hx hb hE hP 29 rfl (vp_in_nI (n := 42) (by decide) (by decide)) rfl rfl dX1_passDay_127 ?_
                refine lv_topi (fun t53 et53 => ?_)
                refine lv_iconst (v := 1) hx hb dX1_passDay_128 rfl ?_
                refine lv_iadd hx hb dX1_passDay_129 ?_
                refine lv_topi (fun t54 et54 => ?_)
                refine stI hx hb hE hP hD hS 29 rfl (vp_in_nI (n := 42) (by decide) (by decide)) rfl dX1_passDay_130 (fun H locs hP hD hS => ?_)
                obtain ⟨f55, ef55, hP, hD⟩ : ∃ fz9, fz9 = upd2 f50 18 (upd (f50 18) (42 : Int32).toNatClampNeg t54) ∧ va_P (dC, dI) vwCl (XW cy x0 x v50 fz9) H ∧ va_D A (XW cy x0 x v50 fz9) := ⟨_, rfl, hP, hD⟩
                have hA_f55 : KF [13, 14, 18] f55 f := by rw [ef55]; exact KF.up hA_f50 rfl
                refine lv_iconst (v := 0) hx hb dX1_passDay_131 rfl ?_
                refine lv_istore_n (lv' := [(3, .int 0), (2, .int 1), (0, .ref (x 27)), (1, .int p1)]) hx hb dX1_passDay_132 rfl hl (Nat.le_of_ble_eq_true rfl) rfl (fun ls hl => ?_)
                refine lv_iconst (v := 0) hx hb dX1_passDay_133 rfl ?_
                refine lv_istore (lv' := [(4, .int 0), (3, .int 0), (2, .int 1), (0, .ref (x 27)), (1, .int p1)]) hx hb dX1_passDay_134 hl (Nat.le_of_ble_eq_true rfl) rfl (fun ls hl => ?_)
                have lp56 : ∀ (n56 : Nat) (l3_56 : Int32) (l4_56 : Int32) (v56 : Nat → Int32) (f56 : Nat → Nat → Int32), XI v56 → v56 0 = (v 0) → v56 1 = (v 1) → v56 7 = (v 7) → v56 8 = (v 8) → v56 9 = (v 9) → v56 10 = (v 10) → v56 31 = (v 31) → v56 32 = (v 32) → ((0 : Int) ≤ l4_56.toInt ∧ l4_56.toInt ≤ 2147483647) → KV [] v56 v → KF [13, 14, 18] f56 f → (2147483647 - l4_56.toInt).toNat < n56 → ∀ (H : Heap) (locs : List Loc) (ls : Array Slot), va_P (dC, dI) vwCl (XW cy x0 x v56 f56) H → va_D A (XW cy x0 x v56 f56) → va_S A s.heap H locs → lv_has ls 5 [(4, .int l4_56), (3, .int l3_56), (2, .int 1), (0, .ref (x 27)), (1, .int p1)] → W p l e { frames := 5, cells := 0, slots := 0, locals := 155 } s m ([.ref (x 27), .int p1] : List Value).toArray below meth c H locs 0 0 Q (F0 m 136 ls []) := by
                  intro n56
                  induction n56 with
                  | zero => intro l3_56 l4_56 v56 f56 hIv56 hq0_v56 hq1_v56 hq7_v56 hq8_v56 hq9_v56 hq10_v56 hq31_v56 hq32_v56 hr4_56 hM_v56 hA_f56 hm; exact absurd hm (Nat.not_lt_zero _)
                  | succ n56 ih56 =>
                    intro l3_56 l4_56 v56 f56 hIv56 hq0_v56 hq1_v56 hq7_v56 hq8_v56 hq9_v56 hq10_v56 hq31_v56 hq32_v56 hr4_56 hM_v56 hA_f56 hm56 H locs ls hP hD hS hl
                    refine lv_iload hx hb dX1_passDay_136 (lv_at hl 0 rfl) ?_
                    refine lv_aload_n hx hb dX1_passDay_138 rfl (lv_at hl 3 rfl) ?_
                    refine va_get (D := (dC, dI)) (ci := 1) (v := .ref (x 26)) (C := RX1) (T := TX1) (N := 2) hx hb hts inB_1 hown hE.1 hP 28 rfl rfl 0 (Nat.le_of_ble_eq_true rfl) (hts _ k_318) (fun _ h9 => h9) rfl dX1_passDay_139 ?_
                    refine va_getN (D := (dC, dI)) (ci := 7) (v := .int (v56 31)) (C := RX7) (T := TX7) (N := 10) hx hb hts inB_7 hown hE.1 hP 27 rfl rfl 3 (Nat.le_of_ble_eq_true rfl) (va_Nw.use rfl (hE.2 _ k_219)) (fun _ h9 => h9) rfl dX1_passDay_142 ?_
                    refine tI (y := (v 31)) hq31_v56 ?_
                    have b31_v : 0 ≤ (v 31).toInt ∧ (v 31).toInt ≤ 6 := XI.b hIv 31 (by decide)
                    refine lv_icmp_ge (tgt := 193) hx hb dX1_passDay_145 rfl (fun c57 => ?_) (fun c57 => ?_)
                    · skip
                      have zc57 : (v 31).toInt ≤ l4_56.toInt := by rw [fa_le] at c57; exact c57
                      have rg58 := fb_rng l4_56
                      refine lv_iload_n hx hb dX1_passDay_193 rfl (lv_at hl 1 rfl) ?_
                      exact ret l3_56 (v56, f56) _ _ _ _ _ _ rfl ⟨hM_v56, hA_f56, hIv56, hq0_v56, hq1_v56, hq7_v56, hq8_v56, hq9_v56, hq10_v56, hq31_v56, hq32_v56⟩ hP hD hS dX1_passDay_194 (Nat.le_refl _) (Nat.le_refl _)
                    · skip
                      have zc57 : ¬ ((v 31).toInt ≤ l4_56.toInt) := by rw [fa_le] at c57; exact c57
                      have rg59 := fb_rng l4_56
                      refine lv_aload_n hx hb dX1_passDay_148 rfl (lv_at hl 3 rfl) ?_
                      refine lv_iload hx hb dX1_passDay_149 (lv_at hl 0 rfl) ?_
                      refine cbVi (n := 1) (rest := []) hx hb hml hown hts hE hP hD hS hA (sX_X1_wears_2 l dC dI cy x0 x l4_56 v56 f56 hIv56 ) k_853 k_810 k_811 k_106 k_812 (by decide +kernel) ⟨Nat.le_of_ble_eq_true rfl, Nat.le_of_ble_eq_true rfl⟩ 28 1 rfl rfl (rfl) hl.1 rfl (Nat.le_of_ble_eq_true rfl) dX1_passDay_151 (fun r60 u H locs hw hP hD hS => ?_)
                      refine lv_iconst (v := (-1)) hx hb dX1_passDay_154 rfl ?_
                      refine lv_icmp_eq (tgt := 187) hx hb dX1_passDay_155 rfl (fun c61 => ?_) (fun c61 => ?_)
                      · skip
                        have zc61 : r60.toInt = (-1) := by rw [fa_eq, show ((-1) : Int32).toInt = -1 from by decide] at c61; exact c61
                        obtain ⟨t62, et62⟩ : ∃ y : Int32, y = l4_56 + 1 := ⟨_, rfl⟩
                        have zt62 : t62.toInt = l4_56.toInt + 1 := by rw [et62]; exact add_i rfl (by decide) (by omega) (by omega)
                        refine lv_iinc (v := t62) (lv' := [(4, .int t62), (3, .int l3_56), (2, .int 1), (0, .ref (x 27)), (1, .int p1)]) hx hb dX1_passDay_187 hl (k := 0) rfl (by rw [et62]; rfl) (by decide) rfl (fun ls hl => ?_)
                        refine lv_goto (tgt := 136) hx hb dX1_passDay_190 rfl ?_
                        have rg63 := fb_rng t62
                        exact ih56 l3_56 t62 v56 f56 hIv56 hq0_v56 hq1_v56 hq7_v56 hq8_v56 hq9_v56 hq10_v56 hq31_v56 hq32_v56 ⟨show (0 : Int) ≤ t62.toInt by omega, show t62.toInt ≤ (2147483647 : Int) by omega⟩ hM_v56 hA_f56 (by show (2147483647 - t62.toInt).toNat < n56; omega) _ _ _ hP hD hS (lv_sub hl [0, 1, 2, 3, 4] rfl)
                      · skip
                        have zc61 : ¬ (r60.toInt = (-1)) := by rw [fa_eq, show ((-1) : Int32).toInt = -1 from by decide] at c61; exact c61
                        refine lv_aload_n hx hb dX1_passDay_158 rfl (lv_at hl 3 rfl) ?_
                        refine lv_iload hx hb dX1_passDay_159 (lv_at hl 0 rfl) ?_
                        refine lv_aload_n hx hb dX1_passDay_161 rfl (lv_at hl 3 rfl) ?_
                        refine lv_iload hx hb dX1_passDay_162 (lv_at hl 0 rfl) ?_
                        refine cbVi (n := 1) (rest := [.int l4_56, .ref (x 27)]) hx hb hml hown hts hE hP hD hS hA (sX_X1_wears_2 l dC dI cy x0 x l4_56 v56 f56 hIv56 ) k_853 k_810 k_811 k_106 k_812 (by decide +kernel) ⟨Nat.le_of_ble_eq_true rfl, Nat.le_of_ble_eq_true rfl⟩ 28 1 rfl rfl (rfl) hl.1 rfl (Nat.le_of_ble_eq_true rfl) dX1_passDay_164 (fun r64 u H locs hw hP hD hS => ?_)
                        refine cbVi (n := 2) (rest := []) hx hb hml hown hts hE hP hD hS hA (sX_X1_fits_2 l dC dI cy x0 x l4_56 r64 v56 f56 hIv56 ) k_817 k_818 k_819 k_106 k_820 (by decide +kernel) ⟨Nat.le_of_ble_eq_true rfl, Nat.le_of_ble_eq_true rfl⟩ 28 1 rfl rfl (rfl) hl.1 rfl (Nat.le_of_ble_eq_true rfl) dX1_passDay_167 (fun r65 u H locs hw hP hD hS => ?_)
                        obtain ⟨v66, f67⟩ := u
                        obtain ⟨kV_v66, kF_f67, hIv66, hk0_v66, hk1_v66, hk7_v66, hk8_v66, hk9_v66, hk10_v66, hk31_v66, hk32_v66, hw⟩ := hw
                        have hM_v66 : KV [] v66 v := KV.tr kV_v66 hM_v56 rfl
                        have hA_f67 : KF [13, 14, 18] f67 f := KF.tr kF_f67 hA_f56 rfl
                        have hP : va_P (dC, dI) vwCl (XW cy x0 x v66 f67) H := hP
                        have hD : va_D A (XW cy x0 x v66 f67) := hD
                        have hq0_v66 : v66 0 = (v 0) := hk0_v66.trans hq0_v56
                        have hq1_v66 : v66 1 = (v 1) := hk1_v66.trans hq1_v56
                        have hq7_v66 : v66 7 = (v 7) := hk7_v66.trans hq7_v56
                        have hq8_v66 : v66 8 = (v 8) := hk8_v66.trans hq8_v56
                        have hq9_v66 : v66 9 = (v 9) := hk9_v66.trans hq9_v56
                        have hq10_v66 : v66 10 = (v 10) := hk10_v66.trans hq10_v56
                        have hq31_v66 : v66 31 = (v 31) := hk31_v66.trans hq31_v56
                        have hq32_v66 : v66 32 = (v 32) := hk32_v66.trans hq32_v56
                        rcases hw with ⟨g68⟩ | ⟨g68⟩
                        · skip
                          subst g68
                          refine lv_if_ne (tgt := 187) hx hb dX1_passDay_170 rfl (fun _ => ?_) (fun c0 => absurd c0 (by decide))
                          obtain ⟨t69, et69⟩ : ∃ y : Int32, y = l4_56 + 1 := ⟨_, rfl⟩
                          have zt69 : t69.toInt = l4_56.toInt + 1 := by rw [et69]; exact add_i rfl (by decide) (by omega) (by omega)
                          refine lv_iinc (v := t69) (lv' := [(4, .int t69), (3, .int l3_56), (2, .int 1), (0, .ref (x 27)), (1, .int p1)]) hx hb dX1_passDay_187 hl (k := 0) rfl (by rw [et69]; rfl) (by decide) rfl (fun ls hl => ?_)
                          refine lv_goto (tgt := 136) hx hb dX1_passDay_190 rfl ?_
                          have rg70 := fb_rng t69
                          exact ih56 l3_56 t69 v66 f67 hIv66 hq0_v66 hq1_v66 hq7_v66 hq8_v66 hq9_v66 hq10_v66 hq31_v66 hq32_v66 ⟨show (0 : Int) ≤ t69.toInt by omega, show t69.toInt ≤ (2147483647 : Int) by omega⟩ hM_v66 hA_f67 (by show (2147483647 - t69.toInt).toNat < n56; omega) _ _ _ hP hD hS (lv_sub hl [0, 1, 2, 3, 4] rfl)
                        · skip
                          subst g68
                          refine lv_if_ne (tgt := 187) hx hb dX1_passDay_170 rfl (fun c0 => absurd (by decide) c0) (fun _ => ?_)
                          refine lv_aload_n hx hb dX1_passDay_173 rfl (lv_at hl 3 rfl) ?_
                          refine lv_iload hx hb dX1_passDay_174 (lv_at hl 0 rfl) ?_
                          refine lv_iconst (v := (-1)) hx hb dX1_passDay_176 rfl ?_
                          refine cbVv (n := 2) (rest := []) hx hb hml hown hts hE hP hD hS hA (sX_X1_setWears_2 l dC dI cy x0 x l4_56 (-1) v66 f67 hIv66 ) k_879 k_880 k_881 k_106 k_882 (by decide +kernel) ⟨Nat.le_of_ble_eq_true rfl, Nat.le_of_ble_eq_true rfl⟩ 28 1 rfl rfl (rfl) hl.1 rfl (Nat.le_of_ble_eq_true rfl) dX1_passDay_177 (fun u H locs hw hP hD hS => ?_)
                          obtain ⟨v71, f72⟩ := u
                          obtain ⟨kV_v71, kF_f72, hIv71, hk0_v71, hk1_v71, hk7_v71, hk8_v71, hk9_v71, hk10_v71, hk31_v71, hk32_v71⟩ := hw
                          have hM_v71 : KV [] v71 v := KV.tr kV_v71 hM_v66 rfl
                          have hA_f72 : KF [13, 14, 18] f72 f := KF.tr kF_f72 hA_f67 rfl
                          have hP : va_P (dC, dI) vwCl (XW cy x0 x v71 f72) H := hP
                          have hD : va_D A (XW cy x0 x v71 f72) := hD
                          have hq0_v71 : v71 0 = (v 0) := hk0_v71.trans hq0_v66
                          have hq1_v71 : v71 1 = (v 1) := hk1_v71.trans hq1_v66
                          have hq7_v71 : v71 7 = (v 7) := hk7_v71.trans hq7_v66
                          have hq8_v71 : v71 8 = (v 8) := hk8_v71.trans hq8_v66
                          have hq9_v71 : v71 9 = (v 9) := hk9_v71.trans hq9_v66
                          have hq10_v71 : v71 10 = (v 10) := hk10_v71.trans hq10_v66
                          have hq31_v71 : v71 31 = (v 31) := hk31_v71.trans hq31_v66
                          have hq32_v71 : v71 32 = (v 32) := hk32_v71.trans hq32_v66
                          refine lv_iload_n hx hb dX1_passDay_180 rfl (lv_at hl 1 rfl) ?_
                          refine lv_iconst (v := 1) hx hb dX1_passDay_181 rfl ?_
                          refine lv_iload hx hb dX1_passDay_182 (lv_at hl 0 rfl) ?_
                          refine lv_ishl hx hb dX1_passDay_184 ?_
                          refine lv_topi (fun t73 et73 => ?_)
                          have zt73 : 1 ≤ t73.toInt ∧ t73.toInt ≤ 32 := by rw [et73]; exact shl1_rng (by omega) (by omega)
                          refine lv_ior hx hb dX1_passDay_185 ?_
                          refine lv_topi (fun t74 et74 => ?_)
                          refine lv_istore_n (lv' := [(3, .int t74), (4, .int l4_56), (2, .int 1), (0, .ref (x 27)), (1, .int p1)]) hx hb dX1_passDay_186 rfl hl (Nat.le_of_ble_eq_true rfl) rfl (fun ls hl => ?_)
                          obtain ⟨t75, et75⟩ : ∃ y : Int32, y = l4_56 + 1 := ⟨_, rfl⟩
                          have zt75 : t75.toInt = l4_56.toInt + 1 := by rw [et75]; exact add_i rfl (by decide) (by omega) (by omega)
                          refine lv_iinc (v := t75) (lv' := [(4, .int t75), (3, .int t74), (2, .int 1), (0, .ref (x 27)), (1, .int p1)]) hx hb dX1_passDay_187 hl (k := 1) rfl (by rw [et75]; rfl) (by decide) rfl (fun ls hl => ?_)
                          refine lv_goto (tgt := 136) hx hb dX1_passDay_190 rfl ?_
                          have rg76 := fb_rng t75
                          exact ih56 t74 t75 v71 f72 hIv71 hq0_v71 hq1_v71 hq7_v71 hq8_v71 hq9_v71 hq10_v71 hq31_v71 hq32_v71 ⟨show (0 : Int) ≤ t75.toInt by omega, show t75.toInt ≤ (2147483647 : Int) by omega⟩ hM_v71 hA_f72 (by show (2147483647 - t75.toInt).toNat < n56; omega) _ _ _ hP hD hS (lv_sub hl [0, 1, 2, 3, 4] rfl)
                exact lp56 _ 0 0 v50 f55 hIv50 hq0_v50 hq1_v50 hq7_v50 hq8_v50 hq9_v50 hq10_v50 hq31_v50 hq32_v50 ⟨by decide, by decide⟩ hM_v50 hA_f55 (Nat.lt_succ_self _) _ _ _ hP hD hS (lv_sub hl [0, 1, 2, 3, 4] rfl)
              · skip
                have zc51 : ¬ ((v 31).toInt ≤ l3_50.toInt) := by rw [fa_le] at c51; exact c51
                have rg77 := fb_rng l3_50
                refine lv_aload_n hx hb dX1_passDay_104 rfl (lv_at hl 2 rfl) ?_
                refine lv_aload_n hx hb dX1_passDay_105 rfl (lv_at hl 2 rfl) ?_
                refine lv_iload_n hx hb dX1_passDay_106 rfl (lv_at hl 0 rfl) ?_
                refine cbVi (n := 1) (rest := [.ref (x 27)]) hx hb hml hown hts hE hP hD hS hA (sX_X1_wears_2 l dC dI cy x0 x l3_50 v50 f50 hIv50 ) k_853 k_810 k_811 k_106 k_812 (by decide +kernel) ⟨Nat.le_of_ble_eq_true rfl, Nat.le_of_ble_eq_true rfl⟩ 28 1 rfl rfl (rfl) hl.1 rfl (Nat.le_of_ble_eq_true rfl) dX1_passDay_107 (fun r78 u H locs hw hP hD hS => ?_)
                refine lv_iload_n hx hb dX1_passDay_110 rfl (lv_at hl 1 rfl) ?_
                refine cbVv (n := 2) (rest := []) hx hb hml hown hts hE hP hD hS hA (sX_X1_weather_2 l dC dI cy x0 x r78 1 v50 f50 hIv50 ) k_870 k_872 k_20 k_106 k_873 (by decide +kernel) ⟨Nat.le_of_ble_eq_true rfl, Nat.le_of_ble_eq_true rfl⟩ 28 1 rfl rfl (rfl) hl.1 rfl (Nat.le_of_ble_eq_true rfl) dX1_passDay_111 (fun u H locs hw hP hD hS => ?_)
                obtain ⟨v79, f80⟩ := u
                obtain ⟨kV_v79, kF_f80, hIv79, hk0_v79, hk1_v79, hk7_v79, hk8_v79, hk9_v79, hk10_v79, hk31_v79, hk32_v79⟩ := hw
                have hM_v79 : KV [] v79 v := KV.tr kV_v79 hM_v50 rfl
                have hA_f80 : KF [13, 14, 18] f80 f := KF.tr kF_f80 hA_f50 rfl
                have hP : va_P (dC, dI) vwCl (XW cy x0 x v79 f80) H := hP
                have hD : va_D A (XW cy x0 x v79 f80) := hD
                have hq0_v79 : v79 0 = (v 0) := hk0_v79.trans hq0_v50
                have hq1_v79 : v79 1 = (v 1) := hk1_v79.trans hq1_v50
                have hq7_v79 : v79 7 = (v 7) := hk7_v79.trans hq7_v50
                have hq8_v79 : v79 8 = (v 8) := hk8_v79.trans hq8_v50
                have hq9_v79 : v79 9 = (v 9) := hk9_v79.trans hq9_v50
                have hq10_v79 : v79 10 = (v 10) := hk10_v79.trans hq10_v50
                have hq31_v79 : v79 31 = (v 31) := hk31_v79.trans hq31_v50
                have hq32_v79 : v79 32 = (v 32) := hk32_v79.trans hq32_v50
                obtain ⟨t81, et81⟩ : ∃ y : Int32, y = l3_50 + 1 := ⟨_, rfl⟩
                have zt81 : t81.toInt = l3_50.toInt + 1 := by rw [et81]; exact add_i rfl (by decide) (by omega) (by omega)
                refine lv_iinc (v := t81) (lv' := [(3, .int t81), (2, .int 1), (0, .ref (x 27)), (1, .int p1)]) hx hb dX1_passDay_114 hl (k := 0) rfl (by rw [et81]; rfl) (by decide) rfl (fun ls hl => ?_)
                refine lv_goto (tgt := 93) hx hb dX1_passDay_117 rfl ?_
                have rg82 := fb_rng t81
                exact ih50 t81 v79 f80 hIv79 hq0_v79 hq1_v79 hq7_v79 hq8_v79 hq9_v79 hq10_v79 hq31_v79 hq32_v79 ⟨show (0 : Int) ≤ t81.toInt by omega, show t81.toInt ≤ (2147483647 : Int) by omega⟩ hM_v79 hA_f80 (by show (2147483647 - t81.toInt).toNat < n50; omega) _ _ _ hP hD hS (lv_sub hl [0, 1, 2, 3] rfl)
          exact lp50 _ 0 v1 f9 hIv1 hq0_v1 hq1_v1 hq7_v1 hq8_v1 hq9_v1 hq10_v1 hq31_v1 hq32_v1 ⟨by decide, by decide⟩ hM_v1 hA_f9 (Nat.lt_succ_self _) _ _ _ hP hD hS (lv_sub hl [0, 1, 2, 3] rfl)
      · skip
        have zc2 : ¬ ((v 31).toInt ≤ l2_1.toInt) := by rw [fa_le] at c2; exact c2
        have rg83 := fb_rng l2_1
        have rg84 := fb_rng (v 31)
        refine lv_aload_n hx hb dX1_passDay_13 rfl (lv_at hl 1 rfl) ?_
        refine va_get (D := (dC, dI)) (ci := 1) (v := .ref (x 28)) (C := RX1) (T := TX1) (N := 2) hx hb hts inB_1 hown hE.1 hP 28 rfl rfl 1 (Nat.le_of_ble_eq_true rfl) (hts _ k_319) (fun _ h9 => h9) rfl dX1_passDay_14 ?_
        refine lv_iload_n hx hb dX1_passDay_17 rfl (lv_at hl 0 rfl) ?_
        refine lv_bipush (v := 99) hx hb dX1_passDay_18 rfl ?_
        refine lv_aload_n hx hb dX1_passDay_20 rfl (lv_at hl 1 rfl) ?_
        refine va_get (D := (dC, dI)) (ci := 1) (v := .ref (x 28)) (C := RX1) (T := TX1) (N := 2) hx hb hts inB_1 hown hE.1 hP 28 rfl rfl 1 (Nat.le_of_ble_eq_true rfl) (hts _ k_319) (fun _ h9 => h9) rfl dX1_passDay_21 ?_
        refine lv_iload_n hx hb dX1_passDay_24 rfl (lv_at hl 0 rfl) ?_
        refine ldI hx hb hE hP 29 rfl (vp_in_iff.mpr ⟨by omega, by omega⟩) rfl rfl dX1_passDay_25 ?_
        refine lv_topi (fun t85 et85 => ?_)
        refine lv_aload_n hx hb dX1_passDay_26 rfl (lv_at hl 1 rfl) ?_
        refine va_get (D := (dC, dI)) (ci := 1) (v := .ref (x 26)) (C := RX1) (T := TX1) (N := 2) hx hb hts inB_1 hown hE.1 hP 28 rfl rfl 0 (Nat.le_of_ble_eq_true rfl) (hts _ k_318) (fun _ h9 => h9) rfl dX1_passDay_27 ?_
        refine lv_iconst (v := 2) hx hb dX1_passDay_30 rfl ?_
        refine lv_iload_n hx hb dX1_passDay_31 rfl (lv_at hl 0 rfl) ?_
        refine cbVi (n := 2) (rest := [.int t85, .int 99, .int l2_1, .ref (x 28)]) hx hb hml hown hts hE hP hD hS hA (sX_X7_manPart_1 0 l dC dI cy x0 x 2 l2_1 v1 f1 hIv1 ) k_302 k_303 k_304 k_104 k_305 (by decide +kernel) ⟨Nat.le_of_ble_eq_true rfl, Nat.le_of_ble_eq_true rfl⟩ 27 7 rfl rfl (rfl) hl.1 rfl (Nat.le_of_ble_eq_true rfl) dX1_passDay_32 (fun r86 u H locs hw hP hD hS => ?_)
        have hG87 := hw
        refine lv_iadd hx hb dX1_passDay_35 ?_
        refine lv_topi (fun t88 et88 => ?_)
        refine va_mmin hx hb (by rw [hml]; exact hl.1.symm) hown (hts _ k_869) (hts _ k_643) (hts _ k_119) (hts _ k_644) (Nat.le_of_ble_eq_true rfl) (Nat.le_of_ble_eq_true rfl) (Nat.le_of_ble_eq_true rfl) (Nat.le_of_ble_eq_true rfl) dX1_passDay_36 ?_
        refine lv_topi (fun t89 et89 => ?_)
        have zt89 : t89.toInt = min (99) (t88.toInt) := by rw [et89]; exact mmin_i (by decide) rfl
        refine stI hx hb hE hP hD hS 29 rfl (vp_in_iff.mpr ⟨by omega, by omega⟩) rfl dX1_passDay_39 (fun H locs hP hD hS => ?_)
        obtain ⟨f90, ef90, hP, hD⟩ : ∃ fz9, fz9 = upd2 f1 18 (upd (f1 18) l2_1.toNatClampNeg t89) ∧ va_P (dC, dI) vwCl (XW cy x0 x v1 fz9) H ∧ va_D A (XW cy x0 x v1 fz9) := ⟨_, rfl, hP, hD⟩
        have hA_f90 : KF [13, 14, 18] f90 f := by rw [ef90]; exact KF.up hA_f1 rfl
        obtain ⟨t91, et91⟩ : ∃ y : Int32, y = l2_1 + 1 := ⟨_, rfl⟩
        have zt91 : t91.toInt = l2_1.toInt + 1 := by rw [et91]; exact add_i rfl (by decide) (by omega) (by omega)
        refine lv_iinc (v := t91) (lv' := [(2, .int t91), (0, .ref (x 27)), (1, .int p1)]) hx hb dX1_passDay_40 hl (k := 0) rfl (by rw [et91]; rfl) (by decide) rfl (fun ls hl => ?_)
        refine lv_goto (tgt := 2) hx hb dX1_passDay_43 rfl ?_
        have rg92 := fb_rng t91
        exact ih1 t91 v1 f90 hIv1 hq0_v1 hq1_v1 hq7_v1 hq8_v1 hq9_v1 hq10_v1 hq31_v1 hq32_v1 ⟨show (0 : Int) ≤ t91.toInt by omega, show t91.toInt ≤ (2147483647 : Int) by omega⟩ hM_v1 hA_f90 (by show (2147483647 - t91.toInt).toNat < n1; omega) _ _ _ hP hD hS (lv_sub hl [0, 1, 2] rfl)
  exact lp1 _ 0 v f hIv rfl rfl rfl rfl rfl rfl rfl rfl ⟨by decide, by decide⟩ hM_v hA_f (Nat.lt_succ_self _) _ _ _ hP hD hS (lv_sub hl [0, 1, 2] rfl)
