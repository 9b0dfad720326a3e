set_option maxHeartbeats 4000000 in
set_option maxRecDepth 100000 in
theorem sX_X10_seen_1 (NF : Nat) (l : Launch) (dC : Nat → ClassId) (dI : Nat → Nat → Nat) (cy : Nat → ClassId) (x0 : Nat) (x : Nat → Nat) (p1 : Int32) (p2 : Int32) (v : Nat → Int32) (f : Nat → Nat → Int32) (hIv : XI v)  : ctI l (dC, dI) cy yX10_seen cX10_seen 3 .int 2 83 0 0 ((Nat → Int32) × (Nat → Nat → Int32)) [.ref x0, .int p1, .int p2] (XW cy x0 x v f) (fun r u => gsX_X10_seen_1 NF p1 p2 v f = (r, u) ∧ KV [41] u.1 v ∧ KF [23, 24, 25, 26] u.2 f ∧ XI u.1 ∧ u.1 0 = v 0 ∧ u.1 1 = v 1 ∧ u.1 7 = v 7 ∧ u.1 8 = v 8 ∧ u.1 9 = v 9 ∧ u.1 10 = v 10 ∧ u.1 31 = v 31 ∧ u.1 32 = v 32) (fun u => XW cy x0 x u.1 u.2) := by
  refine ctI_of (by decide) (Nat.le_of_ble_eq_true rfl) (fun p e s m below meth c A ls Q hx hb hml hts hown hE hP hD hA hl ret => ?_)
  have hM_v : KV [41] v v := fun _ _ => rfl
  have hA_f : KF [23, 24, 25, 26] f f := fun _ _ => rfl
  have hown : s.vm.findClass RX10 = some m.cls := hown
  have hS : va_S A s.heap s.heap [] := va_S.rf
  have hl : lv_has ls 3 [(0, .ref x0), (1, .int p1), (2, .int p2)] := hl
  refine lv_aload_n hx hb dX10_seen_0 rfl (lv_at hl 0 rfl) ?_
  refine va_get (D := (dC, dI)) (ci := 10) (v := .ref (x 26)) (C := RX10) (T := TX10) (N := 10) hx hb hts inB_10 hown hE.1 hP 0 rfl rfl 2 (Nat.le_of_ble_eq_true rfl) (hts _ k_493) (fun _ h9 => h9) rfl dX10_seen_1 ?_
  refine va_getN (D := (dC, dI)) (ci := 7) (v := .int (v 31)) (C := RX7) (T := TX7) (N := 10) hx hb hts inB_7 hown hE.1 hP 27 rfl rfl 3 (Nat.le_of_ble_eq_true rfl) (va_Nw.use rfl (hE.2 _ k_214)) (fun _ h9 => h9) rfl dX10_seen_4 ?_
  refine lv_if_eq (tgt := 20) hx hb dX10_seen_7 rfl (fun c1 => ?_) (fun c1 => ?_)
  · skip
    refine lv_iconst (v := (-1)) hx hb dX10_seen_20 rfl ?_
    exact ret (-1) (v, f) _ _ _ _ _ _ rfl ⟨(gsX_X10_seen_1_q0 c1), hM_v, hA_f, hIv, rfl, rfl, rfl, rfl, rfl, rfl, rfl, rfl⟩ hP hD hS dX10_seen_21 (Nat.le_refl _) (Nat.le_refl _)
  · skip
    refine lv_aload_n hx hb dX10_seen_10 rfl (lv_at hl 0 rfl) ?_
    refine va_get (D := (dC, dI)) (ci := 10) (v := .ref (x 26)) (C := RX10) (T := TX10) (N := 10) hx hb hts inB_10 hown hE.1 hP 0 rfl rfl 2 (Nat.le_of_ble_eq_true rfl) (hts _ k_493) (fun _ h9 => h9) rfl dX10_seen_11 ?_
    refine va_getN (D := (dC, dI)) (ci := 7) (v := .int (v 32)) (C := RX7) (T := TX7) (N := 10) hx hb hts inB_7 hown hE.1 hP 27 rfl rfl 4 (Nat.le_of_ble_eq_true rfl) (va_Nw.use rfl (hE.2 _ k_227)) (fun _ h9 => h9) rfl dX10_seen_14 ?_
    refine lv_if_ne (tgt := 22) hx hb dX10_seen_17 rfl (fun c2 => ?_) (fun c2 => ?_)
    · skip
      refine lv_aload_n hx hb dX10_seen_22 rfl (lv_at hl 0 rfl) ?_
      refine va_get (D := (dC, dI)) (ci := 10) (v := .ref (x 35)) (C := RX10) (T := TX10) (N := 10) hx hb hts inB_10 hown hE.1 hP 0 rfl rfl 8 (Nat.le_of_ble_eq_true rfl) (hts _ k_499) (fun _ h9 => h9) rfl dX10_seen_23 ?_
      refine lv_iload_n hx hb dX10_seen_26 rfl (lv_at hl 1 rfl) ?_
      refine lv_iload_n hx hb dX10_seen_27 rfl (lv_at hl 2 rfl) ?_
      refine lv_aload_n hx hb dX10_seen_28 rfl (lv_at hl 0 rfl) ?_
      refine va_get (D := (dC, dI)) (ci := 10) (v := .int (v 0)) (C := RX10) (T := TX10) (N := 10) hx hb hts inB_10 hown hE.1 hP 0 rfl rfl 9 (Nat.le_of_ble_eq_true rfl) (hts _ k_500) (fun _ h9 => h9) rfl dX10_seen_29 ?_
      refine cbVi (n := 3) (rest := []) hx hb hml hown hts hE hP hD hS hA (sX_X8_tell_1 NF l dC dI cy x0 x p1 p2 (v 0) v f hIv ) k_1226 k_1227 k_1228 k_112 k_1229 hd_yX8_tell ⟨Nat.le_of_ble_eq_true rfl, Nat.le_of_ble_eq_true rfl⟩ 36 8 rfl rfl (rfl) hl.1 rfl (Nat.le_of_ble_eq_true rfl) dX10_seen_32 (fun r3 u H locs hw hP hD hS => ?_)
      obtain ⟨hG4, hw⟩ := hw
      obtain ⟨v5, f6⟩ := u
      obtain ⟨kV_v5, kF_f6, hIv5, hk0_v5, hk1_v5, hk7_v5, hk8_v5, hk9_v5, hk10_v5, hk31_v5, hk32_v5⟩ := hw
      have hM_v5 : KV [41] v5 v := KV.tr kV_v5 hM_v rfl
      have hA_f6 : KF [23, 24, 25, 26] f6 f := KF.tr kF_f6 hA_f rfl
      have hP : va_P (dC, dI) vwCl (XW cy x0 x v5 f6) H := hP
      have hD : va_D A (XW cy x0 x v5 f6) := hD
      exact ret r3 (v5, f6) _ _ _ _ _ _ rfl ⟨(gsX_X10_seen_1_q1 c1 c2 hG4), hM_v5, hA_f6, hIv5, hk0_v5, hk1_v5, hk7_v5, hk8_v5, hk9_v5, hk10_v5, hk31_v5, hk32_v5⟩ hP hD hS dX10_seen_35 (Nat.le_refl _) (Nat.le_refl _)
    · skip
      refine lv_iconst (v := (-1)) hx hb dX10_seen_20 rfl ?_
      exact ret (-1) (v, f) _ _ _ _ _ _ rfl ⟨(gsX_X10_seen_1_q2 c1 c2), hM_v, hA_f, hIv, rfl, rfl, rfl, rfl, rfl, rfl, rfl, rfl⟩ hP hD hS dX10_seen_21 (Nat.le_refl _) (Nat.le_refl _)
set_option maxHeartbeats 4000000 in
set_option maxRecDepth 100000 in
theorem sX_X8_takeBack_1 (NF : Nat) (l : Launch) (dC : Nat → ClassId) (dI : Nat → Nat → Nat) (cy : Nat → ClassId) (x0 : Nat) (x : Nat → Nat) (p1 : Int32) (p2 : Int32) (v : Nat → Int32) (f : Nat → Nat → Int32) (hIv : XI v)  : ctI l (dC, dI) cy yX8_takeBack cX8_takeBack 3 .boolean 1 60 0 0 ((Nat → Int32) × (Nat → Nat → Int32)) [.ref (x 35), .int p1, .int p2] (XW cy x0 x v f) (fun r u => gsX_X8_takeBack_1 NF p1 p2 v f = (r, u) ∧ KV [] u.1 v ∧ KF [26] u.2 f ∧ XI u.1 ∧ u.1 0 = v 0 ∧ u.1 1 = v 1 ∧ u.1 7 = v 7 ∧ u.1 8 = v 8 ∧ u.1 9 = v 9 ∧ u.1 10 = v 10 ∧ u.1 31 = v 31 ∧ u.1 32 = v 32 ∧ ((r = 1) ∨ (r = 0))) (fun u => XW cy x0 x u.1 u.2) := by
  refine ctI_of (by decide) (Nat.le_of_ble_eq_true rfl) (fun p e s m below meth c A ls Q hx hb hml hts hown hE hP hD hA hl ret => ?_)
  have hM_v : KV [] v v := fun _ _ => rfl
  have hA_f : KF [26] f f := fun _ _ => rfl
  have hown : s.vm.findClass RX8 = some m.cls := hown
  have hS : va_S A s.heap s.heap [] := va_S.rf
  have hl : lv_has ls 3 [(0, .ref (x 35)), (1, .int p1), (2, .int p2)] := hl
  refine lv_iload_n hx hb dX8_takeBack_0 rfl (lv_at hl 1 rfl) ?_
  refine lv_if_lt (tgt := 28) hx hb dX8_takeBack_1 rfl (fun c1 => ?_) (fun c1 => ?_)
  · skip
    refine lv_iconst (v := 0) hx hb dX8_takeBack_28 rfl ?_
    exact ret 0 (v, f) _ _ _ _ _ _ rfl ⟨(gsX_X8_takeBack_1_q0 c1), hM_v, hA_f, hIv, rfl, rfl, rfl, rfl, rfl, rfl, rfl, rfl, (Or.inr rfl)⟩ hP hD hS dX8_takeBack_29 (Nat.le_refl _) (Nat.le_refl _)
  · skip
    have zc1 : ¬ (p1.toInt < 0) := zLn rfl tc_0 c1
    refine lv_iload_n hx hb dX8_takeBack_4 rfl (lv_at hl 1 rfl) ?_
    refine lv_aload_n hx hb dX8_takeBack_5 rfl (lv_at hl 0 rfl) ?_
    refine va_get (D := (dC, dI)) (ci := 8) (v := .int (v 41)) (C := RX8) (T := TX8) (N := 7) hx hb hts inB_8 hown hE.1 hP 36 rfl rfl 5 (Nat.le_of_ble_eq_true rfl) (hts _ k_472) (fun _ h9 => h9) rfl dX8_takeBack_6 ?_
    refine lv_icmp_ge (tgt := 28) hx hb dX8_takeBack_9 rfl (fun c2 => ?_) (fun c2 => ?_)
    · skip
      refine lv_iconst (v := 0) hx hb dX8_takeBack_28 rfl ?_
      exact ret 0 (v, f) _ _ _ _ _ _ rfl ⟨(gsX_X8_takeBack_1_q1 c1 c2), hM_v, hA_f, hIv, rfl, rfl, rfl, rfl, rfl, rfl, rfl, rfl, (Or.inr rfl)⟩ hP hD hS dX8_takeBack_29 (Nat.le_refl _) (Nat.le_refl _)
    · skip
      refine lv_iload_n hx hb dX8_takeBack_12 rfl (lv_at hl 1 rfl) ?_
      refine lv_bipush (v := 30) hx hb dX8_takeBack_13 rfl ?_
      refine lv_icmp_ge (tgt := 28) hx hb dX8_takeBack_15 rfl (fun c7 => ?_) (fun c7 => ?_)
      · skip
        refine lv_iconst (v := 0) hx hb dX8_takeBack_28 rfl ?_
        exact ret 0 (v, f) _ _ _ _ _ _ rfl ⟨(gsX_X8_takeBack_1_q2 c1 c2 c7), hM_v, hA_f, hIv, rfl, rfl, rfl, rfl, rfl, rfl, rfl, rfl, (Or.inr rfl)⟩ hP hD hS dX8_takeBack_29 (Nat.le_refl _) (Nat.le_refl _)
      · skip
        have zc7 : ¬ (30 ≤ p1.toInt) := zMn tc_30 rfl c7
        refine lv_aload_n hx hb dX8_takeBack_18 rfl (lv_at hl 0 rfl) ?_
        refine va_get (D := (dC, dI)) (ci := 8) (v := .ref (x 39)) (C := RX8) (T := TX8) (N := 7) hx hb hts inB_8 hown hE.1 hP 36 rfl rfl 4 (Nat.le_of_ble_eq_true rfl) (hts _ k_471) (fun _ h9 => h9) rfl dX8_takeBack_19 ?_
        refine lv_iload_n hx hb dX8_takeBack_22 rfl (lv_at hl 1 rfl) ?_
        refine ldI hx hb hE hP 40 rfl (vpI (k := 30) rfl (show 0 ≤ p1.toInt from om_14 zc1) (show p1.toInt < 30 from om_134 zc7)) rfl rfl dX8_takeBack_23 ?_
        refine lv_topi (fun t8 et8 => ?_)
        refine lv_iconst (v := (-1)) hx hb dX8_takeBack_24 rfl ?_
        refine lv_icmp_eq (tgt := 30) hx hb dX8_takeBack_25 rfl (fun c9 => ?_) (fun c9 => ?_)
        · skip
          refine lv_aload_n hx hb dX8_takeBack_30 rfl (lv_at hl 0 rfl) ?_
          refine va_get (D := (dC, dI)) (ci := 8) (v := .ref (x 39)) (C := RX8) (T := TX8) (N := 7) hx hb hts inB_8 hown hE.1 hP 36 rfl rfl 4 (Nat.le_of_ble_eq_true rfl) (hts _ k_471) (fun _ h9 => h9) rfl dX8_takeBack_31 ?_
          refine lv_iload_n hx hb dX8_takeBack_34 rfl (lv_at hl 1 rfl) ?_
          refine lv_iload_n hx hb dX8_takeBack_35 rfl (lv_at hl 2 rfl) ?_
          refine stI hx hb hE hP hD hS 40 rfl (vpI (k := 30) rfl (show 0 ≤ p1.toInt from om_14 zc1) (show p1.toInt < 30 from om_134 zc7)) rfl dX8_takeBack_36 (fun H locs hP hD hS => ?_)
          obtain ⟨f10, ef10, hP, hD⟩ : ∃ fz9, fz9 = upd2 f 26 (upd (f 26) p1.toNatClampNeg p2) ∧ va_P (dC, dI) vwCl (XW cy x0 x v fz9) H ∧ va_D A (XW cy x0 x v fz9) := ⟨_, rfl, hP, hD⟩
          have hA_f10 : KF [26] f10 f := by rw [ef10]; exact KF.up hA_f rfl
          refine lv_iconst (v := 1) hx hb dX8_takeBack_37 rfl ?_
          exact ret 1 (v, f10) _ _ _ _ _ _ rfl ⟨(gsX_X8_takeBack_1_q3 c1 c2 c7 et8 c9 ef10), hM_v, hA_f10, hIv, rfl, rfl, rfl, rfl, rfl, rfl, rfl, rfl, (Or.inl rfl)⟩ hP hD hS dX8_takeBack_38 (Nat.le_refl _) (Nat.le_refl _)
        · skip
          refine lv_iconst (v := 0) hx hb dX8_takeBack_28 rfl ?_
          exact ret 0 (v, f) _ _ _ _ _ _ rfl ⟨(gsX_X8_takeBack_1_q4 c1 c2 c7 et8 c9), hM_v, hA_f, hIv, rfl, rfl, rfl, rfl, rfl, rfl, rfl, rfl, (Or.inr rfl)⟩ hP hD hS dX8_takeBack_29 (Nat.le_refl _) (Nat.le_refl _)
set_option maxHeartbeats 4000000 in
set_option maxRecDepth 100000 in
theorem sX_X10_untell_1 (NF : Nat) (l : Launch) (dC : Nat → ClassId) (dI : Nat → Nat → Nat) (cy : Nat → ClassId) (x0 : Nat) (x : Nat → Nat) (p1 : Int32) (v : Nat → Int32) (f : Nat → Nat → Int32) (hIv : XI v)  : ctI l (dC, dI) cy yX10_untell cX10_untell 2 .boolean 2 82 0 0 ((Nat → Int32) × (Nat → Nat → Int32)) [.ref x0, .int p1] (XW cy x0 x v f) (fun r u => gsX_X10_untell_1 NF p1 v f = (r, u) ∧ KV [] u.1 v ∧ KF [26] u.2 f ∧ XI u.1 ∧ u.1 0 = v 0 ∧ u.1 1 = v 1 ∧ u.1 7 = v 7 ∧ u.1 8 = v 8 ∧ u.1 9 = v 9 ∧ u.1 10 = v 10 ∧ u.1 31 = v 31 ∧ u.1 32 = v 32 ∧ ((r = 1) ∨ (r = 0))) (fun u => XW cy x0 x u.1 u.2) := by
  refine ctI_of (by decide) (Nat.le_of_ble_eq_true rfl) (fun p e s m below meth c A ls Q hx hb hml hts hown hE hP hD hA hl ret => ?_)
  have hM_v : KV [] v v := fun _ _ => rfl
  have hA_f : KF [26] f f := fun _ _ => rfl
  have hown : s.vm.findClass RX10 = some m.cls := hown
  have hS : va_S A s.heap s.heap [] := va_S.rf
  have hl : lv_has ls 2 [(0, .ref x0), (1, .int p1)] := hl
  refine lv_aload_n hx hb dX10_untell_0 rfl (lv_at hl 0 rfl) ?_
  refine va_get (D := (dC, dI)) (ci := 10) (v := .ref (x 35)) (C := RX10) (T := TX10) (N := 10) hx hb hts inB_10 hown hE.1 hP 0 rfl rfl 8 (Nat.le_of_ble_eq_true rfl) (hts _ k_499) (fun _ h9 => h9) rfl dX10_untell_1 ?_
  refine lv_iload_n hx hb dX10_untell_4 rfl (lv_at hl 1 rfl) ?_
  refine lv_aload_n hx hb dX10_untell_5 rfl (lv_at hl 0 rfl) ?_
  refine va_get (D := (dC, dI)) (ci := 10) (v := .int (v 0)) (C := RX10) (T := TX10) (N := 10) hx hb hts inB_10 hown hE.1 hP 0 rfl rfl 9 (Nat.le_of_ble_eq_true rfl) (hts _ k_500) (fun _ h9 => h9) rfl dX10_untell_6 ?_
  have b0_v : 0 ≤ (v 0).toInt ∧ (v 0).toInt ≤ 100000 := Xb_0 hIv
  refine cbVi (n := 2) (rest := []) hx hb hml hown hts hE hP hD hS hA (sX_X8_takeBack_1 NF l dC dI cy x0 x p1 (v 0) v f hIv ) k_1234 k_1235 k_1236 k_112 k_1237 hd_yX8_takeBack ⟨Nat.le_of_ble_eq_true rfl, Nat.le_of_ble_eq_true rfl⟩ 36 8 rfl rfl (rfl) hl.1 rfl (Nat.le_of_ble_eq_true rfl) dX10_untell_9 (fun r1 u H locs hw hP hD hS => ?_)
  obtain ⟨hG2, hw⟩ := hw
  obtain ⟨v3, f4⟩ := u
  obtain ⟨kV_v3, kF_f4, hIv3, hk0_v3, hk1_v3, hk7_v3, hk8_v3, hk9_v3, hk10_v3, hk31_v3, hk32_v3, hw⟩ := hw
  have hM_v3 : KV [] v3 v := KV.tr kV_v3 hM_v rfl
  have hA_f4 : KF [26] f4 f := KF.tr kF_f4 hA_f rfl
  have hP : va_P (dC, dI) vwCl (XW cy x0 x v3 f4) H := hP
  have hD : va_D A (XW cy x0 x v3 f4) := hD
  have hq0_v3 : v3 0 = (v 0) := hk0_v3
  have hq1_v3 : v3 1 = (v 1) := hk1_v3
  have hq7_v3 : v3 7 = (v 7) := hk7_v3
  have hq8_v3 : v3 8 = (v 8) := hk8_v3
  have hq9_v3 : v3 9 = (v 9) := hk9_v3
  have hq10_v3 : v3 10 = (v 10) := hk10_v3
  have hq31_v3 : v3 31 = (v 31) := hk31_v3
  have hq32_v3 : v3 32 = (v 32) := hk32_v3
  rcases hw with ⟨g5⟩ | ⟨g5⟩
  · skip
    subst g5
    exact ret 1 (v3, f4) _ _ _ _ _ _ rfl ⟨(gsX_X10_untell_1_q0 hG2), hM_v3, hA_f4, hIv3, hk0_v3, hk1_v3, hk7_v3, hk8_v3, hk9_v3, hk10_v3, hk31_v3, hk32_v3, (Or.inl rfl)⟩ hP hD hS dX10_untell_12 (Nat.le_refl _) (Nat.le_refl _)
  · skip
    subst g5
    exact ret 0 (v3, f4) _ _ _ _ _ _ rfl ⟨(gsX_X10_untell_1_q1 hG2), hM_v3, hA_f4, hIv3, hk0_v3, hk1_v3, hk7_v3, hk8_v3, hk9_v3, hk10_v3, hk31_v3, hk32_v3, (Or.inr rfl)⟩ hP hD hS dX10_untell_12 (Nat.le_refl _) (Nat.le_refl _)
set_option maxHeartbeats 4000000 in
set_option maxRecDepth 100000 in
theorem sX_X10_later_1 (NF : Nat) (l : Launch) (dC : Nat → ClassId) (dI : Nat → Nat → Nat) (cy : Nat → ClassId) (x0 : Nat) (x : Nat → Nat) (p1 : Int32) (v : Nat → Int32) (f : Nat → Nat → Int32) (hIv : XI v)  : ctI l (dC, dI) cy yX10_later cX10_later 2 .int 1 60 0 0 ((Nat → Int32) × (Nat → Nat → Int32)) [.ref x0, .int p1] (XW cy x0 x v f) (fun r u => gsX_X10_later_1 NF p1 v f = (r, u) ∧ KV [0] u.1 v ∧ KF [] u.2 f ∧ XI u.1 ∧ u.1 1 = v 1 ∧ u.1 7 = v 7 ∧ u.1 8 = v 8 ∧ u.1 9 = v 9 ∧ u.1 10 = v 10 ∧ u.1 31 = v 31 ∧ u.1 32 = v 32) (fun u => XW cy x0 x u.1 u.2) := by
  refine ctI_of (by decide) (Nat.le_of_ble_eq_true rfl) (fun p e s m below meth c A ls Q hx hb hml hts hown hE hP hD hA hl ret => ?_)
  have hM_v : KV [0] v v := fun _ _ => rfl
  have hA_f : KF [] f f := fun _ _ => rfl
  have hown : s.vm.findClass RX10 = some m.cls := hown
  have hS : va_S A s.heap s.heap [] := va_S.rf
  have hl : lv_has ls 2 [(0, .ref x0), (1, .int p1)] := hl
  refine lv_iload_n hx hb dX10_later_0 rfl (lv_at hl 1 rfl) ?_
  refine lv_if_lt (tgt := 23) hx hb dX10_later_1 rfl (fun c1 => ?_) (fun c1 => ?_)
  · skip
    refine lv_iconst (v := (-1)) hx hb dX10_later_23 rfl ?_
    exact ret (-1) (v, f) _ _ _ _ _ _ rfl ⟨(gsX_X10_later_1_q0 c1), hM_v, hA_f, hIv, rfl, rfl, rfl, rfl, rfl, rfl, rfl⟩ hP hD hS dX10_later_24 (Nat.le_refl _) (Nat.le_refl _)
  · skip
    have zc1 : ¬ (p1.toInt < 0) := zLn rfl tc_0 c1
    refine lv_iload_n hx hb dX10_later_4 rfl (lv_at hl 1 rfl) ?_
    refine lv_sipush (v := 1000) hx hb dX10_later_5 rfl ?_
    refine lv_icmp_gt (tgt := 23) hx hb dX10_later_8 rfl (fun c2 => ?_) (fun c2 => ?_)
    · skip
      refine lv_iconst (v := (-1)) hx hb dX10_later_23 rfl ?_
      exact ret (-1) (v, f) _ _ _ _ _ _ rfl ⟨(gsX_X10_later_1_q1 c1 c2), hM_v, hA_f, hIv, rfl, rfl, rfl, rfl, rfl, rfl, rfl⟩ hP hD hS dX10_later_24 (Nat.le_refl _) (Nat.le_refl _)
    · skip
      have zc2 : ¬ (1000 < p1.toInt) := zLn tc_1000 rfl c2
      refine lv_aload_n hx hb dX10_later_11 rfl (lv_at hl 0 rfl) ?_
      refine va_get (D := (dC, dI)) (ci := 10) (v := .int (v 0)) (C := RX10) (T := TX10) (N := 10) hx hb hts inB_10 hown hE.1 hP 0 rfl rfl 9 (Nat.le_of_ble_eq_true rfl) (hts _ k_500) (fun _ h9 => h9) rfl dX10_later_12 ?_
      have b0_v : 0 ≤ (v 0).toInt ∧ (v 0).toInt ≤ 100000 := Xb_0 hIv
      refine lv_iload_n hx hb dX10_later_15 rfl (lv_at hl 1 rfl) ?_
      refine lv_iadd hx hb dX10_later_16 ?_
      refine lv_topi (fun t3 et3 => ?_)
      have zt3 : t3.toInt = (v 0).toInt + p1.toInt := (congrArg Int32.toInt et3).trans (add_i rfl rfl (om_135 zc1 b0_v) (om_136 zc2 b0_v))
      refine lv_ldcw (v := 100000) hx hb hown (hts _ k_1242) dX10_later_17 ?_
      refine lv_icmp_le (tgt := 25) hx hb dX10_later_20 rfl (fun c6 => ?_) (fun c6 => ?_)
      · skip
        have zc6 : t3.toInt ≤ 100000 := zMp rfl tc_100000 c6
        refine lv_aload_n hx hb dX10_later_25 rfl (lv_at hl 0 rfl) ?_
        refine lv_dup hx hb dX10_later_26 rfl ?_
        refine va_get (D := (dC, dI)) (ci := 10) (v := .int (v 0)) (C := RX10) (T := TX10) (N := 10) hx hb hts inB_10 hown hE.1 hP 0 rfl rfl 9 (Nat.le_of_ble_eq_true rfl) (hts _ k_500) (fun _ h9 => h9) rfl dX10_later_27 ?_
        refine lv_iload_n hx hb dX10_later_30 rfl (lv_at hl 1 rfl) ?_
        refine lv_iadd hx hb dX10_later_31 ?_
        refine tI (y := t3) et3.symm ?_
        refine va_put (D := (dC, dI)) (ci := 10) (v := .int t3) (ty := tyX10 9) (C := RX10) (T := TX10) (N := 10) hx hb hts inB_10 tyX10 tyX10_ok nmX10 hown hE.1 hP hD hS 0 rfl rfl 9 (Nat.le_of_ble_eq_true rfl) (hts _ k_500) (fun _ h9 => h9) rfl (tyX10_ok 9 (Nat.le_of_ble_eq_true rfl)) rfl rfl (Nat.le_of_ble_eq_true rfl) dX10_later_32 (fun H locs hP hD hS => ?_)
        have hP : va_P (dC, dI) vwCl (XW cy x0 x (upd v 0 t3) f) H := hP
        have hD : va_D A (XW cy x0 x (upd v 0 t3) f) := hD
        refine lv_aload_n hx hb dX10_later_35 rfl (lv_at hl 0 rfl) ?_
        refine va_get (D := (dC, dI)) (ci := 10) (v := .int t3) (C := RX10) (T := TX10) (N := 10) hx hb hts inB_10 hown hE.1 hP 0 rfl rfl 9 (Nat.le_of_ble_eq_true rfl) (hts _ k_500) (fun _ h9 => h9) rfl dX10_later_36 ?_
        exact ret t3 ((upd v 0 t3), f) _ _ _ _ _ _ rfl ⟨(gsX_X10_later_1_q2 c1 c2 et3 c6), (KV.up (j := 0) (x := t3) hM_v rfl), hA_f, (Xu_0 (x := t3) hIv (show (0 : Int) ≤ t3.toInt from om_137 zc1 b0_v zt3) (show t3.toInt ≤ (100000 : Int) from om_138 zc6)), rfl, rfl, rfl, rfl, rfl, rfl, rfl⟩ hP hD hS dX10_later_39 (Nat.le_refl _) (Nat.le_refl _)
      · skip
        refine lv_iconst (v := (-1)) hx hb dX10_later_23 rfl ?_
        exact ret (-1) (v, f) _ _ _ _ _ _ rfl ⟨(gsX_X10_later_1_q3 c1 c2 et3 c6), hM_v, hA_f, hIv, rfl, rfl, rfl, rfl, rfl, rfl, rfl⟩ hP hD hS dX10_later_24 (Nat.le_refl _) (Nat.le_refl _)
set_option maxHeartbeats 4000000 in
set_option maxRecDepth 100000 in
theorem sX_X10_commonDivisor_1 (NF : Nat) (l : Launch) (dC : Nat → ClassId) (dI : Nat → Nat → Nat) (cy : Nat → ClassId) (x0 : Nat) (x : Nat → Nat) (p0 : Int32) (p1 : Int32) (v : Nat → Int32) (f : Nat → Nat → Int32) (hIv : XI v)  : ctI l (dC, dI) cy yX10_commonDivisor cX10_commonDivisor 6 .int 1 60 0 0 Unit [.int p0, .int p1] (XW cy x0 x v f) (fun r u => gsX_X10_commonDivisor_1 NF p0 p1 v f = r) (fun u => XW cy x0 x v f) := by
  refine ctI_of (by decide) (Nat.le_of_ble_eq_true rfl) (fun p e s m below meth c A ls Q hx hb hml hts hown hE hP hD hA hl ret => ?_)
  have hown : s.vm.findClass RX10 = some m.cls := hown
  have hS : va_S A s.heap s.heap [] := va_S.rf
  have hl : lv_has ls 6 [(0, .int p0), (1, .int p1)] := hl
  refine lv_iload_n hx hb dX10_commonDivisor_0 rfl (lv_at hl 0 rfl) ?_
  refine lv_istore_n (lv' := [(2, .int p0), (0, .int p0), (1, .int p1)]) hx hb dX10_commonDivisor_1 rfl hl (Nat.le_of_ble_eq_true rfl) rfl (fun ls hl => ?_)
  refine lv_iload_n hx hb dX10_commonDivisor_2 rfl (lv_at hl 2 rfl) ?_
  refine lv_istore_n (lv' := [(3, .int p1), (2, .int p0), (0, .int p0), (1, .int p1)]) hx hb dX10_commonDivisor_3 rfl hl (Nat.le_of_ble_eq_true rfl) rfl (fun ls hl => ?_)
  refine lv_iconst (v := 0) hx hb dX10_commonDivisor_4 rfl ?_
  refine lv_istore (lv' := [(4, .int 0), (3, .int p1), (2, .int p0), (0, .int p0), (1, .int p1)]) hx hb dX10_commonDivisor_5 hl (Nat.le_of_ble_eq_true rfl) rfl (fun ls hl => ?_)
  have lp1 : ∀ (n1 : Nat) (l2_1 : Int32) (l3_1 : Int32) (l4_1 : Int32), gsX_X10_commonDivisor_1_L1 NF n1 l2_1 l3_1 l4_1 = (gsX_X10_commonDivisor_1 NF p0 p1 v f) → ((0 : Int) ≤ l4_1.toInt ∧ l4_1.toInt ≤ 2147483647) → (2147483647 - l4_1.toInt).toNat < n1 → ∀ (H : Heap) (locs : List Loc) (ls : Array Slot), va_P (dC, dI) vwCl (XW cy x0 x v f) H → va_D A (XW cy x0 x v f) → va_S A s.heap H locs → lv_has ls 6 [(4, .int l4_1), (3, .int l3_1), (2, .int l2_1), (0, .int p0), (1, .int p1)] → W p l e { frames := 1, cells := 0, slots := 0, locals := 60 } s m ([.int p0, .int p1] : List Value).toArray below meth c H locs 0 0 Q (F0 m 7 ls []) := by
    intro n1
    induction n1 with
    | zero => intro l2_1 l3_1 l4_1 hT1 hr4_1 hm; exact absurd hm (Nat.not_lt_zero _)
    | succ n1 ih1 =>
      intro l2_1 l3_1 l4_1 hT1 hr4_1 hm1 H locs ls hP hD hS hl
      refine lv_iload hx hb dX10_commonDivisor_7 (lv_at hl 0 rfl) ?_
      refine lv_bipush (v := 100) hx hb dX10_commonDivisor_9 rfl ?_
      refine lv_icmp_ge (tgt := 34) hx hb dX10_commonDivisor_11 rfl (fun c2 => ?_) (fun c2 => ?_)
      · skip
        refine lv_iload_n hx hb dX10_commonDivisor_34 rfl (lv_at hl 2 rfl) ?_
        exact ret l2_1 () _ _ _ _ _ _ rfl (hT1.symm.trans (gsX_X10_commonDivisor_1_q0 c2)) hP hD hS dX10_commonDivisor_35 (Nat.le_refl _) (Nat.le_refl _)
      · skip
        have zc2 : ¬ (100 ≤ l4_1.toInt) := zMn tc_100 rfl c2
        refine lv_iload_n hx hb dX10_commonDivisor_14 rfl (lv_at hl 1 rfl) ?_
        refine lv_if_eq (tgt := 34) hx hb dX10_commonDivisor_15 rfl (fun c3 => ?_) (fun c3 => ?_)
        · skip
          refine lv_iload_n hx hb dX10_commonDivisor_34 rfl (lv_at hl 2 rfl) ?_
          exact ret l2_1 () _ _ _ _ _ _ rfl (hT1.symm.trans (gsX_X10_commonDivisor_1_q1 c2 c3)) hP hD hS dX10_commonDivisor_35 (Nat.le_refl _) (Nat.le_refl _)
        · skip
          have zc3 : ¬ (l3_1.toInt = 0) := zEn rfl tc_0 c3
          refine lv_iload_n hx hb dX10_commonDivisor_18 rfl (lv_at hl 2 rfl) ?_
          refine lv_iload_n hx hb dX10_commonDivisor_19 rfl (lv_at hl 1 rfl) ?_
          refine lv_irem hx hb dX10_commonDivisor_20 (ne0 (show ¬ l3_1.toInt = 0 from om_139 zc3)) ?_
          refine lv_topi (fun t4 et4 => ?_)
          refine lv_istore (lv' := [(5, .int t4), (4, .int l4_1), (3, .int l3_1), (2, .int l2_1), (0, .int p0), (1, .int p1)]) hx hb dX10_commonDivisor_21 hl (Nat.le_of_ble_eq_true rfl) rfl (fun ls hl => ?_)
          refine lv_iload_n hx hb dX10_commonDivisor_23 rfl (lv_at hl 2 rfl) ?_
          refine lv_istore_n (lv' := [(2, .int l3_1), (5, .int t4), (4, .int l4_1), (3, .int l3_1), (0, .int p0), (1, .int p1)]) hx hb dX10_commonDivisor_24 rfl hl (Nat.le_of_ble_eq_true rfl) rfl (fun ls hl => ?_)
          refine lv_iload hx hb dX10_commonDivisor_25 (lv_at hl 1 rfl) ?_
          refine lv_istore_n (lv' := [(3, .int t4), (2, .int l3_1), (5, .int t4), (4, .int l4_1), (0, .int p0), (1, .int p1)]) hx hb dX10_commonDivisor_27 rfl hl (Nat.le_of_ble_eq_true rfl) rfl (fun ls hl => ?_)
          obtain ⟨t5, et5⟩ : ∃ y : Int32, y = l4_1 + 1 := ⟨_, rfl⟩
          have zt5 : t5.toInt = l4_1.toInt + 1 := (congrArg Int32.toInt et5).trans (add_i rfl tc_1 (om_41 hr4_1) (om_140 zc2))
          refine lv_iinc (v := t5) (lv' := [(4, .int t5), (3, .int t4), (2, .int l3_1), (5, .int t4), (0, .int p0), (1, .int p1)]) hx hb dX10_commonDivisor_28 hl (k := 3) rfl et5.symm (Nat.le_of_ble_eq_true rfl) rfl (fun ls hl => ?_)
          refine lv_goto (tgt := 7) hx hb dX10_commonDivisor_31 rfl ?_
          have rg7 := fb_rng t5
          exact ih1 l3_1 t4 t5 ((gsX_X10_commonDivisor_1_q2 c2 c3 et4 et5).symm.trans hT1) ⟨show (0 : Int) ≤ t5.toInt from om_43 hr4_1 zt5, show t5.toInt ≤ (2147483647 : Int) from om_44 rg7⟩ (show (2147483647 - t5.toInt).toNat < n1 from om_33 hm1 zt5 rg7) _ _ _ hP hD hS (lv_sub hl [0, 1, 2, 4, 5] rfl)
  exact lp1 (4294967296 + NF) p0 p1 0 gsX_X10_commonDivisor_1_q3.symm ⟨by decide, by decide⟩ (show (2147483647 - (0 : Int32).toInt).toNat < 4294967296 + NF from om_38 tc_0) _ _ _ hP hD hS (lv_sub hl [0, 1, 2, 3, 4] rfl)
set_option maxHeartbeats 4000000 in
set_option maxRecDepth 100000 in
theorem sX_X10_odds_1 (NF : Nat) (l : Launch) (dC : Nat → ClassId) (dI : Nat → Nat → Nat) (cy : Nat → ClassId) (x0 : Nat) (x : Nat → Nat) (p1 : Int32) (p2 : Int32) (v : Nat → Int32) (f : Nat → Nat → Int32) (hIv : XI v)  : ctI l (dC, dI) cy yX10_odds cX10_odds 6 .int 2 85 0 0 Unit [.ref x0, .int p1, .int p2] (XW cy x0 x v f) (fun r u => gsX_X10_odds_1 NF p1 p2 v f = r) (fun u => XW cy x0 x v f) := by
  refine ctI_of (by decide) (Nat.le_of_ble_eq_true rfl) (fun p e s m below meth c A ls Q hx hb hml hts hown hE hP hD hA hl ret => ?_)
  have hown : s.vm.findClass RX10 = some m.cls := hown
  have hS : va_S A s.heap s.heap [] := va_S.rf
  have hl : lv_has ls 6 [(0, .ref x0), (1, .int p1), (2, .int p2)] := hl
  refine lv_iload_n hx hb dX10_odds_0 rfl (lv_at hl 1 rfl) ?_
  refine lv_if_lt (tgt := 18) hx hb dX10_odds_1 rfl (fun c1 => ?_) (fun c1 => ?_)
  · skip
    refine lv_iconst (v := (-1)) hx hb dX10_odds_18 rfl ?_
    exact ret (-1) () _ _ _ _ _ _ rfl (gsX_X10_odds_1_q0 c1) hP hD hS dX10_odds_19 (Nat.le_refl _) (Nat.le_refl _)
  · skip
    refine lv_iload_n hx hb dX10_odds_4 rfl (lv_at hl 1 rfl) ?_
    refine lv_iconst (v := 4) hx hb dX10_odds_5 rfl ?_
    refine lv_icmp_gt (tgt := 18) hx hb dX10_odds_6 rfl (fun c2 => ?_) (fun c2 => ?_)
    · skip
      refine lv_iconst (v := (-1)) hx hb dX10_odds_18 rfl ?_
      exact ret (-1) () _ _ _ _ _ _ rfl (gsX_X10_odds_1_q1 c1 c2) hP hD hS dX10_odds_19 (Nat.le_refl _) (Nat.le_refl _)
    · skip
      have zc2 : ¬ (4 < p1.toInt) := zLn tc_4 rfl c2
      refine lv_iload_n hx hb dX10_odds_9 rfl (lv_at hl 2 rfl) ?_
      refine lv_if_lt (tgt := 18) hx hb dX10_odds_10 rfl (fun c3 => ?_) (fun c3 => ?_)
      · skip
        refine lv_iconst (v := (-1)) hx hb dX10_odds_18 rfl ?_
        exact ret (-1) () _ _ _ _ _ _ rfl (gsX_X10_odds_1_q2 c1 c2 c3) hP hD hS dX10_odds_19 (Nat.le_refl _) (Nat.le_refl _)
      · skip
        refine lv_iload_n hx hb dX10_odds_13 rfl (lv_at hl 2 rfl) ?_
        refine lv_iconst (v := 1) hx hb dX10_odds_14 rfl ?_
        refine lv_icmp_le (tgt := 20) hx hb dX10_odds_15 rfl (fun c4 => ?_) (fun c4 => ?_)
        · skip
          refine lv_iconst (v := 1) hx hb dX10_odds_20 rfl ?_
          refine lv_istore_n (lv' := [(3, .int 1), (0, .ref x0), (1, .int p1), (2, .int p2)]) hx hb dX10_odds_21 rfl hl (Nat.le_of_ble_eq_true rfl) rfl (fun ls hl => ?_)
          refine lv_iconst (v := 1) hx hb dX10_odds_22 rfl ?_
          refine lv_istore (lv' := [(4, .int 1), (3, .int 1), (0, .ref x0), (1, .int p1), (2, .int p2)]) hx hb dX10_odds_23 hl (Nat.le_of_ble_eq_true rfl) rfl (fun ls hl => ?_)
          refine lv_iconst (v := 0) hx hb dX10_odds_25 rfl ?_
          refine lv_istore (lv' := [(5, .int 0), (4, .int 1), (3, .int 1), (0, .ref x0), (1, .int p1), (2, .int p2)]) hx hb dX10_odds_26 hl (Nat.le_of_ble_eq_true rfl) rfl (fun ls hl => ?_)
          have lp5 : ∀ (n5 : Nat) (l3_5 : Int32) (l4_5 : Int32) (l5_5 : Int32), gsX_X10_odds_1_L5 NF p1 p2 v f n5 l3_5 l4_5 l5_5 = (gsX_X10_odds_1 NF p1 p2 v f) → ((0 : Int) ≤ l5_5.toInt ∧ l5_5.toInt ≤ 2147483647) → (2147483647 - l5_5.toInt).toNat < n5 → ∀ (H : Heap) (locs : List Loc) (ls : Array Slot), va_P (dC, dI) vwCl (XW cy x0 x v f) H → va_D A (XW cy x0 x v f) → va_S A s.heap H locs → lv_has ls 6 [(5, .int l5_5), (4, .int l4_5), (3, .int l3_5), (0, .ref x0), (1, .int p1), (2, .int p2)] → W p l e { frames := 2, cells := 0, slots := 0, locals := 85 } s m ([.ref x0, .int p1, .int p2] : List Value).toArray below meth c H locs 0 0 Q (F0 m 28 ls []) := by
            intro n5
            induction n5 with
            | zero => intro l3_5 l4_5 l5_5 hT5 hr5_5 hm; exact absurd hm (Nat.not_lt_zero _)
            | succ n5 ih5 =>
              intro l3_5 l4_5 l5_5 hT5 hr5_5 hm5 H locs ls hP hD hS hl
              refine lv_iload hx hb dX10_odds_28 (lv_at hl 0 rfl) ?_
              refine lv_iload_n hx hb dX10_odds_30 rfl (lv_at hl 4 rfl) ?_
              refine lv_icmp_ge (tgt := 60) hx hb dX10_odds_31 rfl (fun c6 => ?_) (fun c6 => ?_)
              · skip
                refine lv_iload hx hb dX10_odds_60 (lv_at hl 1 rfl) ?_
                refine lv_iload_n hx hb dX10_odds_62 rfl (lv_at hl 2 rfl) ?_
                refine cbSi (n := 2) (rest := []) hx hb hml hown hts hE hP hD hS hA (sX_X10_commonDivisor_1 NF l dC dI cy x0 x l4_5 l3_5 v f hIv ) k_1211 k_1212 k_101 k_1213 he_yX10_commonDivisor ⟨Nat.le_of_ble_eq_true rfl, Nat.le_of_ble_eq_true rfl⟩ (rfl) hl.1 rfl (Nat.le_of_ble_eq_true rfl) dX10_odds_63 (fun r9 u H locs hw hP hD hS => ?_)
                have hG10 := hw
                refine lv_istore (lv' := [(5, .int r9), (4, .int l4_5), (3, .int l3_5), (0, .ref x0), (1, .int p1), (2, .int p2)]) hx hb dX10_odds_66 hl (Nat.le_of_ble_eq_true rfl) rfl (fun ls hl => ?_)
                refine lv_iload hx hb dX10_odds_68 (lv_at hl 0 rfl) ?_
                refine lv_iconst (v := 1) hx hb dX10_odds_70 rfl ?_
                refine lv_icmp_ge (tgt := 76) hx hb dX10_odds_71 rfl (fun c11 => ?_) (fun c11 => ?_)
                · skip
                  have zc11 : 1 ≤ r9.toInt := zMp tc_1 rfl c11
                  refine lv_iload_n hx hb dX10_odds_76 rfl (lv_at hl 5 rfl) ?_
                  refine lv_if_ne (tgt := 84) hx hb dX10_odds_77 rfl (fun c12 => ?_) (fun c12 => ?_)
                  · skip
                    refine lv_iload hx hb dX10_odds_84 (lv_at hl 1 rfl) ?_
                    refine lv_iload hx hb dX10_odds_86 (lv_at hl 0 rfl) ?_
                    refine lv_idiv hx hb dX10_odds_88 (ne0 (show ¬ r9.toInt = 0 from om_141 zc11)) ?_
                    refine lv_topi (fun t13 et13 => ?_)
                    exact ret t13 () _ _ _ _ _ _ rfl (hT5.symm.trans (gsX_X10_odds_1_q3 c6 hG10.symm c11 c12 et13)) hP hD hS dX10_odds_89 (Nat.le_refl _) (Nat.le_refl _)
                  · skip
                    refine lv_iload_n hx hb dX10_odds_80 rfl (lv_at hl 2 rfl) ?_
                    refine lv_goto (tgt := 86) hx hb dX10_odds_81 rfl ?_
                    refine lv_iload hx hb dX10_odds_86 (lv_at hl 0 rfl) ?_
                    refine lv_idiv hx hb dX10_odds_88 (ne0 (show ¬ r9.toInt = 0 from om_141 zc11)) ?_
                    refine lv_topi (fun t14 et14 => ?_)
                    exact ret t14 () _ _ _ _ _ _ rfl (hT5.symm.trans (gsX_X10_odds_1_q4 c6 hG10.symm c11 c12 et14)) hP hD hS dX10_odds_89 (Nat.le_refl _) (Nat.le_refl _)
                · skip
                  refine lv_iconst (v := (-1)) hx hb dX10_odds_74 rfl ?_
                  exact ret (-1) () _ _ _ _ _ _ rfl (hT5.symm.trans (gsX_X10_odds_1_q5 c6 hG10.symm c11)) hP hD hS dX10_odds_75 (Nat.le_refl _) (Nat.le_refl _)
              · skip
                have zc6 : ¬ (p1.toInt ≤ l5_5.toInt) := zMn rfl rfl c6
                refine lv_iload_n hx hb dX10_odds_34 rfl (lv_at hl 2 rfl) ?_
                refine lv_bipush (v := 100) hx hb dX10_odds_35 rfl ?_
                refine lv_aload_n hx hb dX10_odds_37 rfl (lv_at hl 3 rfl) ?_
                refine va_get (D := (dC, dI)) (ci := 10) (v := .ref (x 26)) (C := RX10) (T := TX10) (N := 10) hx hb hts inB_10 hown hE.1 hP 0 rfl rfl 2 (Nat.le_of_ble_eq_true rfl) (hts _ k_493) (fun _ h9 => h9) rfl dX10_odds_38 ?_
                refine va_getN (D := (dC, dI)) (ci := 7) (v := .int (v 36)) (C := RX7) (T := TX7) (N := 10) hx hb hts inB_7 hown hE.1 hP 27 rfl rfl 8 (Nat.le_of_ble_eq_true rfl) (va_Nw.use rfl (hE.2 _ k_241)) (fun _ h9 => h9) rfl dX10_odds_41 ?_
                refine lv_isub hx hb dX10_odds_44 ?_
                refine lv_topi (fun t17 et17 => ?_)
                refine lv_imul hx hb dX10_odds_45 ?_
                refine lv_topi (fun t18 et18 => ?_)
                refine lv_istore_n (lv' := [(3, .int t18), (5, .int l5_5), (4, .int l4_5), (0, .ref x0), (1, .int p1), (2, .int p2)]) hx hb dX10_odds_46 rfl hl (Nat.le_of_ble_eq_true rfl) rfl (fun ls hl => ?_)
                refine lv_iload hx hb dX10_odds_47 (lv_at hl 2 rfl) ?_
                refine lv_bipush (v := 100) hx hb dX10_odds_49 rfl ?_
                refine lv_imul hx hb dX10_odds_51 ?_
                refine lv_topi (fun t19 et19 => ?_)
                refine lv_istore (lv' := [(4, .int t19), (3, .int t18), (5, .int l5_5), (0, .ref x0), (1, .int p1), (2, .int p2)]) hx hb dX10_odds_52 hl (Nat.le_of_ble_eq_true rfl) rfl (fun ls hl => ?_)
                obtain ⟨t20, et20⟩ : ∃ y : Int32, y = l5_5 + 1 := ⟨_, rfl⟩
                have zt20 : t20.toInt = l5_5.toInt + 1 := (congrArg Int32.toInt et20).trans (add_i rfl tc_1 (om_41 hr5_5) (om_142 zc2 zc6))
                refine lv_iinc (v := t20) (lv' := [(5, .int t20), (4, .int t19), (3, .int t18), (0, .ref x0), (1, .int p1), (2, .int p2)]) hx hb dX10_odds_54 hl (k := 2) rfl et20.symm (Nat.le_of_ble_eq_true rfl) rfl (fun ls hl => ?_)
                refine lv_goto (tgt := 28) hx hb dX10_odds_57 rfl ?_
                have rg21 := fb_rng t20
                exact ih5 t18 t19 t20 ((gsX_X10_odds_1_q6 c6 et17 et18 et19 et20).symm.trans hT5) ⟨show (0 : Int) ≤ t20.toInt from om_43 hr5_5 zt20, show t20.toInt ≤ (2147483647 : Int) from om_44 rg21⟩ (show (2147483647 - t20.toInt).toNat < n5 from om_33 hm5 zt20 rg21) _ _ _ hP hD hS (lv_sub hl [0, 1, 2, 3, 4, 5] rfl)
          exact lp5 (4294967296 + NF) 1 1 0 (gsX_X10_odds_1_q7 c1 c2 c3 c4).symm ⟨by decide, by decide⟩ (show (2147483647 - (0 : Int32).toInt).toNat < 4294967296 + NF from om_38 tc_0) _ _ _ hP hD hS (lv_sub hl [0, 1, 2, 3, 4, 5] rfl)
        · skip
          refine lv_iconst (v := (-1)) hx hb dX10_odds_18 rfl ?_
          exact ret (-1) () _ _ _ _ _ _ rfl (gsX_X10_odds_1_q8 c1 c2 c3 c4) hP hD hS dX10_odds_19 (Nat.le_refl _) (Nat.le_refl _)
set_option maxHeartbeats 4000000 in
set_option maxRecDepth 100000 in
theorem sX_X1_manWide_1 (NF : Nat) (l : Launch) (dC : Nat → ClassId) (dI : Nat → Nat → Nat) (cy : Nat → ClassId) (x0 : Nat) (x : Nat → Nat) (p1 : Int32) (v : Nat → Int32) (f : Nat → Nat → Int32) (hIv : XI v)  : ctI l (dC, dI) cy yX1_manWide cX1_manWide 2 .int 2 81 0 0 Unit [.ref (x 21), .int p1] (XW cy x0 x v f) (fun r u => gsX_X1_manWide_1 NF p1 v f = r) (fun u => XW cy x0 x v f) := by
  refine ctI_of (by decide) (Nat.le_of_ble_eq_true rfl) (fun p e s m below meth c A ls Q hx hb hml hts hown hE hP hD hA hl ret => ?_)
  have hown : s.vm.findClass RX1 = some m.cls := hown
  have hS : va_S A s.heap s.heap [] := va_S.rf
  have hl : lv_has ls 2 [(0, .ref (x 21)), (1, .int p1)] := hl
  refine lv_aload_n hx hb dX1_manWide_0 rfl (lv_at hl 0 rfl) ?_
  refine va_get (D := (dC, dI)) (ci := 1) (v := .ref (x 26)) (C := RX1) (T := TX1) (N := 2) hx hb hts inB_1 hown hE.1 hP 22 rfl rfl 0 (Nat.le_of_ble_eq_true rfl) (hts _ k_318) (fun _ h9 => h9) rfl dX1_manWide_1 ?_
  refine lv_iload_n hx hb dX1_manWide_4 rfl (lv_at hl 1 rfl) ?_
  refine cbVi (n := 1) (rest := []) hx hb hml hown hts hE hP hD hS hA (sX_X7_hasMan_1 NF l dC dI cy x0 x p1 v f hIv ) k_808 k_307 k_308 k_104 k_309 hd_yX7_hasMan ⟨Nat.le_of_ble_eq_true rfl, Nat.le_of_ble_eq_true rfl⟩ 27 7 rfl rfl (rfl) hl.1 rfl (Nat.le_of_ble_eq_true rfl) dX1_manWide_5 (fun r1 u H locs hw hP hD hS => ?_)
  obtain ⟨hG2, hw⟩ := hw
  rcases hw with ⟨g3, g3_0, g3_1, g3_2⟩ | ⟨g3⟩
  · skip
    subst g3
    refine lv_if_eq (tgt := 20) hx hb dX1_manWide_8 rfl (fun c0 => absurd c0 (by decide)) (fun _ => ?_)
    refine lv_aload_n hx hb dX1_manWide_11 rfl (lv_at hl 0 rfl) ?_
    refine va_get (D := (dC, dI)) (ci := 1) (v := .ref (x 22)) (C := RX1) (T := TX1) (N := 2) hx hb hts inB_1 hown hE.1 hP 22 rfl rfl 1 (Nat.le_of_ble_eq_true rfl) (hts _ k_319) (fun _ h9 => h9) rfl dX1_manWide_12 ?_
    refine lv_iload_n hx hb dX1_manWide_15 rfl (lv_at hl 1 rfl) ?_
    refine ldI hx hb hE hP 23 rfl (vpI (k := 44) rfl (show 0 ≤ p1.toInt from om_62 g3_0) (show p1.toInt < 44 from om_143 g3_2)) rfl rfl dX1_manWide_16 ?_
    refine lv_topi (fun t4 et4 => ?_)
    refine lv_goto (tgt := 21) hx hb dX1_manWide_17 rfl ?_
    exact ret t4 () _ _ _ _ _ _ rfl (gsX_X1_manWide_1_q0 hG2 et4) hP hD hS dX1_manWide_21 (Nat.le_refl _) (Nat.le_refl _)
  · skip
    subst g3
    refine lv_if_eq (tgt := 20) hx hb dX1_manWide_8 rfl (fun _ => ?_) (fun c0 => absurd (by decide) c0)
    refine lv_iconst (v := 0) hx hb dX1_manWide_20 rfl ?_
    exact ret 0 () _ _ _ _ _ _ rfl (gsX_X1_manWide_1_q1 hG2) hP hD hS dX1_manWide_21 (Nat.le_refl _) (Nat.le_refl _)
set_option maxHeartbeats 4000000 in
set_option maxRecDepth 100000 in
theorem sX_X1_part_1 (NF : Nat) (l : Launch) (dC : Nat → ClassId) (dI : Nat → Nat → Nat) (cy : Nat → ClassId) (x0 : Nat) (x : Nat → Nat) (p1 : Int32) (p2 : Int32) (v : Nat → Int32) (f : Nat → Nat → Int32) (hIv : XI v)  : ctI l (dC, dI) cy yX1_part cX1_part 4 .int 2 81 0 0 Unit [.ref (x 21), .int p1, .int p2] (XW cy x0 x v f) (fun r u => gsX_X1_part_1 NF p1 p2 v f = r) (fun u => XW cy x0 x v f) := by
  refine ctI_of (by decide) (Nat.le_of_ble_eq_true rfl) (fun p e s m below meth c A ls Q hx hb hml hts hown hE hP hD hA hl ret => ?_)
  have hown : s.vm.findClass RX1 = some m.cls := hown
  have hS : va_S A s.heap s.heap [] := va_S.rf
  have hl : lv_has ls 4 [(0, .ref (x 21)), (1, .int p1), (2, .int p2)] := hl
  refine lv_aload_n hx hb dX1_part_0 rfl (lv_at hl 0 rfl) ?_
  refine va_get (D := (dC, dI)) (ci := 1) (v := .ref (x 26)) (C := RX1) (T := TX1) (N := 2) hx hb hts inB_1 hown hE.1 hP 22 rfl rfl 0 (Nat.le_of_ble_eq_true rfl) (hts _ k_318) (fun _ h9 => h9) rfl dX1_part_1 ?_
  refine lv_iload_n hx hb dX1_part_4 rfl (lv_at hl 2 rfl) ?_
  refine cbVi (n := 1) (rest := []) hx hb hml hown hts hE hP hD hS hA (sX_X7_hasCoat_1 NF l dC dI cy x0 x p2 v f hIv ) k_821 k_315 k_316 k_104 k_317 hd_yX7_hasCoat ⟨Nat.le_of_ble_eq_true rfl, Nat.le_of_ble_eq_true rfl⟩ 27 7 rfl rfl (rfl) hl.1 rfl (Nat.le_of_ble_eq_true rfl) dX1_part_5 (fun r1 u H locs hw hP hD hS => ?_)
  obtain ⟨hG2, hw⟩ := hw
  rcases hw with ⟨g3, g3_0, g3_1, g3_2⟩ | ⟨g3⟩
  · skip
    subst g3
    refine lv_if_eq (tgt := 24) hx hb dX1_part_8 rfl (fun c0 => absurd c0 (by decide)) (fun _ => ?_)
    refine lv_iload_n hx hb dX1_part_11 rfl (lv_at hl 1 rfl) ?_
    refine lv_if_lt (tgt := 24) hx hb dX1_part_12 rfl (fun c4 => ?_) (fun c4 => ?_)
    · skip
      refine lv_iconst (v := 0) hx hb dX1_part_24 rfl ?_
      refine lv_istore_n (lv' := [(3, .int 0), (0, .ref (x 21)), (1, .int p1), (2, .int p2)]) hx hb dX1_part_25 rfl hl (Nat.le_of_ble_eq_true rfl) rfl (fun ls hl => ?_)
      refine lv_iload_n hx hb dX1_part_26 rfl (lv_at hl 0 rfl) ?_
      refine lv_if_eq (tgt := 47) hx hb dX1_part_27 rfl (fun _ => ?_) (fun c0 => absurd (by decide) c0)
      refine lv_iconst (v := 0) hx hb dX1_part_47 rfl ?_
      exact ret 0 () _ _ _ _ _ _ rfl (gsX_X1_part_1_q0 hG2 c4) hP hD hS dX1_part_48 (Nat.le_refl _) (Nat.le_refl _)
    · skip
      have zc4 : ¬ (p1.toInt < 0) := zLn rfl tc_0 c4
      refine lv_iload_n hx hb dX1_part_15 rfl (lv_at hl 1 rfl) ?_
      refine lv_iconst (v := 5) hx hb dX1_part_16 rfl ?_
      refine lv_icmp_ge (tgt := 24) hx hb dX1_part_17 rfl (fun c5 => ?_) (fun c5 => ?_)
      · skip
        refine lv_iconst (v := 0) hx hb dX1_part_24 rfl ?_
        refine lv_istore_n (lv' := [(3, .int 0), (0, .ref (x 21)), (1, .int p1), (2, .int p2)]) hx hb dX1_part_25 rfl hl (Nat.le_of_ble_eq_true rfl) rfl (fun ls hl => ?_)
        refine lv_iload_n hx hb dX1_part_26 rfl (lv_at hl 0 rfl) ?_
        refine lv_if_eq (tgt := 47) hx hb dX1_part_27 rfl (fun _ => ?_) (fun c0 => absurd (by decide) c0)
        refine lv_iconst (v := 0) hx hb dX1_part_47 rfl ?_
        exact ret 0 () _ _ _ _ _ _ rfl (gsX_X1_part_1_q1 hG2 c4 c5) hP hD hS dX1_part_48 (Nat.le_refl _) (Nat.le_refl _)
      · skip
        have zc5 : ¬ (5 ≤ p1.toInt) := zMn tc_5 rfl c5
        refine lv_iconst (v := 1) hx hb dX1_part_20 rfl ?_
        refine lv_goto (tgt := 25) hx hb dX1_part_21 rfl ?_
        refine lv_istore_n (lv' := [(3, .int 1), (0, .ref (x 21)), (1, .int p1), (2, .int p2)]) hx hb dX1_part_25 rfl hl (Nat.le_of_ble_eq_true rfl) rfl (fun ls hl => ?_)
        refine lv_iload_n hx hb dX1_part_26 rfl (lv_at hl 0 rfl) ?_
        refine lv_if_eq (tgt := 47) hx hb dX1_part_27 rfl (fun c0 => absurd c0 (by decide)) (fun _ => ?_)
        refine lv_aload_n hx hb dX1_part_30 rfl (lv_at hl 1 rfl) ?_
        refine va_get (D := (dC, dI)) (ci := 1) (v := .ref (x 22)) (C := RX1) (T := TX1) (N := 2) hx hb hts inB_1 hown hE.1 hP 22 rfl rfl 1 (Nat.le_of_ble_eq_true rfl) (hts _ k_319) (fun _ h9 => h9) rfl dX1_part_31 ?_
        refine lv_bipush (v := 12) hx hb dX1_part_34 rfl ?_
        refine lv_iload_n hx hb dX1_part_36 rfl (lv_at hl 2 rfl) ?_
        refine lv_bipush (v := 6) hx hb dX1_part_37 rfl ?_
        refine lv_imul hx hb dX1_part_39 ?_
        refine lv_topi (fun t6 et6 => ?_)
        have zt6 : t6.toInt = p1.toInt * 6 := (congrArg Int32.toInt et6).trans (mul_i rfl tc_6 (om_101 zc4) (om_111 zc5))
        refine lv_iadd hx hb dX1_part_40 ?_
        refine lv_topi (fun t8 et8 => ?_)
        have rg9 := fb_rng t6
        have zt8 : t8.toInt = 12 + t6.toInt := (congrArg Int32.toInt et8).trans (add_i tc_12 rfl (om_112 rg9) (om_113 zc5 zt6))
        refine lv_iload_n hx hb dX1_part_41 rfl (lv_at hl 3 rfl) ?_
        refine lv_iadd hx hb dX1_part_42 ?_
        refine lv_topi (fun t10 et10 => ?_)
        have rg11 := fb_rng t8
        have zt10 : t10.toInt = t8.toInt + p2.toInt := (congrArg Int32.toInt et10).trans (add_i rfl rfl (om_103 g3_0 rg11) (om_144 g3_2 zc5 zt6 zt8))
        refine ldI hx hb hE hP 23 rfl (vpI (k := 44) rfl (show 0 ≤ t10.toInt from om_145 g3_0 zc4 zt6 zt8 zt10) (show t10.toInt < 44 from om_146 g3_2 zc5 zt6 zt8 zt10)) rfl rfl dX1_part_43 ?_
        refine lv_topi (fun t13 et13 => ?_)
        refine lv_goto (tgt := 48) hx hb dX1_part_44 rfl ?_
        exact ret t13 () _ _ _ _ _ _ rfl (gsX_X1_part_1_q2 hG2 c4 c5 et6 et8 et10 et13) hP hD hS dX1_part_48 (Nat.le_refl _) (Nat.le_refl _)
  · skip
    subst g3
    refine lv_if_eq (tgt := 24) hx hb dX1_part_8 rfl (fun _ => ?_) (fun c0 => absurd (by decide) c0)
    refine lv_iconst (v := 0) hx hb dX1_part_24 rfl ?_
    refine lv_istore_n (lv' := [(3, .int 0), (0, .ref (x 21)), (1, .int p1), (2, .int p2)]) hx hb dX1_part_25 rfl hl (Nat.le_of_ble_eq_true rfl) rfl (fun ls hl => ?_)
    refine lv_iload_n hx hb dX1_part_26 rfl (lv_at hl 0 rfl) ?_
    refine lv_if_eq (tgt := 47) hx hb dX1_part_27 rfl (fun _ => ?_) (fun c0 => absurd (by decide) c0)
    refine lv_iconst (v := 0) hx hb dX1_part_47 rfl ?_
    exact ret 0 () _ _ _ _ _ _ rfl (gsX_X1_part_1_q3 hG2) hP hD hS dX1_part_48 (Nat.le_refl _) (Nat.le_refl _)
set_option maxHeartbeats 4000000 in
set_option maxRecDepth 100000 in
theorem sX_X1_today_1 (NF : Nat) (l : Launch) (dC : Nat → ClassId) (dI : Nat → Nat → Nat) (cy : Nat → ClassId) (x0 : Nat) (x : Nat → Nat)  (v : Nat → Int32) (f : Nat → Nat → Int32) (hIv : XI v)  : ctI l (dC, dI) cy yX1_today cX1_today 1 .int 1 60 0 0 Unit [.ref (x 21)] (XW cy x0 x v f) (fun r u => gsX_X1_today_1 NF v f = r) (fun u => XW cy x0 x v f) := by
  refine ctI_of (by decide) (Nat.le_of_ble_eq_true rfl) (fun p e s m below meth c A ls Q hx hb hml hts hown hE hP hD hA hl ret => ?_)
  have hown : s.vm.findClass RX1 = some m.cls := hown
  have hS : va_S A s.heap s.heap [] := va_S.rf
  have hl : lv_has ls 1 [(0, .ref (x 21))] := hl
  refine lv_aload_n hx hb dX1_today_0 rfl (lv_at hl 0 rfl) ?_
  refine va_get (D := (dC, dI)) (ci := 1) (v := .ref (x 22)) (C := RX1) (T := TX1) (N := 2) hx hb hts inB_1 hown hE.1 hP 22 rfl rfl 1 (Nat.le_of_ble_eq_true rfl) (hts _ k_319) (fun _ h9 => h9) rfl dX1_today_1 ?_
  refine lv_bipush (v := 42) hx hb dX1_today_4 rfl ?_
  refine ldI hx hb hE hP 23 rfl (vp_in_nI (n := 42) (by decide) (by decide)) rfl rfl dX1_today_6 ?_
  refine lv_topi (fun t1 et1 => ?_)
  exact ret t1 () _ _ _ _ _ _ rfl (gsX_X1_today_1_q0 et1) hP hD hS dX1_today_7 (Nat.le_refl _) (Nat.le_refl _)
set_option maxHeartbeats 4000000 in
set_option maxRecDepth 100000 in
theorem sX_X4_joined_1 (NF : Nat) (l : Launch) (dC : Nat → ClassId) (dI : Nat → Nat → Nat) (cy : Nat → ClassId) (x0 : Nat) (x : Nat → Nat) (p0 : Int32) (p1 : Int32) (p2 : Int32) (v : Nat → Int32) (f : Nat → Nat → Int32) (hIv : XI v)  : ctI l (dC, dI) cy yX4_joined cX4_joined 3 .int 1 60 0 0 Unit [.int p0, .int p1, .int p2] (XW cy x0 x v f) (fun r u => gsX_X4_joined_1 NF p0 p1 p2 v f = r) (fun u => XW cy x0 x v f) := by
  refine ctI_of (by decide) (Nat.le_of_ble_eq_true rfl) (fun p e s m below meth c A ls Q hx hb hml hts hown hE hP hD hA hl ret => ?_)
  have hown : s.vm.findClass RX4 = some m.cls := hown
  have hS : va_S A s.heap s.heap [] := va_S.rf
  have hl : lv_has ls 3 [(0, .int p0), (1, .int p1), (2, .int p2)] := hl
  refine lv_iload_n hx hb dX4_joined_0 rfl (lv_at hl 0 rfl) ?_
  by_cases c1 : p0 = 37
  · skip
    refine lv_lookup (off := 115) (tgt := 116) hx hb dX4_joined_1 (by decide) (by rw [c1]; decide) (by decide) ?_
    refine lv_iload_n hx hb dX4_joined_116 rfl (lv_at hl 2 rfl) ?_
    refine lv_if_ne (tgt := 124) hx hb dX4_joined_117 rfl (fun c2 => ?_) (fun c2 => ?_)
    · skip
      have zc2 : ¬ (p2.toInt = 0) := zEn rfl tc_0 c2
      refine lv_iload_n hx hb dX4_joined_124 rfl (lv_at hl 1 rfl) ?_
      refine lv_iload_n hx hb dX4_joined_125 rfl (lv_at hl 2 rfl) ?_
      refine lv_irem hx hb dX4_joined_126 (ne0 (show ¬ p2.toInt = 0 from om_139 zc2)) ?_
      refine lv_topi (fun t3 et3 => ?_)
      exact ret t3 () _ _ _ _ _ _ rfl (gsX_X4_joined_1_q0 c1 c2 et3) hP hD hS dX4_joined_127 (Nat.le_refl _) (Nat.le_refl _)
    · skip
      refine lv_iconst (v := 0) hx hb dX4_joined_120 rfl ?_
      refine lv_goto (tgt := 127) hx hb dX4_joined_121 rfl ?_
      exact ret 0 () _ _ _ _ _ _ rfl (gsX_X4_joined_1_q1 c1 c2) hP hD hS dX4_joined_127 (Nat.le_refl _) (Nat.le_refl _)
  · skip
    by_cases c4 : p0 = 42
    · skip
      refine lv_lookup (off := 99) (tgt := 100) hx hb dX4_joined_1 (by decide) (by rw [c4]; decide) (by decide) ?_
      refine lv_iload_n hx hb dX4_joined_100 rfl (lv_at hl 1 rfl) ?_
      refine lv_iload_n hx hb dX4_joined_101 rfl (lv_at hl 2 rfl) ?_
      refine lv_imul hx hb dX4_joined_102 ?_
      refine lv_topi (fun t5 et5 => ?_)
      exact ret t5 () _ _ _ _ _ _ rfl (gsX_X4_joined_1_q2 c1 c4 et5) hP hD hS dX4_joined_103 (Nat.le_refl _) (Nat.le_refl _)
    · skip
      by_cases c6 : p0 = 43
      · skip
        refine lv_lookup (off := 91) (tgt := 92) hx hb dX4_joined_1 (by decide) (by rw [c6]; decide) (by decide) ?_
        refine lv_iload_n hx hb dX4_joined_92 rfl (lv_at hl 1 rfl) ?_
        refine lv_iload_n hx hb dX4_joined_93 rfl (lv_at hl 2 rfl) ?_
        refine lv_iadd hx hb dX4_joined_94 ?_
        refine lv_topi (fun t7 et7 => ?_)
        exact ret t7 () _ _ _ _ _ _ rfl (gsX_X4_joined_1_q3 c1 c4 c6 et7) hP hD hS dX4_joined_95 (Nat.le_refl _) (Nat.le_refl _)
      · skip
        by_cases c8 : p0 = 45
        · skip
          refine lv_lookup (off := 95) (tgt := 96) hx hb dX4_joined_1 (by decide) (by rw [c8]; decide) (by decide) ?_
          refine lv_iload_n hx hb dX4_joined_96 rfl (lv_at hl 1 rfl) ?_
          refine lv_iload_n hx hb dX4_joined_97 rfl (lv_at hl 2 rfl) ?_
          refine lv_isub hx hb dX4_joined_98 ?_
          refine lv_topi (fun t9 et9 => ?_)
          exact ret t9 () _ _ _ _ _ _ rfl (gsX_X4_joined_1_q4 c1 c4 c6 c8 et9) hP hD hS dX4_joined_99 (Nat.le_refl _) (Nat.le_refl _)
        · skip
          by_cases c10 : p0 = 47
          · skip
            refine lv_lookup (off := 103) (tgt := 104) hx hb dX4_joined_1 (by decide) (by rw [c10]; decide) (by decide) ?_
            refine lv_iload_n hx hb dX4_joined_104 rfl (lv_at hl 2 rfl) ?_
            refine lv_if_ne (tgt := 112) hx hb dX4_joined_105 rfl (fun c11 => ?_) (fun c11 => ?_)
            · skip
              have zc11 : ¬ (p2.toInt = 0) := zEn rfl tc_0 c11
              refine lv_iload_n hx hb dX4_joined_112 rfl (lv_at hl 1 rfl) ?_
              refine lv_iload_n hx hb dX4_joined_113 rfl (lv_at hl 2 rfl) ?_
              refine lv_idiv hx hb dX4_joined_114 (ne0 (show ¬ p2.toInt = 0 from om_139 zc11)) ?_
              refine lv_topi (fun t12 et12 => ?_)
              exact ret t12 () _ _ _ _ _ _ rfl (gsX_X4_joined_1_q5 c1 c4 c6 c8 c10 c11 et12) hP hD hS dX4_joined_115 (Nat.le_refl _) (Nat.le_refl _)
            · skip
              refine lv_iconst (v := 0) hx hb dX4_joined_108 rfl ?_
              refine lv_goto (tgt := 115) hx hb dX4_joined_109 rfl ?_
              exact ret 0 () _ _ _ _ _ _ rfl (gsX_X4_joined_1_q6 c1 c4 c6 c8 c10 c11) hP hD hS dX4_joined_115 (Nat.le_refl _) (Nat.le_refl _)
          · skip
            by_cases c13 : p0 = 60
            · skip
              refine lv_lookup (off := 127) (tgt := 128) hx hb dX4_joined_1 (by decide) (by rw [c13]; decide) (by decide) ?_
              refine lv_iload_n hx hb dX4_joined_128 rfl (lv_at hl 1 rfl) ?_
              refine lv_iload_n hx hb dX4_joined_129 rfl (lv_at hl 2 rfl) ?_
              refine lv_icmp_ge (tgt := 137) hx hb dX4_joined_130 rfl (fun c14 => ?_) (fun c14 => ?_)
              · skip
                refine lv_iconst (v := 0) hx hb dX4_joined_137 rfl ?_
                exact ret 0 () _ _ _ _ _ _ rfl (gsX_X4_joined_1_q7 c1 c4 c6 c8 c10 c13 c14) hP hD hS dX4_joined_138 (Nat.le_refl _) (Nat.le_refl _)
              · skip
                refine lv_iconst (v := 1) hx hb dX4_joined_133 rfl ?_
                refine lv_goto (tgt := 138) hx hb dX4_joined_134 rfl ?_
                exact ret 1 () _ _ _ _ _ _ rfl (gsX_X4_joined_1_q8 c1 c4 c6 c8 c10 c13 c14) hP hD hS dX4_joined_138 (Nat.le_refl _) (Nat.le_refl _)
            · skip
              by_cases c19 : p0 = 61
              · skip
                refine lv_lookup (off := 149) (tgt := 150) hx hb dX4_joined_1 (by decide) (by rw [c19]; decide) (by decide) ?_
                refine lv_iload_n hx hb dX4_joined_150 rfl (lv_at hl 1 rfl) ?_
                refine lv_iload_n hx hb dX4_joined_151 rfl (lv_at hl 2 rfl) ?_
                refine lv_icmp_ne (tgt := 159) hx hb dX4_joined_152 rfl (fun c20 => ?_) (fun c20 => ?_)
                · skip
                  refine lv_iconst (v := 0) hx hb dX4_joined_159 rfl ?_
                  exact ret 0 () _ _ _ _ _ _ rfl (gsX_X4_joined_1_q9 c1 c4 c6 c8 c10 c13 c19 c20) hP hD hS dX4_joined_160 (Nat.le_refl _) (Nat.le_refl _)
                · skip
                  refine lv_iconst (v := 1) hx hb dX4_joined_155 rfl ?_
                  refine lv_goto (tgt := 160) hx hb dX4_joined_156 rfl ?_
                  exact ret 1 () _ _ _ _ _ _ rfl (gsX_X4_joined_1_q10 c1 c4 c6 c8 c10 c13 c19 c20) hP hD hS dX4_joined_160 (Nat.le_refl _) (Nat.le_refl _)
              · skip
                by_cases c25 : p0 = 62
                · skip
                  refine lv_lookup (off := 138) (tgt := 139) hx hb dX4_joined_1 (by decide) (by rw [c25]; decide) (by decide) ?_
                  refine lv_iload_n hx hb dX4_joined_139 rfl (lv_at hl 1 rfl) ?_
                  refine lv_iload_n hx hb dX4_joined_140 rfl (lv_at hl 2 rfl) ?_
                  refine lv_icmp_le (tgt := 148) hx hb dX4_joined_141 rfl (fun c26 => ?_) (fun c26 => ?_)
                  · skip
                    refine lv_iconst (v := 0) hx hb dX4_joined_148 rfl ?_
                    exact ret 0 () _ _ _ _ _ _ rfl (gsX_X4_joined_1_q11 c1 c4 c6 c8 c10 c13 c19 c25 c26) hP hD hS dX4_joined_149 (Nat.le_refl _) (Nat.le_refl _)
                  · skip
                    refine lv_iconst (v := 1) hx hb dX4_joined_144 rfl ?_
                    refine lv_goto (tgt := 149) hx hb dX4_joined_145 rfl ?_
                    exact ret 1 () _ _ _ _ _ _ rfl (gsX_X4_joined_1_q12 c1 c4 c6 c8 c10 c13 c19 c25 c26) hP hD hS dX4_joined_149 (Nat.le_refl _) (Nat.le_refl _)
                · skip
                  by_cases c31 : p0 = 113
                  · skip
                    refine lv_lookup (off := 174) (tgt := 175) hx hb dX4_joined_1 (by decide) (by rw [c31]; decide) (by decide) ?_
                    refine lv_iload_n hx hb dX4_joined_175 rfl (lv_at hl 1 rfl) ?_
                    refine lv_if_ne (tgt := 183) hx hb dX4_joined_176 rfl (fun c32 => ?_) (fun c32 => ?_)
                    · skip
                      refine lv_iconst (v := 1) hx hb dX4_joined_183 rfl ?_
                      refine lv_goto (tgt := 188) hx hb dX4_joined_184 rfl ?_
                      exact ret 1 () _ _ _ _ _ _ rfl (gsX_X4_joined_1_q13 c1 c4 c6 c8 c10 c13 c19 c25 c31 c32) hP hD hS dX4_joined_188 (Nat.le_refl _) (Nat.le_refl _)
                    · skip
                      refine lv_iload_n hx hb dX4_joined_179 rfl (lv_at hl 2 rfl) ?_
                      refine lv_if_eq (tgt := 187) hx hb dX4_joined_180 rfl (fun c33 => ?_) (fun c33 => ?_)
                      · skip
                        refine lv_iconst (v := 0) hx hb dX4_joined_187 rfl ?_
                        exact ret 0 () _ _ _ _ _ _ rfl (gsX_X4_joined_1_q14 c1 c4 c6 c8 c10 c13 c19 c25 c31 c32 c33) hP hD hS dX4_joined_188 (Nat.le_refl _) (Nat.le_refl _)
                      · skip
                        refine lv_iconst (v := 1) hx hb dX4_joined_183 rfl ?_
                        refine lv_goto (tgt := 188) hx hb dX4_joined_184 rfl ?_
                        exact ret 1 () _ _ _ _ _ _ rfl (gsX_X4_joined_1_q15 c1 c4 c6 c8 c10 c13 c19 c25 c31 c32 c33) hP hD hS dX4_joined_188 (Nat.le_refl _) (Nat.le_refl _)
                  · skip
                    by_cases c34 : p0 = 114
                    · skip
                      refine lv_lookup (off := 160) (tgt := 161) hx hb dX4_joined_1 (by decide) (by rw [c34]; decide) (by decide) ?_
                      refine lv_iload_n hx hb dX4_joined_161 rfl (lv_at hl 1 rfl) ?_
                      refine lv_if_eq (tgt := 173) hx hb dX4_joined_162 rfl (fun c35 => ?_) (fun c35 => ?_)
                      · skip
                        refine lv_iconst (v := 0) hx hb dX4_joined_173 rfl ?_
                        exact ret 0 () _ _ _ _ _ _ rfl (gsX_X4_joined_1_q16 c1 c4 c6 c8 c10 c13 c19 c25 c31 c34 c35) hP hD hS dX4_joined_174 (Nat.le_refl _) (Nat.le_refl _)
                      · skip
                        refine lv_iload_n hx hb dX4_joined_165 rfl (lv_at hl 2 rfl) ?_
                        refine lv_if_eq (tgt := 173) hx hb dX4_joined_166 rfl (fun c36 => ?_) (fun c36 => ?_)
                        · skip
                          refine lv_iconst (v := 0) hx hb dX4_joined_173 rfl ?_
                          exact ret 0 () _ _ _ _ _ _ rfl (gsX_X4_joined_1_q17 c1 c4 c6 c8 c10 c13 c19 c25 c31 c34 c35 c36) hP hD hS dX4_joined_174 (Nat.le_refl _) (Nat.le_refl _)
                        · skip
                          refine lv_iconst (v := 1) hx hb dX4_joined_169 rfl ?_
                          refine lv_goto (tgt := 174) hx hb dX4_joined_170 rfl ?_
                          exact ret 1 () _ _ _ _ _ _ rfl (gsX_X4_joined_1_q18 c1 c4 c6 c8 c10 c13 c19 c25 c31 c34 c35 c36) hP hD hS dX4_joined_174 (Nat.le_refl _) (Nat.le_refl _)
                    · skip
                      refine lv_lookup (off := 188) (tgt := 189) hx hb dX4_joined_1 (by decide) (by show Op.lookupswitch.offset [(37, 115), (42, 99), (43, 91), (45, 95), (47, 103), (60, 127), (61, 149), (62, 138), (113, 174), (114, 160)] 188 p0.toInt = 188; rw [lv_osw c1 (by decide), lv_osw c4 (by decide), lv_osw c6 (by decide), lv_osw c8 (by decide), lv_osw c10 (by decide), lv_osw c13 (by decide), lv_osw c19 (by decide), lv_osw c25 (by decide), lv_osw c31 (by decide), lv_osw c34 (by decide)]; rfl) (by decide) ?_
                      refine lv_iconst (v := 0) hx hb dX4_joined_189 rfl ?_
                      exact ret 0 () _ _ _ _ _ _ rfl (gsX_X4_joined_1_q19 c1 c4 c6 c8 c10 c13 c19 c25 c31 c34) hP hD hS dX4_joined_190 (Nat.le_refl _) (Nat.le_refl _)
set_option maxHeartbeats 4000000 in
set_option maxRecDepth 100000 in
theorem sX_X4_worth_1 (NF : Nat) (l : Launch) (dC : Nat → ClassId) (dI : Nat → Nat → Nat) (cy : Nat → ClassId) (x0 : Nat) (x : Nat → Nat) (p1 : Int32) (p2 : Int32) (p3 : Int32) (p4 : Int32) (p5 : Int32) (p6 : Int32) (v : Nat → Int32) (f : Nat → Nat → Int32) (hIv : XI v)  : ctI l (dC, dI) cy yX4_worth cX4_worth 10 .int 2 82 0 0 ((Nat → Int32) × (Nat → Nat → Int32)) [.ref (x 15), .int p1, .int p2, .int p3, .int p4, .int p5, .int p6] (XW cy x0 x v f) (fun r u => gsX_X4_worth_1 NF p1 p2 p3 p4 p5 p6 v f = (r, u) ∧ KV [] u.1 v ∧ KF [13, 14] u.2 f ∧ XI u.1 ∧ u.1 0 = v 0 ∧ u.1 1 = v 1 ∧ u.1 7 = v 7 ∧ u.1 8 = v 8 ∧ u.1 9 = v 9 ∧ u.1 10 = v 10 ∧ u.1 31 = v 31 ∧ u.1 32 = v 32) (fun u => XW cy x0 x u.1 u.2) := by
  refine ctI_of (by decide) (Nat.le_of_ble_eq_true rfl) (fun p e s m below meth c A ls Q hx hb hml hts hown hE hP hD hA hl ret => ?_)
  have hM_v : KV [] v v := fun _ _ => rfl
  have hA_f : KF [13, 14] f f := fun _ _ => rfl
  have hown : s.vm.findClass RX4 = some m.cls := hown
  have hS : va_S A s.heap s.heap [] := va_S.rf
  have hl : lv_has ls 10 [(0, .ref (x 15)), (1, .int p1), (2, .int p2), (3, .int p3), (4, .int p4), (5, .int p5), (6, .int p6)] := hl
  refine lv_aload_n hx hb dX4_worth_0 rfl (lv_at hl 0 rfl) ?_
  refine va_get (D := (dC, dI)) (ci := 4) (v := .ref (x 19)) (C := RX4) (T := TX4) (N := 6) hx hb hts inB_4 hown hE.1 hP 16 rfl rfl 3 (Nat.le_of_ble_eq_true rfl) (hts _ k_181) (fun _ h9 => h9) rfl dX4_worth_1 ?_
  refine lv_iconst (v := 0) hx hb dX4_worth_4 rfl ?_
  refine lv_iconst (v := 0) hx hb dX4_worth_5 rfl ?_
  refine lv_iload_n hx hb dX4_worth_6 rfl (lv_at hl 2 rfl) ?_
  refine lv_iload hx hb dX4_worth_7 (lv_at hl 4 rfl) ?_
  refine lv_isub hx hb dX4_worth_9 ?_
  refine lv_topi (fun t1 et1 => ?_)
  refine va_mmax hx hb (by rw [hml]; exact hl.1.symm) hown (hts _ k_839) (hts _ k_640) (hts _ k_119) (hts _ k_641) (Nat.le_of_ble_eq_true rfl) (Nat.le_of_ble_eq_true rfl) (Nat.le_of_ble_eq_true rfl) (Nat.le_of_ble_eq_true rfl) dX4_worth_10 ?_
  refine lv_topi (fun t2 et2 => ?_)
  refine stI hx hb hE hP hD hS 20 rfl (vp_in_nI (n := 0) (by decide) (by decide)) rfl dX4_worth_13 (fun H locs hP hD hS => ?_)
  obtain ⟨f3, ef3, hP, hD⟩ : ∃ fz9, fz9 = upd2 f 14 (upd (f 14) (0 : Int32).toNatClampNeg t2) ∧ va_P (dC, dI) vwCl (XW cy x0 x v fz9) H ∧ va_D A (XW cy x0 x v fz9) := ⟨_, rfl, hP, hD⟩
  have hA_f3 : KF [13, 14] f3 f := by rw [ef3]; exact KF.up hA_f rfl
  refine lv_aload_n hx hb dX4_worth_14 rfl (lv_at hl 0 rfl) ?_
  refine va_get (D := (dC, dI)) (ci := 4) (v := .ref (x 19)) (C := RX4) (T := TX4) (N := 6) hx hb hts inB_4 hown hE.1 hP 16 rfl rfl 3 (Nat.le_of_ble_eq_true rfl) (hts _ k_181) (fun _ h9 => h9) rfl dX4_worth_15 ?_
  refine lv_iconst (v := 1) hx hb dX4_worth_18 rfl ?_
  refine lv_iconst (v := 0) hx hb dX4_worth_19 rfl ?_
  refine lv_iload hx hb dX4_worth_20 (lv_at hl 4 rfl) ?_
  refine lv_iload_n hx hb dX4_worth_22 rfl (lv_at hl 2 rfl) ?_
  refine lv_isub hx hb dX4_worth_23 ?_
  refine lv_topi (fun t4 et4 => ?_)
  refine va_mmax hx hb (by rw [hml]; exact hl.1.symm) hown (hts _ k_839) (hts _ k_640) (hts _ k_119) (hts _ k_641) (Nat.le_of_ble_eq_true rfl) (Nat.le_of_ble_eq_true rfl) (Nat.le_of_ble_eq_true rfl) (Nat.le_of_ble_eq_true rfl) dX4_worth_24 ?_
  refine lv_topi (fun t5 et5 => ?_)
  refine stI hx hb hE hP hD hS 20 rfl (vp_in_nI (n := 1) (by decide) (by decide)) rfl dX4_worth_27 (fun H locs hP hD hS => ?_)
  obtain ⟨f6, ef6, hP, hD⟩ : ∃ fz9, fz9 = upd2 f3 14 (upd (f3 14) (1 : Int32).toNatClampNeg t5) ∧ va_P (dC, dI) vwCl (XW cy x0 x v fz9) H ∧ va_D A (XW cy x0 x v fz9) := ⟨_, rfl, hP, hD⟩
  have hA_f6 : KF [13, 14] f6 f := by rw [ef6]; exact KF.up hA_f3 rfl
  refine lv_aload_n hx hb dX4_worth_28 rfl (lv_at hl 0 rfl) ?_
  refine va_get (D := (dC, dI)) (ci := 4) (v := .ref (x 19)) (C := RX4) (T := TX4) (N := 6) hx hb hts inB_4 hown hE.1 hP 16 rfl rfl 3 (Nat.le_of_ble_eq_true rfl) (hts _ k_181) (fun _ h9 => h9) rfl dX4_worth_29 ?_
  refine lv_iconst (v := 2) hx hb dX4_worth_32 rfl ?_
  refine lv_iconst (v := 0) hx hb dX4_worth_33 rfl ?_
  refine lv_iload_n hx hb dX4_worth_34 rfl (lv_at hl 1 rfl) ?_
  refine lv_iload_n hx hb dX4_worth_35 rfl (lv_at hl 3 rfl) ?_
  refine lv_isub hx hb dX4_worth_36 ?_
  refine lv_topi (fun t7 et7 => ?_)
  refine va_mmax hx hb (by rw [hml]; exact hl.1.symm) hown (hts _ k_839) (hts _ k_640) (hts _ k_119) (hts _ k_641) (Nat.le_of_ble_eq_true rfl) (Nat.le_of_ble_eq_true rfl) (Nat.le_of_ble_eq_true rfl) (Nat.le_of_ble_eq_true rfl) dX4_worth_37 ?_
  refine lv_topi (fun t8 et8 => ?_)
  refine stI hx hb hE hP hD hS 20 rfl (vp_in_nI (n := 2) (by decide) (by decide)) rfl dX4_worth_40 (fun H locs hP hD hS => ?_)
  obtain ⟨f9, ef9, hP, hD⟩ : ∃ fz9, fz9 = upd2 f6 14 (upd (f6 14) (2 : Int32).toNatClampNeg t8) ∧ va_P (dC, dI) vwCl (XW cy x0 x v fz9) H ∧ va_D A (XW cy x0 x v fz9) := ⟨_, rfl, hP, hD⟩
  have hA_f9 : KF [13, 14] f9 f := by rw [ef9]; exact KF.up hA_f6 rfl
  refine lv_aload_n hx hb dX4_worth_41 rfl (lv_at hl 0 rfl) ?_
  refine va_get (D := (dC, dI)) (ci := 4) (v := .ref (x 19)) (C := RX4) (T := TX4) (N := 6) hx hb hts inB_4 hown hE.1 hP 16 rfl rfl 3 (Nat.le_of_ble_eq_true rfl) (hts _ k_181) (fun _ h9 => h9) rfl dX4_worth_42 ?_
  refine lv_iconst (v := 3) hx hb dX4_worth_45 rfl ?_
  refine lv_iconst (v := 0) hx hb dX4_worth_46 rfl ?_
  refine lv_iload_n hx hb dX4_worth_47 rfl (lv_at hl 3 rfl) ?_
  refine lv_iload_n hx hb dX4_worth_48 rfl (lv_at hl 1 rfl) ?_
  refine lv_isub hx hb dX4_worth_49 ?_
  refine lv_topi (fun t10 et10 => ?_)
  refine va_mmax hx hb (by rw [hml]; exact hl.1.symm) hown (hts _ k_839) (hts _ k_640) (hts _ k_119) (hts _ k_641) (Nat.le_of_ble_eq_true rfl) (Nat.le_of_ble_eq_true rfl) (Nat.le_of_ble_eq_true rfl) (Nat.le_of_ble_eq_true rfl) dX4_worth_50 ?_
  refine lv_topi (fun t11 et11 => ?_)
  refine stI hx hb hE hP hD hS 20 rfl (vp_in_nI (n := 3) (by decide) (by decide)) rfl dX4_worth_53 (fun H locs hP hD hS => ?_)
  obtain ⟨f12, ef12, hP, hD⟩ : ∃ fz9, fz9 = upd2 f9 14 (upd (f9 14) (3 : Int32).toNatClampNeg t11) ∧ va_P (dC, dI) vwCl (XW cy x0 x v fz9) H ∧ va_D A (XW cy x0 x v fz9) := ⟨_, rfl, hP, hD⟩
  have hA_f12 : KF [13, 14] f12 f := by rw [ef12]; exact KF.up hA_f9 rfl
  refine lv_aload_n hx hb dX4_worth_54 rfl (lv_at hl 0 rfl) ?_
  refine va_get (D := (dC, dI)) (ci := 4) (v := .ref (x 19)) (C := RX4) (T := TX4) (N := 6) hx hb hts inB_4 hown hE.1 hP 16 rfl rfl 3 (Nat.le_of_ble_eq_true rfl) (hts _ k_181) (fun _ h9 => h9) rfl dX4_worth_55 ?_
  refine lv_iconst (v := 4) hx hb dX4_worth_58 rfl ?_
  refine lv_iload hx hb dX4_worth_59 (lv_at hl 5 rfl) ?_
  refine stI hx hb hE hP hD hS 20 rfl (vp_in_nI (n := 4) (by decide) (by decide)) rfl dX4_worth_61 (fun H locs hP hD hS => ?_)
  obtain ⟨f13, ef13, hP, hD⟩ : ∃ fz9, fz9 = upd2 f12 14 (upd (f12 14) (4 : Int32).toNatClampNeg p5) ∧ va_P (dC, dI) vwCl (XW cy x0 x v fz9) H ∧ va_D A (XW cy x0 x v fz9) := ⟨_, rfl, hP, hD⟩
  have hA_f13 : KF [13, 14] f13 f := by rw [ef13]; exact KF.up hA_f12 rfl
  refine lv_aload_n hx hb dX4_worth_62 rfl (lv_at hl 0 rfl) ?_
  refine va_get (D := (dC, dI)) (ci := 4) (v := .ref (x 19)) (C := RX4) (T := TX4) (N := 6) hx hb hts inB_4 hown hE.1 hP 16 rfl rfl 3 (Nat.le_of_ble_eq_true rfl) (hts _ k_181) (fun _ h9 => h9) rfl dX4_worth_63 ?_
  refine lv_iconst (v := 5) hx hb dX4_worth_66 rfl ?_
  refine lv_iload hx hb dX4_worth_67 (lv_at hl 6 rfl) ?_
  refine stI hx hb hE hP hD hS 20 rfl (vp_in_nI (n := 5) (by decide) (by decide)) rfl dX4_worth_69 (fun H locs hP hD hS => ?_)
  obtain ⟨f14, ef14, hP, hD⟩ : ∃ fz9, fz9 = upd2 f13 14 (upd (f13 14) (5 : Int32).toNatClampNeg p6) ∧ va_P (dC, dI) vwCl (XW cy x0 x v fz9) H ∧ va_D A (XW cy x0 x v fz9) := ⟨_, rfl, hP, hD⟩
  have hA_f14 : KF [13, 14] f14 f := by rw [ef14]; exact KF.up hA_f13 rfl
  refine lv_aload_n hx hb dX4_worth_70 rfl (lv_at hl 0 rfl) ?_
  refine va_get (D := (dC, dI)) (ci := 4) (v := .int (v 18)) (C := RX4) (T := TX4) (N := 6) hx hb hts inB_4 hown hE.1 hP 16 rfl rfl 4 (Nat.le_of_ble_eq_true rfl) (hts _ k_182) (fun _ h9 => h9) rfl dX4_worth_71 ?_
  refine lv_if_ne (tgt := 118) hx hb dX4_worth_74 rfl (fun c15 => ?_) (fun c15 => ?_)
  · skip
    refine lv_iconst (v := 0) hx hb dX4_worth_118 rfl ?_
    refine lv_istore (lv' := [(7, .int 0), (0, .ref (x 15)), (1, .int p1), (2, .int p2), (3, .int p3), (4, .int p4), (5, .int p5), (6, .int p6)]) hx hb dX4_worth_119 hl (Nat.le_of_ble_eq_true rfl) rfl (fun ls hl => ?_)
    refine lv_iconst (v := 0) hx hb dX4_worth_121 rfl ?_
    refine lv_istore (lv' := [(8, .int 0), (7, .int 0), (0, .ref (x 15)), (1, .int p1), (2, .int p2), (3, .int p3), (4, .int p4), (5, .int p5), (6, .int p6)]) hx hb dX4_worth_122 hl (Nat.le_of_ble_eq_true rfl) rfl (fun ls hl => ?_)
    have lp16 : ∀ (n16 : Nat) (l7_16 : Int32) (l8_16 : Int32) (v16 : Nat → Int32) (f16 : Nat → Nat → Int32), XI v16 → v16 0 = (v 0) → v16 1 = (v 1) → v16 7 = (v 7) → v16 8 = (v 8) → v16 9 = (v 9) → v16 10 = (v 10) → v16 31 = (v 31) → v16 32 = (v 32) → gsX_X4_worth_1_L16 NF n16 l7_16 l8_16 v16 f16 = (gsX_X4_worth_1 NF p1 p2 p3 p4 p5 p6 v f) → ((0 : Int) ≤ l7_16.toInt ∧ l7_16.toInt ≤ 30) → ((0 : Int) ≤ l8_16.toInt ∧ l8_16.toInt ≤ 2147483647) → KV [] v16 v → KF [13, 14] f16 f → (2147483647 - l8_16.toInt).toNat < n16 → ∀ (H : Heap) (locs : List Loc) (ls : Array Slot), va_P (dC, dI) vwCl (XW cy x0 x v16 f16) H → va_D A (XW cy x0 x v16 f16) → va_S A s.heap H locs → lv_has ls 10 [(8, .int l8_16), (7, .int l7_16), (0, .ref (x 15)), (1, .int p1), (2, .int p2), (3, .int p3), (4, .int p4), (5, .int p5), (6, .int p6)] → W p l e { frames := 2, cells := 0, slots := 0, locals := 82 } s m ([.ref (x 15), .int p1, .int p2, .int p3, .int p4, .int p5, .int p6] : List Value).toArray below meth c H locs 0 0 Q (F0 m 124 ls []) := by
      intro n16
      induction n16 with
      | zero => intro l7_16 l8_16 v16 f16 hIv16 hq0_v16 hq1_v16 hq7_v16 hq8_v16 hq9_v16 hq10_v16 hq31_v16 hq32_v16 hT16 hr7_16 hr8_16 hM_v16 hA_f16 hm; exact absurd hm (Nat.not_lt_zero _)
      | succ n16 ih16 =>
        intro l7_16 l8_16 v16 f16 hIv16 hq0_v16 hq1_v16 hq7_v16 hq8_v16 hq9_v16 hq10_v16 hq31_v16 hq32_v16 hT16 hr7_16 hr8_16 hM_v16 hA_f16 hm16 H locs ls hP hD hS hl
        refine lv_iload hx hb dX4_worth_124 (lv_at hl 0 rfl) ?_
        refine lv_aload_n hx hb dX4_worth_126 rfl (lv_at hl 2 rfl) ?_
        refine va_get (D := (dC, dI)) (ci := 4) (v := .int (v16 18)) (C := RX4) (T := TX4) (N := 6) hx hb hts inB_4 hown hE.1 hP 16 rfl rfl 4 (Nat.le_of_ble_eq_true rfl) (hts _ k_182) (fun _ h9 => h9) rfl dX4_worth_127 ?_
        refine lv_icmp_ge (tgt := 305) hx hb dX4_worth_130 rfl (fun c17 => ?_) (fun c17 => ?_)
        · skip
          refine lv_iconst (v := 0) hx hb dX4_worth_305 rfl ?_
          refine lv_sipush (v := 999) hx hb dX4_worth_306 rfl ?_
          refine lv_aload_n hx hb dX4_worth_309 rfl (lv_at hl 2 rfl) ?_
          refine va_get (D := (dC, dI)) (ci := 4) (v := .ref (x 18)) (C := RX4) (T := TX4) (N := 6) hx hb hts inB_4 hown hE.1 hP 16 rfl rfl 2 (Nat.le_of_ble_eq_true rfl) (hts _ k_180) (fun _ h9 => h9) rfl dX4_worth_310 ?_
          refine lv_iconst (v := 0) hx hb dX4_worth_313 rfl ?_
          refine ldI hx hb hE hP 19 rfl (vp_in_nI (n := 0) (by decide) (by decide)) rfl rfl dX4_worth_314 ?_
          refine lv_topi (fun t20 et20 => ?_)
          refine va_mmin hx hb (by rw [hml]; exact hl.1.symm) hown (hts _ k_840) (hts _ k_643) (hts _ k_119) (hts _ k_644) (Nat.le_of_ble_eq_true rfl) (Nat.le_of_ble_eq_true rfl) (Nat.le_of_ble_eq_true rfl) (Nat.le_of_ble_eq_true rfl) dX4_worth_315 ?_
          refine lv_topi (fun t21 et21 => ?_)
          refine va_mmax hx hb (by rw [hml]; exact hl.1.symm) hown (hts _ k_839) (hts _ k_640) (hts _ k_119) (hts _ k_641) (Nat.le_of_ble_eq_true rfl) (Nat.le_of_ble_eq_true rfl) (Nat.le_of_ble_eq_true rfl) (Nat.le_of_ble_eq_true rfl) dX4_worth_318 ?_
          refine lv_topi (fun t22 et22 => ?_)
          exact ret t22 (v16, f16) _ _ _ _ _ _ rfl ⟨(hT16.symm.trans (gsX_X4_worth_1_q0 c17 et20 et21 et22)), hM_v16, hA_f16, hIv16, (show v16 0 = v 0 from hq0_v16), (show v16 1 = v 1 from hq1_v16), (show v16 7 = v 7 from hq7_v16), (show v16 8 = v 8 from hq8_v16), (show v16 9 = v 9 from hq9_v16), (show v16 10 = v 10 from hq10_v16), (show v16 31 = v 31 from hq31_v16), (show v16 32 = v 32 from hq32_v16)⟩ hP hD hS dX4_worth_321 (Nat.le_refl _) (Nat.le_refl _)
        · skip
          refine lv_iload hx hb dX4_worth_133 (lv_at hl 0 rfl) ?_
          refine lv_sipush (v := 300) hx hb dX4_worth_135 rfl ?_
          refine lv_icmp_ge (tgt := 305) hx hb dX4_worth_138 rfl (fun c25 => ?_) (fun c25 => ?_)
          · skip
            refine lv_iconst (v := 0) hx hb dX4_worth_305 rfl ?_
            refine lv_sipush (v := 999) hx hb dX4_worth_306 rfl ?_
            refine lv_aload_n hx hb dX4_worth_309 rfl (lv_at hl 2 rfl) ?_
            refine va_get (D := (dC, dI)) (ci := 4) (v := .ref (x 18)) (C := RX4) (T := TX4) (N := 6) hx hb hts inB_4 hown hE.1 hP 16 rfl rfl 2 (Nat.le_of_ble_eq_true rfl) (hts _ k_180) (fun _ h9 => h9) rfl dX4_worth_310 ?_
            refine lv_iconst (v := 0) hx hb dX4_worth_313 rfl ?_
            refine ldI hx hb hE hP 19 rfl (vp_in_nI (n := 0) (by decide) (by decide)) rfl rfl dX4_worth_314 ?_
            refine lv_topi (fun t26 et26 => ?_)
            refine va_mmin hx hb (by rw [hml]; exact hl.1.symm) hown (hts _ k_840) (hts _ k_643) (hts _ k_119) (hts _ k_644) (Nat.le_of_ble_eq_true rfl) (Nat.le_of_ble_eq_true rfl) (Nat.le_of_ble_eq_true rfl) (Nat.le_of_ble_eq_true rfl) dX4_worth_315 ?_
            refine lv_topi (fun t27 et27 => ?_)
            refine va_mmax hx hb (by rw [hml]; exact hl.1.symm) hown (hts _ k_839) (hts _ k_640) (hts _ k_119) (hts _ k_641) (Nat.le_of_ble_eq_true rfl) (Nat.le_of_ble_eq_true rfl) (Nat.le_of_ble_eq_true rfl) (Nat.le_of_ble_eq_true rfl) dX4_worth_318 ?_
            refine lv_topi (fun t28 et28 => ?_)
            exact ret t28 (v16, f16) _ _ _ _ _ _ rfl ⟨(hT16.symm.trans (gsX_X4_worth_1_q1 c17 c25 et26 et27 et28)), hM_v16, hA_f16, hIv16, (show v16 0 = v 0 from hq0_v16), (show v16 1 = v 1 from hq1_v16), (show v16 7 = v 7 from hq7_v16), (show v16 8 = v 8 from hq8_v16), (show v16 9 = v 9 from hq9_v16), (show v16 10 = v 10 from hq10_v16), (show v16 31 = v 31 from hq31_v16), (show v16 32 = v 32 from hq32_v16)⟩ hP hD hS dX4_worth_321 (Nat.le_refl _) (Nat.le_refl _)
          · skip
            have zc25 : ¬ (300 ≤ l8_16.toInt) := zMn tc_300 rfl c25
            refine lv_aload_n hx hb dX4_worth_141 rfl (lv_at hl 2 rfl) ?_
            refine va_get (D := (dC, dI)) (ci := 4) (v := .ref (x 16)) (C := RX4) (T := TX4) (N := 6) hx hb hts inB_4 hown hE.1 hP 16 rfl rfl 0 (Nat.le_of_ble_eq_true rfl) (hts _ k_178) (fun _ h9 => h9) rfl dX4_worth_142 ?_
            refine lv_iload hx hb dX4_worth_145 (lv_at hl 0 rfl) ?_
            refine ldI hx hb hE hP 17 rfl (vpI (k := 300) rfl (show 0 ≤ l8_16.toInt from om_39 hr8_16) (show l8_16.toInt < 300 from om_89 zc25)) rfl rfl dX4_worth_147 ?_
            refine lv_topi (fun t29 et29 => ?_)
            refine lv_istore (lv' := [(9, .int t29), (8, .int l8_16), (7, .int l7_16), (0, .ref (x 15)), (1, .int p1), (2, .int p2), (3, .int p3), (4, .int p4), (5, .int p5), (6, .int p6)]) hx hb dX4_worth_148 hl (Nat.le_of_ble_eq_true rfl) rfl (fun ls hl => ?_)
            refine lv_iload hx hb dX4_worth_150 (lv_at hl 0 rfl) ?_
            refine lv_iconst (v := 2) hx hb dX4_worth_152 rfl ?_
            refine lv_icmp_eq (tgt := 170) hx hb dX4_worth_153 rfl (fun c30 => ?_) (fun c30 => ?_)
            · skip
              have zc30 : t29.toInt = 2 := zEp rfl tc_2 c30
              refine lv_iload hx hb dX4_worth_170 (lv_at hl 2 rfl) ?_
              refine lv_bipush (v := 30) hx hb dX4_worth_172 rfl ?_
              refine lv_icmp_ge (tgt := 299) hx hb dX4_worth_174 rfl (fun c31 => ?_) (fun c31 => ?_)
              · skip
                have zc31 : 30 ≤ l7_16.toInt := zMp tc_30 rfl c31
                obtain ⟨t32, et32⟩ : ∃ y : Int32, y = l8_16 + 1 := ⟨_, rfl⟩
                have zt32 : t32.toInt = l8_16.toInt + 1 := (congrArg Int32.toInt et32).trans (add_i rfl tc_1 (om_41 hr8_16) (om_91 zc25))
                refine lv_iinc (v := t32) (lv' := [(8, .int t32), (9, .int t29), (7, .int l7_16), (0, .ref (x 15)), (1, .int p1), (2, .int p2), (3, .int p3), (4, .int p4), (5, .int p5), (6, .int p6)]) hx hb dX4_worth_299 hl (k := 1) rfl et32.symm (Nat.le_of_ble_eq_true rfl) rfl (fun ls hl => ?_)
                refine lv_goto (tgt := 124) hx hb dX4_worth_302 rfl ?_
                have rg34 := fb_rng t32
                exact ih16 l7_16 t32 v16 f16 hIv16 hq0_v16 hq1_v16 hq7_v16 hq8_v16 hq9_v16 hq10_v16 hq31_v16 hq32_v16 ((gsX_X4_worth_1_q2 c17 c25 et29 c30 c31 et32).symm.trans hT16) ⟨show (0 : Int) ≤ l7_16.toInt from om_147 zc31, show l7_16.toInt ≤ (30 : Int) from om_148 hr7_16⟩ ⟨show (0 : Int) ≤ t32.toInt from om_43 hr8_16 zt32, show t32.toInt ≤ (2147483647 : Int) from om_44 rg34⟩ hM_v16 hA_f16 (show (2147483647 - t32.toInt).toNat < n16 from om_33 hm16 zt32 rg34) _ _ _ hP hD hS (lv_sub hl [0, 2, 3, 4, 5, 6, 7, 8, 9] rfl)
              · skip
                have zc31 : ¬ (30 ≤ l7_16.toInt) := zMn tc_30 rfl c31
                refine lv_aload_n hx hb dX4_worth_177 rfl (lv_at hl 3 rfl) ?_
                refine va_get (D := (dC, dI)) (ci := 4) (v := .ref (x 18)) (C := RX4) (T := TX4) (N := 6) hx hb hts inB_4 hown hE.1 hP 16 rfl rfl 2 (Nat.le_of_ble_eq_true rfl) (hts _ k_180) (fun _ h9 => h9) rfl dX4_worth_178 ?_
                refine lv_iload hx hb dX4_worth_181 (lv_at hl 2 rfl) ?_
                refine lv_iload hx hb dX4_worth_183 (lv_at hl 0 rfl) ?_
                refine lv_iconst (v := 2) hx hb dX4_worth_185 rfl ?_
                refine lv_icmp_ne (tgt := 199) hx hb dX4_worth_186 rfl (fun c35 => ?_) (fun c35 => ?_)
                · skip
                  have zc35 : ¬ (t29.toInt = 2) := zEn rfl tc_2 c35
                  refine lv_aload_n hx hb dX4_worth_199 rfl (lv_at hl 3 rfl) ?_
                  refine va_get (D := (dC, dI)) (ci := 4) (v := .ref (x 19)) (C := RX4) (T := TX4) (N := 6) hx hb hts inB_4 hown hE.1 hP 16 rfl rfl 3 (Nat.le_of_ble_eq_true rfl) (hts _ k_181) (fun _ h9 => h9) rfl dX4_worth_200 ?_
                  refine lv_iload hx hb dX4_worth_203 (lv_at hl 0 rfl) ?_
                  refine lv_bipush (v := 116) hx hb dX4_worth_205 rfl ?_
                  refine lv_isub hx hb dX4_worth_207 ?_
                  refine lv_topi (fun t36 et36 => ?_)
                  have zt36 : t36.toInt = t29.toInt - 116 := (congrArg Int32.toInt et36).trans (sub_i rfl tc_116 (om_149 zc30) (om_150 zc30))
                  refine ldI hx hb hE hP 20 rfl (vpI (k := 6) rfl (show 0 ≤ t36.toInt from om_151 zc30 zc35) (show t36.toInt < 6 from om_152 zc30 zt36)) rfl rfl dX4_worth_208 ?_
                  refine lv_topi (fun t38 et38 => ?_)
                  refine stI hx hb hE hP hD hS 19 rfl (vpI (k := 30) rfl (show 0 ≤ l7_16.toInt from om_127 hr7_16) (show l7_16.toInt < 30 from om_134 zc31)) rfl dX4_worth_209 (fun H locs hP hD hS => ?_)
                  obtain ⟨f39, ef39, hP, hD⟩ : ∃ fz9, fz9 = upd2 f16 13 (upd (f16 13) l7_16.toNatClampNeg t38) ∧ va_P (dC, dI) vwCl (XW cy x0 x v16 fz9) H ∧ va_D A (XW cy x0 x v16 fz9) := ⟨_, rfl, hP, hD⟩
                  have hA_f39 : KF [13, 14] f39 f := by rw [ef39]; exact KF.up hA_f16 rfl
                  obtain ⟨t40, et40⟩ : ∃ y : Int32, y = l7_16 + 1 := ⟨_, rfl⟩
                  have zt40 : t40.toInt = l7_16.toInt + 1 := (congrArg Int32.toInt et40).trans (add_i rfl tc_1 (om_129 hr7_16) (om_153 zc31))
                  refine lv_iinc (v := t40) (lv' := [(7, .int t40), (9, .int t29), (8, .int l8_16), (0, .ref (x 15)), (1, .int p1), (2, .int p2), (3, .int p3), (4, .int p4), (5, .int p5), (6, .int p6)]) hx hb dX4_worth_210 hl (k := 2) rfl et40.symm (Nat.le_of_ble_eq_true rfl) rfl (fun ls hl => ?_)
                  refine lv_goto (tgt := 299) hx hb dX4_worth_213 rfl ?_
                  obtain ⟨t42, et42⟩ : ∃ y : Int32, y = l8_16 + 1 := ⟨_, rfl⟩
                  have zt42 : t42.toInt = l8_16.toInt + 1 := (congrArg Int32.toInt et42).trans (add_i rfl tc_1 (om_41 hr8_16) (om_91 zc25))
                  refine lv_iinc (v := t42) (lv' := [(8, .int t42), (7, .int t40), (9, .int t29), (0, .ref (x 15)), (1, .int p1), (2, .int p2), (3, .int p3), (4, .int p4), (5, .int p5), (6, .int p6)]) hx hb dX4_worth_299 hl (k := 2) rfl et42.symm (Nat.le_of_ble_eq_true rfl) rfl (fun ls hl => ?_)
                  refine lv_goto (tgt := 124) hx hb dX4_worth_302 rfl ?_
                  have rg44 := fb_rng t42
                  exact ih16 t40 t42 v16 f39 hIv16 hq0_v16 hq1_v16 hq7_v16 hq8_v16 hq9_v16 hq10_v16 hq31_v16 hq32_v16 ((gsX_X4_worth_1_q3 c17 c25 et29 c30 c31 c35 et36 et38 ef39 et40 et42).symm.trans hT16) ⟨show (0 : Int) ≤ t40.toInt from om_132 hr7_16 zt40, show t40.toInt ≤ (30 : Int) from om_154 zc31 zt40⟩ ⟨show (0 : Int) ≤ t42.toInt from om_43 hr8_16 zt42, show t42.toInt ≤ (2147483647 : Int) from om_44 rg44⟩ hM_v16 hA_f39 (show (2147483647 - t42.toInt).toNat < n16 from om_33 hm16 zt42 rg44) _ _ _ hP hD hS (lv_sub hl [0, 1, 3, 4, 5, 6, 7, 8, 9] rfl)
                · skip
                  refine lv_aload_n hx hb dX4_worth_189 rfl (lv_at hl 3 rfl) ?_
                  refine va_get (D := (dC, dI)) (ci := 4) (v := .ref (x 17)) (C := RX4) (T := TX4) (N := 6) hx hb hts inB_4 hown hE.1 hP 16 rfl rfl 1 (Nat.le_of_ble_eq_true rfl) (hts _ k_179) (fun _ h9 => h9) rfl dX4_worth_190 ?_
                  refine lv_iload hx hb dX4_worth_193 (lv_at hl 1 rfl) ?_
                  refine ldI hx hb hE hP 18 rfl (vpI (k := 300) rfl (show 0 ≤ l8_16.toInt from om_39 hr8_16) (show l8_16.toInt < 300 from om_89 zc25)) rfl rfl dX4_worth_195 ?_
                  refine lv_topi (fun t45 et45 => ?_)
                  refine lv_goto (tgt := 209) hx hb dX4_worth_196 rfl ?_
                  refine stI hx hb hE hP hD hS 19 rfl (vpI (k := 30) rfl (show 0 ≤ l7_16.toInt from om_127 hr7_16) (show l7_16.toInt < 30 from om_134 zc31)) rfl dX4_worth_209 (fun H locs hP hD hS => ?_)
                  obtain ⟨f46, ef46, hP, hD⟩ : ∃ fz9, fz9 = upd2 f16 13 (upd (f16 13) l7_16.toNatClampNeg t45) ∧ va_P (dC, dI) vwCl (XW cy x0 x v16 fz9) H ∧ va_D A (XW cy x0 x v16 fz9) := ⟨_, rfl, hP, hD⟩
                  have hA_f46 : KF [13, 14] f46 f := by rw [ef46]; exact KF.up hA_f16 rfl
                  obtain ⟨t47, et47⟩ : ∃ y : Int32, y = l7_16 + 1 := ⟨_, rfl⟩
                  have zt47 : t47.toInt = l7_16.toInt + 1 := (congrArg Int32.toInt et47).trans (add_i rfl tc_1 (om_129 hr7_16) (om_153 zc31))
                  refine lv_iinc (v := t47) (lv' := [(7, .int t47), (9, .int t29), (8, .int l8_16), (0, .ref (x 15)), (1, .int p1), (2, .int p2), (3, .int p3), (4, .int p4), (5, .int p5), (6, .int p6)]) hx hb dX4_worth_210 hl (k := 2) rfl et47.symm (Nat.le_of_ble_eq_true rfl) rfl (fun ls hl => ?_)
                  refine lv_goto (tgt := 299) hx hb dX4_worth_213 rfl ?_
                  obtain ⟨t49, et49⟩ : ∃ y : Int32, y = l8_16 + 1 := ⟨_, rfl⟩
                  have zt49 : t49.toInt = l8_16.toInt + 1 := (congrArg Int32.toInt et49).trans (add_i rfl tc_1 (om_41 hr8_16) (om_91 zc25))
                  refine lv_iinc (v := t49) (lv' := [(8, .int t49), (7, .int t47), (9, .int t29), (0, .ref (x 15)), (1, .int p1), (2, .int p2), (3, .int p3), (4, .int p4), (5, .int p5), (6, .int p6)]) hx hb dX4_worth_299 hl (k := 2) rfl et49.symm (Nat.le_of_ble_eq_true rfl) rfl (fun ls hl => ?_)
                  refine lv_goto (tgt := 124) hx hb dX4_worth_302 rfl ?_
                  have rg51 := fb_rng t49
                  exact ih16 t47 t49 v16 f46 hIv16 hq0_v16 hq1_v16 hq7_v16 hq8_v16 hq9_v16 hq10_v16 hq31_v16 hq32_v16 ((gsX_X4_worth_1_q4 c17 c25 et29 c30 c31 c35 et45 ef46 et47 et49).symm.trans hT16) ⟨show (0 : Int) ≤ t47.toInt from om_132 hr7_16 zt47, show t47.toInt ≤ (30 : Int) from om_154 zc31 zt47⟩ ⟨show (0 : Int) ≤ t49.toInt from om_43 hr8_16 zt49, show t49.toInt ≤ (2147483647 : Int) from om_44 rg51⟩ hM_v16 hA_f46 (show (2147483647 - t49.toInt).toNat < n16 from om_33 hm16 zt49 rg51) _ _ _ hP hD hS (lv_sub hl [0, 1, 3, 4, 5, 6, 7, 8, 9] rfl)
            · skip
              refine lv_iload hx hb dX4_worth_156 (lv_at hl 0 rfl) ?_
              refine lv_bipush (v := 116) hx hb dX4_worth_158 rfl ?_
              refine lv_icmp_lt (tgt := 216) hx hb dX4_worth_160 rfl (fun c52 => ?_) (fun c52 => ?_)
              · skip
                refine lv_iload hx hb dX4_worth_216 (lv_at hl 0 rfl) ?_
                refine lv_bipush (v := 115) hx hb dX4_worth_218 rfl ?_
                refine lv_icmp_ne (tgt := 258) hx hb dX4_worth_220 rfl (fun c53 => ?_) (fun c53 => ?_)
                · skip
                  refine lv_iload hx hb dX4_worth_258 (lv_at hl 2 rfl) ?_
                  refine lv_iconst (v := 2) hx hb dX4_worth_260 rfl ?_
                  refine lv_icmp_lt (tgt := 299) hx hb dX4_worth_261 rfl (fun c54 => ?_) (fun c54 => ?_)
                  · skip
                    have zc54 : l7_16.toInt < 2 := zLp rfl tc_2 c54
                    obtain ⟨t55, et55⟩ : ∃ y : Int32, y = l8_16 + 1 := ⟨_, rfl⟩
                    have zt55 : t55.toInt = l8_16.toInt + 1 := (congrArg Int32.toInt et55).trans (add_i rfl tc_1 (om_41 hr8_16) (om_91 zc25))
                    refine lv_iinc (v := t55) (lv' := [(8, .int t55), (9, .int t29), (7, .int l7_16), (0, .ref (x 15)), (1, .int p1), (2, .int p2), (3, .int p3), (4, .int p4), (5, .int p5), (6, .int p6)]) hx hb dX4_worth_299 hl (k := 1) rfl et55.symm (Nat.le_of_ble_eq_true rfl) rfl (fun ls hl => ?_)
                    refine lv_goto (tgt := 124) hx hb dX4_worth_302 rfl ?_
                    have rg57 := fb_rng t55
                    exact ih16 l7_16 t55 v16 f16 hIv16 hq0_v16 hq1_v16 hq7_v16 hq8_v16 hq9_v16 hq10_v16 hq31_v16 hq32_v16 ((gsX_X4_worth_1_q5 c17 c25 et29 c30 c52 c53 c54 et55).symm.trans hT16) ⟨show (0 : Int) ≤ l7_16.toInt from om_127 hr7_16, show l7_16.toInt ≤ (30 : Int) from om_155 zc54⟩ ⟨show (0 : Int) ≤ t55.toInt from om_43 hr8_16 zt55, show t55.toInt ≤ (2147483647 : Int) from om_44 rg57⟩ hM_v16 hA_f16 (show (2147483647 - t55.toInt).toNat < n16 from om_33 hm16 zt55 rg57) _ _ _ hP hD hS (lv_sub hl [0, 2, 3, 4, 5, 6, 7, 8, 9] rfl)
                  · skip
                    have zc54 : ¬ (l7_16.toInt < 2) := zLn rfl tc_2 c54
                    refine lv_aload_n hx hb dX4_worth_264 rfl (lv_at hl 3 rfl) ?_
                    refine va_get (D := (dC, dI)) (ci := 4) (v := .ref (x 18)) (C := RX4) (T := TX4) (N := 6) hx hb hts inB_4 hown hE.1 hP 16 rfl rfl 2 (Nat.le_of_ble_eq_true rfl) (hts _ k_180) (fun _ h9 => h9) rfl dX4_worth_265 ?_
                    refine lv_iload hx hb dX4_worth_268 (lv_at hl 2 rfl) ?_
                    refine lv_iconst (v := 2) hx hb dX4_worth_270 rfl ?_
                    refine lv_isub hx hb dX4_worth_271 ?_
                    refine lv_topi (fun t58 et58 => ?_)
                    have zt58 : t58.toInt = l7_16.toInt - 2 := (congrArg Int32.toInt et58).trans (sub_i rfl tc_2 (om_156 zc54) (om_157 hr7_16))
                    refine lv_iload hx hb dX4_worth_272 (lv_at hl 0 rfl) ?_
                    refine lv_aload_n hx hb dX4_worth_274 rfl (lv_at hl 3 rfl) ?_
                    refine va_get (D := (dC, dI)) (ci := 4) (v := .ref (x 18)) (C := RX4) (T := TX4) (N := 6) hx hb hts inB_4 hown hE.1 hP 16 rfl rfl 2 (Nat.le_of_ble_eq_true rfl) (hts _ k_180) (fun _ h9 => h9) rfl dX4_worth_275 ?_
                    refine lv_iload hx hb dX4_worth_278 (lv_at hl 2 rfl) ?_
                    refine lv_iconst (v := 2) hx hb dX4_worth_280 rfl ?_
                    refine lv_isub hx hb dX4_worth_281 ?_
                    refine tI (y := t58) et58.symm ?_
                    refine ldI hx hb hE hP 19 rfl (vpI (k := 30) rfl (show 0 ≤ t58.toInt from om_158 zc54 zt58) (show t58.toInt < 30 from om_159 hr7_16 zt58)) rfl rfl dX4_worth_282 ?_
                    refine lv_topi (fun t60 et60 => ?_)
                    refine lv_aload_n hx hb dX4_worth_283 rfl (lv_at hl 3 rfl) ?_
                    refine va_get (D := (dC, dI)) (ci := 4) (v := .ref (x 18)) (C := RX4) (T := TX4) (N := 6) hx hb hts inB_4 hown hE.1 hP 16 rfl rfl 2 (Nat.le_of_ble_eq_true rfl) (hts _ k_180) (fun _ h9 => h9) rfl dX4_worth_284 ?_
                    refine lv_iload hx hb dX4_worth_287 (lv_at hl 2 rfl) ?_
                    refine lv_iconst (v := 1) hx hb dX4_worth_289 rfl ?_
                    refine lv_isub hx hb dX4_worth_290 ?_
                    refine lv_topi (fun t61 et61 => ?_)
                    have zt61 : t61.toInt = l7_16.toInt - 1 := (congrArg Int32.toInt et61).trans (sub_i rfl tc_1 (om_160 zc54) (om_161 hr7_16))
                    refine ldI hx hb hE hP 19 rfl (vpI (k := 30) rfl (show 0 ≤ t61.toInt from om_162 zc54 zt61) (show t61.toInt < 30 from om_163 hr7_16 zt61)) rfl rfl dX4_worth_291 ?_
                    refine lv_topi (fun t62 et62 => ?_)
                    refine cbSi (n := 3) (rest := [.int t58, .ref (x 18)]) hx hb hml hown hts hE hP hD hS hA (sX_X4_joined_1 NF l dC dI cy x0 x t29 t60 t62 v16 f16 hIv16 ) k_841 k_842 k_105 k_843 he_yX4_joined ⟨Nat.le_of_ble_eq_true rfl, Nat.le_of_ble_eq_true rfl⟩ (rfl) hl.1 rfl (Nat.le_of_ble_eq_true rfl) dX4_worth_292 (fun r63 u H locs hw hP hD hS => ?_)
                    have hG64 := hw
                    refine stI hx hb hE hP hD hS 19 rfl (vpI (k := 30) rfl (show 0 ≤ t58.toInt from om_158 zc54 zt58) (show t58.toInt < 30 from om_159 hr7_16 zt58)) rfl dX4_worth_295 (fun H locs hP hD hS => ?_)
                    obtain ⟨f65, ef65, hP, hD⟩ : ∃ fz9, fz9 = upd2 f16 13 (upd (f16 13) t58.toNatClampNeg r63) ∧ va_P (dC, dI) vwCl (XW cy x0 x v16 fz9) H ∧ va_D A (XW cy x0 x v16 fz9) := ⟨_, rfl, hP, hD⟩
                    have hA_f65 : KF [13, 14] f65 f := by rw [ef65]; exact KF.up hA_f16 rfl
                    obtain ⟨t66, et66⟩ : ∃ y : Int32, y = l7_16 + (-1) := ⟨_, rfl⟩
                    have zt66 : t66.toInt = l7_16.toInt + (-1) := (congrArg Int32.toInt et66).trans (add_i rfl tc_m1 (om_164 zc54) (om_165 hr7_16))
                    refine lv_iinc (v := t66) (lv' := [(7, .int t66), (9, .int t29), (8, .int l8_16), (0, .ref (x 15)), (1, .int p1), (2, .int p2), (3, .int p3), (4, .int p4), (5, .int p5), (6, .int p6)]) hx hb dX4_worth_296 hl (k := 2) rfl et66.symm (Nat.le_of_ble_eq_true rfl) rfl (fun ls hl => ?_)
                    obtain ⟨t67, et67⟩ : ∃ y : Int32, y = l8_16 + 1 := ⟨_, rfl⟩
                    have zt67 : t67.toInt = l8_16.toInt + 1 := (congrArg Int32.toInt et67).trans (add_i rfl tc_1 (om_41 hr8_16) (om_91 zc25))
                    refine lv_iinc (v := t67) (lv' := [(8, .int t67), (7, .int t66), (9, .int t29), (0, .ref (x 15)), (1, .int p1), (2, .int p2), (3, .int p3), (4, .int p4), (5, .int p5), (6, .int p6)]) hx hb dX4_worth_299 hl (k := 2) rfl et67.symm (Nat.le_of_ble_eq_true rfl) rfl (fun ls hl => ?_)
                    refine lv_goto (tgt := 124) hx hb dX4_worth_302 rfl ?_
                    have rg69 := fb_rng t67
                    exact ih16 t66 t67 v16 f65 hIv16 hq0_v16 hq1_v16 hq7_v16 hq8_v16 hq9_v16 hq10_v16 hq31_v16 hq32_v16 ((gsX_X4_worth_1_q6 c17 c25 et29 c30 c52 c53 c54 et58 et60 et61 et62 hG64.symm ef65 et66 et67).symm.trans hT16) ⟨show (0 : Int) ≤ t66.toInt from om_166 zc54 zt66, show t66.toInt ≤ (30 : Int) from om_167 hr7_16 zt66⟩ ⟨show (0 : Int) ≤ t67.toInt from om_43 hr8_16 zt67, show t67.toInt ≤ (2147483647 : Int) from om_44 rg69⟩ hM_v16 hA_f65 (show (2147483647 - t67.toInt).toNat < n16 from om_33 hm16 zt67 rg69) _ _ _ hP hD hS (lv_sub hl [0, 1, 3, 4, 5, 6, 7, 8, 9] rfl)
                · skip
                  refine lv_iload hx hb dX4_worth_223 (lv_at hl 2 rfl) ?_
                  refine lv_iconst (v := 1) hx hb dX4_worth_225 rfl ?_
                  refine lv_icmp_lt (tgt := 258) hx hb dX4_worth_226 rfl (fun c70 => ?_) (fun c70 => ?_)
                  · skip
                    have zc70 : l7_16.toInt < 1 := zLp rfl tc_1 c70
                    refine lv_iload hx hb dX4_worth_258 (lv_at hl 2 rfl) ?_
                    refine lv_iconst (v := 2) hx hb dX4_worth_260 rfl ?_
                    refine lv_icmp_lt (tgt := 299) hx hb dX4_worth_261 rfl (fun c71 => ?_) (fun c71 => ?_)
                    · skip
                      obtain ⟨t72, et72⟩ : ∃ y : Int32, y = l8_16 + 1 := ⟨_, rfl⟩
                      have zt72 : t72.toInt = l8_16.toInt + 1 := (congrArg Int32.toInt et72).trans (add_i rfl tc_1 (om_41 hr8_16) (om_91 zc25))
                      refine lv_iinc (v := t72) (lv' := [(8, .int t72), (9, .int t29), (7, .int l7_16), (0, .ref (x 15)), (1, .int p1), (2, .int p2), (3, .int p3), (4, .int p4), (5, .int p5), (6, .int p6)]) hx hb dX4_worth_299 hl (k := 1) rfl et72.symm (Nat.le_of_ble_eq_true rfl) rfl (fun ls hl => ?_)
                      refine lv_goto (tgt := 124) hx hb dX4_worth_302 rfl ?_
                      have rg74 := fb_rng t72
                      exact ih16 l7_16 t72 v16 f16 hIv16 hq0_v16 hq1_v16 hq7_v16 hq8_v16 hq9_v16 hq10_v16 hq31_v16 hq32_v16 ((gsX_X4_worth_1_q7 c17 c25 et29 c30 c52 c53 c70 c71 et72).symm.trans hT16) ⟨show (0 : Int) ≤ l7_16.toInt from om_127 hr7_16, show l7_16.toInt ≤ (30 : Int) from om_168 zc70⟩ ⟨show (0 : Int) ≤ t72.toInt from om_43 hr8_16 zt72, show t72.toInt ≤ (2147483647 : Int) from om_44 rg74⟩ hM_v16 hA_f16 (show (2147483647 - t72.toInt).toNat < n16 from om_33 hm16 zt72 rg74) _ _ _ hP hD hS (lv_sub hl [0, 2, 3, 4, 5, 6, 7, 8, 9] rfl)
                    · skip
                      have zc71 : ¬ (l7_16.toInt < 2) := zLn rfl tc_2 c71
                      refine lv_aload_n hx hb dX4_worth_264 rfl (lv_at hl 3 rfl) ?_
                      refine va_get (D := (dC, dI)) (ci := 4) (v := .ref (x 18)) (C := RX4) (T := TX4) (N := 6) hx hb hts inB_4 hown hE.1 hP 16 rfl rfl 2 (Nat.le_of_ble_eq_true rfl) (hts _ k_180) (fun _ h9 => h9) rfl dX4_worth_265 ?_
                      refine lv_iload hx hb dX4_worth_268 (lv_at hl 2 rfl) ?_
                      refine lv_iconst (v := 2) hx hb dX4_worth_270 rfl ?_
                      refine lv_isub hx hb dX4_worth_271 ?_
                      refine lv_topi (fun t75 et75 => ?_)
                      have zt75 : t75.toInt = l7_16.toInt - 2 := (congrArg Int32.toInt et75).trans (sub_i rfl tc_2 (om_156 zc71) (om_169 zc70))
                      refine lv_iload hx hb dX4_worth_272 (lv_at hl 0 rfl) ?_
                      refine lv_aload_n hx hb dX4_worth_274 rfl (lv_at hl 3 rfl) ?_
                      refine va_get (D := (dC, dI)) (ci := 4) (v := .ref (x 18)) (C := RX4) (T := TX4) (N := 6) hx hb hts inB_4 hown hE.1 hP 16 rfl rfl 2 (Nat.le_of_ble_eq_true rfl) (hts _ k_180) (fun _ h9 => h9) rfl dX4_worth_275 ?_
                      refine lv_iload hx hb dX4_worth_278 (lv_at hl 2 rfl) ?_
                      refine lv_iconst (v := 2) hx hb dX4_worth_280 rfl ?_
                      refine lv_isub hx hb dX4_worth_281 ?_
                      refine tI (y := t75) et75.symm ?_
                      refine ldI hx hb hE hP 19 rfl (vpI (k := 30) rfl (show 0 ≤ t75.toInt from om_170 zc70 zc71) (show t75.toInt < 30 from om_171 zc70 zt75)) rfl rfl dX4_worth_282 ?_
                      refine lv_topi (fun t77 et77 => ?_)
                      refine lv_aload_n hx hb dX4_worth_283 rfl (lv_at hl 3 rfl) ?_
                      refine va_get (D := (dC, dI)) (ci := 4) (v := .ref (x 18)) (C := RX4) (T := TX4) (N := 6) hx hb hts inB_4 hown hE.1 hP 16 rfl rfl 2 (Nat.le_of_ble_eq_true rfl) (hts _ k_180) (fun _ h9 => h9) rfl dX4_worth_284 ?_
                      refine lv_iload hx hb dX4_worth_287 (lv_at hl 2 rfl) ?_
                      refine lv_iconst (v := 1) hx hb dX4_worth_289 rfl ?_
                      refine lv_isub hx hb dX4_worth_290 ?_
                      refine lv_topi (fun t78 et78 => ?_)
                      have zt78 : t78.toInt = l7_16.toInt - 1 := (congrArg Int32.toInt et78).trans (sub_i rfl tc_1 (om_160 zc71) (om_172 zc70))
                      refine ldI hx hb hE hP 19 rfl (vpI (k := 30) rfl (show 0 ≤ t78.toInt from om_162 zc71 zt78) (show t78.toInt < 30 from om_173 zc70 zt78)) rfl rfl dX4_worth_291 ?_
                      refine lv_topi (fun t79 et79 => ?_)
                      refine cbSi (n := 3) (rest := [.int t75, .ref (x 18)]) hx hb hml hown hts hE hP hD hS hA (sX_X4_joined_1 NF l dC dI cy x0 x t29 t77 t79 v16 f16 hIv16 ) k_841 k_842 k_105 k_843 he_yX4_joined ⟨Nat.le_of_ble_eq_true rfl, Nat.le_of_ble_eq_true rfl⟩ (rfl) hl.1 rfl (Nat.le_of_ble_eq_true rfl) dX4_worth_292 (fun r80 u H locs hw hP hD hS => ?_)
                      have hG81 := hw
                      refine stI hx hb hE hP hD hS 19 rfl (vpI (k := 30) rfl (show 0 ≤ t75.toInt from om_170 zc70 zc71) (show t75.toInt < 30 from om_171 zc70 zt75)) rfl dX4_worth_295 (fun H locs hP hD hS => ?_)
                      obtain ⟨f82, ef82, hP, hD⟩ : ∃ fz9, fz9 = upd2 f16 13 (upd (f16 13) t75.toNatClampNeg r80) ∧ va_P (dC, dI) vwCl (XW cy x0 x v16 fz9) H ∧ va_D A (XW cy x0 x v16 fz9) := ⟨_, rfl, hP, hD⟩
                      have hA_f82 : KF [13, 14] f82 f := by rw [ef82]; exact KF.up hA_f16 rfl
                      obtain ⟨t83, et83⟩ : ∃ y : Int32, y = l7_16 + (-1) := ⟨_, rfl⟩
                      have zt83 : t83.toInt = l7_16.toInt + (-1) := (congrArg Int32.toInt et83).trans (add_i rfl tc_m1 (om_164 zc71) (om_174 zc70))
                      refine lv_iinc (v := t83) (lv' := [(7, .int t83), (9, .int t29), (8, .int l8_16), (0, .ref (x 15)), (1, .int p1), (2, .int p2), (3, .int p3), (4, .int p4), (5, .int p5), (6, .int p6)]) hx hb dX4_worth_296 hl (k := 2) rfl et83.symm (Nat.le_of_ble_eq_true rfl) rfl (fun ls hl => ?_)
                      obtain ⟨t84, et84⟩ : ∃ y : Int32, y = l8_16 + 1 := ⟨_, rfl⟩
                      have zt84 : t84.toInt = l8_16.toInt + 1 := (congrArg Int32.toInt et84).trans (add_i rfl tc_1 (om_41 hr8_16) (om_91 zc25))
                      refine lv_iinc (v := t84) (lv' := [(8, .int t84), (7, .int t83), (9, .int t29), (0, .ref (x 15)), (1, .int p1), (2, .int p2), (3, .int p3), (4, .int p4), (5, .int p5), (6, .int p6)]) hx hb dX4_worth_299 hl (k := 2) rfl et84.symm (Nat.le_of_ble_eq_true rfl) rfl (fun ls hl => ?_)
                      refine lv_goto (tgt := 124) hx hb dX4_worth_302 rfl ?_
                      have rg86 := fb_rng t84
                      exact ih16 t83 t84 v16 f82 hIv16 hq0_v16 hq1_v16 hq7_v16 hq8_v16 hq9_v16 hq10_v16 hq31_v16 hq32_v16 ((gsX_X4_worth_1_q8 c17 c25 et29 c30 c52 c53 c70 c71 et75 et77 et78 et79 hG81.symm ef82 et83 et84).symm.trans hT16) ⟨show (0 : Int) ≤ t83.toInt from om_166 zc71 zt83, show t83.toInt ≤ (30 : Int) from om_175 zc70 zt83⟩ ⟨show (0 : Int) ≤ t84.toInt from om_43 hr8_16 zt84, show t84.toInt ≤ (2147483647 : Int) from om_44 rg86⟩ hM_v16 hA_f82 (show (2147483647 - t84.toInt).toNat < n16 from om_33 hm16 zt84 rg86) _ _ _ hP hD hS (lv_sub hl [0, 1, 3, 4, 5, 6, 7, 8, 9] rfl)
                  · skip
                    have zc70 : ¬ (l7_16.toInt < 1) := zLn rfl tc_1 c70
                    refine lv_aload_n hx hb dX4_worth_229 rfl (lv_at hl 3 rfl) ?_
                    refine va_get (D := (dC, dI)) (ci := 4) (v := .ref (x 18)) (C := RX4) (T := TX4) (N := 6) hx hb hts inB_4 hown hE.1 hP 16 rfl rfl 2 (Nat.le_of_ble_eq_true rfl) (hts _ k_180) (fun _ h9 => h9) rfl dX4_worth_230 ?_
                    refine lv_iload hx hb dX4_worth_233 (lv_at hl 2 rfl) ?_
                    refine lv_iconst (v := 1) hx hb dX4_worth_235 rfl ?_
                    refine lv_isub hx hb dX4_worth_236 ?_
                    refine lv_topi (fun t87 et87 => ?_)
                    have zt87 : t87.toInt = l7_16.toInt - 1 := (congrArg Int32.toInt et87).trans (sub_i rfl tc_1 (om_176 zc70) (om_161 hr7_16))
                    refine lv_aload_n hx hb dX4_worth_237 rfl (lv_at hl 3 rfl) ?_
                    refine va_get (D := (dC, dI)) (ci := 4) (v := .ref (x 18)) (C := RX4) (T := TX4) (N := 6) hx hb hts inB_4 hown hE.1 hP 16 rfl rfl 2 (Nat.le_of_ble_eq_true rfl) (hts _ k_180) (fun _ h9 => h9) rfl dX4_worth_238 ?_
                    refine lv_iload hx hb dX4_worth_241 (lv_at hl 2 rfl) ?_
                    refine lv_iconst (v := 1) hx hb dX4_worth_243 rfl ?_
                    refine lv_isub hx hb dX4_worth_244 ?_
                    refine tI (y := t87) et87.symm ?_
                    refine ldI hx hb hE hP 19 rfl (vpI (k := 30) rfl (show 0 ≤ t87.toInt from om_177 zc70 zt87) (show t87.toInt < 30 from om_163 hr7_16 zt87)) rfl rfl dX4_worth_245 ?_
                    refine lv_topi (fun t89 et89 => ?_)
                    refine lv_if_ne (tgt := 253) hx hb dX4_worth_246 rfl (fun c90 => ?_) (fun c90 => ?_)
                    · skip
                      refine lv_iconst (v := 0) hx hb dX4_worth_253 rfl ?_
                      refine stI hx hb hE hP hD hS 19 rfl (vpI (k := 30) rfl (show 0 ≤ t87.toInt from om_177 zc70 zt87) (show t87.toInt < 30 from om_163 hr7_16 zt87)) rfl dX4_worth_254 (fun H locs hP hD hS => ?_)
                      obtain ⟨f91, ef91, hP, hD⟩ : ∃ fz9, fz9 = upd2 f16 13 (upd (f16 13) t87.toNatClampNeg 0) ∧ va_P (dC, dI) vwCl (XW cy x0 x v16 fz9) H ∧ va_D A (XW cy x0 x v16 fz9) := ⟨_, rfl, hP, hD⟩
                      have hA_f91 : KF [13, 14] f91 f := by rw [ef91]; exact KF.up hA_f16 rfl
                      refine lv_goto (tgt := 299) hx hb dX4_worth_255 rfl ?_
                      obtain ⟨t92, et92⟩ : ∃ y : Int32, y = l8_16 + 1 := ⟨_, rfl⟩
                      have zt92 : t92.toInt = l8_16.toInt + 1 := (congrArg Int32.toInt et92).trans (add_i rfl tc_1 (om_41 hr8_16) (om_91 zc25))
                      refine lv_iinc (v := t92) (lv' := [(8, .int t92), (9, .int t29), (7, .int l7_16), (0, .ref (x 15)), (1, .int p1), (2, .int p2), (3, .int p3), (4, .int p4), (5, .int p5), (6, .int p6)]) hx hb dX4_worth_299 hl (k := 1) rfl et92.symm (Nat.le_of_ble_eq_true rfl) rfl (fun ls hl => ?_)
                      refine lv_goto (tgt := 124) hx hb dX4_worth_302 rfl ?_
                      have rg93 := fb_rng t92
                      exact ih16 l7_16 t92 v16 f91 hIv16 hq0_v16 hq1_v16 hq7_v16 hq8_v16 hq9_v16 hq10_v16 hq31_v16 hq32_v16 ((gsX_X4_worth_1_q9 c17 c25 et29 c30 c52 c53 c70 et87 et89 c90 ef91 et92).symm.trans hT16) ⟨show (0 : Int) ≤ l7_16.toInt from om_178 zc70, show l7_16.toInt ≤ (30 : Int) from om_148 hr7_16⟩ ⟨show (0 : Int) ≤ t92.toInt from om_43 hr8_16 zt92, show t92.toInt ≤ (2147483647 : Int) from om_44 rg93⟩ hM_v16 hA_f91 (show (2147483647 - t92.toInt).toNat < n16 from om_33 hm16 zt92 rg93) _ _ _ hP hD hS (lv_sub hl [0, 2, 3, 4, 5, 6, 7, 8, 9] rfl)
                    · skip
                      refine lv_iconst (v := 1) hx hb dX4_worth_249 rfl ?_
                      refine lv_goto (tgt := 254) hx hb dX4_worth_250 rfl ?_
                      refine stI hx hb hE hP hD hS 19 rfl (vpI (k := 30) rfl (show 0 ≤ t87.toInt from om_177 zc70 zt87) (show t87.toInt < 30 from om_163 hr7_16 zt87)) rfl dX4_worth_254 (fun H locs hP hD hS => ?_)
                      obtain ⟨f94, ef94, hP, hD⟩ : ∃ fz9, fz9 = upd2 f16 13 (upd (f16 13) t87.toNatClampNeg 1) ∧ va_P (dC, dI) vwCl (XW cy x0 x v16 fz9) H ∧ va_D A (XW cy x0 x v16 fz9) := ⟨_, rfl, hP, hD⟩
                      have hA_f94 : KF [13, 14] f94 f := by rw [ef94]; exact KF.up hA_f16 rfl
                      refine lv_goto (tgt := 299) hx hb dX4_worth_255 rfl ?_
                      obtain ⟨t95, et95⟩ : ∃ y : Int32, y = l8_16 + 1 := ⟨_, rfl⟩
                      have zt95 : t95.toInt = l8_16.toInt + 1 := (congrArg Int32.toInt et95).trans (add_i rfl tc_1 (om_41 hr8_16) (om_91 zc25))
                      refine lv_iinc (v := t95) (lv' := [(8, .int t95), (9, .int t29), (7, .int l7_16), (0, .ref (x 15)), (1, .int p1), (2, .int p2), (3, .int p3), (4, .int p4), (5, .int p5), (6, .int p6)]) hx hb dX4_worth_299 hl (k := 1) rfl et95.symm (Nat.le_of_ble_eq_true rfl) rfl (fun ls hl => ?_)
                      refine lv_goto (tgt := 124) hx hb dX4_worth_302 rfl ?_
                      have rg96 := fb_rng t95
                      exact ih16 l7_16 t95 v16 f94 hIv16 hq0_v16 hq1_v16 hq7_v16 hq8_v16 hq9_v16 hq10_v16 hq31_v16 hq32_v16 ((gsX_X4_worth_1_q10 c17 c25 et29 c30 c52 c53 c70 et87 et89 c90 ef94 et95).symm.trans hT16) ⟨show (0 : Int) ≤ l7_16.toInt from om_178 zc70, show l7_16.toInt ≤ (30 : Int) from om_148 hr7_16⟩ ⟨show (0 : Int) ≤ t95.toInt from om_43 hr8_16 zt95, show t95.toInt ≤ (2147483647 : Int) from om_44 rg96⟩ hM_v16 hA_f94 (show (2147483647 - t95.toInt).toNat < n16 from om_33 hm16 zt95 rg96) _ _ _ hP hD hS (lv_sub hl [0, 2, 3, 4, 5, 6, 7, 8, 9] rfl)
              · skip
                have zc52 : ¬ (t29.toInt < 116) := zLn rfl tc_116 c52
                refine lv_iload hx hb dX4_worth_163 (lv_at hl 0 rfl) ?_
                refine lv_bipush (v := 122) hx hb dX4_worth_165 rfl ?_
                refine lv_icmp_ge (tgt := 216) hx hb dX4_worth_167 rfl (fun c97 => ?_) (fun c97 => ?_)
                · skip
                  refine lv_iload hx hb dX4_worth_216 (lv_at hl 0 rfl) ?_
                  refine lv_bipush (v := 115) hx hb dX4_worth_218 rfl ?_
                  refine lv_icmp_ne (tgt := 258) hx hb dX4_worth_220 rfl (fun c98 => ?_) (fun c98 => ?_)
                  · skip
                    refine lv_iload hx hb dX4_worth_258 (lv_at hl 2 rfl) ?_
                    refine lv_iconst (v := 2) hx hb dX4_worth_260 rfl ?_
                    refine lv_icmp_lt (tgt := 299) hx hb dX4_worth_261 rfl (fun c99 => ?_) (fun c99 => ?_)
                    · skip
                      have zc99 : l7_16.toInt < 2 := zLp rfl tc_2 c99
                      obtain ⟨t100, et100⟩ : ∃ y : Int32, y = l8_16 + 1 := ⟨_, rfl⟩
                      have zt100 : t100.toInt = l8_16.toInt + 1 := (congrArg Int32.toInt et100).trans (add_i rfl tc_1 (om_41 hr8_16) (om_91 zc25))
                      refine lv_iinc (v := t100) (lv' := [(8, .int t100), (9, .int t29), (7, .int l7_16), (0, .ref (x 15)), (1, .int p1), (2, .int p2), (3, .int p3), (4, .int p4), (5, .int p5), (6, .int p6)]) hx hb dX4_worth_299 hl (k := 1) rfl et100.symm (Nat.le_of_ble_eq_true rfl) rfl (fun ls hl => ?_)
                      refine lv_goto (tgt := 124) hx hb dX4_worth_302 rfl ?_
                      have rg102 := fb_rng t100
                      exact ih16 l7_16 t100 v16 f16 hIv16 hq0_v16 hq1_v16 hq7_v16 hq8_v16 hq9_v16 hq10_v16 hq31_v16 hq32_v16 ((gsX_X4_worth_1_q11 c17 c25 et29 c30 c52 c97 c98 c99 et100).symm.trans hT16) ⟨show (0 : Int) ≤ l7_16.toInt from om_127 hr7_16, show l7_16.toInt ≤ (30 : Int) from om_155 zc99⟩ ⟨show (0 : Int) ≤ t100.toInt from om_43 hr8_16 zt100, show t100.toInt ≤ (2147483647 : Int) from om_44 rg102⟩ hM_v16 hA_f16 (show (2147483647 - t100.toInt).toNat < n16 from om_33 hm16 zt100 rg102) _ _ _ hP hD hS (lv_sub hl [0, 2, 3, 4, 5, 6, 7, 8, 9] rfl)
                    · skip
                      have zc99 : ¬ (l7_16.toInt < 2) := zLn rfl tc_2 c99
                      refine lv_aload_n hx hb dX4_worth_264 rfl (lv_at hl 3 rfl) ?_
                      refine va_get (D := (dC, dI)) (ci := 4) (v := .ref (x 18)) (C := RX4) (T := TX4) (N := 6) hx hb hts inB_4 hown hE.1 hP 16 rfl rfl 2 (Nat.le_of_ble_eq_true rfl) (hts _ k_180) (fun _ h9 => h9) rfl dX4_worth_265 ?_
                      refine lv_iload hx hb dX4_worth_268 (lv_at hl 2 rfl) ?_
                      refine lv_iconst (v := 2) hx hb dX4_worth_270 rfl ?_
                      refine lv_isub hx hb dX4_worth_271 ?_
                      refine lv_topi (fun t103 et103 => ?_)
                      have zt103 : t103.toInt = l7_16.toInt - 2 := (congrArg Int32.toInt et103).trans (sub_i rfl tc_2 (om_156 zc99) (om_157 hr7_16))
                      refine lv_iload hx hb dX4_worth_272 (lv_at hl 0 rfl) ?_
                      refine lv_aload_n hx hb dX4_worth_274 rfl (lv_at hl 3 rfl) ?_
                      refine va_get (D := (dC, dI)) (ci := 4) (v := .ref (x 18)) (C := RX4) (T := TX4) (N := 6) hx hb hts inB_4 hown hE.1 hP 16 rfl rfl 2 (Nat.le_of_ble_eq_true rfl) (hts _ k_180) (fun _ h9 => h9) rfl dX4_worth_275 ?_
                      refine lv_iload hx hb dX4_worth_278 (lv_at hl 2 rfl) ?_
                      refine lv_iconst (v := 2) hx hb dX4_worth_280 rfl ?_
                      refine lv_isub hx hb dX4_worth_281 ?_
                      refine tI (y := t103) et103.symm ?_
                      refine ldI hx hb hE hP 19 rfl (vpI (k := 30) rfl (show 0 ≤ t103.toInt from om_158 zc99 zt103) (show t103.toInt < 30 from om_159 hr7_16 zt103)) rfl rfl dX4_worth_282 ?_
                      refine lv_topi (fun t105 et105 => ?_)
                      refine lv_aload_n hx hb dX4_worth_283 rfl (lv_at hl 3 rfl) ?_
                      refine va_get (D := (dC, dI)) (ci := 4) (v := .ref (x 18)) (C := RX4) (T := TX4) (N := 6) hx hb hts inB_4 hown hE.1 hP 16 rfl rfl 2 (Nat.le_of_ble_eq_true rfl) (hts _ k_180) (fun _ h9 => h9) rfl dX4_worth_284 ?_
                      refine lv_iload hx hb dX4_worth_287 (lv_at hl 2 rfl) ?_
                      refine lv_iconst (v := 1) hx hb dX4_worth_289 rfl ?_
                      refine lv_isub hx hb dX4_worth_290 ?_
                      refine lv_topi (fun t106 et106 => ?_)
                      have zt106 : t106.toInt = l7_16.toInt - 1 := (congrArg Int32.toInt et106).trans (sub_i rfl tc_1 (om_160 zc99) (om_161 hr7_16))
                      refine ldI hx hb hE hP 19 rfl (vpI (k := 30) rfl (show 0 ≤ t106.toInt from om_162 zc99 zt106) (show t106.toInt < 30 from om_163 hr7_16 zt106)) rfl rfl dX4_worth_291 ?_
                      refine lv_topi (fun t107 et107 => ?_)
                      refine cbSi (n := 3) (rest := [.int t103, .ref (x 18)]) hx hb hml hown hts hE hP hD hS hA (sX_X4_joined_1 NF l dC dI cy x0 x t29 t105 t107 v16 f16 hIv16 ) k_841 k_842 k_105 k_843 he_yX4_joined ⟨Nat.le_of_ble_eq_true rfl, Nat.le_of_ble_eq_true rfl⟩ (rfl) hl.1 rfl (Nat.le_of_ble_eq_true rfl) dX4_worth_292 (fun r108 u H locs hw hP hD hS => ?_)
                      have hG109 := hw
                      refine stI hx hb hE hP hD hS 19 rfl (vpI (k := 30) rfl (show 0 ≤ t103.toInt from om_158 zc99 zt103) (show t103.toInt < 30 from om_159 hr7_16 zt103)) rfl dX4_worth_295 (fun H locs hP hD hS => ?_)
                      obtain ⟨f110, ef110, hP, hD⟩ : ∃ fz9, fz9 = upd2 f16 13 (upd (f16 13) t103.toNatClampNeg r108) ∧ va_P (dC, dI) vwCl (XW cy x0 x v16 fz9) H ∧ va_D A (XW cy x0 x v16 fz9) := ⟨_, rfl, hP, hD⟩
                      have hA_f110 : KF [13, 14] f110 f := by rw [ef110]; exact KF.up hA_f16 rfl
                      obtain ⟨t111, et111⟩ : ∃ y : Int32, y = l7_16 + (-1) := ⟨_, rfl⟩
                      have zt111 : t111.toInt = l7_16.toInt + (-1) := (congrArg Int32.toInt et111).trans (add_i rfl tc_m1 (om_164 zc99) (om_165 hr7_16))
                      refine lv_iinc (v := t111) (lv' := [(7, .int t111), (9, .int t29), (8, .int l8_16), (0, .ref (x 15)), (1, .int p1), (2, .int p2), (3, .int p3), (4, .int p4), (5, .int p5), (6, .int p6)]) hx hb dX4_worth_296 hl (k := 2) rfl et111.symm (Nat.le_of_ble_eq_true rfl) rfl (fun ls hl => ?_)
                      obtain ⟨t112, et112⟩ : ∃ y : Int32, y = l8_16 + 1 := ⟨_, rfl⟩
                      have zt112 : t112.toInt = l8_16.toInt + 1 := (congrArg Int32.toInt et112).trans (add_i rfl tc_1 (om_41 hr8_16) (om_91 zc25))
                      refine lv_iinc (v := t112) (lv' := [(8, .int t112), (7, .int t111), (9, .int t29), (0, .ref (x 15)), (1, .int p1), (2, .int p2), (3, .int p3), (4, .int p4), (5, .int p5), (6, .int p6)]) hx hb dX4_worth_299 hl (k := 2) rfl et112.symm (Nat.le_of_ble_eq_true rfl) rfl (fun ls hl => ?_)
                      refine lv_goto (tgt := 124) hx hb dX4_worth_302 rfl ?_
                      have rg114 := fb_rng t112
                      exact ih16 t111 t112 v16 f110 hIv16 hq0_v16 hq1_v16 hq7_v16 hq8_v16 hq9_v16 hq10_v16 hq31_v16 hq32_v16 ((gsX_X4_worth_1_q12 c17 c25 et29 c30 c52 c97 c98 c99 et103 et105 et106 et107 hG109.symm ef110 et111 et112).symm.trans hT16) ⟨show (0 : Int) ≤ t111.toInt from om_166 zc99 zt111, show t111.toInt ≤ (30 : Int) from om_167 hr7_16 zt111⟩ ⟨show (0 : Int) ≤ t112.toInt from om_43 hr8_16 zt112, show t112.toInt ≤ (2147483647 : Int) from om_44 rg114⟩ hM_v16 hA_f110 (show (2147483647 - t112.toInt).toNat < n16 from om_33 hm16 zt112 rg114) _ _ _ hP hD hS (lv_sub hl [0, 1, 3, 4, 5, 6, 7, 8, 9] rfl)
                  · skip
                    refine lv_iload hx hb dX4_worth_223 (lv_at hl 2 rfl) ?_
                    refine lv_iconst (v := 1) hx hb dX4_worth_225 rfl ?_
                    refine lv_icmp_lt (tgt := 258) hx hb dX4_worth_226 rfl (fun c115 => ?_) (fun c115 => ?_)
                    · skip
                      have zc115 : l7_16.toInt < 1 := zLp rfl tc_1 c115
                      refine lv_iload hx hb dX4_worth_258 (lv_at hl 2 rfl) ?_
                      refine lv_iconst (v := 2) hx hb dX4_worth_260 rfl ?_
                      refine lv_icmp_lt (tgt := 299) hx hb dX4_worth_261 rfl (fun c116 => ?_) (fun c116 => ?_)
                      · skip
                        obtain ⟨t117, et117⟩ : ∃ y : Int32, y = l8_16 + 1 := ⟨_, rfl⟩
                        have zt117 : t117.toInt = l8_16.toInt + 1 := (congrArg Int32.toInt et117).trans (add_i rfl tc_1 (om_41 hr8_16) (om_91 zc25))
                        refine lv_iinc (v := t117) (lv' := [(8, .int t117), (9, .int t29), (7, .int l7_16), (0, .ref (x 15)), (1, .int p1), (2, .int p2), (3, .int p3), (4, .int p4), (5, .int p5), (6, .int p6)]) hx hb dX4_worth_299 hl (k := 1) rfl et117.symm (Nat.le_of_ble_eq_true rfl) rfl (fun ls hl => ?_)
                        refine lv_goto (tgt := 124) hx hb dX4_worth_302 rfl ?_
                        have rg119 := fb_rng t117
                        exact ih16 l7_16 t117 v16 f16 hIv16 hq0_v16 hq1_v16 hq7_v16 hq8_v16 hq9_v16 hq10_v16 hq31_v16 hq32_v16 ((gsX_X4_worth_1_q13 c17 c25 et29 c30 c52 c97 c98 c115 c116 et117).symm.trans hT16) ⟨show (0 : Int) ≤ l7_16.toInt from om_127 hr7_16, show l7_16.toInt ≤ (30 : Int) from om_168 zc115⟩ ⟨show (0 : Int) ≤ t117.toInt from om_43 hr8_16 zt117, show t117.toInt ≤ (2147483647 : Int) from om_44 rg119⟩ hM_v16 hA_f16 (show (2147483647 - t117.toInt).toNat < n16 from om_33 hm16 zt117 rg119) _ _ _ hP hD hS (lv_sub hl [0, 2, 3, 4, 5, 6, 7, 8, 9] rfl)
                      · skip
                        have zc116 : ¬ (l7_16.toInt < 2) := zLn rfl tc_2 c116
                        refine lv_aload_n hx hb dX4_worth_264 rfl (lv_at hl 3 rfl) ?_
                        refine va_get (D := (dC, dI)) (ci := 4) (v := .ref (x 18)) (C := RX4) (T := TX4) (N := 6) hx hb hts inB_4 hown hE.1 hP 16 rfl rfl 2 (Nat.le_of_ble_eq_true rfl) (hts _ k_180) (fun _ h9 => h9) rfl dX4_worth_265 ?_
                        refine lv_iload hx hb dX4_worth_268 (lv_at hl 2 rfl) ?_
                        refine lv_iconst (v := 2) hx hb dX4_worth_270 rfl ?_
                        refine lv_isub hx hb dX4_worth_271 ?_
                        refine lv_topi (fun t120 et120 => ?_)
                        have zt120 : t120.toInt = l7_16.toInt - 2 := (congrArg Int32.toInt et120).trans (sub_i rfl tc_2 (om_156 zc116) (om_169 zc115))
                        refine lv_iload hx hb dX4_worth_272 (lv_at hl 0 rfl) ?_
                        refine lv_aload_n hx hb dX4_worth_274 rfl (lv_at hl 3 rfl) ?_
                        refine va_get (D := (dC, dI)) (ci := 4) (v := .ref (x 18)) (C := RX4) (T := TX4) (N := 6) hx hb hts inB_4 hown hE.1 hP 16 rfl rfl 2 (Nat.le_of_ble_eq_true rfl) (hts _ k_180) (fun _ h9 => h9) rfl dX4_worth_275 ?_
                        refine lv_iload hx hb dX4_worth_278 (lv_at hl 2 rfl) ?_
                        refine lv_iconst (v := 2) hx hb dX4_worth_280 rfl ?_
                        refine lv_isub hx hb dX4_worth_281 ?_
                        refine tI (y := t120) et120.symm ?_
                        refine ldI hx hb hE hP 19 rfl (vpI (k := 30) rfl (show 0 ≤ t120.toInt from om_170 zc115 zc116) (show t120.toInt < 30 from om_171 zc115 zt120)) rfl rfl dX4_worth_282 ?_
                        refine lv_topi (fun t122 et122 => ?_)
                        refine lv_aload_n hx hb dX4_worth_283 rfl (lv_at hl 3 rfl) ?_
                        refine va_get (D := (dC, dI)) (ci := 4) (v := .ref (x 18)) (C := RX4) (T := TX4) (N := 6) hx hb hts inB_4 hown hE.1 hP 16 rfl rfl 2 (Nat.le_of_ble_eq_true rfl) (hts _ k_180) (fun _ h9 => h9) rfl dX4_worth_284 ?_
                        refine lv_iload hx hb dX4_worth_287 (lv_at hl 2 rfl) ?_
                        refine lv_iconst (v := 1) hx hb dX4_worth_289 rfl ?_
                        refine lv_isub hx hb dX4_worth_290 ?_
                        refine lv_topi (fun t123 et123 => ?_)
                        have zt123 : t123.toInt = l7_16.toInt - 1 := (congrArg Int32.toInt et123).trans (sub_i rfl tc_1 (om_160 zc116) (om_172 zc115))
                        refine ldI hx hb hE hP 19 rfl (vpI (k := 30) rfl (show 0 ≤ t123.toInt from om_162 zc116 zt123) (show t123.toInt < 30 from om_173 zc115 zt123)) rfl rfl dX4_worth_291 ?_
                        refine lv_topi (fun t124 et124 => ?_)
                        refine cbSi (n := 3) (rest := [.int t120, .ref (x 18)]) hx hb hml hown hts hE hP hD hS hA (sX_X4_joined_1 NF l dC dI cy x0 x t29 t122 t124 v16 f16 hIv16 ) k_841 k_842 k_105 k_843 he_yX4_joined ⟨Nat.le_of_ble_eq_true rfl, Nat.le_of_ble_eq_true rfl⟩ (rfl) hl.1 rfl (Nat.le_of_ble_eq_true rfl) dX4_worth_292 (fun r125 u H locs hw hP hD hS => ?_)
                        have hG126 := hw
                        refine stI hx hb hE hP hD hS 19 rfl (vpI (k := 30) rfl (show 0 ≤ t120.toInt from om_170 zc115 zc116) (show t120.toInt < 30 from om_171 zc115 zt120)) rfl dX4_worth_295 (fun H locs hP hD hS => ?_)
                        obtain ⟨f127, ef127, hP, hD⟩ : ∃ fz9, fz9 = upd2 f16 13 (upd (f16 13) t120.toNatClampNeg r125) ∧ va_P (dC, dI) vwCl (XW cy x0 x v16 fz9) H ∧ va_D A (XW cy x0 x v16 fz9) := ⟨_, rfl, hP, hD⟩
                        have hA_f127 : KF [13, 14] f127 f := by rw [ef127]; exact KF.up hA_f16 rfl
                        obtain ⟨t128, et128⟩ : ∃ y : Int32, y = l7_16 + (-1) := ⟨_, rfl⟩
                        have zt128 : t128.toInt = l7_16.toInt + (-1) := (congrArg Int32.toInt et128).trans (add_i rfl tc_m1 (om_164 zc116) (om_174 zc115))
                        refine lv_iinc (v := t128) (lv' := [(7, .int t128), (9, .int t29), (8, .int l8_16), (0, .ref (x 15)), (1, .int p1), (2, .int p2), (3, .int p3), (4, .int p4), (5, .int p5), (6, .int p6)]) hx hb dX4_worth_296 hl (k := 2) rfl et128.symm (Nat.le_of_ble_eq_true rfl) rfl (fun ls hl => ?_)
                        obtain ⟨t129, et129⟩ : ∃ y : Int32, y = l8_16 + 1 := ⟨_, rfl⟩
                        have zt129 : t129.toInt = l8_16.toInt + 1 := (congrArg Int32.toInt et129).trans (add_i rfl tc_1 (om_41 hr8_16) (om_91 zc25))
                        refine lv_iinc (v := t129) (lv' := [(8, .int t129), (7, .int t128), (9, .int t29), (0, .ref (x 15)), (1, .int p1), (2, .int p2), (3, .int p3), (4, .int p4), (5, .int p5), (6, .int p6)]) hx hb dX4_worth_299 hl (k := 2) rfl et129.symm (Nat.le_of_ble_eq_true rfl) rfl (fun ls hl => ?_)
                        refine lv_goto (tgt := 124) hx hb dX4_worth_302 rfl ?_
                        have rg131 := fb_rng t129
                        exact ih16 t128 t129 v16 f127 hIv16 hq0_v16 hq1_v16 hq7_v16 hq8_v16 hq9_v16 hq10_v16 hq31_v16 hq32_v16 ((gsX_X4_worth_1_q14 c17 c25 et29 c30 c52 c97 c98 c115 c116 et120 et122 et123 et124 hG126.symm ef127 et128 et129).symm.trans hT16) ⟨show (0 : Int) ≤ t128.toInt from om_166 zc116 zt128, show t128.toInt ≤ (30 : Int) from om_175 zc115 zt128⟩ ⟨show (0 : Int) ≤ t129.toInt from om_43 hr8_16 zt129, show t129.toInt ≤ (2147483647 : Int) from om_44 rg131⟩ hM_v16 hA_f127 (show (2147483647 - t129.toInt).toNat < n16 from om_33 hm16 zt129 rg131) _ _ _ hP hD hS (lv_sub hl [0, 1, 3, 4, 5, 6, 7, 8, 9] rfl)
                    · skip
                      have zc115 : ¬ (l7_16.toInt < 1) := zLn rfl tc_1 c115
                      refine lv_aload_n hx hb dX4_worth_229 rfl (lv_at hl 3 rfl) ?_
                      refine va_get (D := (dC, dI)) (ci := 4) (v := .ref (x 18)) (C := RX4) (T := TX4) (N := 6) hx hb hts inB_4 hown hE.1 hP 16 rfl rfl 2 (Nat.le_of_ble_eq_true rfl) (hts _ k_180) (fun _ h9 => h9) rfl dX4_worth_230 ?_
                      refine lv_iload hx hb dX4_worth_233 (lv_at hl 2 rfl) ?_
                      refine lv_iconst (v := 1) hx hb dX4_worth_235 rfl ?_
                      refine lv_isub hx hb dX4_worth_236 ?_
                      refine lv_topi (fun t132 et132 => ?_)
                      have zt132 : t132.toInt = l7_16.toInt - 1 := (congrArg Int32.toInt et132).trans (sub_i rfl tc_1 (om_176 zc115) (om_161 hr7_16))
                      refine lv_aload_n hx hb dX4_worth_237 rfl (lv_at hl 3 rfl) ?_
                      refine va_get (D := (dC, dI)) (ci := 4) (v := .ref (x 18)) (C := RX4) (T := TX4) (N := 6) hx hb hts inB_4 hown hE.1 hP 16 rfl rfl 2 (Nat.le_of_ble_eq_true rfl) (hts _ k_180) (fun _ h9 => h9) rfl dX4_worth_238 ?_
                      refine lv_iload hx hb dX4_worth_241 (lv_at hl 2 rfl) ?_
                      refine lv_iconst (v := 1) hx hb dX4_worth_243 rfl ?_
                      refine lv_isub hx hb dX4_worth_244 ?_
                      refine tI (y := t132) et132.symm ?_
                      refine ldI hx hb hE hP 19 rfl (vpI (k := 30) rfl (show 0 ≤ t132.toInt from om_177 zc115 zt132) (show t132.toInt < 30 from om_163 hr7_16 zt132)) rfl rfl dX4_worth_245 ?_
                      refine lv_topi (fun t134 et134 => ?_)
                      refine lv_if_ne (tgt := 253) hx hb dX4_worth_246 rfl (fun c135 => ?_) (fun c135 => ?_)
                      · skip
                        refine lv_iconst (v := 0) hx hb dX4_worth_253 rfl ?_
                        refine stI hx hb hE hP hD hS 19 rfl (vpI (k := 30) rfl (show 0 ≤ t132.toInt from om_177 zc115 zt132) (show t132.toInt < 30 from om_163 hr7_16 zt132)) rfl dX4_worth_254 (fun H locs hP hD hS => ?_)
                        obtain ⟨f136, ef136, hP, hD⟩ : ∃ fz9, fz9 = upd2 f16 13 (upd (f16 13) t132.toNatClampNeg 0) ∧ va_P (dC, dI) vwCl (XW cy x0 x v16 fz9) H ∧ va_D A (XW cy x0 x v16 fz9) := ⟨_, rfl, hP, hD⟩
                        have hA_f136 : KF [13, 14] f136 f := by rw [ef136]; exact KF.up hA_f16 rfl
                        refine lv_goto (tgt := 299) hx hb dX4_worth_255 rfl ?_
                        obtain ⟨t137, et137⟩ : ∃ y : Int32, y = l8_16 + 1 := ⟨_, rfl⟩
                        have zt137 : t137.toInt = l8_16.toInt + 1 := (congrArg Int32.toInt et137).trans (add_i rfl tc_1 (om_41 hr8_16) (om_91 zc25))
                        refine lv_iinc (v := t137) (lv' := [(8, .int t137), (9, .int t29), (7, .int l7_16), (0, .ref (x 15)), (1, .int p1), (2, .int p2), (3, .int p3), (4, .int p4), (5, .int p5), (6, .int p6)]) hx hb dX4_worth_299 hl (k := 1) rfl et137.symm (Nat.le_of_ble_eq_true rfl) rfl (fun ls hl => ?_)
                        refine lv_goto (tgt := 124) hx hb dX4_worth_302 rfl ?_
                        have rg138 := fb_rng t137
                        exact ih16 l7_16 t137 v16 f136 hIv16 hq0_v16 hq1_v16 hq7_v16 hq8_v16 hq9_v16 hq10_v16 hq31_v16 hq32_v16 ((gsX_X4_worth_1_q15 c17 c25 et29 c30 c52 c97 c98 c115 et132 et134 c135 ef136 et137).symm.trans hT16) ⟨show (0 : Int) ≤ l7_16.toInt from om_178 zc115, show l7_16.toInt ≤ (30 : Int) from om_148 hr7_16⟩ ⟨show (0 : Int) ≤ t137.toInt from om_43 hr8_16 zt137, show t137.toInt ≤ (2147483647 : Int) from om_44 rg138⟩ hM_v16 hA_f136 (show (2147483647 - t137.toInt).toNat < n16 from om_33 hm16 zt137 rg138) _ _ _ hP hD hS (lv_sub hl [0, 2, 3, 4, 5, 6, 7, 8, 9] rfl)
                      · skip
                        refine lv_iconst (v := 1) hx hb dX4_worth_249 rfl ?_
                        refine lv_goto (tgt := 254) hx hb dX4_worth_250 rfl ?_
                        refine stI hx hb hE hP hD hS 19 rfl (vpI (k := 30) rfl (show 0 ≤ t132.toInt from om_177 zc115 zt132) (show t132.toInt < 30 from om_163 hr7_16 zt132)) rfl dX4_worth_254 (fun H locs hP hD hS => ?_)
                        obtain ⟨f139, ef139, hP, hD⟩ : ∃ fz9, fz9 = upd2 f16 13 (upd (f16 13) t132.toNatClampNeg 1) ∧ va_P (dC, dI) vwCl (XW cy x0 x v16 fz9) H ∧ va_D A (XW cy x0 x v16 fz9) := ⟨_, rfl, hP, hD⟩
                        have hA_f139 : KF [13, 14] f139 f := by rw [ef139]; exact KF.up hA_f16 rfl
                        refine lv_goto (tgt := 299) hx hb dX4_worth_255 rfl ?_
                        obtain ⟨t140, et140⟩ : ∃ y : Int32, y = l8_16 + 1 := ⟨_, rfl⟩
                        have zt140 : t140.toInt = l8_16.toInt + 1 := (congrArg Int32.toInt et140).trans (add_i rfl tc_1 (om_41 hr8_16) (om_91 zc25))
                        refine lv_iinc (v := t140) (lv' := [(8, .int t140), (9, .int t29), (7, .int l7_16), (0, .ref (x 15)), (1, .int p1), (2, .int p2), (3, .int p3), (4, .int p4), (5, .int p5), (6, .int p6)]) hx hb dX4_worth_299 hl (k := 1) rfl et140.symm (Nat.le_of_ble_eq_true rfl) rfl (fun ls hl => ?_)
                        refine lv_goto (tgt := 124) hx hb dX4_worth_302 rfl ?_
                        have rg141 := fb_rng t140
                        exact ih16 l7_16 t140 v16 f139 hIv16 hq0_v16 hq1_v16 hq7_v16 hq8_v16 hq9_v16 hq10_v16 hq31_v16 hq32_v16 ((gsX_X4_worth_1_q16 c17 c25 et29 c30 c52 c97 c98 c115 et132 et134 c135 ef139 et140).symm.trans hT16) ⟨show (0 : Int) ≤ l7_16.toInt from om_178 zc115, show l7_16.toInt ≤ (30 : Int) from om_148 hr7_16⟩ ⟨show (0 : Int) ≤ t140.toInt from om_43 hr8_16 zt140, show t140.toInt ≤ (2147483647 : Int) from om_44 rg141⟩ hM_v16 hA_f139 (show (2147483647 - t140.toInt).toNat < n16 from om_33 hm16 zt140 rg141) _ _ _ hP hD hS (lv_sub hl [0, 2, 3, 4, 5, 6, 7, 8, 9] rfl)
                · skip
                  have zc97 : ¬ (122 ≤ t29.toInt) := zMn tc_122 rfl c97
                  refine lv_iload hx hb dX4_worth_170 (lv_at hl 2 rfl) ?_
                  refine lv_bipush (v := 30) hx hb dX4_worth_172 rfl ?_
                  refine lv_icmp_ge (tgt := 299) hx hb dX4_worth_174 rfl (fun c142 => ?_) (fun c142 => ?_)
                  · skip
                    have zc142 : 30 ≤ l7_16.toInt := zMp tc_30 rfl c142
                    obtain ⟨t143, et143⟩ : ∃ y : Int32, y = l8_16 + 1 := ⟨_, rfl⟩
                    have zt143 : t143.toInt = l8_16.toInt + 1 := (congrArg Int32.toInt et143).trans (add_i rfl tc_1 (om_41 hr8_16) (om_91 zc25))
                    refine lv_iinc (v := t143) (lv' := [(8, .int t143), (9, .int t29), (7, .int l7_16), (0, .ref (x 15)), (1, .int p1), (2, .int p2), (3, .int p3), (4, .int p4), (5, .int p5), (6, .int p6)]) hx hb dX4_worth_299 hl (k := 1) rfl et143.symm (Nat.le_of_ble_eq_true rfl) rfl (fun ls hl => ?_)
                    refine lv_goto (tgt := 124) hx hb dX4_worth_302 rfl ?_
                    have rg145 := fb_rng t143
                    exact ih16 l7_16 t143 v16 f16 hIv16 hq0_v16 hq1_v16 hq7_v16 hq8_v16 hq9_v16 hq10_v16 hq31_v16 hq32_v16 ((gsX_X4_worth_1_q17 c17 c25 et29 c30 c52 c97 c142 et143).symm.trans hT16) ⟨show (0 : Int) ≤ l7_16.toInt from om_147 zc142, show l7_16.toInt ≤ (30 : Int) from om_148 hr7_16⟩ ⟨show (0 : Int) ≤ t143.toInt from om_43 hr8_16 zt143, show t143.toInt ≤ (2147483647 : Int) from om_44 rg145⟩ hM_v16 hA_f16 (show (2147483647 - t143.toInt).toNat < n16 from om_33 hm16 zt143 rg145) _ _ _ hP hD hS (lv_sub hl [0, 2, 3, 4, 5, 6, 7, 8, 9] rfl)
                  · skip
                    have zc142 : ¬ (30 ≤ l7_16.toInt) := zMn tc_30 rfl c142
                    refine lv_aload_n hx hb dX4_worth_177 rfl (lv_at hl 3 rfl) ?_
                    refine va_get (D := (dC, dI)) (ci := 4) (v := .ref (x 18)) (C := RX4) (T := TX4) (N := 6) hx hb hts inB_4 hown hE.1 hP 16 rfl rfl 2 (Nat.le_of_ble_eq_true rfl) (hts _ k_180) (fun _ h9 => h9) rfl dX4_worth_178 ?_
                    refine lv_iload hx hb dX4_worth_181 (lv_at hl 2 rfl) ?_
                    refine lv_iload hx hb dX4_worth_183 (lv_at hl 0 rfl) ?_
                    refine lv_iconst (v := 2) hx hb dX4_worth_185 rfl ?_
                    refine lv_icmp_ne (tgt := 199) hx hb dX4_worth_186 rfl (fun c146 => ?_) (fun c146 => ?_)
                    · skip
                      refine lv_aload_n hx hb dX4_worth_199 rfl (lv_at hl 3 rfl) ?_
                      refine va_get (D := (dC, dI)) (ci := 4) (v := .ref (x 19)) (C := RX4) (T := TX4) (N := 6) hx hb hts inB_4 hown hE.1 hP 16 rfl rfl 3 (Nat.le_of_ble_eq_true rfl) (hts _ k_181) (fun _ h9 => h9) rfl dX4_worth_200 ?_
                      refine lv_iload hx hb dX4_worth_203 (lv_at hl 0 rfl) ?_
                      refine lv_bipush (v := 116) hx hb dX4_worth_205 rfl ?_
                      refine lv_isub hx hb dX4_worth_207 ?_
                      refine lv_topi (fun t147 et147 => ?_)
                      have zt147 : t147.toInt = t29.toInt - 116 := (congrArg Int32.toInt et147).trans (sub_i rfl tc_116 (om_179 zc52) (om_180 zc97))
                      refine ldI hx hb hE hP 20 rfl (vpI (k := 6) rfl (show 0 ≤ t147.toInt from om_181 zc52 zt147) (show t147.toInt < 6 from om_182 zc97 zt147)) rfl rfl dX4_worth_208 ?_
                      refine lv_topi (fun t149 et149 => ?_)
                      refine stI hx hb hE hP hD hS 19 rfl (vpI (k := 30) rfl (show 0 ≤ l7_16.toInt from om_127 hr7_16) (show l7_16.toInt < 30 from om_134 zc142)) rfl dX4_worth_209 (fun H locs hP hD hS => ?_)
                      obtain ⟨f150, ef150, hP, hD⟩ : ∃ fz9, fz9 = upd2 f16 13 (upd (f16 13) l7_16.toNatClampNeg t149) ∧ va_P (dC, dI) vwCl (XW cy x0 x v16 fz9) H ∧ va_D A (XW cy x0 x v16 fz9) := ⟨_, rfl, hP, hD⟩
                      have hA_f150 : KF [13, 14] f150 f := by rw [ef150]; exact KF.up hA_f16 rfl
                      obtain ⟨t151, et151⟩ : ∃ y : Int32, y = l7_16 + 1 := ⟨_, rfl⟩
                      have zt151 : t151.toInt = l7_16.toInt + 1 := (congrArg Int32.toInt et151).trans (add_i rfl tc_1 (om_129 hr7_16) (om_153 zc142))
                      refine lv_iinc (v := t151) (lv' := [(7, .int t151), (9, .int t29), (8, .int l8_16), (0, .ref (x 15)), (1, .int p1), (2, .int p2), (3, .int p3), (4, .int p4), (5, .int p5), (6, .int p6)]) hx hb dX4_worth_210 hl (k := 2) rfl et151.symm (Nat.le_of_ble_eq_true rfl) rfl (fun ls hl => ?_)
                      refine lv_goto (tgt := 299) hx hb dX4_worth_213 rfl ?_
                      obtain ⟨t153, et153⟩ : ∃ y : Int32, y = l8_16 + 1 := ⟨_, rfl⟩
                      have zt153 : t153.toInt = l8_16.toInt + 1 := (congrArg Int32.toInt et153).trans (add_i rfl tc_1 (om_41 hr8_16) (om_91 zc25))
                      refine lv_iinc (v := t153) (lv' := [(8, .int t153), (7, .int t151), (9, .int t29), (0, .ref (x 15)), (1, .int p1), (2, .int p2), (3, .int p3), (4, .int p4), (5, .int p5), (6, .int p6)]) hx hb dX4_worth_299 hl (k := 2) rfl et153.symm (Nat.le_of_ble_eq_true rfl) rfl (fun ls hl => ?_)
                      refine lv_goto (tgt := 124) hx hb dX4_worth_302 rfl ?_
                      have rg155 := fb_rng t153
                      exact ih16 t151 t153 v16 f150 hIv16 hq0_v16 hq1_v16 hq7_v16 hq8_v16 hq9_v16 hq10_v16 hq31_v16 hq32_v16 ((gsX_X4_worth_1_q18 c17 c25 et29 c30 c52 c97 c142 c146 et147 et149 ef150 et151 et153).symm.trans hT16) ⟨show (0 : Int) ≤ t151.toInt from om_132 hr7_16 zt151, show t151.toInt ≤ (30 : Int) from om_154 zc142 zt151⟩ ⟨show (0 : Int) ≤ t153.toInt from om_43 hr8_16 zt153, show t153.toInt ≤ (2147483647 : Int) from om_44 rg155⟩ hM_v16 hA_f150 (show (2147483647 - t153.toInt).toNat < n16 from om_33 hm16 zt153 rg155) _ _ _ hP hD hS (lv_sub hl [0, 1, 3, 4, 5, 6, 7, 8, 9] rfl)
                    · skip
                      refine lv_aload_n hx hb dX4_worth_189 rfl (lv_at hl 3 rfl) ?_
                      refine va_get (D := (dC, dI)) (ci := 4) (v := .ref (x 17)) (C := RX4) (T := TX4) (N := 6) hx hb hts inB_4 hown hE.1 hP 16 rfl rfl 1 (Nat.le_of_ble_eq_true rfl) (hts _ k_179) (fun _ h9 => h9) rfl dX4_worth_190 ?_
                      refine lv_iload hx hb dX4_worth_193 (lv_at hl 1 rfl) ?_
                      refine ldI hx hb hE hP 18 rfl (vpI (k := 300) rfl (show 0 ≤ l8_16.toInt from om_39 hr8_16) (show l8_16.toInt < 300 from om_89 zc25)) rfl rfl dX4_worth_195 ?_
                      refine lv_topi (fun t156 et156 => ?_)
                      refine lv_goto (tgt := 209) hx hb dX4_worth_196 rfl ?_
                      refine stI hx hb hE hP hD hS 19 rfl (vpI (k := 30) rfl (show 0 ≤ l7_16.toInt from om_127 hr7_16) (show l7_16.toInt < 30 from om_134 zc142)) rfl dX4_worth_209 (fun H locs hP hD hS => ?_)
                      obtain ⟨f157, ef157, hP, hD⟩ : ∃ fz9, fz9 = upd2 f16 13 (upd (f16 13) l7_16.toNatClampNeg t156) ∧ va_P (dC, dI) vwCl (XW cy x0 x v16 fz9) H ∧ va_D A (XW cy x0 x v16 fz9) := ⟨_, rfl, hP, hD⟩
                      have hA_f157 : KF [13, 14] f157 f := by rw [ef157]; exact KF.up hA_f16 rfl
                      obtain ⟨t158, et158⟩ : ∃ y : Int32, y = l7_16 + 1 := ⟨_, rfl⟩
                      have zt158 : t158.toInt = l7_16.toInt + 1 := (congrArg Int32.toInt et158).trans (add_i rfl tc_1 (om_129 hr7_16) (om_153 zc142))
                      refine lv_iinc (v := t158) (lv' := [(7, .int t158), (9, .int t29), (8, .int l8_16), (0, .ref (x 15)), (1, .int p1), (2, .int p2), (3, .int p3), (4, .int p4), (5, .int p5), (6, .int p6)]) hx hb dX4_worth_210 hl (k := 2) rfl et158.symm (Nat.le_of_ble_eq_true rfl) rfl (fun ls hl => ?_)
                      refine lv_goto (tgt := 299) hx hb dX4_worth_213 rfl ?_
                      obtain ⟨t160, et160⟩ : ∃ y : Int32, y = l8_16 + 1 := ⟨_, rfl⟩
                      have zt160 : t160.toInt = l8_16.toInt + 1 := (congrArg Int32.toInt et160).trans (add_i rfl tc_1 (om_41 hr8_16) (om_91 zc25))
                      refine lv_iinc (v := t160) (lv' := [(8, .int t160), (7, .int t158), (9, .int t29), (0, .ref (x 15)), (1, .int p1), (2, .int p2), (3, .int p3), (4, .int p4), (5, .int p5), (6, .int p6)]) hx hb dX4_worth_299 hl (k := 2) rfl et160.symm (Nat.le_of_ble_eq_true rfl) rfl (fun ls hl => ?_)
                      refine lv_goto (tgt := 124) hx hb dX4_worth_302 rfl ?_
                      have rg162 := fb_rng t160
                      exact ih16 t158 t160 v16 f157 hIv16 hq0_v16 hq1_v16 hq7_v16 hq8_v16 hq9_v16 hq10_v16 hq31_v16 hq32_v16 ((gsX_X4_worth_1_q19 c17 c25 et29 c30 c52 c97 c142 c146 et156 ef157 et158 et160).symm.trans hT16) ⟨show (0 : Int) ≤ t158.toInt from om_132 hr7_16 zt158, show t158.toInt ≤ (30 : Int) from om_154 zc142 zt158⟩ ⟨show (0 : Int) ≤ t160.toInt from om_43 hr8_16 zt160, show t160.toInt ≤ (2147483647 : Int) from om_44 rg162⟩ hM_v16 hA_f157 (show (2147483647 - t160.toInt).toNat < n16 from om_33 hm16 zt160 rg162) _ _ _ hP hD hS (lv_sub hl [0, 1, 3, 4, 5, 6, 7, 8, 9] rfl)
    exact lp16 (4294967296 + NF) 0 0 v f14 hIv rfl rfl rfl rfl rfl rfl rfl rfl (gsX_X4_worth_1_q20 et1 et2 ef3 et4 et5 ef6 et7 et8 ef9 et10 et11 ef12 ef13 ef14 c15).symm ⟨by decide, by decide⟩ ⟨by decide, by decide⟩ hM_v hA_f14 (show (2147483647 - (0 : Int32).toInt).toNat < 4294967296 + NF from om_38 tc_0) _ _ _ hP hD hS (lv_sub hl [0, 1, 2, 3, 4, 5, 6, 7, 8] rfl)
  · skip
    refine lv_sipush (v := 999) hx hb dX4_worth_77 rfl ?_
    refine lv_aload_n hx hb dX4_worth_80 rfl (lv_at hl 0 rfl) ?_
    refine va_get (D := (dC, dI)) (ci := 4) (v := .ref (x 19)) (C := RX4) (T := TX4) (N := 6) hx hb hts inB_4 hown hE.1 hP 16 rfl rfl 3 (Nat.le_of_ble_eq_true rfl) (hts _ k_181) (fun _ h9 => h9) rfl dX4_worth_81 ?_
    refine lv_iconst (v := 0) hx hb dX4_worth_84 rfl ?_
    refine ldI hx hb hE hP 20 rfl (vp_in_nI (n := 0) (by decide) (by decide)) rfl rfl dX4_worth_85 ?_
    refine lv_topi (fun t163 et163 => ?_)
    refine lv_iconst (v := 3) hx hb dX4_worth_86 rfl ?_
    refine lv_imul hx hb dX4_worth_87 ?_
    refine lv_topi (fun t164 et164 => ?_)
    refine lv_aload_n hx hb dX4_worth_88 rfl (lv_at hl 0 rfl) ?_
    refine va_get (D := (dC, dI)) (ci := 4) (v := .ref (x 19)) (C := RX4) (T := TX4) (N := 6) hx hb hts inB_4 hown hE.1 hP 16 rfl rfl 3 (Nat.le_of_ble_eq_true rfl) (hts _ k_181) (fun _ h9 => h9) rfl dX4_worth_89 ?_
    refine lv_iconst (v := 1) hx hb dX4_worth_92 rfl ?_
    refine ldI hx hb hE hP 20 rfl (vp_in_nI (n := 1) (by decide) (by decide)) rfl rfl dX4_worth_93 ?_
    refine lv_topi (fun t165 et165 => ?_)
    refine lv_iadd hx hb dX4_worth_94 ?_
    refine lv_topi (fun t166 et166 => ?_)
    refine lv_aload_n hx hb dX4_worth_95 rfl (lv_at hl 0 rfl) ?_
    refine va_get (D := (dC, dI)) (ci := 4) (v := .ref (x 19)) (C := RX4) (T := TX4) (N := 6) hx hb hts inB_4 hown hE.1 hP 16 rfl rfl 3 (Nat.le_of_ble_eq_true rfl) (hts _ k_181) (fun _ h9 => h9) rfl dX4_worth_96 ?_
    refine lv_iconst (v := 2) hx hb dX4_worth_99 rfl ?_
    refine ldI hx hb hE hP 20 rfl (vp_in_nI (n := 2) (by decide) (by decide)) rfl rfl dX4_worth_100 ?_
    refine lv_topi (fun t167 et167 => ?_)
    refine lv_iconst (v := 2) hx hb dX4_worth_101 rfl ?_
    refine lv_imul hx hb dX4_worth_102 ?_
    refine lv_topi (fun t168 et168 => ?_)
    refine lv_iadd hx hb dX4_worth_103 ?_
    refine lv_topi (fun t169 et169 => ?_)
    refine lv_aload_n hx hb dX4_worth_104 rfl (lv_at hl 0 rfl) ?_
    refine va_get (D := (dC, dI)) (ci := 4) (v := .ref (x 19)) (C := RX4) (T := TX4) (N := 6) hx hb hts inB_4 hown hE.1 hP 16 rfl rfl 3 (Nat.le_of_ble_eq_true rfl) (hts _ k_181) (fun _ h9 => h9) rfl dX4_worth_105 ?_
    refine lv_iconst (v := 3) hx hb dX4_worth_108 rfl ?_
    refine ldI hx hb hE hP 20 rfl (vp_in_nI (n := 3) (by decide) (by decide)) rfl rfl dX4_worth_109 ?_
    refine lv_topi (fun t170 et170 => ?_)
    refine lv_iadd hx hb dX4_worth_110 ?_
    refine lv_topi (fun t171 et171 => ?_)
    refine lv_iload hx hb dX4_worth_111 (lv_at hl 5 rfl) ?_
    refine lv_iadd hx hb dX4_worth_113 ?_
    refine lv_topi (fun t172 et172 => ?_)
    refine va_mmin hx hb (by rw [hml]; exact hl.1.symm) hown (hts _ k_840) (hts _ k_643) (hts _ k_119) (hts _ k_644) (Nat.le_of_ble_eq_true rfl) (Nat.le_of_ble_eq_true rfl) (Nat.le_of_ble_eq_true rfl) (Nat.le_of_ble_eq_true rfl) dX4_worth_114 ?_
    refine lv_topi (fun t173 et173 => ?_)
    exact ret t173 (v, f14) _ _ _ _ _ _ rfl ⟨(gsX_X4_worth_1_q21 et1 et2 ef3 et4 et5 ef6 et7 et8 ef9 et10 et11 ef12 ef13 ef14 c15 et163 et164 et165 et166 et167 et168 et169 et170 et171 et172 et173), hM_v, hA_f14, hIv, rfl, rfl, rfl, rfl, rfl, rfl, rfl, rfl⟩ hP hD hS dX4_worth_117 (Nat.le_refl _) (Nat.le_refl _)
set_option maxHeartbeats 4000000 in
set_option maxRecDepth 100000 in
theorem sX_X1_illness_1 (NF : Nat) (l : Launch) (dC : Nat → ClassId) (dI : Nat → Nat → Nat) (cy : Nat → ClassId) (x0 : Nat) (x : Nat → Nat) (p1 : Int32) (p2 : Int32) (v : Nat → Int32) (f : Nat → Nat → Int32) (hIv : XI v)  : ctI l (dC, dI) cy yX1_illness cX1_illness 3 .int 3 111 0 0 ((Nat → Int32) × (Nat → Nat → Int32)) [.ref (x 21), .int p1, .int p2] (XW cy x0 x v f) (fun r u => gsX_X1_illness_1 NF p1 p2 v f = (r, u) ∧ KV [] u.1 v ∧ KF [13, 14] u.2 f ∧ XI u.1 ∧ u.1 0 = v 0 ∧ u.1 1 = v 1 ∧ u.1 7 = v 7 ∧ u.1 8 = v 8 ∧ u.1 9 = v 9 ∧ u.1 10 = v 10 ∧ u.1 31 = v 31 ∧ u.1 32 = v 32) (fun u => XW cy x0 x u.1 u.2) := by
  refine ctI_of (by decide) (Nat.le_of_ble_eq_true rfl) (fun p e s m below meth c A ls Q hx hb hml hts hown hE hP hD hA hl ret => ?_)
  have hM_v : KV [] v v := fun _ _ => rfl
  have hA_f : KF [13, 14] f f := fun _ _ => rfl
  have hown : s.vm.findClass RX1 = some m.cls := hown
  have hS : va_S A s.heap s.heap [] := va_S.rf
  have hl : lv_has ls 3 [(0, .ref (x 21)), (1, .int p1), (2, .int p2)] := hl
  refine lv_aload_n hx hb dX1_illness_0 rfl (lv_at hl 0 rfl) ?_
  refine va_get (D := (dC, dI)) (ci := 1) (v := .ref (x 26)) (C := RX1) (T := TX1) (N := 2) hx hb hts inB_1 hown hE.1 hP 22 rfl rfl 0 (Nat.le_of_ble_eq_true rfl) (hts _ k_318) (fun _ h9 => h9) rfl dX1_illness_1 ?_
  refine va_getN (D := (dC, dI)) (ci := 7) (v := .ref (x 15)) (C := RX7) (T := TX7) (N := 10) hx hb hts inB_7 hown hE.1 hP 27 rfl rfl 2 (Nat.le_of_ble_eq_true rfl) (va_Nw.use rfl (hE.2 _ k_209)) (fun _ h9 => h9) rfl dX1_illness_4 ?_
  refine lv_aload_n hx hb dX1_illness_7 rfl (lv_at hl 0 rfl) ?_
  refine va_get (D := (dC, dI)) (ci := 1) (v := .ref (x 26)) (C := RX1) (T := TX1) (N := 2) hx hb hts inB_1 hown hE.1 hP 22 rfl rfl 0 (Nat.le_of_ble_eq_true rfl) (hts _ k_318) (fun _ h9 => h9) rfl dX1_illness_8 ?_
  refine lv_iconst (v := 0) hx hb dX1_illness_11 rfl ?_
  refine lv_iload_n hx hb dX1_illness_12 rfl (lv_at hl 1 rfl) ?_
  refine cbVi (n := 2) (rest := [.ref (x 15)]) hx hb hml hown hts hE hP hD hS hA (sX_X7_manPart_1 NF l dC dI cy x0 x 0 p1 v f hIv ) k_302 k_303 k_304 k_104 k_305 hd_yX7_manPart ⟨Nat.le_of_ble_eq_true rfl, Nat.le_of_ble_eq_true rfl⟩ 27 7 rfl rfl (rfl) hl.1 rfl (Nat.le_of_ble_eq_true rfl) dX1_illness_13 (fun r1 u H locs hw hP hD hS => ?_)
  have hG2 := hw
  refine lv_aload_n hx hb dX1_illness_16 rfl (lv_at hl 0 rfl) ?_
  refine lv_iload_n hx hb dX1_illness_17 rfl (lv_at hl 1 rfl) ?_
  refine cbVi (n := 1) (rest := [.int r1, .ref (x 15)]) hx hb hml hown hts hE hP hD hS hA (sX_X1_manWide_1 NF l dC dI cy x0 x p1 v f hIv ) k_826 k_805 k_806 k_106 k_807 hd_yX1_manWide ⟨Nat.le_of_ble_eq_true rfl, Nat.le_of_ble_eq_true rfl⟩ 22 1 rfl rfl (rfl) hl.1 rfl (Nat.le_of_ble_eq_true rfl) dX1_illness_18 (fun r3 u H locs hw hP hD hS => ?_)
  have hG4 := hw
  refine lv_aload_n hx hb dX1_illness_21 rfl (lv_at hl 0 rfl) ?_
  refine lv_iconst (v := 0) hx hb dX1_illness_22 rfl ?_
  refine lv_iload_n hx hb dX1_illness_23 rfl (lv_at hl 2 rfl) ?_
  refine cbVi (n := 2) (rest := [.int r3, .int r1, .ref (x 15)]) hx hb hml hown hts hE hP hD hS hA (sX_X1_part_1 NF l dC dI cy x0 x 0 p2 v f hIv ) k_827 k_828 k_829 k_106 k_830 hd_yX1_part ⟨Nat.le_of_ble_eq_true rfl, Nat.le_of_ble_eq_true rfl⟩ 22 1 rfl rfl (rfl) hl.1 rfl (Nat.le_of_ble_eq_true rfl) dX1_illness_24 (fun r5 u H locs hw hP hD hS => ?_)
  have hG6 := hw
  refine lv_aload_n hx hb dX1_illness_27 rfl (lv_at hl 0 rfl) ?_
  refine lv_iconst (v := 1) hx hb dX1_illness_28 rfl ?_
  refine lv_iload_n hx hb dX1_illness_29 rfl (lv_at hl 2 rfl) ?_
  refine cbVi (n := 2) (rest := [.int r5, .int r3, .int r1, .ref (x 15)]) hx hb hml hown hts hE hP hD hS hA (sX_X1_part_1 NF l dC dI cy x0 x 1 p2 v f hIv ) k_827 k_828 k_829 k_106 k_830 hd_yX1_part ⟨Nat.le_of_ble_eq_true rfl, Nat.le_of_ble_eq_true rfl⟩ 22 1 rfl rfl (rfl) hl.1 rfl (Nat.le_of_ble_eq_true rfl) dX1_illness_30 (fun r7 u H locs hw hP hD hS => ?_)
  have hG8 := hw
  refine lv_aload_n hx hb dX1_illness_33 rfl (lv_at hl 0 rfl) ?_
  refine lv_iconst (v := 3) hx hb dX1_illness_34 rfl ?_
  refine lv_iload_n hx hb dX1_illness_35 rfl (lv_at hl 2 rfl) ?_
  refine cbVi (n := 2) (rest := [.int r7, .int r5, .int r3, .int r1, .ref (x 15)]) hx hb hml hown hts hE hP hD hS hA (sX_X1_part_1 NF l dC dI cy x0 x 3 p2 v f hIv ) k_827 k_828 k_829 k_106 k_830 hd_yX1_part ⟨Nat.le_of_ble_eq_true rfl, Nat.le_of_ble_eq_true rfl⟩ 22 1 rfl rfl (rfl) hl.1 rfl (Nat.le_of_ble_eq_true rfl) dX1_illness_36 (fun r9 u H locs hw hP hD hS => ?_)
  have hG10 := hw
  refine lv_aload_n hx hb dX1_illness_39 rfl (lv_at hl 0 rfl) ?_
  refine cbVi (n := 0) (rest := [.int r9, .int r7, .int r5, .int r3, .int r1, .ref (x 15)]) hx hb hml hown hts hE hP hD hS hA (sX_X1_today_1 NF l dC dI cy x0 x  v f hIv ) k_831 k_832 k_833 k_106 k_834 hd_yX1_today ⟨Nat.le_of_ble_eq_true rfl, Nat.le_of_ble_eq_true rfl⟩ 22 1 rfl rfl (rfl) hl.1 rfl (Nat.le_of_ble_eq_true rfl) dX1_illness_40 (fun r11 u H locs hw hP hD hS => ?_)
  have hG12 := hw
  refine cbVi (n := 6) (rest := []) hx hb hml hown hts hE hP hD hS hA (sX_X4_worth_1 NF l dC dI cy x0 x r1 r3 r5 r7 r9 r11 v f hIv ) k_835 k_836 k_837 k_105 k_838 hd_yX4_worth ⟨Nat.le_of_ble_eq_true rfl, Nat.le_of_ble_eq_true rfl⟩ 16 4 rfl rfl (rfl) hl.1 rfl (Nat.le_of_ble_eq_true rfl) dX1_illness_43 (fun r13 u H locs hw hP hD hS => ?_)
  obtain ⟨hG14, hw⟩ := hw
  obtain ⟨v15, f16⟩ := u
  obtain ⟨kV_v15, kF_f16, hIv15, hk0_v15, hk1_v15, hk7_v15, hk8_v15, hk9_v15, hk10_v15, hk31_v15, hk32_v15⟩ := hw
  have hM_v15 : KV [] v15 v := KV.tr kV_v15 hM_v rfl
  have hA_f16 : KF [13, 14] f16 f := KF.tr kF_f16 hA_f rfl
  have hP : va_P (dC, dI) vwCl (XW cy x0 x v15 f16) H := hP
  have hD : va_D A (XW cy x0 x v15 f16) := hD
  have hq0_v15 : v15 0 = (v 0) := hk0_v15
  have hq1_v15 : v15 1 = (v 1) := hk1_v15
  have hq7_v15 : v15 7 = (v 7) := hk7_v15
  have hq8_v15 : v15 8 = (v 8) := hk8_v15
  have hq9_v15 : v15 9 = (v 9) := hk9_v15
  have hq10_v15 : v15 10 = (v 10) := hk10_v15
  have hq31_v15 : v15 31 = (v 31) := hk31_v15
  have hq32_v15 : v15 32 = (v 32) := hk32_v15
  exact ret r13 (v15, f16) _ _ _ _ _ _ rfl ⟨(gsX_X1_illness_1_q0 hG2.symm hG4.symm hG6.symm hG8.symm hG10.symm hG12.symm hG14), hM_v15, hA_f16, hIv15, hk0_v15, hk1_v15, hk7_v15, hk8_v15, hk9_v15, hk10_v15, hk31_v15, hk32_v15⟩ hP hD hS dX1_illness_46 (Nat.le_refl _) (Nat.le_refl _)
set_option maxHeartbeats 4000000 in
set_option maxRecDepth 100000 in
theorem sX_X10_misfit_1 (NF : Nat) (l : Launch) (dC : Nat → ClassId) (dI : Nat → Nat → Nat) (cy : Nat → ClassId) (x0 : Nat) (x : Nat → Nat) (p1 : Int32) (p2 : Int32) (v : Nat → Int32) (f : Nat → Nat → Int32) (hIv : XI v)  : ctI l (dC, dI) cy yX10_misfit cX10_misfit 3 .int 4 133 0 0 ((Nat → Int32) × (Nat → Nat → Int32)) [.ref x0, .int p1, .int p2] (XW cy x0 x v f) (fun r u => gsX_X10_misfit_1 NF p1 p2 v f = (r, u) ∧ KV [] u.1 v ∧ KF [13, 14] u.2 f ∧ XI u.1 ∧ u.1 0 = v 0 ∧ u.1 1 = v 1 ∧ u.1 7 = v 7 ∧ u.1 8 = v 8 ∧ u.1 9 = v 9 ∧ u.1 10 = v 10 ∧ u.1 31 = v 31 ∧ u.1 32 = v 32) (fun u => XW cy x0 x u.1 u.2) := by
  refine ctI_of (by decide) (Nat.le_of_ble_eq_true rfl) (fun p e s m below meth c A ls Q hx hb hml hts hown hE hP hD hA hl ret => ?_)
  have hM_v : KV [] v v := fun _ _ => rfl
  have hA_f : KF [13, 14] f f := fun _ _ => rfl
  have hown : s.vm.findClass RX10 = some m.cls := hown
  have hS : va_S A s.heap s.heap [] := va_S.rf
  have hl : lv_has ls 3 [(0, .ref x0), (1, .int p1), (2, .int p2)] := hl
  refine lv_aload_n hx hb dX10_misfit_0 rfl (lv_at hl 0 rfl) ?_
  refine va_get (D := (dC, dI)) (ci := 10) (v := .ref (x 26)) (C := RX10) (T := TX10) (N := 10) hx hb hts inB_10 hown hE.1 hP 0 rfl rfl 2 (Nat.le_of_ble_eq_true rfl) (hts _ k_493) (fun _ h9 => h9) rfl dX10_misfit_1 ?_
  refine lv_iload_n hx hb dX10_misfit_4 rfl (lv_at hl 1 rfl) ?_
  refine cbVi (n := 1) (rest := []) hx hb hml hown hts hE hP hD hS hA (sX_X7_hasMan_1 NF l dC dI cy x0 x p1 v f hIv ) k_802 k_307 k_308 k_104 k_309 hd_yX7_hasMan ⟨Nat.le_of_ble_eq_true rfl, Nat.le_of_ble_eq_true rfl⟩ 27 7 rfl rfl (rfl) hl.1 rfl (Nat.le_of_ble_eq_true rfl) dX10_misfit_5 (fun r1 u H locs hw hP hD hS => ?_)
  obtain ⟨hG2, hw⟩ := hw
  rcases hw with ⟨g3, g3_0, g3_1, g3_2⟩ | ⟨g3⟩
  · skip
    subst g3
    -- @T g3_0 : 0 ≤ p1.toInt
    -- @T g3_1 : p1.toInt < (v 31).toInt
    -- @T g3_2 : p1.toInt ≤ 5
    refine lv_if_eq (tgt := 34) hx hb dX10_misfit_8 rfl (fun c0 => absurd c0 (by decide)) (fun _ => ?_)
    refine lv_aload_n hx hb dX10_misfit_11 rfl (lv_at hl 0 rfl) ?_
    refine va_get (D := (dC, dI)) (ci := 10) (v := .ref (x 26)) (C := RX10) (T := TX10) (N := 10) hx hb hts inB_10 hown hE.1 hP 0 rfl rfl 2 (Nat.le_of_ble_eq_true rfl) (hts _ k_493) (fun _ h9 => h9) rfl dX10_misfit_12 ?_
    refine lv_iload_n hx hb dX10_misfit_15 rfl (lv_at hl 2 rfl) ?_
    refine cbVi (n := 1) (rest := []) hx hb hml hown hts hE hP hD hS hA (sX_X7_hasCoat_1 NF l dC dI cy x0 x p2 v f hIv ) k_848 k_315 k_316 k_104 k_317 hd_yX7_hasCoat ⟨Nat.le_of_ble_eq_true rfl, Nat.le_of_ble_eq_true rfl⟩ 27 7 rfl rfl (rfl) hl.1 rfl (Nat.le_of_ble_eq_true rfl) dX10_misfit_16 (fun r4 u H locs hw hP hD hS => ?_)
    obtain ⟨hG5, hw⟩ := hw
    rcases hw with ⟨g6, g6_0, g6_1, g6_2⟩ | ⟨g6⟩
    · skip
      subst g6
      -- @T g6_0 : 0 ≤ p2.toInt
      -- @T g6_1 : p2.toInt < (v 32).toInt
      -- @T g6_2 : p2.toInt ≤ 5
      refine lv_if_eq (tgt := 34) hx hb dX10_misfit_19 rfl (fun c0 => absurd c0 (by decide)) (fun _ => ?_)
      refine lv_aload_n hx hb dX10_misfit_22 rfl (lv_at hl 0 rfl) ?_
      refine va_get (D := (dC, dI)) (ci := 10) (v := .ref (x 21)) (C := RX10) (T := TX10) (N := 10) hx hb hts inB_10 hown hE.1 hP 0 rfl rfl 3 (Nat.le_of_ble_eq_true rfl) (hts _ k_494) (fun _ h9 => h9) rfl dX10_misfit_23 ?_
      refine lv_iload_n hx hb dX10_misfit_26 rfl (lv_at hl 1 rfl) ?_
      refine lv_iload_n hx hb dX10_misfit_27 rfl (lv_at hl 2 rfl) ?_
      refine cbVi (n := 2) (rest := []) hx hb hml hown hts hE hP hD hS hA (sX_X1_illness_1 NF l dC dI cy x0 x p1 p2 v f hIv ) k_859 k_823 k_824 k_106 k_825 hd_yX1_illness ⟨Nat.le_of_ble_eq_true rfl, Nat.le_of_ble_eq_true rfl⟩ 22 1 rfl rfl (rfl) hl.1 rfl (Nat.le_of_ble_eq_true rfl) dX10_misfit_28 (fun r7 u H locs hw hP hD hS => ?_)
      obtain ⟨hG8, hw⟩ := hw
      obtain ⟨v9, f10⟩ := u
      obtain ⟨kV_v9, kF_f10, hIv9, hk0_v9, hk1_v9, hk7_v9, hk8_v9, hk9_v9, hk10_v9, hk31_v9, hk32_v9⟩ := hw
      have hM_v9 : KV [] v9 v := KV.tr kV_v9 hM_v rfl
      have hA_f10 : KF [13, 14] f10 f := KF.tr kF_f10 hA_f rfl
      have hP : va_P (dC, dI) vwCl (XW cy x0 x v9 f10) H := hP
      have hD : va_D A (XW cy x0 x v9 f10) := hD
      have hq0_v9 : v9 0 = (v 0) := hk0_v9
      have hq1_v9 : v9 1 = (v 1) := hk1_v9
      have hq7_v9 : v9 7 = (v 7) := hk7_v9
      have hq8_v9 : v9 8 = (v 8) := hk8_v9
      have hq9_v9 : v9 9 = (v 9) := hk9_v9
      have hq10_v9 : v9 10 = (v 10) := hk10_v9
      have hq31_v9 : v9 31 = (v 31) := hk31_v9
      have hq32_v9 : v9 32 = (v 32) := hk32_v9
      refine lv_goto (tgt := 35) hx hb dX10_misfit_31 rfl ?_
      exact ret r7 (v9, f10) _ _ _ _ _ _ rfl ⟨(gsX_X10_misfit_1_q0 hG2 hG5 hG8), hM_v9, hA_f10, hIv9, hk0_v9, hk1_v9, hk7_v9, hk8_v9, hk9_v9, hk10_v9, hk31_v9, hk32_v9⟩ hP hD hS dX10_misfit_35 (Nat.le_refl _) (Nat.le_refl _)
    · skip
      subst g6
      refine lv_if_eq (tgt := 34) hx hb dX10_misfit_19 rfl (fun _ => ?_) (fun c0 => absurd (by decide) c0)
      refine lv_iconst (v := (-1)) hx hb dX10_misfit_34 rfl ?_
      exact ret (-1) (v, f) _ _ _ _ _ _ rfl ⟨(gsX_X10_misfit_1_q1 hG2 hG5), hM_v, hA_f, hIv, rfl, rfl, rfl, rfl, rfl, rfl, rfl, rfl⟩ hP hD hS dX10_misfit_35 (Nat.le_refl _) (Nat.le_refl _)
  · skip
    subst g3
    refine lv_if_eq (tgt := 34) hx hb dX10_misfit_8 rfl (fun _ => ?_) (fun c0 => absurd (by decide) c0)
    refine lv_iconst (v := (-1)) hx hb dX10_misfit_34 rfl ?_
    exact ret (-1) (v, f) _ _ _ _ _ _ rfl ⟨(gsX_X10_misfit_1_q2 hG2), hM_v, hA_f, hIv, rfl, rfl, rfl, rfl, rfl, rfl, rfl, rfl⟩ hP hD hS dX10_misfit_35 (Nat.le_refl _) (Nat.le_refl _)
set_option maxHeartbeats 4000000 in
set_option maxRecDepth 100000 in
theorem sX_X1_wears_1 (NF : Nat) (l : Launch) (dC : Nat → ClassId) (dI : Nat → Nat → Nat) (cy : Nat → ClassId) (x0 : Nat) (x : Nat → Nat) (p1 : Int32) (v : Nat → Int32) (f : Nat → Nat → Int32) (hIv : XI v)  : ctI l (dC, dI) cy yX1_wears cX1_wears 2 .int 2 81 0 0 Unit [.ref (x 21), .int p1] (XW cy x0 x v f) (fun r u => gsX_X1_wears_1 NF p1 v f = r) (fun u => XW cy x0 x v f) := by
  refine ctI_of (by decide) (Nat.le_of_ble_eq_true rfl) (fun p e s m below meth c A ls Q hx hb hml hts hown hE hP hD hA hl ret => ?_)
  have hown : s.vm.findClass RX1 = some m.cls := hown
  have hS : va_S A s.heap s.heap [] := va_S.rf
  have hl : lv_has ls 2 [(0, .ref (x 21)), (1, .int p1)] := hl
  refine lv_aload_n hx hb dX1_wears_0 rfl (lv_at hl 0 rfl) ?_
  refine va_get (D := (dC, dI)) (ci := 1) (v := .ref (x 26)) (C := RX1) (T := TX1) (N := 2) hx hb hts inB_1 hown hE.1 hP 22 rfl rfl 0 (Nat.le_of_ble_eq_true rfl) (hts _ k_318) (fun _ h9 => h9) rfl dX1_wears_1 ?_
  refine lv_iload_n hx hb dX1_wears_4 rfl (lv_at hl 1 rfl) ?_
  refine cbVi (n := 1) (rest := []) hx hb hml hown hts hE hP hD hS hA (sX_X7_hasMan_1 NF l dC dI cy x0 x p1 v f hIv ) k_808 k_307 k_308 k_104 k_309 hd_yX7_hasMan ⟨Nat.le_of_ble_eq_true rfl, Nat.le_of_ble_eq_true rfl⟩ 27 7 rfl rfl (rfl) hl.1 rfl (Nat.le_of_ble_eq_true rfl) dX1_wears_5 (fun r1 u H locs hw hP hD hS => ?_)
  obtain ⟨hG2, hw⟩ := hw
  rcases hw with ⟨g3, g3_0, g3_1, g3_2⟩ | ⟨g3⟩
  · skip
    subst g3
    refine lv_if_eq (tgt := 23) hx hb dX1_wears_8 rfl (fun c0 => absurd c0 (by decide)) (fun _ => ?_)
    refine lv_aload_n hx hb dX1_wears_11 rfl (lv_at hl 0 rfl) ?_
    refine va_get (D := (dC, dI)) (ci := 1) (v := .ref (x 22)) (C := RX1) (T := TX1) (N := 2) hx hb hts inB_1 hown hE.1 hP 22 rfl rfl 1 (Nat.le_of_ble_eq_true rfl) (hts _ k_319) (fun _ h9 => h9) rfl dX1_wears_12 ?_
    refine lv_bipush (v := 6) hx hb dX1_wears_15 rfl ?_
    refine lv_iload_n hx hb dX1_wears_17 rfl (lv_at hl 1 rfl) ?_
    refine lv_iadd hx hb dX1_wears_18 ?_
    refine lv_topi (fun t4 et4 => ?_)
    have zt4 : t4.toInt = 6 + p1.toInt := (congrArg Int32.toInt et4).trans (add_i tc_6 rfl (om_183 g3_0) (om_184 g3_2))
    refine ldI hx hb hE hP 23 rfl (vpI (k := 44) rfl (show 0 ≤ t4.toInt from om_185 g3_0 zt4) (show t4.toInt < 44 from om_186 g3_2 zt4)) rfl rfl dX1_wears_19 ?_
    refine lv_topi (fun t6 et6 => ?_)
    refine lv_goto (tgt := 24) hx hb dX1_wears_20 rfl ?_
    exact ret t6 () _ _ _ _ _ _ rfl (gsX_X1_wears_1_q0 hG2 et4 et6) hP hD hS dX1_wears_24 (Nat.le_refl _) (Nat.le_refl _)
  · skip
    subst g3
    refine lv_if_eq (tgt := 23) hx hb dX1_wears_8 rfl (fun _ => ?_) (fun c0 => absurd (by decide) c0)
    refine lv_iconst (v := (-1)) hx hb dX1_wears_23 rfl ?_
    exact ret (-1) () _ _ _ _ _ _ rfl (gsX_X1_wears_1_q1 hG2) hP hD hS dX1_wears_24 (Nat.le_refl _) (Nat.le_refl _)
set_option maxHeartbeats 4000000 in
set_option maxRecDepth 100000 in
theorem sX_X1_fits_1 (NF : Nat) (l : Launch) (dC : Nat → ClassId) (dI : Nat → Nat → Nat) (cy : Nat → ClassId) (x0 : Nat) (x : Nat → Nat) (p1 : Int32) (p2 : Int32) (v : Nat → Int32) (f : Nat → Nat → Int32) (hIv : XI v)  : ctI l (dC, dI) cy yX1_fits cX1_fits 3 .boolean 4 133 0 0 ((Nat → Int32) × (Nat → Nat → Int32)) [.ref (x 21), .int p1, .int p2] (XW cy x0 x v f) (fun r u => gsX_X1_fits_1 NF p1 p2 v f = (r, u) ∧ KV [] u.1 v ∧ KF [13, 14] u.2 f ∧ XI u.1 ∧ u.1 0 = v 0 ∧ u.1 1 = v 1 ∧ u.1 7 = v 7 ∧ u.1 8 = v 8 ∧ u.1 9 = v 9 ∧ u.1 10 = v 10 ∧ u.1 31 = v 31 ∧ u.1 32 = v 32 ∧ ((r = 1) ∨ (r = 0))) (fun u => XW cy x0 x u.1 u.2) := by
  refine ctI_of (by decide) (Nat.le_of_ble_eq_true rfl) (fun p e s m below meth c A ls Q hx hb hml hts hown hE hP hD hA hl ret => ?_)
  have hM_v : KV [] v v := fun _ _ => rfl
  have hA_f : KF [13, 14] f f := fun _ _ => rfl
  have hown : s.vm.findClass RX1 = some m.cls := hown
  have hS : va_S A s.heap s.heap [] := va_S.rf
  have hl : lv_has ls 3 [(0, .ref (x 21)), (1, .int p1), (2, .int p2)] := hl
  refine lv_aload_n hx hb dX1_fits_0 rfl (lv_at hl 0 rfl) ?_
  refine va_get (D := (dC, dI)) (ci := 1) (v := .ref (x 26)) (C := RX1) (T := TX1) (N := 2) hx hb hts inB_1 hown hE.1 hP 22 rfl rfl 0 (Nat.le_of_ble_eq_true rfl) (hts _ k_318) (fun _ h9 => h9) rfl dX1_fits_1 ?_
  refine lv_iload_n hx hb dX1_fits_4 rfl (lv_at hl 1 rfl) ?_
  refine cbVi (n := 1) (rest := []) hx hb hml hown hts hE hP hD hS hA (sX_X7_hasMan_1 NF l dC dI cy x0 x p1 v f hIv ) k_808 k_307 k_308 k_104 k_309 hd_yX7_hasMan ⟨Nat.le_of_ble_eq_true rfl, Nat.le_of_ble_eq_true rfl⟩ 27 7 rfl rfl (rfl) hl.1 rfl (Nat.le_of_ble_eq_true rfl) dX1_fits_5 (fun r1 u H locs hw hP hD hS => ?_)
  obtain ⟨hG2, hw⟩ := hw
  rcases hw with ⟨g3, g3_0, g3_1, g3_2⟩ | ⟨g3⟩
  · skip
    subst g3
    refine lv_if_eq (tgt := 42) hx hb dX1_fits_8 rfl (fun c0 => absurd c0 (by decide)) (fun _ => ?_)
    refine lv_aload_n hx hb dX1_fits_11 rfl (lv_at hl 0 rfl) ?_
    refine va_get (D := (dC, dI)) (ci := 1) (v := .ref (x 26)) (C := RX1) (T := TX1) (N := 2) hx hb hts inB_1 hown hE.1 hP 22 rfl rfl 0 (Nat.le_of_ble_eq_true rfl) (hts _ k_318) (fun _ h9 => h9) rfl dX1_fits_12 ?_
    refine lv_iload_n hx hb dX1_fits_15 rfl (lv_at hl 2 rfl) ?_
    refine cbVi (n := 1) (rest := []) hx hb hml hown hts hE hP hD hS hA (sX_X7_hasCoat_1 NF l dC dI cy x0 x p2 v f hIv ) k_821 k_315 k_316 k_104 k_317 hd_yX7_hasCoat ⟨Nat.le_of_ble_eq_true rfl, Nat.le_of_ble_eq_true rfl⟩ 27 7 rfl rfl (rfl) hl.1 rfl (Nat.le_of_ble_eq_true rfl) dX1_fits_16 (fun r4 u H locs hw hP hD hS => ?_)
    obtain ⟨hG5, hw⟩ := hw
    rcases hw with ⟨g6, g6_0, g6_1, g6_2⟩ | ⟨g6⟩
    · skip
      subst g6
      refine lv_if_eq (tgt := 42) hx hb dX1_fits_19 rfl (fun c0 => absurd c0 (by decide)) (fun _ => ?_)
      refine lv_aload_n hx hb dX1_fits_22 rfl (lv_at hl 0 rfl) ?_
      refine lv_iload_n hx hb dX1_fits_23 rfl (lv_at hl 1 rfl) ?_
      refine lv_iload_n hx hb dX1_fits_24 rfl (lv_at hl 2 rfl) ?_
      refine cbVi (n := 2) (rest := []) hx hb hml hown hts hE hP hD hS hA (sX_X1_illness_1 NF l dC dI cy x0 x p1 p2 v f hIv ) k_822 k_823 k_824 k_106 k_825 hd_yX1_illness ⟨Nat.le_of_ble_eq_true rfl, Nat.le_of_ble_eq_true rfl⟩ 22 1 rfl rfl (rfl) hl.1 rfl (Nat.le_of_ble_eq_true rfl) dX1_fits_25 (fun r7 u H locs hw hP hD hS => ?_)
      obtain ⟨hG8, hw⟩ := hw
      obtain ⟨v9, f10⟩ := u
      obtain ⟨kV_v9, kF_f10, hIv9, hk0_v9, hk1_v9, hk7_v9, hk8_v9, hk9_v9, hk10_v9, hk31_v9, hk32_v9⟩ := hw
      have hM_v9 : KV [] v9 v := KV.tr kV_v9 hM_v rfl
      have hA_f10 : KF [13, 14] f10 f := KF.tr kF_f10 hA_f rfl
      have hP : va_P (dC, dI) vwCl (XW cy x0 x v9 f10) H := hP
      have hD : va_D A (XW cy x0 x v9 f10) := hD
      refine lv_aload_n hx hb dX1_fits_28 rfl (lv_at hl 0 rfl) ?_
      refine va_get (D := (dC, dI)) (ci := 1) (v := .ref (x 26)) (C := RX1) (T := TX1) (N := 2) hx hb hts inB_1 hown hE.1 hP 22 rfl rfl 0 (Nat.le_of_ble_eq_true rfl) (hts _ k_318) (fun _ h9 => h9) rfl dX1_fits_29 ?_
      refine va_getN (D := (dC, dI)) (ci := 7) (v := .int (v9 33)) (C := RX7) (T := TX7) (N := 10) hx hb hts inB_7 hown hE.1 hP 27 rfl rfl 5 (Nat.le_of_ble_eq_true rfl) (va_Nw.use rfl (hE.2 _ k_232)) (fun _ h9 => h9) rfl dX1_fits_32 ?_
      refine lv_icmp_gt (tgt := 42) hx hb dX1_fits_35 rfl (fun c11 => ?_) (fun c11 => ?_)
      · skip
        refine lv_iconst (v := 0) hx hb dX1_fits_42 rfl ?_
        exact ret 0 (v9, f10) _ _ _ _ _ _ rfl ⟨(gsX_X1_fits_1_q0 hG2 hG5 hG8 c11), hM_v9, hA_f10, hIv9, hk0_v9, hk1_v9, hk7_v9, hk8_v9, hk9_v9, hk10_v9, hk31_v9, hk32_v9, (Or.inr rfl)⟩ hP hD hS dX1_fits_43 (Nat.le_refl _) (Nat.le_refl _)
      · skip
        refine lv_iconst (v := 1) hx hb dX1_fits_38 rfl ?_
        refine lv_goto (tgt := 43) hx hb dX1_fits_39 rfl ?_
        exact ret 1 (v9, f10) _ _ _ _ _ _ rfl ⟨(gsX_X1_fits_1_q1 hG2 hG5 hG8 c11), hM_v9, hA_f10, hIv9, hk0_v9, hk1_v9, hk7_v9, hk8_v9, hk9_v9, hk10_v9, hk31_v9, hk32_v9, (Or.inl rfl)⟩ hP hD hS dX1_fits_43 (Nat.le_refl _) (Nat.le_refl _)
    · skip
      subst g6
      refine lv_if_eq (tgt := 42) hx hb dX1_fits_19 rfl (fun _ => ?_) (fun c0 => absurd (by decide) c0)
      refine lv_iconst (v := 0) hx hb dX1_fits_42 rfl ?_
      exact ret 0 (v, f) _ _ _ _ _ _ rfl ⟨(gsX_X1_fits_1_q2 hG2 hG5), hM_v, hA_f, hIv, rfl, rfl, rfl, rfl, rfl, rfl, rfl, rfl, (Or.inr rfl)⟩ hP hD hS dX1_fits_43 (Nat.le_refl _) (Nat.le_refl _)
  · skip
    subst g3
    refine lv_if_eq (tgt := 42) hx hb dX1_fits_8 rfl (fun _ => ?_) (fun c0 => absurd (by decide) c0)
    refine lv_iconst (v := 0) hx hb dX1_fits_42 rfl ?_
    exact ret 0 (v, f) _ _ _ _ _ _ rfl ⟨(gsX_X1_fits_1_q3 hG2), hM_v, hA_f, hIv, rfl, rfl, rfl, rfl, rfl, rfl, rfl, rfl, (Or.inr rfl)⟩ hP hD hS dX1_fits_43 (Nat.le_refl _) (Nat.le_refl _)
set_option maxHeartbeats 4000000 in
set_option maxRecDepth 100000 in
theorem sX_X1_setWears_1 (NF : Nat) (l : Launch) (dC : Nat → ClassId) (dI : Nat → Nat → Nat) (cy : Nat → ClassId) (x0 : Nat) (x : Nat → Nat) (p1 : Int32) (p2 : Int32) (v : Nat → Int32) (f : Nat → Nat → Int32) (hIv : XI v)  : ctV l (dC, dI) cy yX1_setWears cX1_setWears 3 2 81 0 0 ((Nat → Int32) × (Nat → Nat → Int32)) [.ref (x 21), .int p1, .int p2] (XW cy x0 x v f) (fun u => gsX_X1_setWears_1 NF p1 p2 v f = u ∧ KV [] u.1 v ∧ KF [15] u.2 f ∧ XI u.1 ∧ u.1 0 = v 0 ∧ u.1 1 = v 1 ∧ u.1 7 = v 7 ∧ u.1 8 = v 8 ∧ u.1 9 = v 9 ∧ u.1 10 = v 10 ∧ u.1 31 = v 31 ∧ u.1 32 = v 32) (fun u => XW cy x0 x u.1 u.2) := by
  refine ctV_of (by decide) (Nat.le_of_ble_eq_true rfl) (fun p e s m below meth c A ls Q hx hb hml hts hown hnm hE hP hD hA hl ret => ?_)
  have hM_v : KV [] v v := fun _ _ => rfl
  have hA_f : KF [15] f f := fun _ _ => rfl
  have hown : s.vm.findClass RX1 = some m.cls := hown
  have hS : va_S A s.heap s.heap [] := va_S.rf
  have hl : lv_has ls 3 [(0, .ref (x 21)), (1, .int p1), (2, .int p2)] := hl
  refine lv_aload_n hx hb dX1_setWears_0 rfl (lv_at hl 0 rfl) ?_
  refine va_get (D := (dC, dI)) (ci := 1) (v := .ref (x 26)) (C := RX1) (T := TX1) (N := 2) hx hb hts inB_1 hown hE.1 hP 22 rfl rfl 0 (Nat.le_of_ble_eq_true rfl) (hts _ k_318) (fun _ h9 => h9) rfl dX1_setWears_1 ?_
  refine lv_iload_n hx hb dX1_setWears_4 rfl (lv_at hl 1 rfl) ?_
  refine cbVi (n := 1) (rest := []) hx hb hml hown hts hE hP hD hS hA (sX_X7_hasMan_1 NF l dC dI cy x0 x p1 v f hIv ) k_808 k_307 k_308 k_104 k_309 hd_yX7_hasMan ⟨Nat.le_of_ble_eq_true rfl, Nat.le_of_ble_eq_true rfl⟩ 27 7 rfl rfl (rfl) hl.1 rfl (Nat.le_of_ble_eq_true rfl) dX1_setWears_5 (fun r1 u H locs hw hP hD hS => ?_)
  obtain ⟨hG2, hw⟩ := hw
  rcases hw with ⟨g3, g3_0, g3_1, g3_2⟩ | ⟨g3⟩
  · skip
    subst g3
    refine lv_if_eq (tgt := 21) hx hb dX1_setWears_8 rfl (fun c0 => absurd c0 (by decide)) (fun _ => ?_)
    refine lv_aload_n hx hb dX1_setWears_11 rfl (lv_at hl 0 rfl) ?_
    refine va_get (D := (dC, dI)) (ci := 1) (v := .ref (x 22)) (C := RX1) (T := TX1) (N := 2) hx hb hts inB_1 hown hE.1 hP 22 rfl rfl 1 (Nat.le_of_ble_eq_true rfl) (hts _ k_319) (fun _ h9 => h9) rfl dX1_setWears_12 ?_
    refine lv_bipush (v := 6) hx hb dX1_setWears_15 rfl ?_
    refine lv_iload_n hx hb dX1_setWears_17 rfl (lv_at hl 1 rfl) ?_
    refine lv_iadd hx hb dX1_setWears_18 ?_
    refine lv_topi (fun t4 et4 => ?_)
    have zt4 : t4.toInt = 6 + p1.toInt := (congrArg Int32.toInt et4).trans (add_i tc_6 rfl (om_183 g3_0) (om_184 g3_2))
    refine lv_iload_n hx hb dX1_setWears_19 rfl (lv_at hl 2 rfl) ?_
    refine stI hx hb hE hP hD hS 23 rfl (vpI (k := 44) rfl (show 0 ≤ t4.toInt from om_185 g3_0 zt4) (show t4.toInt < 44 from om_186 g3_2 zt4)) rfl dX1_setWears_20 (fun H locs hP hD hS => ?_)
    obtain ⟨f6, ef6, hP, hD⟩ : ∃ fz9, fz9 = upd2 f 15 (upd (f 15) t4.toNatClampNeg p2) ∧ va_P (dC, dI) vwCl (XW cy x0 x v fz9) H ∧ va_D A (XW cy x0 x v fz9) := ⟨_, rfl, hP, hD⟩
    have hA_f6 : KF [15] f6 f := by rw [ef6]; exact KF.up hA_f rfl
    exact ret (v, f6) _ _ _ _ _ _ ⟨(gsX_X1_setWears_1_q0 hG2 et4 ef6), hM_v, hA_f6, hIv, rfl, rfl, rfl, rfl, rfl, rfl, rfl, rfl⟩ hP hD hS dX1_setWears_21 (Nat.le_refl _) (Nat.le_refl _)
  · skip
    subst g3
    refine lv_if_eq (tgt := 21) hx hb dX1_setWears_8 rfl (fun _ => ?_) (fun c0 => absurd (by decide) c0)
    exact ret (v, f) _ _ _ _ _ _ ⟨(gsX_X1_setWears_1_q1 hG2), hM_v, hA_f, hIv, rfl, rfl, rfl, rfl, rfl, rfl, rfl, rfl⟩ hP hD hS dX1_setWears_21 (Nat.le_refl _) (Nat.le_refl _)
set_option maxHeartbeats 4000000 in
set_option maxRecDepth 100000 in
theorem sX_X1_setPart_1 (NF : Nat) (l : Launch) (dC : Nat → ClassId) (dI : Nat → Nat → Nat) (cy : Nat → ClassId) (x0 : Nat) (x : Nat → Nat) (p1 : Int32) (p2 : Int32) (p3 : Int32) (v : Nat → Int32) (f : Nat → Nat → Int32) (hIv : XI v)  : ctV l (dC, dI) cy yX1_setPart cX1_setPart 4 2 81 0 0 ((Nat → Int32) × (Nat → Nat → Int32)) [.ref (x 21), .int p1, .int p2, .int p3] (XW cy x0 x v f) (fun u => gsX_X1_setPart_1 NF p1 p2 p3 v f = u ∧ KV [] u.1 v ∧ KF [15] u.2 f ∧ XI u.1 ∧ u.1 0 = v 0 ∧ u.1 1 = v 1 ∧ u.1 7 = v 7 ∧ u.1 8 = v 8 ∧ u.1 9 = v 9 ∧ u.1 10 = v 10 ∧ u.1 31 = v 31 ∧ u.1 32 = v 32) (fun u => XW cy x0 x u.1 u.2) := by
  refine ctV_of (by decide) (Nat.le_of_ble_eq_true rfl) (fun p e s m below meth c A ls Q hx hb hml hts hown hnm hE hP hD hA hl ret => ?_)
  have hM_v : KV [] v v := fun _ _ => rfl
  have hA_f : KF [15] f f := fun _ _ => rfl
  have hown : s.vm.findClass RX1 = some m.cls := hown
  have hS : va_S A s.heap s.heap [] := va_S.rf
  have hl : lv_has ls 4 [(0, .ref (x 21)), (1, .int p1), (2, .int p2), (3, .int p3)] := hl
  refine lv_aload_n hx hb dX1_setPart_0 rfl (lv_at hl 0 rfl) ?_
  refine va_get (D := (dC, dI)) (ci := 1) (v := .ref (x 26)) (C := RX1) (T := TX1) (N := 2) hx hb hts inB_1 hown hE.1 hP 22 rfl rfl 0 (Nat.le_of_ble_eq_true rfl) (hts _ k_318) (fun _ h9 => h9) rfl dX1_setPart_1 ?_
  refine lv_iload_n hx hb dX1_setPart_4 rfl (lv_at hl 2 rfl) ?_
  refine cbVi (n := 1) (rest := []) hx hb hml hown hts hE hP hD hS hA (sX_X7_hasCoat_1 NF l dC dI cy x0 x p2 v f hIv ) k_821 k_315 k_316 k_104 k_317 hd_yX7_hasCoat ⟨Nat.le_of_ble_eq_true rfl, Nat.le_of_ble_eq_true rfl⟩ 27 7 rfl rfl (rfl) hl.1 rfl (Nat.le_of_ble_eq_true rfl) dX1_setPart_5 (fun r1 u H locs hw hP hD hS => ?_)
  obtain ⟨hG2, hw⟩ := hw
  rcases hw with ⟨g3, g3_0, g3_1, g3_2⟩ | ⟨g3⟩
  · skip
    subst g3
    refine lv_if_eq (tgt := 35) hx hb dX1_setPart_8 rfl (fun c0 => absurd c0 (by decide)) (fun _ => ?_)
    refine lv_iload_n hx hb dX1_setPart_11 rfl (lv_at hl 1 rfl) ?_
    refine lv_if_lt (tgt := 35) hx hb dX1_setPart_12 rfl (fun c4 => ?_) (fun c4 => ?_)
    · skip
      exact ret (v, f) _ _ _ _ _ _ ⟨(gsX_X1_setPart_1_q0 hG2 c4), hM_v, hA_f, hIv, rfl, rfl, rfl, rfl, rfl, rfl, rfl, rfl⟩ hP hD hS dX1_setPart_35 (Nat.le_refl _) (Nat.le_refl _)
    · skip
      have zc4 : ¬ (p1.toInt < 0) := zLn rfl tc_0 c4
      refine lv_iload_n hx hb dX1_setPart_15 rfl (lv_at hl 1 rfl) ?_
      refine lv_iconst (v := 5) hx hb dX1_setPart_16 rfl ?_
      refine lv_icmp_ge (tgt := 35) hx hb dX1_setPart_17 rfl (fun c5 => ?_) (fun c5 => ?_)
      · skip
        exact ret (v, f) _ _ _ _ _ _ ⟨(gsX_X1_setPart_1_q1 hG2 c4 c5), hM_v, hA_f, hIv, rfl, rfl, rfl, rfl, rfl, rfl, rfl, rfl⟩ hP hD hS dX1_setPart_35 (Nat.le_refl _) (Nat.le_refl _)
      · skip
        have zc5 : ¬ (5 ≤ p1.toInt) := zMn tc_5 rfl c5
        refine lv_aload_n hx hb dX1_setPart_20 rfl (lv_at hl 0 rfl) ?_
        refine va_get (D := (dC, dI)) (ci := 1) (v := .ref (x 22)) (C := RX1) (T := TX1) (N := 2) hx hb hts inB_1 hown hE.1 hP 22 rfl rfl 1 (Nat.le_of_ble_eq_true rfl) (hts _ k_319) (fun _ h9 => h9) rfl dX1_setPart_21 ?_
        refine lv_bipush (v := 12) hx hb dX1_setPart_24 rfl ?_
        refine lv_iload_n hx hb dX1_setPart_26 rfl (lv_at hl 1 rfl) ?_
        refine lv_bipush (v := 6) hx hb dX1_setPart_27 rfl ?_
        refine lv_imul hx hb dX1_setPart_29 ?_
        refine lv_topi (fun t6 et6 => ?_)
        have zt6 : t6.toInt = p1.toInt * 6 := (congrArg Int32.toInt et6).trans (mul_i rfl tc_6 (om_101 zc4) (om_111 zc5))
        refine lv_iadd hx hb dX1_setPart_30 ?_
        refine lv_topi (fun t8 et8 => ?_)
        have rg9 := fb_rng t6
        have zt8 : t8.toInt = 12 + t6.toInt := (congrArg Int32.toInt et8).trans (add_i tc_12 rfl (om_112 rg9) (om_113 zc5 zt6))
        refine lv_iload_n hx hb dX1_setPart_31 rfl (lv_at hl 2 rfl) ?_
        refine lv_iadd hx hb dX1_setPart_32 ?_
        refine lv_topi (fun t10 et10 => ?_)
        have rg11 := fb_rng t8
        have zt10 : t10.toInt = t8.toInt + p2.toInt := (congrArg Int32.toInt et10).trans (add_i rfl rfl (om_103 g3_0 rg11) (om_144 g3_2 zc5 zt6 zt8))
        refine lv_iload_n hx hb dX1_setPart_33 rfl (lv_at hl 3 rfl) ?_
        refine stI hx hb hE hP hD hS 23 rfl (vpI (k := 44) rfl (show 0 ≤ t10.toInt from om_145 g3_0 zc4 zt6 zt8 zt10) (show t10.toInt < 44 from om_146 g3_2 zc5 zt6 zt8 zt10)) rfl dX1_setPart_34 (fun H locs hP hD hS => ?_)
        obtain ⟨f13, ef13, hP, hD⟩ : ∃ fz9, fz9 = upd2 f 15 (upd (f 15) t10.toNatClampNeg p3) ∧ va_P (dC, dI) vwCl (XW cy x0 x v fz9) H ∧ va_D A (XW cy x0 x v fz9) := ⟨_, rfl, hP, hD⟩
        have hA_f13 : KF [15] f13 f := by rw [ef13]; exact KF.up hA_f rfl
        exact ret (v, f13) _ _ _ _ _ _ ⟨(gsX_X1_setPart_1_q2 hG2 c4 c5 et6 et8 et10 ef13), hM_v, hA_f13, hIv, rfl, rfl, rfl, rfl, rfl, rfl, rfl, rfl⟩ hP hD hS dX1_setPart_35 (Nat.le_refl _) (Nat.le_refl _)
  · skip
    subst g3
    refine lv_if_eq (tgt := 35) hx hb dX1_setPart_8 rfl (fun _ => ?_) (fun c0 => absurd (by decide) c0)
    exact ret (v, f) _ _ _ _ _ _ ⟨(gsX_X1_setPart_1_q3 hG2), hM_v, hA_f, hIv, rfl, rfl, rfl, rfl, rfl, rfl, rfl, rfl⟩ hP hD hS dX1_setPart_35 (Nat.le_refl _) (Nat.le_refl _)
set_option maxHeartbeats 4000000 in
set_option maxRecDepth 100000 in
theorem sX_X1_weather_1 (NF : Nat) (l : Launch) (dC : Nat → ClassId) (dI : Nat → Nat → Nat) (cy : Nat → ClassId) (x0 : Nat) (x : Nat → Nat) (p1 : Int32) (p2 : Int32) (v : Nat → Int32) (f : Nat → Nat → Int32) (hIv : XI v)  : ctV l (dC, dI) cy yX1_weather cX1_weather 3 3 104 0 0 ((Nat → Int32) × (Nat → Nat → Int32)) [.ref (x 21), .int p1, .int p2] (XW cy x0 x v f) (fun u => gsX_X1_weather_1 NF p1 p2 v f = u ∧ KV [] u.1 v ∧ KF [15] u.2 f ∧ XI u.1 ∧ u.1 0 = v 0 ∧ u.1 1 = v 1 ∧ u.1 7 = v 7 ∧ u.1 8 = v 8 ∧ u.1 9 = v 9 ∧ u.1 10 = v 10 ∧ u.1 31 = v 31 ∧ u.1 32 = v 32) (fun u => XW cy x0 x u.1 u.2) := by
  refine ctV_of (by decide) (Nat.le_of_ble_eq_true rfl) (fun p e s m below meth c A ls Q hx hb hml hts hown hnm hE hP hD hA hl ret => ?_)
  have hM_v : KV [] v v := fun _ _ => rfl
  have hA_f : KF [15] f f := fun _ _ => rfl
  have hown : s.vm.findClass RX1 = some m.cls := hown
  have hS : va_S A s.heap s.heap [] := va_S.rf
  have hl : lv_has ls 3 [(0, .ref (x 21)), (1, .int p1), (2, .int p2)] := hl
  refine lv_aload_n hx hb dX1_weather_0 rfl (lv_at hl 0 rfl) ?_
  refine lv_iconst (v := 3) hx hb dX1_weather_1 rfl ?_
  refine lv_iload_n hx hb dX1_weather_2 rfl (lv_at hl 1 rfl) ?_
  refine lv_bipush (v := 99) hx hb dX1_weather_3 rfl ?_
  refine lv_aload_n hx hb dX1_weather_5 rfl (lv_at hl 0 rfl) ?_
  refine lv_iconst (v := 3) hx hb dX1_weather_6 rfl ?_
  refine lv_iload_n hx hb dX1_weather_7 rfl (lv_at hl 1 rfl) ?_
  refine cbVi (n := 2) (rest := [.int 99, .int p1, .int 3, .ref (x 21)]) hx hb hml hown hts hE hP hD hS hA (sX_X1_part_1 NF l dC dI cy x0 x 3 p1 v f hIv ) k_827 k_828 k_829 k_106 k_830 hd_yX1_part ⟨Nat.le_of_ble_eq_true rfl, Nat.le_of_ble_eq_true rfl⟩ 22 1 rfl rfl (rfl) hl.1 rfl (Nat.le_of_ble_eq_true rfl) dX1_weather_8 (fun r1 u H locs hw hP hD hS => ?_)
  have hG2 := hw
  refine lv_iconst (v := 1) hx hb dX1_weather_11 rfl ?_
  refine lv_iadd hx hb dX1_weather_12 ?_
  refine lv_topi (fun t3 et3 => ?_)
  refine va_mmin hx hb (by rw [hml]; exact hl.1.symm) hown (hts _ k_869) (hts _ k_643) (hts _ k_119) (hts _ k_644) (Nat.le_of_ble_eq_true rfl) (Nat.le_of_ble_eq_true rfl) (Nat.le_of_ble_eq_true rfl) (Nat.le_of_ble_eq_true rfl) dX1_weather_13 ?_
  refine lv_topi (fun t4 et4 => ?_)
  have zt4 : t4.toInt = min (99) (t3.toInt) := by rw [et4]; exact mmin_i (by decide) rfl
  refine cbVv (n := 3) (rest := []) hx hb hml hown hts hE hP hD hS hA (sX_X1_setPart_1 NF l dC dI cy x0 x 3 p1 t4 v f hIv ) k_874 k_875 k_876 k_106 k_877 hd_yX1_setPart ⟨Nat.le_of_ble_eq_true rfl, Nat.le_of_ble_eq_true rfl⟩ 22 1 rfl rfl (rfl) hl.1 rfl (Nat.le_of_ble_eq_true rfl) dX1_weather_16 (fun u H locs hw hP hD hS => ?_)
  obtain ⟨hG5, hw⟩ := hw
  obtain ⟨v6, f7⟩ := u
  obtain ⟨kV_v6, kF_f7, hIv6, hk0_v6, hk1_v6, hk7_v6, hk8_v6, hk9_v6, hk10_v6, hk31_v6, hk32_v6⟩ := hw
  have hM_v6 : KV [] v6 v := KV.tr kV_v6 hM_v rfl
  have hA_f7 : KF [15] f7 f := KF.tr kF_f7 hA_f rfl
  have hP : va_P (dC, dI) vwCl (XW cy x0 x v6 f7) H := hP
  have hD : va_D A (XW cy x0 x v6 f7) := hD
  have hq0_v6 : v6 0 = (v 0) := hk0_v6
  have hq1_v6 : v6 1 = (v 1) := hk1_v6
  have hq7_v6 : v6 7 = (v 7) := hk7_v6
  have hq8_v6 : v6 8 = (v 8) := hk8_v6
  have hq9_v6 : v6 9 = (v 9) := hk9_v6
  have hq10_v6 : v6 10 = (v 10) := hk10_v6
  have hq31_v6 : v6 31 = (v 31) := hk31_v6
  have hq32_v6 : v6 32 = (v 32) := hk32_v6
  refine lv_aload_n hx hb dX1_weather_19 rfl (lv_at hl 0 rfl) ?_
  refine lv_iconst (v := 1) hx hb dX1_weather_20 rfl ?_
  refine lv_iload_n hx hb dX1_weather_21 rfl (lv_at hl 1 rfl) ?_
  refine lv_iconst (v := 0) hx hb dX1_weather_22 rfl ?_
  refine lv_aload_n hx hb dX1_weather_23 rfl (lv_at hl 0 rfl) ?_
  refine lv_iconst (v := 1) hx hb dX1_weather_24 rfl ?_
  refine lv_iload_n hx hb dX1_weather_25 rfl (lv_at hl 1 rfl) ?_
  refine cbVi (n := 2) (rest := [.int 0, .int p1, .int 1, .ref (x 21)]) hx hb hml hown hts hE hP hD hS hA (sX_X1_part_1 NF l dC dI cy x0 x 1 p1 v6 f7 hIv6 ) k_827 k_828 k_829 k_106 k_830 hd_yX1_part ⟨Nat.le_of_ble_eq_true rfl, Nat.le_of_ble_eq_true rfl⟩ 22 1 rfl rfl (rfl) hl.1 rfl (Nat.le_of_ble_eq_true rfl) dX1_weather_26 (fun r8 u H locs hw hP hD hS => ?_)
  have hG9 := hw
  refine lv_iload_n hx hb dX1_weather_29 rfl (lv_at hl 2 rfl) ?_
  refine lv_isub hx hb dX1_weather_30 ?_
  refine lv_topi (fun t10 et10 => ?_)
  refine va_mmax hx hb (by rw [hml]; exact hl.1.symm) hown (hts _ k_878) (hts _ k_640) (hts _ k_119) (hts _ k_641) (Nat.le_of_ble_eq_true rfl) (Nat.le_of_ble_eq_true rfl) (Nat.le_of_ble_eq_true rfl) (Nat.le_of_ble_eq_true rfl) dX1_weather_31 ?_
  refine lv_topi (fun t11 et11 => ?_)
  have zt11 : t11.toInt = max (0) (t10.toInt) := by rw [et11]; exact mmax_i (by decide) rfl
  refine cbVv (n := 3) (rest := []) hx hb hml hown hts hE hP hD hS hA (sX_X1_setPart_1 NF l dC dI cy x0 x 1 p1 t11 v6 f7 hIv6 ) k_874 k_875 k_876 k_106 k_877 hd_yX1_setPart ⟨Nat.le_of_ble_eq_true rfl, Nat.le_of_ble_eq_true rfl⟩ 22 1 rfl rfl (rfl) hl.1 rfl (Nat.le_of_ble_eq_true rfl) dX1_weather_34 (fun u H locs hw hP hD hS => ?_)
  obtain ⟨hG12, hw⟩ := hw
  obtain ⟨v13, f14⟩ := u
  obtain ⟨kV_v13, kF_f14, hIv13, hk0_v13, hk1_v13, hk7_v13, hk8_v13, hk9_v13, hk10_v13, hk31_v13, hk32_v13⟩ := hw
  have hM_v13 : KV [] v13 v := KV.tr kV_v13 hM_v6 rfl
  have hA_f14 : KF [15] f14 f := KF.tr kF_f14 hA_f7 rfl
  have hP : va_P (dC, dI) vwCl (XW cy x0 x v13 f14) H := hP
  have hD : va_D A (XW cy x0 x v13 f14) := hD
  have hq0_v13 : v13 0 = (v 0) := hk0_v13.trans hq0_v6
  have hq1_v13 : v13 1 = (v 1) := hk1_v13.trans hq1_v6
  have hq7_v13 : v13 7 = (v 7) := hk7_v13.trans hq7_v6
  have hq8_v13 : v13 8 = (v 8) := hk8_v13.trans hq8_v6
  have hq9_v13 : v13 9 = (v 9) := hk9_v13.trans hq9_v6
  have hq10_v13 : v13 10 = (v 10) := hk10_v13.trans hq10_v6
  have hq31_v13 : v13 31 = (v 31) := hk31_v13.trans hq31_v6
  have hq32_v13 : v13 32 = (v 32) := hk32_v13.trans hq32_v6
  refine lv_aload_n hx hb dX1_weather_37 rfl (lv_at hl 0 rfl) ?_
  refine lv_iconst (v := 0) hx hb dX1_weather_38 rfl ?_
  refine lv_iload_n hx hb dX1_weather_39 rfl (lv_at hl 1 rfl) ?_
  refine lv_iconst (v := 0) hx hb dX1_weather_40 rfl ?_
  refine lv_aload_n hx hb dX1_weather_41 rfl (lv_at hl 0 rfl) ?_
  refine lv_iconst (v := 0) hx hb dX1_weather_42 rfl ?_
  refine lv_iload_n hx hb dX1_weather_43 rfl (lv_at hl 1 rfl) ?_
  refine cbVi (n := 2) (rest := [.int 0, .int p1, .int 0, .ref (x 21)]) hx hb hml hown hts hE hP hD hS hA (sX_X1_part_1 NF l dC dI cy x0 x 0 p1 v13 f14 hIv13 ) k_827 k_828 k_829 k_106 k_830 hd_yX1_part ⟨Nat.le_of_ble_eq_true rfl, Nat.le_of_ble_eq_true rfl⟩ 22 1 rfl rfl (rfl) hl.1 rfl (Nat.le_of_ble_eq_true rfl) dX1_weather_44 (fun r15 u H locs hw hP hD hS => ?_)
  have hG16 := hw
  refine lv_iload_n hx hb dX1_weather_47 rfl (lv_at hl 2 rfl) ?_
  refine lv_isub hx hb dX1_weather_48 ?_
  refine lv_topi (fun t17 et17 => ?_)
  refine va_mmax hx hb (by rw [hml]; exact hl.1.symm) hown (hts _ k_878) (hts _ k_640) (hts _ k_119) (hts _ k_641) (Nat.le_of_ble_eq_true rfl) (Nat.le_of_ble_eq_true rfl) (Nat.le_of_ble_eq_true rfl) (Nat.le_of_ble_eq_true rfl) dX1_weather_49 ?_
  refine lv_topi (fun t18 et18 => ?_)
  have zt18 : t18.toInt = max (0) (t17.toInt) := by rw [et18]; exact mmax_i (by decide) rfl
  refine cbVv (n := 3) (rest := []) hx hb hml hown hts hE hP hD hS hA (sX_X1_setPart_1 NF l dC dI cy x0 x 0 p1 t18 v13 f14 hIv13 ) k_874 k_875 k_876 k_106 k_877 hd_yX1_setPart ⟨Nat.le_of_ble_eq_true rfl, Nat.le_of_ble_eq_true rfl⟩ 22 1 rfl rfl (rfl) hl.1 rfl (Nat.le_of_ble_eq_true rfl) dX1_weather_52 (fun u H locs hw hP hD hS => ?_)
  obtain ⟨hG19, hw⟩ := hw
  obtain ⟨v20, f21⟩ := u
  obtain ⟨kV_v20, kF_f21, hIv20, hk0_v20, hk1_v20, hk7_v20, hk8_v20, hk9_v20, hk10_v20, hk31_v20, hk32_v20⟩ := hw
  have hM_v20 : KV [] v20 v := KV.tr kV_v20 hM_v13 rfl
  have hA_f21 : KF [15] f21 f := KF.tr kF_f21 hA_f14 rfl
  have hP : va_P (dC, dI) vwCl (XW cy x0 x v20 f21) H := hP
  have hD : va_D A (XW cy x0 x v20 f21) := hD
  have hq0_v20 : v20 0 = (v 0) := hk0_v20.trans hq0_v13
  have hq1_v20 : v20 1 = (v 1) := hk1_v20.trans hq1_v13
  have hq7_v20 : v20 7 = (v 7) := hk7_v20.trans hq7_v13
  have hq8_v20 : v20 8 = (v 8) := hk8_v20.trans hq8_v13
  have hq9_v20 : v20 9 = (v 9) := hk9_v20.trans hq9_v13
  have hq10_v20 : v20 10 = (v 10) := hk10_v20.trans hq10_v13
  have hq31_v20 : v20 31 = (v 31) := hk31_v20.trans hq31_v13
  have hq32_v20 : v20 32 = (v 32) := hk32_v20.trans hq32_v13
  exact ret (v20, f21) _ _ _ _ _ _ ⟨(gsX_X1_weather_1_q0 hG2.symm et3 et4 hG5 hG9.symm et10 et11 hG12 hG16.symm et17 et18 hG19), hM_v20, hA_f21, hIv20, (hk0_v20.trans (hk0_v13.trans hk0_v6)), (hk1_v20.trans (hk1_v13.trans hk1_v6)), (hk7_v20.trans (hk7_v13.trans hk7_v6)), (hk8_v20.trans (hk8_v13.trans hk8_v6)), (hk9_v20.trans (hk9_v13.trans hk9_v6)), (hk10_v20.trans (hk10_v13.trans hk10_v6)), (hk31_v20.trans (hk31_v13.trans hk31_v6)), (hk32_v20.trans (hk32_v13.trans hk32_v6))⟩ hP hD hS dX1_weather_55 (Nat.le_refl _) (Nat.le_refl _)
set_option maxHeartbeats 4000000 in
set_option maxRecDepth 100000 in
theorem sX_X1_passDay_1 (NF : Nat) (l : Launch) (dC : Nat → ClassId) (dI : Nat → Nat → Nat) (cy : Nat → ClassId) (x0 : Nat) (x : Nat → Nat) (p1 : Int32) (v : Nat → Int32) (f : Nat → Nat → Int32) (hIv : XI v)  : ctI l (dC, dI) cy yX1_passDay cX1_passDay 5 .int 5 155 0 0 ((Nat → Int32) × (Nat → Nat → Int32)) [.ref (x 21), .int p1] (XW cy x0 x v f) (fun r u => gsX_X1_passDay_1 NF p1 v f = (r, u) ∧ KV [] u.1 v ∧ KF [13, 14, 15] u.2 f ∧ XI u.1 ∧ u.1 0 = v 0 ∧ u.1 1 = v 1 ∧ u.1 7 = v 7 ∧ u.1 8 = v 8 ∧ u.1 9 = v 9 ∧ u.1 10 = v 10 ∧ u.1 31 = v 31 ∧ u.1 32 = v 32) (fun u => XW cy x0 x u.1 u.2) := by
  refine ctI_of (by decide) (Nat.le_of_ble_eq_true rfl) (fun p e s m below meth c A ls Q hx hb hml hts hown hE hP hD hA hl ret => ?_)
  have hM_v : KV [] v v := fun _ _ => rfl
  have hA_f : KF [13, 14, 15] f f := fun _ _ => rfl
  have hown : s.vm.findClass RX1 = some m.cls := hown
  have hS : va_S A s.heap s.heap [] := va_S.rf
  have hl : lv_has ls 5 [(0, .ref (x 21)), (1, .int p1)] := hl
  refine lv_iconst (v := 0) hx hb dX1_passDay_0 rfl ?_
  refine lv_istore_n (lv' := [(2, .int 0), (0, .ref (x 21)), (1, .int p1)]) hx hb dX1_passDay_1 rfl hl (Nat.le_of_ble_eq_true rfl) rfl (fun ls hl => ?_)
  have lp1 : ∀ (n1 : Nat) (l2_1 : Int32) (v1 : Nat → Int32) (f1 : Nat → Nat → Int32), XI v1 → v1 0 = (v 0) → v1 1 = (v 1) → v1 7 = (v 7) → v1 8 = (v 8) → v1 9 = (v 9) → v1 10 = (v 10) → v1 31 = (v 31) → v1 32 = (v 32) → gsX_X1_passDay_1_L1 NF p1 v n1 l2_1 v1 f1 = (gsX_X1_passDay_1 NF p1 v f) → ((0 : Int) ≤ l2_1.toInt ∧ l2_1.toInt ≤ 2147483647) → KV [] v1 v → KF [13, 14, 15] f1 f → (2147483647 - l2_1.toInt).toNat < n1 → ∀ (H : Heap) (locs : List Loc) (ls : Array Slot), va_P (dC, dI) vwCl (XW cy x0 x v1 f1) H → va_D A (XW cy x0 x v1 f1) → va_S A s.heap H locs → lv_has ls 5 [(2, .int l2_1), (0, .ref (x 21)), (1, .int p1)] → W p l e { frames := 5, cells := 0, slots := 0, locals := 155 } s m ([.ref (x 21), .int p1] : List Value).toArray below meth c H locs 0 0 Q (F0 m 2 ls []) := by
    intro n1
    induction n1 with
    | zero => intro l2_1 v1 f1 hIv1 hq0_v1 hq1_v1 hq7_v1 hq8_v1 hq9_v1 hq10_v1 hq31_v1 hq32_v1 hT1 hr2_1 hM_v1 hA_f1 hm; exact absurd hm (Nat.not_lt_zero _)
    | succ n1 ih1 =>
      intro l2_1 v1 f1 hIv1 hq0_v1 hq1_v1 hq7_v1 hq8_v1 hq9_v1 hq10_v1 hq31_v1 hq32_v1 hT1 hr2_1 hM_v1 hA_f1 hm1 H locs ls hP hD hS hl
      refine lv_iload_n hx hb dX1_passDay_2 rfl (lv_at hl 0 rfl) ?_
      refine lv_aload_n hx hb dX1_passDay_3 rfl (lv_at hl 1 rfl) ?_
      refine va_get (D := (dC, dI)) (ci := 1) (v := .ref (x 26)) (C := RX1) (T := TX1) (N := 2) hx hb hts inB_1 hown hE.1 hP 22 rfl rfl 0 (Nat.le_of_ble_eq_true rfl) (hts _ k_318) (fun _ h9 => h9) rfl dX1_passDay_4 ?_
      refine va_getN (D := (dC, dI)) (ci := 7) (v := .int (v1 31)) (C := RX7) (T := TX7) (N := 10) hx hb hts inB_7 hown hE.1 hP 27 rfl rfl 3 (Nat.le_of_ble_eq_true rfl) (va_Nw.use rfl (hE.2 _ k_219)) (fun _ h9 => h9) rfl dX1_passDay_7 ?_
      refine tI (y := (v 31)) hq31_v1 ?_
      have b31_v : 0 ≤ (v 31).toInt ∧ (v 31).toInt ≤ 6 := Xb_31 hIv
      refine lv_icmp_ge (tgt := 46) hx hb dX1_passDay_10 rfl (fun c2 => ?_) (fun c2 => ?_)
      · skip
        refine lv_aload_n hx hb dX1_passDay_46 rfl (lv_at hl 1 rfl) ?_
        refine va_get (D := (dC, dI)) (ci := 1) (v := .ref (x 22)) (C := RX1) (T := TX1) (N := 2) hx hb hts inB_1 hown hE.1 hP 22 rfl rfl 1 (Nat.le_of_ble_eq_true rfl) (hts _ k_319) (fun _ h9 => h9) rfl dX1_passDay_47 ?_
        refine lv_bipush (v := 43) hx hb dX1_passDay_50 rfl ?_
        refine lv_aload_n hx hb dX1_passDay_52 rfl (lv_at hl 1 rfl) ?_
        refine va_get (D := (dC, dI)) (ci := 1) (v := .ref (x 22)) (C := RX1) (T := TX1) (N := 2) hx hb hts inB_1 hown hE.1 hP 22 rfl rfl 1 (Nat.le_of_ble_eq_true rfl) (hts _ k_319) (fun _ h9 => h9) rfl dX1_passDay_53 ?_
        refine lv_bipush (v := 43) hx hb dX1_passDay_56 rfl ?_
        refine ldI hx hb hE hP 23 rfl (vp_in_nI (n := 43) (by decide) (by decide)) rfl rfl dX1_passDay_58 ?_
        refine lv_topi (fun t5 et5 => ?_)
        refine lv_sipush (v := 137) hx hb dX1_passDay_59 rfl ?_
        refine lv_imul hx hb dX1_passDay_62 ?_
        refine lv_topi (fun t6 et6 => ?_)
        refine lv_bipush (v := 71) hx hb dX1_passDay_63 rfl ?_
        refine lv_iadd hx hb dX1_passDay_65 ?_
        refine lv_topi (fun t7 et7 => ?_)
        refine lv_sipush (v := 1000) hx hb dX1_passDay_66 rfl ?_
        refine lv_irem hx hb dX1_passDay_69 (by decide) ?_
        refine lv_topi (fun t8 et8 => ?_)
        refine stI hx hb hE hP hD hS 23 rfl (vp_in_nI (n := 43) (by decide) (by decide)) rfl dX1_passDay_70 (fun H locs hP hD hS => ?_)
        obtain ⟨f9, ef9, hP, hD⟩ : ∃ fz9, fz9 = upd2 f1 15 (upd (f1 15) (43 : Int32).toNatClampNeg t8) ∧ va_P (dC, dI) vwCl (XW cy x0 x v1 fz9) H ∧ va_D A (XW cy x0 x v1 fz9) := ⟨_, rfl, hP, hD⟩
        have hA_f9 : KF [13, 14, 15] f9 f := by rw [ef9]; exact KF.up hA_f1 rfl
        refine lv_aload_n hx hb dX1_passDay_71 rfl (lv_at hl 1 rfl) ?_
        refine va_get (D := (dC, dI)) (ci := 1) (v := .ref (x 22)) (C := RX1) (T := TX1) (N := 2) hx hb hts inB_1 hown hE.1 hP 22 rfl rfl 1 (Nat.le_of_ble_eq_true rfl) (hts _ k_319) (fun _ h9 => h9) rfl dX1_passDay_72 ?_
        refine lv_bipush (v := 43) hx hb dX1_passDay_75 rfl ?_
        refine ldI hx hb hE hP 23 rfl (vp_in_nI (n := 43) (by decide) (by decide)) rfl rfl dX1_passDay_77 ?_
        refine lv_topi (fun t10 et10 => ?_)
        refine lv_bipush (v := 100) hx hb dX1_passDay_78 rfl ?_
        refine lv_irem hx hb dX1_passDay_80 (by decide) ?_
        refine lv_topi (fun t11 et11 => ?_)
        refine lv_iload_n hx hb dX1_passDay_81 rfl (lv_at hl 2 rfl) ?_
        refine lv_icmp_ge (tgt := 89) hx hb dX1_passDay_82 rfl (fun c12 => ?_) (fun c12 => ?_)
        · skip
          refine lv_iconst (v := 0) hx hb dX1_passDay_89 rfl ?_
          refine lv_istore_n (lv' := [(2, .int 0), (0, .ref (x 21)), (1, .int p1)]) hx hb dX1_passDay_90 rfl hl (Nat.le_of_ble_eq_true rfl) rfl (fun ls hl => ?_)
          refine lv_iconst (v := 0) hx hb dX1_passDay_91 rfl ?_
          refine lv_istore_n (lv' := [(3, .int 0), (2, .int 0), (0, .ref (x 21)), (1, .int p1)]) hx hb dX1_passDay_92 rfl hl (Nat.le_of_ble_eq_true rfl) rfl (fun ls hl => ?_)
          have lp15 : ∀ (n15 : Nat) (l3_15 : Int32) (v15 : Nat → Int32) (f15 : Nat → Nat → Int32), XI v15 → v15 0 = (v 0) → v15 1 = (v 1) → v15 7 = (v 7) → v15 8 = (v 8) → v15 9 = (v 9) → v15 10 = (v 10) → v15 31 = (v 31) → v15 32 = (v 32) → gsX_X1_passDay_1_L15 NF v n15 l3_15 v15 f15 = (gsX_X1_passDay_1 NF p1 v f) → ((0 : Int) ≤ l3_15.toInt ∧ l3_15.toInt ≤ 2147483647) → KV [] v15 v → KF [13, 14, 15] f15 f → (2147483647 - l3_15.toInt).toNat < n15 → ∀ (H : Heap) (locs : List Loc) (ls : Array Slot), va_P (dC, dI) vwCl (XW cy x0 x v15 f15) H → va_D A (XW cy x0 x v15 f15) → va_S A s.heap H locs → lv_has ls 5 [(3, .int l3_15), (2, .int 0), (0, .ref (x 21)), (1, .int p1)] → W p l e { frames := 5, cells := 0, slots := 0, locals := 155 } s m ([.ref (x 21), .int p1] : List Value).toArray below meth c H locs 0 0 Q (F0 m 93 ls []) := by
            intro n15
            induction n15 with
            | zero => intro l3_15 v15 f15 hIv15 hq0_v15 hq1_v15 hq7_v15 hq8_v15 hq9_v15 hq10_v15 hq31_v15 hq32_v15 hT15 hr3_15 hM_v15 hA_f15 hm; exact absurd hm (Nat.not_lt_zero _)
            | succ n15 ih15 =>
              intro l3_15 v15 f15 hIv15 hq0_v15 hq1_v15 hq7_v15 hq8_v15 hq9_v15 hq10_v15 hq31_v15 hq32_v15 hT15 hr3_15 hM_v15 hA_f15 hm15 H locs ls hP hD hS hl
              refine lv_iload_n hx hb dX1_passDay_93 rfl (lv_at hl 0 rfl) ?_
              refine lv_aload_n hx hb dX1_passDay_94 rfl (lv_at hl 2 rfl) ?_
              refine va_get (D := (dC, dI)) (ci := 1) (v := .ref (x 26)) (C := RX1) (T := TX1) (N := 2) hx hb hts inB_1 hown hE.1 hP 22 rfl rfl 0 (Nat.le_of_ble_eq_true rfl) (hts _ k_318) (fun _ h9 => h9) rfl dX1_passDay_95 ?_
              refine va_getN (D := (dC, dI)) (ci := 7) (v := .int (v15 31)) (C := RX7) (T := TX7) (N := 10) hx hb hts inB_7 hown hE.1 hP 27 rfl rfl 3 (Nat.le_of_ble_eq_true rfl) (va_Nw.use rfl (hE.2 _ k_219)) (fun _ h9 => h9) rfl dX1_passDay_98 ?_
              refine tI (y := (v 31)) hq31_v15 ?_
              have b31_v : 0 ≤ (v 31).toInt ∧ (v 31).toInt ≤ 6 := Xb_31 hIv
              refine lv_icmp_ge (tgt := 120) hx hb dX1_passDay_101 rfl (fun c16 => ?_) (fun c16 => ?_)
              · skip
                refine lv_aload_n hx hb dX1_passDay_120 rfl (lv_at hl 2 rfl) ?_
                refine va_get (D := (dC, dI)) (ci := 1) (v := .ref (x 22)) (C := RX1) (T := TX1) (N := 2) hx hb hts inB_1 hown hE.1 hP 22 rfl rfl 1 (Nat.le_of_ble_eq_true rfl) (hts _ k_319) (fun _ h9 => h9) rfl dX1_passDay_121 ?_
                refine lv_bipush (v := 42) hx hb dX1_passDay_124 rfl ?_
                refine lv_dup2_11 hx hb dX1_passDay_126 rfl rfl ?_
                refine ldI hx hb hE hP 23 rfl (vp_in_nI (n := 42) (by decide) (by decide)) rfl rfl dX1_passDay_127 ?_
                refine lv_topi (fun t18 et18 => ?_)
                refine lv_iconst (v := 1) hx hb dX1_passDay_128 rfl ?_
                refine lv_iadd hx hb dX1_passDay_129 ?_
                refine lv_topi (fun t19 et19 => ?_)
                refine stI hx hb hE hP hD hS 23 rfl (vp_in_nI (n := 42) (by decide) (by decide)) rfl dX1_passDay_130 (fun H locs hP hD hS => ?_)
                obtain ⟨f20, ef20, hP, hD⟩ : ∃ fz9, fz9 = upd2 f15 15 (upd (f15 15) (42 : Int32).toNatClampNeg t19) ∧ va_P (dC, dI) vwCl (XW cy x0 x v15 fz9) H ∧ va_D A (XW cy x0 x v15 fz9) := ⟨_, rfl, hP, hD⟩
                have hA_f20 : KF [13, 14, 15] f20 f := by rw [ef20]; exact KF.up hA_f15 rfl
                refine lv_iconst (v := 0) hx hb dX1_passDay_131 rfl ?_
                refine lv_istore_n (lv' := [(3, .int 0), (2, .int 0), (0, .ref (x 21)), (1, .int p1)]) hx hb dX1_passDay_132 rfl hl (Nat.le_of_ble_eq_true rfl) rfl (fun ls hl => ?_)
                refine lv_iconst (v := 0) hx hb dX1_passDay_133 rfl ?_
                refine lv_istore (lv' := [(4, .int 0), (3, .int 0), (2, .int 0), (0, .ref (x 21)), (1, .int p1)]) hx hb dX1_passDay_134 hl (Nat.le_of_ble_eq_true rfl) rfl (fun ls hl => ?_)
                have lp21 : ∀ (n21 : Nat) (l3_21 : Int32) (l4_21 : Int32) (v21 : Nat → Int32) (f21 : Nat → Nat → Int32), XI v21 → v21 0 = (v 0) → v21 1 = (v 1) → v21 7 = (v 7) → v21 8 = (v 8) → v21 9 = (v 9) → v21 10 = (v 10) → v21 31 = (v 31) → v21 32 = (v 32) → gsX_X1_passDay_1_L21 NF v n21 l3_21 l4_21 v21 f21 = (gsX_X1_passDay_1 NF p1 v f) → ((0 : Int) ≤ l4_21.toInt ∧ l4_21.toInt ≤ 2147483647) → KV [] v21 v → KF [13, 14, 15] f21 f → (2147483647 - l4_21.toInt).toNat < n21 → ∀ (H : Heap) (locs : List Loc) (ls : Array Slot), va_P (dC, dI) vwCl (XW cy x0 x v21 f21) H → va_D A (XW cy x0 x v21 f21) → va_S A s.heap H locs → lv_has ls 5 [(4, .int l4_21), (3, .int l3_21), (2, .int 0), (0, .ref (x 21)), (1, .int p1)] → W p l e { frames := 5, cells := 0, slots := 0, locals := 155 } s m ([.ref (x 21), .int p1] : List Value).toArray below meth c H locs 0 0 Q (F0 m 136 ls []) := by
                  intro n21
                  induction n21 with
                  | zero => intro l3_21 l4_21 v21 f21 hIv21 hq0_v21 hq1_v21 hq7_v21 hq8_v21 hq9_v21 hq10_v21 hq31_v21 hq32_v21 hT21 hr4_21 hM_v21 hA_f21 hm; exact absurd hm (Nat.not_lt_zero _)
                  | succ n21 ih21 =>
                    intro l3_21 l4_21 v21 f21 hIv21 hq0_v21 hq1_v21 hq7_v21 hq8_v21 hq9_v21 hq10_v21 hq31_v21 hq32_v21 hT21 hr4_21 hM_v21 hA_f21 hm21 H locs ls hP hD hS hl
                    refine lv_iload hx hb dX1_passDay_136 (lv_at hl 0 rfl) ?_
                    refine lv_aload_n hx hb dX1_passDay_138 rfl (lv_at hl 3 rfl) ?_
                    refine va_get (D := (dC, dI)) (ci := 1) (v := .ref (x 26)) (C := RX1) (T := TX1) (N := 2) hx hb hts inB_1 hown hE.1 hP 22 rfl rfl 0 (Nat.le_of_ble_eq_true rfl) (hts _ k_318) (fun _ h9 => h9) rfl dX1_passDay_139 ?_
                    refine va_getN (D := (dC, dI)) (ci := 7) (v := .int (v21 31)) (C := RX7) (T := TX7) (N := 10) hx hb hts inB_7 hown hE.1 hP 27 rfl rfl 3 (Nat.le_of_ble_eq_true rfl) (va_Nw.use rfl (hE.2 _ k_219)) (fun _ h9 => h9) rfl dX1_passDay_142 ?_
                    refine tI (y := (v 31)) hq31_v21 ?_
                    have b31_v : 0 ≤ (v 31).toInt ∧ (v 31).toInt ≤ 6 := Xb_31 hIv
                    refine lv_icmp_ge (tgt := 193) hx hb dX1_passDay_145 rfl (fun c22 => ?_) (fun c22 => ?_)
                    · skip
                      refine lv_iload_n hx hb dX1_passDay_193 rfl (lv_at hl 1 rfl) ?_
                      exact ret l3_21 (v21, f21) _ _ _ _ _ _ rfl ⟨(hT21.symm.trans (gsX_X1_passDay_1_q0 c22)), hM_v21, hA_f21, hIv21, hq0_v21, hq1_v21, hq7_v21, hq8_v21, hq9_v21, hq10_v21, hq31_v21, hq32_v21⟩ hP hD hS dX1_passDay_194 (Nat.le_refl _) (Nat.le_refl _)
                    · skip
                      have zc22 : ¬ ((v 31).toInt ≤ l4_21.toInt) := zMn rfl rfl c22
                      refine lv_aload_n hx hb dX1_passDay_148 rfl (lv_at hl 3 rfl) ?_
                      refine lv_iload hx hb dX1_passDay_149 (lv_at hl 0 rfl) ?_
                      refine cbVi (n := 1) (rest := []) hx hb hml hown hts hE hP hD hS hA (sX_X1_wears_1 NF l dC dI cy x0 x l4_21 v21 f21 hIv21 ) k_853 k_810 k_811 k_106 k_812 hd_yX1_wears ⟨Nat.le_of_ble_eq_true rfl, Nat.le_of_ble_eq_true rfl⟩ 22 1 rfl rfl (rfl) hl.1 rfl (Nat.le_of_ble_eq_true rfl) dX1_passDay_151 (fun r25 u H locs hw hP hD hS => ?_)
                      have hG26 := hw
                      refine lv_iconst (v := (-1)) hx hb dX1_passDay_154 rfl ?_
                      refine lv_icmp_eq (tgt := 187) hx hb dX1_passDay_155 rfl (fun c27 => ?_) (fun c27 => ?_)
                      · skip
                        obtain ⟨t28, et28⟩ : ∃ y : Int32, y = l4_21 + 1 := ⟨_, rfl⟩
                        have zt28 : t28.toInt = l4_21.toInt + 1 := (congrArg Int32.toInt et28).trans (add_i rfl tc_1 (om_41 hr4_21) (om_187 b31_v zc22))
                        refine lv_iinc (v := t28) (lv' := [(4, .int t28), (3, .int l3_21), (2, .int 0), (0, .ref (x 21)), (1, .int p1)]) hx hb dX1_passDay_187 hl (k := 0) rfl et28.symm (Nat.le_of_ble_eq_true rfl) rfl (fun ls hl => ?_)
                        refine lv_goto (tgt := 136) hx hb dX1_passDay_190 rfl ?_
                        have rg29 := fb_rng t28
                        exact ih21 l3_21 t28 v21 f21 hIv21 hq0_v21 hq1_v21 hq7_v21 hq8_v21 hq9_v21 hq10_v21 hq31_v21 hq32_v21 ((gsX_X1_passDay_1_q1 c22 hG26.symm c27 et28).symm.trans hT21) ⟨show (0 : Int) ≤ t28.toInt from om_43 hr4_21 zt28, show t28.toInt ≤ (2147483647 : Int) from om_44 rg29⟩ hM_v21 hA_f21 (show (2147483647 - t28.toInt).toNat < n21 from om_33 hm21 zt28 rg29) _ _ _ hP hD hS (lv_sub hl [0, 1, 2, 3, 4] rfl)
                      · skip
                        refine lv_aload_n hx hb dX1_passDay_158 rfl (lv_at hl 3 rfl) ?_
                        refine lv_iload hx hb dX1_passDay_159 (lv_at hl 0 rfl) ?_
                        refine lv_aload_n hx hb dX1_passDay_161 rfl (lv_at hl 3 rfl) ?_
                        refine lv_iload hx hb dX1_passDay_162 (lv_at hl 0 rfl) ?_
                        refine cbVi (n := 1) (rest := [.int l4_21, .ref (x 21)]) hx hb hml hown hts hE hP hD hS hA (sX_X1_wears_1 NF l dC dI cy x0 x l4_21 v21 f21 hIv21 ) k_853 k_810 k_811 k_106 k_812 hd_yX1_wears ⟨Nat.le_of_ble_eq_true rfl, Nat.le_of_ble_eq_true rfl⟩ 22 1 rfl rfl (rfl) hl.1 rfl (Nat.le_of_ble_eq_true rfl) dX1_passDay_164 (fun r30 u H locs hw hP hD hS => ?_)
                        have hG31 := hw
                        refine cbVi (n := 2) (rest := []) hx hb hml hown hts hE hP hD hS hA (sX_X1_fits_1 NF l dC dI cy x0 x l4_21 r30 v21 f21 hIv21 ) k_817 k_818 k_819 k_106 k_820 hd_yX1_fits ⟨Nat.le_of_ble_eq_true rfl, Nat.le_of_ble_eq_true rfl⟩ 22 1 rfl rfl (rfl) hl.1 rfl (Nat.le_of_ble_eq_true rfl) dX1_passDay_167 (fun r32 u H locs hw hP hD hS => ?_)
                        obtain ⟨hG33, hw⟩ := hw
                        obtain ⟨v34, f35⟩ := u
                        obtain ⟨kV_v34, kF_f35, hIv34, hk0_v34, hk1_v34, hk7_v34, hk8_v34, hk9_v34, hk10_v34, hk31_v34, hk32_v34, hw⟩ := hw
                        have hM_v34 : KV [] v34 v := KV.tr kV_v34 hM_v21 rfl
                        have hA_f35 : KF [13, 14, 15] f35 f := KF.tr kF_f35 hA_f21 rfl
                        have hP : va_P (dC, dI) vwCl (XW cy x0 x v34 f35) H := hP
                        have hD : va_D A (XW cy x0 x v34 f35) := hD
                        have hq0_v34 : v34 0 = (v 0) := hk0_v34.trans hq0_v21
                        have hq1_v34 : v34 1 = (v 1) := hk1_v34.trans hq1_v21
                        have hq7_v34 : v34 7 = (v 7) := hk7_v34.trans hq7_v21
                        have hq8_v34 : v34 8 = (v 8) := hk8_v34.trans hq8_v21
                        have hq9_v34 : v34 9 = (v 9) := hk9_v34.trans hq9_v21
                        have hq10_v34 : v34 10 = (v 10) := hk10_v34.trans hq10_v21
                        have hq31_v34 : v34 31 = (v 31) := hk31_v34.trans hq31_v21
                        have hq32_v34 : v34 32 = (v 32) := hk32_v34.trans hq32_v21
                        rcases hw with ⟨g36⟩ | ⟨g36⟩
                        · skip
                          subst g36
                          refine lv_if_ne (tgt := 187) hx hb dX1_passDay_170 rfl (fun _ => ?_) (fun c0 => absurd c0 (by decide))
                          obtain ⟨t37, et37⟩ : ∃ y : Int32, y = l4_21 + 1 := ⟨_, rfl⟩
                          have zt37 : t37.toInt = l4_21.toInt + 1 := (congrArg Int32.toInt et37).trans (add_i rfl tc_1 (om_41 hr4_21) (om_187 b31_v zc22))
                          refine lv_iinc (v := t37) (lv' := [(4, .int t37), (3, .int l3_21), (2, .int 0), (0, .ref (x 21)), (1, .int p1)]) hx hb dX1_passDay_187 hl (k := 0) rfl et37.symm (Nat.le_of_ble_eq_true rfl) rfl (fun ls hl => ?_)
                          refine lv_goto (tgt := 136) hx hb dX1_passDay_190 rfl ?_
                          have rg38 := fb_rng t37
                          exact ih21 l3_21 t37 v34 f35 hIv34 hq0_v34 hq1_v34 hq7_v34 hq8_v34 hq9_v34 hq10_v34 hq31_v34 hq32_v34 ((gsX_X1_passDay_1_q2 c22 hG26.symm c27 hG31.symm hG33 et37).symm.trans hT21) ⟨show (0 : Int) ≤ t37.toInt from om_43 hr4_21 zt37, show t37.toInt ≤ (2147483647 : Int) from om_44 rg38⟩ hM_v34 hA_f35 (show (2147483647 - t37.toInt).toNat < n21 from om_33 hm21 zt37 rg38) _ _ _ hP hD hS (lv_sub hl [0, 1, 2, 3, 4] rfl)
                        · skip
                          subst g36
                          refine lv_if_ne (tgt := 187) hx hb dX1_passDay_170 rfl (fun c0 => absurd (by decide) c0) (fun _ => ?_)
                          refine lv_aload_n hx hb dX1_passDay_173 rfl (lv_at hl 3 rfl) ?_
                          refine lv_iload hx hb dX1_passDay_174 (lv_at hl 0 rfl) ?_
                          refine lv_iconst (v := (-1)) hx hb dX1_passDay_176 rfl ?_
                          refine cbVv (n := 2) (rest := []) hx hb hml hown hts hE hP hD hS hA (sX_X1_setWears_1 NF l dC dI cy x0 x l4_21 (-1) v34 f35 hIv34 ) k_879 k_880 k_881 k_106 k_882 hd_yX1_setWears ⟨Nat.le_of_ble_eq_true rfl, Nat.le_of_ble_eq_true rfl⟩ 22 1 rfl rfl (rfl) hl.1 rfl (Nat.le_of_ble_eq_true rfl) dX1_passDay_177 (fun u H locs hw hP hD hS => ?_)
                          obtain ⟨hG39, hw⟩ := hw
                          obtain ⟨v40, f41⟩ := u
                          obtain ⟨kV_v40, kF_f41, hIv40, hk0_v40, hk1_v40, hk7_v40, hk8_v40, hk9_v40, hk10_v40, hk31_v40, hk32_v40⟩ := hw
                          have hM_v40 : KV [] v40 v := KV.tr kV_v40 hM_v34 rfl
                          have hA_f41 : KF [13, 14, 15] f41 f := KF.tr kF_f41 hA_f35 rfl
                          have hP : va_P (dC, dI) vwCl (XW cy x0 x v40 f41) H := hP
                          have hD : va_D A (XW cy x0 x v40 f41) := hD
                          have hq0_v40 : v40 0 = (v 0) := hk0_v40.trans hq0_v34
                          have hq1_v40 : v40 1 = (v 1) := hk1_v40.trans hq1_v34
                          have hq7_v40 : v40 7 = (v 7) := hk7_v40.trans hq7_v34
                          have hq8_v40 : v40 8 = (v 8) := hk8_v40.trans hq8_v34
                          have hq9_v40 : v40 9 = (v 9) := hk9_v40.trans hq9_v34
                          have hq10_v40 : v40 10 = (v 10) := hk10_v40.trans hq10_v34
                          have hq31_v40 : v40 31 = (v 31) := hk31_v40.trans hq31_v34
                          have hq32_v40 : v40 32 = (v 32) := hk32_v40.trans hq32_v34
                          refine lv_iload_n hx hb dX1_passDay_180 rfl (lv_at hl 1 rfl) ?_
                          refine lv_iconst (v := 1) hx hb dX1_passDay_181 rfl ?_
                          refine lv_iload hx hb dX1_passDay_182 (lv_at hl 0 rfl) ?_
                          refine lv_ishl hx hb dX1_passDay_184 ?_
                          refine lv_topi (fun t42 et42 => ?_)
                          refine lv_ior hx hb dX1_passDay_185 ?_
                          refine lv_topi (fun t43 et43 => ?_)
                          refine lv_istore_n (lv' := [(3, .int t43), (4, .int l4_21), (2, .int 0), (0, .ref (x 21)), (1, .int p1)]) hx hb dX1_passDay_186 rfl hl (Nat.le_of_ble_eq_true rfl) rfl (fun ls hl => ?_)
                          obtain ⟨t44, et44⟩ : ∃ y : Int32, y = l4_21 + 1 := ⟨_, rfl⟩
                          have zt44 : t44.toInt = l4_21.toInt + 1 := (congrArg Int32.toInt et44).trans (add_i rfl tc_1 (om_41 hr4_21) (om_187 b31_v zc22))
                          refine lv_iinc (v := t44) (lv' := [(4, .int t44), (3, .int t43), (2, .int 0), (0, .ref (x 21)), (1, .int p1)]) hx hb dX1_passDay_187 hl (k := 1) rfl et44.symm (Nat.le_of_ble_eq_true rfl) rfl (fun ls hl => ?_)
                          refine lv_goto (tgt := 136) hx hb dX1_passDay_190 rfl ?_
                          have rg45 := fb_rng t44
                          exact ih21 t43 t44 v40 f41 hIv40 hq0_v40 hq1_v40 hq7_v40 hq8_v40 hq9_v40 hq10_v40 hq31_v40 hq32_v40 ((gsX_X1_passDay_1_q3 c22 hG26.symm c27 hG31.symm hG33 hG39 et42 et43 et44).symm.trans hT21) ⟨show (0 : Int) ≤ t44.toInt from om_43 hr4_21 zt44, show t44.toInt ≤ (2147483647 : Int) from om_44 rg45⟩ hM_v40 hA_f41 (show (2147483647 - t44.toInt).toNat < n21 from om_33 hm21 zt44 rg45) _ _ _ hP hD hS (lv_sub hl [0, 1, 2, 3, 4] rfl)
                exact lp21 (4294967296 + NF) 0 0 v15 f20 hIv15 hq0_v15 hq1_v15 hq7_v15 hq8_v15 hq9_v15 hq10_v15 hq31_v15 hq32_v15 ((gsX_X1_passDay_1_q4 c16 et18 et19 ef20).symm.trans hT15) ⟨by decide, by decide⟩ hM_v15 hA_f20 (show (2147483647 - (0 : Int32).toInt).toNat < 4294967296 + NF from om_38 tc_0) _ _ _ hP hD hS (lv_sub hl [0, 1, 2, 3, 4] rfl)
              · skip
                have zc16 : ¬ ((v 31).toInt ≤ l3_15.toInt) := zMn rfl rfl c16
                refine lv_aload_n hx hb dX1_passDay_104 rfl (lv_at hl 2 rfl) ?_
                refine lv_aload_n hx hb dX1_passDay_105 rfl (lv_at hl 2 rfl) ?_
                refine lv_iload_n hx hb dX1_passDay_106 rfl (lv_at hl 0 rfl) ?_
                refine cbVi (n := 1) (rest := [.ref (x 21)]) hx hb hml hown hts hE hP hD hS hA (sX_X1_wears_1 NF l dC dI cy x0 x l3_15 v15 f15 hIv15 ) k_853 k_810 k_811 k_106 k_812 hd_yX1_wears ⟨Nat.le_of_ble_eq_true rfl, Nat.le_of_ble_eq_true rfl⟩ 22 1 rfl rfl (rfl) hl.1 rfl (Nat.le_of_ble_eq_true rfl) dX1_passDay_107 (fun r47 u H locs hw hP hD hS => ?_)
                have hG48 := hw
                refine lv_iload_n hx hb dX1_passDay_110 rfl (lv_at hl 1 rfl) ?_
                refine cbVv (n := 2) (rest := []) hx hb hml hown hts hE hP hD hS hA (sX_X1_weather_1 NF l dC dI cy x0 x r47 0 v15 f15 hIv15 ) k_870 k_872 k_20 k_106 k_873 hd_yX1_weather ⟨Nat.le_of_ble_eq_true rfl, Nat.le_of_ble_eq_true rfl⟩ 22 1 rfl rfl (rfl) hl.1 rfl (Nat.le_of_ble_eq_true rfl) dX1_passDay_111 (fun u H locs hw hP hD hS => ?_)
                obtain ⟨hG49, hw⟩ := hw
                obtain ⟨v50, f51⟩ := u
                obtain ⟨kV_v50, kF_f51, hIv50, hk0_v50, hk1_v50, hk7_v50, hk8_v50, hk9_v50, hk10_v50, hk31_v50, hk32_v50⟩ := hw
                have hM_v50 : KV [] v50 v := KV.tr kV_v50 hM_v15 rfl
                have hA_f51 : KF [13, 14, 15] f51 f := KF.tr kF_f51 hA_f15 rfl
                have hP : va_P (dC, dI) vwCl (XW cy x0 x v50 f51) H := hP
                have hD : va_D A (XW cy x0 x v50 f51) := hD
                have hq0_v50 : v50 0 = (v 0) := hk0_v50.trans hq0_v15
                have hq1_v50 : v50 1 = (v 1) := hk1_v50.trans hq1_v15
                have hq7_v50 : v50 7 = (v 7) := hk7_v50.trans hq7_v15
                have hq8_v50 : v50 8 = (v 8) := hk8_v50.trans hq8_v15
                have hq9_v50 : v50 9 = (v 9) := hk9_v50.trans hq9_v15
                have hq10_v50 : v50 10 = (v 10) := hk10_v50.trans hq10_v15
                have hq31_v50 : v50 31 = (v 31) := hk31_v50.trans hq31_v15
                have hq32_v50 : v50 32 = (v 32) := hk32_v50.trans hq32_v15
                obtain ⟨t52, et52⟩ : ∃ y : Int32, y = l3_15 + 1 := ⟨_, rfl⟩
                have zt52 : t52.toInt = l3_15.toInt + 1 := (congrArg Int32.toInt et52).trans (add_i rfl tc_1 (om_41 hr3_15) (om_187 b31_v zc16))
                refine lv_iinc (v := t52) (lv' := [(3, .int t52), (2, .int 0), (0, .ref (x 21)), (1, .int p1)]) hx hb dX1_passDay_114 hl (k := 0) rfl et52.symm (Nat.le_of_ble_eq_true rfl) rfl (fun ls hl => ?_)
                refine lv_goto (tgt := 93) hx hb dX1_passDay_117 rfl ?_
                have rg53 := fb_rng t52
                exact ih15 t52 v50 f51 hIv50 hq0_v50 hq1_v50 hq7_v50 hq8_v50 hq9_v50 hq10_v50 hq31_v50 hq32_v50 ((gsX_X1_passDay_1_q5 c16 hG48.symm hG49 et52).symm.trans hT15) ⟨show (0 : Int) ≤ t52.toInt from om_43 hr3_15 zt52, show t52.toInt ≤ (2147483647 : Int) from om_44 rg53⟩ hM_v50 hA_f51 (show (2147483647 - t52.toInt).toNat < n15 from om_33 hm15 zt52 rg53) _ _ _ hP hD hS (lv_sub hl [0, 1, 2, 3] rfl)
          exact lp15 (4294967296 + NF) 0 v1 f9 hIv1 hq0_v1 hq1_v1 hq7_v1 hq8_v1 hq9_v1 hq10_v1 hq31_v1 hq32_v1 ((gsX_X1_passDay_1_q6 c2 et5 et6 et7 et8 ef9 et10 et11 c12).symm.trans hT1) ⟨by decide, by decide⟩ hM_v1 hA_f9 (show (2147483647 - (0 : Int32).toInt).toNat < 4294967296 + NF from om_38 tc_0) _ _ _ hP hD hS (lv_sub hl [0, 1, 2, 3] rfl)
        · skip
          refine lv_iconst (v := 1) hx hb dX1_passDay_85 rfl ?_
          refine lv_goto (tgt := 90) hx hb dX1_passDay_86 rfl ?_
          refine lv_istore_n (lv' := [(2, .int 1), (0, .ref (x 21)), (1, .int p1)]) hx hb dX1_passDay_90 rfl hl (Nat.le_of_ble_eq_true rfl) rfl (fun ls hl => ?_)
          refine lv_iconst (v := 0) hx hb dX1_passDay_91 rfl ?_
          refine lv_istore_n (lv' := [(3, .int 0), (2, .int 1), (0, .ref (x 21)), (1, .int p1)]) hx hb dX1_passDay_92 rfl hl (Nat.le_of_ble_eq_true rfl) rfl (fun ls hl => ?_)
          have lp56 : ∀ (n56 : Nat) (l3_56 : Int32) (v56 : Nat → Int32) (f56 : Nat → Nat → Int32), XI v56 → v56 0 = (v 0) → v56 1 = (v 1) → v56 7 = (v 7) → v56 8 = (v 8) → v56 9 = (v 9) → v56 10 = (v 10) → v56 31 = (v 31) → v56 32 = (v 32) → gsX_X1_passDay_1_L56 NF v n56 l3_56 v56 f56 = (gsX_X1_passDay_1 NF p1 v f) → ((0 : Int) ≤ l3_56.toInt ∧ l3_56.toInt ≤ 2147483647) → KV [] v56 v → KF [13, 14, 15] f56 f → (2147483647 - l3_56.toInt).toNat < n56 → ∀ (H : Heap) (locs : List Loc) (ls : Array Slot), va_P (dC, dI) vwCl (XW cy x0 x v56 f56) H → va_D A (XW cy x0 x v56 f56) → va_S A s.heap H locs → lv_has ls 5 [(3, .int l3_56), (2, .int 1), (0, .ref (x 21)), (1, .int p1)] → W p l e { frames := 5, cells := 0, slots := 0, locals := 155 } s m ([.ref (x 21), .int p1] : List Value).toArray below meth c H locs 0 0 Q (F0 m 93 ls []) := by
            intro n56
            induction n56 with
            | zero => intro l3_56 v56 f56 hIv56 hq0_v56 hq1_v56 hq7_v56 hq8_v56 hq9_v56 hq10_v56 hq31_v56 hq32_v56 hT56 hr3_56 hM_v56 hA_f56 hm; exact absurd hm (Nat.not_lt_zero _)
            | succ n56 ih56 =>
              intro l3_56 v56 f56 hIv56 hq0_v56 hq1_v56 hq7_v56 hq8_v56 hq9_v56 hq10_v56 hq31_v56 hq32_v56 hT56 hr3_56 hM_v56 hA_f56 hm56 H locs ls hP hD hS hl
              refine lv_iload_n hx hb dX1_passDay_93 rfl (lv_at hl 0 rfl) ?_
              refine lv_aload_n hx hb dX1_passDay_94 rfl (lv_at hl 2 rfl) ?_
              refine va_get (D := (dC, dI)) (ci := 1) (v := .ref (x 26)) (C := RX1) (T := TX1) (N := 2) hx hb hts inB_1 hown hE.1 hP 22 rfl rfl 0 (Nat.le_of_ble_eq_true rfl) (hts _ k_318) (fun _ h9 => h9) rfl dX1_passDay_95 ?_
              refine va_getN (D := (dC, dI)) (ci := 7) (v := .int (v56 31)) (C := RX7) (T := TX7) (N := 10) hx hb hts inB_7 hown hE.1 hP 27 rfl rfl 3 (Nat.le_of_ble_eq_true rfl) (va_Nw.use rfl (hE.2 _ k_219)) (fun _ h9 => h9) rfl dX1_passDay_98 ?_
              refine tI (y := (v 31)) hq31_v56 ?_
              have b31_v : 0 ≤ (v 31).toInt ∧ (v 31).toInt ≤ 6 := Xb_31 hIv
              refine lv_icmp_ge (tgt := 120) hx hb dX1_passDay_101 rfl (fun c57 => ?_) (fun c57 => ?_)
              · skip
                refine lv_aload_n hx hb dX1_passDay_120 rfl (lv_at hl 2 rfl) ?_
                refine va_get (D := (dC, dI)) (ci := 1) (v := .ref (x 22)) (C := RX1) (T := TX1) (N := 2) hx hb hts inB_1 hown hE.1 hP 22 rfl rfl 1 (Nat.le_of_ble_eq_true rfl) (hts _ k_319) (fun _ h9 => h9) rfl dX1_passDay_121 ?_
                refine lv_bipush (v := 42) hx hb dX1_passDay_124 rfl ?_
                refine lv_dup2_11 hx hb dX1_passDay_126 rfl rfl ?_
                refine ldI hx hb hE hP 23 rfl (vp_in_nI (n := 42) (by decide) (by decide)) rfl rfl dX1_passDay_127 ?_
                refine lv_topi (fun t59 et59 => ?_)
                refine lv_iconst (v := 1) hx hb dX1_passDay_128 rfl ?_
                refine lv_iadd hx hb dX1_passDay_129 ?_
                refine lv_topi (fun t60 et60 => ?_)
                refine stI hx hb hE hP hD hS 23 rfl (vp_in_nI (n := 42) (by decide) (by decide)) rfl dX1_passDay_130 (fun H locs hP hD hS => ?_)
                obtain ⟨f61, ef61, hP, hD⟩ : ∃ fz9, fz9 = upd2 f56 15 (upd (f56 15) (42 : Int32).toNatClampNeg t60) ∧ va_P (dC, dI) vwCl (XW cy x0 x v56 fz9) H ∧ va_D A (XW cy x0 x v56 fz9) := ⟨_, rfl, hP, hD⟩
                have hA_f61 : KF [13, 14, 15] f61 f := by rw [ef61]; exact KF.up hA_f56 rfl
                refine lv_iconst (v := 0) hx hb dX1_passDay_131 rfl ?_
                refine lv_istore_n (lv' := [(3, .int 0), (2, .int 1), (0, .ref (x 21)), (1, .int p1)]) hx hb dX1_passDay_132 rfl hl (Nat.le_of_ble_eq_true rfl) rfl (fun ls hl => ?_)
                refine lv_iconst (v := 0) hx hb dX1_passDay_133 rfl ?_
                refine lv_istore (lv' := [(4, .int 0), (3, .int 0), (2, .int 1), (0, .ref (x 21)), (1, .int p1)]) hx hb dX1_passDay_134 hl (Nat.le_of_ble_eq_true rfl) rfl (fun ls hl => ?_)
                have lp62 : ∀ (n62 : Nat) (l3_62 : Int32) (l4_62 : Int32) (v62 : Nat → Int32) (f62 : Nat → Nat → Int32), XI v62 → v62 0 = (v 0) → v62 1 = (v 1) → v62 7 = (v 7) → v62 8 = (v 8) → v62 9 = (v 9) → v62 10 = (v 10) → v62 31 = (v 31) → v62 32 = (v 32) → gsX_X1_passDay_1_L62 NF v n62 l3_62 l4_62 v62 f62 = (gsX_X1_passDay_1 NF p1 v f) → ((0 : Int) ≤ l4_62.toInt ∧ l4_62.toInt ≤ 2147483647) → KV [] v62 v → KF [13, 14, 15] f62 f → (2147483647 - l4_62.toInt).toNat < n62 → ∀ (H : Heap) (locs : List Loc) (ls : Array Slot), va_P (dC, dI) vwCl (XW cy x0 x v62 f62) H → va_D A (XW cy x0 x v62 f62) → va_S A s.heap H locs → lv_has ls 5 [(4, .int l4_62), (3, .int l3_62), (2, .int 1), (0, .ref (x 21)), (1, .int p1)] → W p l e { frames := 5, cells := 0, slots := 0, locals := 155 } s m ([.ref (x 21), .int p1] : List Value).toArray below meth c H locs 0 0 Q (F0 m 136 ls []) := by
                  intro n62
                  induction n62 with
                  | zero => intro l3_62 l4_62 v62 f62 hIv62 hq0_v62 hq1_v62 hq7_v62 hq8_v62 hq9_v62 hq10_v62 hq31_v62 hq32_v62 hT62 hr4_62 hM_v62 hA_f62 hm; exact absurd hm (Nat.not_lt_zero _)
                  | succ n62 ih62 =>
                    intro l3_62 l4_62 v62 f62 hIv62 hq0_v62 hq1_v62 hq7_v62 hq8_v62 hq9_v62 hq10_v62 hq31_v62 hq32_v62 hT62 hr4_62 hM_v62 hA_f62 hm62 H locs ls hP hD hS hl
                    refine lv_iload hx hb dX1_passDay_136 (lv_at hl 0 rfl) ?_
                    refine lv_aload_n hx hb dX1_passDay_138 rfl (lv_at hl 3 rfl) ?_
                    refine va_get (D := (dC, dI)) (ci := 1) (v := .ref (x 26)) (C := RX1) (T := TX1) (N := 2) hx hb hts inB_1 hown hE.1 hP 22 rfl rfl 0 (Nat.le_of_ble_eq_true rfl) (hts _ k_318) (fun _ h9 => h9) rfl dX1_passDay_139 ?_
                    refine va_getN (D := (dC, dI)) (ci := 7) (v := .int (v62 31)) (C := RX7) (T := TX7) (N := 10) hx hb hts inB_7 hown hE.1 hP 27 rfl rfl 3 (Nat.le_of_ble_eq_true rfl) (va_Nw.use rfl (hE.2 _ k_219)) (fun _ h9 => h9) rfl dX1_passDay_142 ?_
                    refine tI (y := (v 31)) hq31_v62 ?_
                    have b31_v : 0 ≤ (v 31).toInt ∧ (v 31).toInt ≤ 6 := Xb_31 hIv
                    refine lv_icmp_ge (tgt := 193) hx hb dX1_passDay_145 rfl (fun c63 => ?_) (fun c63 => ?_)
                    · skip
                      refine lv_iload_n hx hb dX1_passDay_193 rfl (lv_at hl 1 rfl) ?_
                      exact ret l3_62 (v62, f62) _ _ _ _ _ _ rfl ⟨(hT62.symm.trans (gsX_X1_passDay_1_q7 c63)), hM_v62, hA_f62, hIv62, hq0_v62, hq1_v62, hq7_v62, hq8_v62, hq9_v62, hq10_v62, hq31_v62, hq32_v62⟩ hP hD hS dX1_passDay_194 (Nat.le_refl _) (Nat.le_refl _)
                    · skip
                      have zc63 : ¬ ((v 31).toInt ≤ l4_62.toInt) := zMn rfl rfl c63
                      refine lv_aload_n hx hb dX1_passDay_148 rfl (lv_at hl 3 rfl) ?_
                      refine lv_iload hx hb dX1_passDay_149 (lv_at hl 0 rfl) ?_
                      refine cbVi (n := 1) (rest := []) hx hb hml hown hts hE hP hD hS hA (sX_X1_wears_1 NF l dC dI cy x0 x l4_62 v62 f62 hIv62 ) k_853 k_810 k_811 k_106 k_812 hd_yX1_wears ⟨Nat.le_of_ble_eq_true rfl, Nat.le_of_ble_eq_true rfl⟩ 22 1 rfl rfl (rfl) hl.1 rfl (Nat.le_of_ble_eq_true rfl) dX1_passDay_151 (fun r66 u H locs hw hP hD hS => ?_)
                      have hG67 := hw
                      refine lv_iconst (v := (-1)) hx hb dX1_passDay_154 rfl ?_
                      refine lv_icmp_eq (tgt := 187) hx hb dX1_passDay_155 rfl (fun c68 => ?_) (fun c68 => ?_)
                      · skip
                        obtain ⟨t69, et69⟩ : ∃ y : Int32, y = l4_62 + 1 := ⟨_, rfl⟩
                        have zt69 : t69.toInt = l4_62.toInt + 1 := (congrArg Int32.toInt et69).trans (add_i rfl tc_1 (om_41 hr4_62) (om_187 b31_v zc63))
                        refine lv_iinc (v := t69) (lv' := [(4, .int t69), (3, .int l3_62), (2, .int 1), (0, .ref (x 21)), (1, .int p1)]) hx hb dX1_passDay_187 hl (k := 0) rfl et69.symm (Nat.le_of_ble_eq_true rfl) rfl (fun ls hl => ?_)
                        refine lv_goto (tgt := 136) hx hb dX1_passDay_190 rfl ?_
                        have rg70 := fb_rng t69
                        exact ih62 l3_62 t69 v62 f62 hIv62 hq0_v62 hq1_v62 hq7_v62 hq8_v62 hq9_v62 hq10_v62 hq31_v62 hq32_v62 ((gsX_X1_passDay_1_q8 c63 hG67.symm c68 et69).symm.trans hT62) ⟨show (0 : Int) ≤ t69.toInt from om_43 hr4_62 zt69, show t69.toInt ≤ (2147483647 : Int) from om_44 rg70⟩ hM_v62 hA_f62 (show (2147483647 - t69.toInt).toNat < n62 from om_33 hm62 zt69 rg70) _ _ _ hP hD hS (lv_sub hl [0, 1, 2, 3, 4] rfl)
                      · skip
                        refine lv_aload_n hx hb dX1_passDay_158 rfl (lv_at hl 3 rfl) ?_
                        refine lv_iload hx hb dX1_passDay_159 (lv_at hl 0 rfl) ?_
                        refine lv_aload_n hx hb dX1_passDay_161 rfl (lv_at hl 3 rfl) ?_
                        refine lv_iload hx hb dX1_passDay_162 (lv_at hl 0 rfl) ?_
                        refine cbVi (n := 1) (rest := [.int l4_62, .ref (x 21)]) hx hb hml hown hts hE hP hD hS hA (sX_X1_wears_1 NF l dC dI cy x0 x l4_62 v62 f62 hIv62 ) k_853 k_810 k_811 k_106 k_812 hd_yX1_wears ⟨Nat.le_of_ble_eq_true rfl, Nat.le_of_ble_eq_true rfl⟩ 22 1 rfl rfl (rfl) hl.1 rfl (Nat.le_of_ble_eq_true rfl) dX1_passDay_164 (fun r71 u H locs hw hP hD hS => ?_)
                        have hG72 := hw
                        refine cbVi (n := 2) (rest := []) hx hb hml hown hts hE hP hD hS hA (sX_X1_fits_1 NF l dC dI cy x0 x l4_62 r71 v62 f62 hIv62 ) k_817 k_818 k_819 k_106 k_820 hd_yX1_fits ⟨Nat.le_of_ble_eq_true rfl, Nat.le_of_ble_eq_true rfl⟩ 22 1 rfl rfl (rfl) hl.1 rfl (Nat.le_of_ble_eq_true rfl) dX1_passDay_167 (fun r73 u H locs hw hP hD hS => ?_)
                        obtain ⟨hG74, hw⟩ := hw
                        obtain ⟨v75, f76⟩ := u
                        obtain ⟨kV_v75, kF_f76, hIv75, hk0_v75, hk1_v75, hk7_v75, hk8_v75, hk9_v75, hk10_v75, hk31_v75, hk32_v75, hw⟩ := hw
                        have hM_v75 : KV [] v75 v := KV.tr kV_v75 hM_v62 rfl
                        have hA_f76 : KF [13, 14, 15] f76 f := KF.tr kF_f76 hA_f62 rfl
                        have hP : va_P (dC, dI) vwCl (XW cy x0 x v75 f76) H := hP
                        have hD : va_D A (XW cy x0 x v75 f76) := hD
                        have hq0_v75 : v75 0 = (v 0) := hk0_v75.trans hq0_v62
                        have hq1_v75 : v75 1 = (v 1) := hk1_v75.trans hq1_v62
                        have hq7_v75 : v75 7 = (v 7) := hk7_v75.trans hq7_v62
                        have hq8_v75 : v75 8 = (v 8) := hk8_v75.trans hq8_v62
                        have hq9_v75 : v75 9 = (v 9) := hk9_v75.trans hq9_v62
                        have hq10_v75 : v75 10 = (v 10) := hk10_v75.trans hq10_v62
                        have hq31_v75 : v75 31 = (v 31) := hk31_v75.trans hq31_v62
                        have hq32_v75 : v75 32 = (v 32) := hk32_v75.trans hq32_v62
                        rcases hw with ⟨g77⟩ | ⟨g77⟩
                        · skip
                          subst g77
                          refine lv_if_ne (tgt := 187) hx hb dX1_passDay_170 rfl (fun _ => ?_) (fun c0 => absurd c0 (by decide))
                          obtain ⟨t78, et78⟩ : ∃ y : Int32, y = l4_62 + 1 := ⟨_, rfl⟩
                          have zt78 : t78.toInt = l4_62.toInt + 1 := (congrArg Int32.toInt et78).trans (add_i rfl tc_1 (om_41 hr4_62) (om_187 b31_v zc63))
                          refine lv_iinc (v := t78) (lv' := [(4, .int t78), (3, .int l3_62), (2, .int 1), (0, .ref (x 21)), (1, .int p1)]) hx hb dX1_passDay_187 hl (k := 0) rfl et78.symm (Nat.le_of_ble_eq_true rfl) rfl (fun ls hl => ?_)
                          refine lv_goto (tgt := 136) hx hb dX1_passDay_190 rfl ?_
                          have rg79 := fb_rng t78
                          exact ih62 l3_62 t78 v75 f76 hIv75 hq0_v75 hq1_v75 hq7_v75 hq8_v75 hq9_v75 hq10_v75 hq31_v75 hq32_v75 ((gsX_X1_passDay_1_q9 c63 hG67.symm c68 hG72.symm hG74 et78).symm.trans hT62) ⟨show (0 : Int) ≤ t78.toInt from om_43 hr4_62 zt78, show t78.toInt ≤ (2147483647 : Int) from om_44 rg79⟩ hM_v75 hA_f76 (show (2147483647 - t78.toInt).toNat < n62 from om_33 hm62 zt78 rg79) _ _ _ hP hD hS (lv_sub hl [0, 1, 2, 3, 4] rfl)
                        · skip
                          subst g77
                          refine lv_if_ne (tgt := 187) hx hb dX1_passDay_170 rfl (fun c0 => absurd (by decide) c0) (fun _ => ?_)
                          refine lv_aload_n hx hb dX1_passDay_173 rfl (lv_at hl 3 rfl) ?_
                          refine lv_iload hx hb dX1_passDay_174 (lv_at hl 0 rfl) ?_
                          refine lv_iconst (v := (-1)) hx hb dX1_passDay_176 rfl ?_
                          refine cbVv (n := 2) (rest := []) hx hb hml hown hts hE hP hD hS hA (sX_X1_setWears_1 NF l dC dI cy x0 x l4_62 (-1) v75 f76 hIv75 ) k_879 k_880 k_881 k_106 k_882 hd_yX1_setWears ⟨Nat.le_of_ble_eq_true rfl, Nat.le_of_ble_eq_true rfl⟩ 22 1 rfl rfl (rfl) hl.1 rfl (Nat.le_of_ble_eq_true rfl) dX1_passDay_177 (fun u H locs hw hP hD hS => ?_)
                          obtain ⟨hG80, hw⟩ := hw
                          obtain ⟨v81, f82⟩ := u
                          obtain ⟨kV_v81, kF_f82, hIv81, hk0_v81, hk1_v81, hk7_v81, hk8_v81, hk9_v81, hk10_v81, hk31_v81, hk32_v81⟩ := hw
                          have hM_v81 : KV [] v81 v := KV.tr kV_v81 hM_v75 rfl
                          have hA_f82 : KF [13, 14, 15] f82 f := KF.tr kF_f82 hA_f76 rfl
                          have hP : va_P (dC, dI) vwCl (XW cy x0 x v81 f82) H := hP
                          have hD : va_D A (XW cy x0 x v81 f82) := hD
                          have hq0_v81 : v81 0 = (v 0) := hk0_v81.trans hq0_v75
                          have hq1_v81 : v81 1 = (v 1) := hk1_v81.trans hq1_v75
                          have hq7_v81 : v81 7 = (v 7) := hk7_v81.trans hq7_v75
                          have hq8_v81 : v81 8 = (v 8) := hk8_v81.trans hq8_v75
                          have hq9_v81 : v81 9 = (v 9) := hk9_v81.trans hq9_v75
                          have hq10_v81 : v81 10 = (v 10) := hk10_v81.trans hq10_v75
                          have hq31_v81 : v81 31 = (v 31) := hk31_v81.trans hq31_v75
                          have hq32_v81 : v81 32 = (v 32) := hk32_v81.trans hq32_v75
                          refine lv_iload_n hx hb dX1_passDay_180 rfl (lv_at hl 1 rfl) ?_
                          refine lv_iconst (v := 1) hx hb dX1_passDay_181 rfl ?_
                          refine lv_iload hx hb dX1_passDay_182 (lv_at hl 0 rfl) ?_
                          refine lv_ishl hx hb dX1_passDay_184 ?_
                          refine lv_topi (fun t83 et83 => ?_)
                          refine lv_ior hx hb dX1_passDay_185 ?_
                          refine lv_topi (fun t84 et84 => ?_)
                          refine lv_istore_n (lv' := [(3, .int t84), (4, .int l4_62), (2, .int 1), (0, .ref (x 21)), (1, .int p1)]) hx hb dX1_passDay_186 rfl hl (Nat.le_of_ble_eq_true rfl) rfl (fun ls hl => ?_)
                          obtain ⟨t85, et85⟩ : ∃ y : Int32, y = l4_62 + 1 := ⟨_, rfl⟩
                          have zt85 : t85.toInt = l4_62.toInt + 1 := (congrArg Int32.toInt et85).trans (add_i rfl tc_1 (om_41 hr4_62) (om_187 b31_v zc63))
                          refine lv_iinc (v := t85) (lv' := [(4, .int t85), (3, .int t84), (2, .int 1), (0, .ref (x 21)), (1, .int p1)]) hx hb dX1_passDay_187 hl (k := 1) rfl et85.symm (Nat.le_of_ble_eq_true rfl) rfl (fun ls hl => ?_)
                          refine lv_goto (tgt := 136) hx hb dX1_passDay_190 rfl ?_
                          have rg86 := fb_rng t85
                          exact ih62 t84 t85 v81 f82 hIv81 hq0_v81 hq1_v81 hq7_v81 hq8_v81 hq9_v81 hq10_v81 hq31_v81 hq32_v81 ((gsX_X1_passDay_1_q10 c63 hG67.symm c68 hG72.symm hG74 hG80 et83 et84 et85).symm.trans hT62) ⟨show (0 : Int) ≤ t85.toInt from om_43 hr4_62 zt85, show t85.toInt ≤ (2147483647 : Int) from om_44 rg86⟩ hM_v81 hA_f82 (show (2147483647 - t85.toInt).toNat < n62 from om_33 hm62 zt85 rg86) _ _ _ hP hD hS (lv_sub hl [0, 1, 2, 3, 4] rfl)
                exact lp62 (4294967296 + NF) 0 0 v56 f61 hIv56 hq0_v56 hq1_v56 hq7_v56 hq8_v56 hq9_v56 hq10_v56 hq31_v56 hq32_v56 ((gsX_X1_passDay_1_q11 c57 et59 et60 ef61).symm.trans hT56) ⟨by decide, by decide⟩ hM_v56 hA_f61 (show (2147483647 - (0 : Int32).toInt).toNat < 4294967296 + NF from om_38 tc_0) _ _ _ hP hD hS (lv_sub hl [0, 1, 2, 3, 4] rfl)
              · skip
                have zc57 : ¬ ((v 31).toInt ≤ l3_56.toInt) := zMn rfl rfl c57
                refine lv_aload_n hx hb dX1_passDay_104 rfl (lv_at hl 2 rfl) ?_
                refine lv_aload_n hx hb dX1_passDay_105 rfl (lv_at hl 2 rfl) ?_
                refine lv_iload_n hx hb dX1_passDay_106 rfl (lv_at hl 0 rfl) ?_
                refine cbVi (n := 1) (rest := [.ref (x 21)]) hx hb hml hown hts hE hP hD hS hA (sX_X1_wears_1 NF l dC dI cy x0 x l3_56 v56 f56 hIv56 ) k_853 k_810 k_811 k_106 k_812 hd_yX1_wears ⟨Nat.le_of_ble_eq_true rfl, Nat.le_of_ble_eq_true rfl⟩ 22 1 rfl rfl (rfl) hl.1 rfl (Nat.le_of_ble_eq_true rfl) dX1_passDay_107 (fun r88 u H locs hw hP hD hS => ?_)
                have hG89 := hw
                refine lv_iload_n hx hb dX1_passDay_110 rfl (lv_at hl 1 rfl) ?_
                refine cbVv (n := 2) (rest := []) hx hb hml hown hts hE hP hD hS hA (sX_X1_weather_1 NF l dC dI cy x0 x r88 1 v56 f56 hIv56 ) k_870 k_872 k_20 k_106 k_873 hd_yX1_weather ⟨Nat.le_of_ble_eq_true rfl, Nat.le_of_ble_eq_true rfl⟩ 22 1 rfl rfl (rfl) hl.1 rfl (Nat.le_of_ble_eq_true rfl) dX1_passDay_111 (fun u H locs hw hP hD hS => ?_)
                obtain ⟨hG90, hw⟩ := hw
                obtain ⟨v91, f92⟩ := u
                obtain ⟨kV_v91, kF_f92, hIv91, hk0_v91, hk1_v91, hk7_v91, hk8_v91, hk9_v91, hk10_v91, hk31_v91, hk32_v91⟩ := hw
                have hM_v91 : KV [] v91 v := KV.tr kV_v91 hM_v56 rfl
                have hA_f92 : KF [13, 14, 15] f92 f := KF.tr kF_f92 hA_f56 rfl
                have hP : va_P (dC, dI) vwCl (XW cy x0 x v91 f92) H := hP
                have hD : va_D A (XW cy x0 x v91 f92) := hD
                have hq0_v91 : v91 0 = (v 0) := hk0_v91.trans hq0_v56
                have hq1_v91 : v91 1 = (v 1) := hk1_v91.trans hq1_v56
                have hq7_v91 : v91 7 = (v 7) := hk7_v91.trans hq7_v56
                have hq8_v91 : v91 8 = (v 8) := hk8_v91.trans hq8_v56
                have hq9_v91 : v91 9 = (v 9) := hk9_v91.trans hq9_v56
                have hq10_v91 : v91 10 = (v 10) := hk10_v91.trans hq10_v56
                have hq31_v91 : v91 31 = (v 31) := hk31_v91.trans hq31_v56
                have hq32_v91 : v91 32 = (v 32) := hk32_v91.trans hq32_v56
                obtain ⟨t93, et93⟩ : ∃ y : Int32, y = l3_56 + 1 := ⟨_, rfl⟩
                have zt93 : t93.toInt = l3_56.toInt + 1 := (congrArg Int32.toInt et93).trans (add_i rfl tc_1 (om_41 hr3_56) (om_187 b31_v zc57))
                refine lv_iinc (v := t93) (lv' := [(3, .int t93), (2, .int 1), (0, .ref (x 21)), (1, .int p1)]) hx hb dX1_passDay_114 hl (k := 0) rfl et93.symm (Nat.le_of_ble_eq_true rfl) rfl (fun ls hl => ?_)
                refine lv_goto (tgt := 93) hx hb dX1_passDay_117 rfl ?_
                have rg94 := fb_rng t93
                exact ih56 t93 v91 f92 hIv91 hq0_v91 hq1_v91 hq7_v91 hq8_v91 hq9_v91 hq10_v91 hq31_v91 hq32_v91 ((gsX_X1_passDay_1_q12 c57 hG89.symm hG90 et93).symm.trans hT56) ⟨show (0 : Int) ≤ t93.toInt from om_43 hr3_56 zt93, show t93.toInt ≤ (2147483647 : Int) from om_44 rg94⟩ hM_v91 hA_f92 (show (2147483647 - t93.toInt).toNat < n56 from om_33 hm56 zt93 rg94) _ _ _ hP hD hS (lv_sub hl [0, 1, 2, 3] rfl)
          exact lp56 (4294967296 + NF) 0 v1 f9 hIv1 hq0_v1 hq1_v1 hq7_v1 hq8_v1 hq9_v1 hq10_v1 hq31_v1 hq32_v1 ((gsX_X1_passDay_1_q13 c2 et5 et6 et7 et8 ef9 et10 et11 c12).symm.trans hT1) ⟨by decide, by decide⟩ hM_v1 hA_f9 (show (2147483647 - (0 : Int32).toInt).toNat < 4294967296 + NF from om_38 tc_0) _ _ _ hP hD hS (lv_sub hl [0, 1, 2, 3] rfl)
      · skip
        have zc2 : ¬ ((v 31).toInt ≤ l2_1.toInt) := zMn rfl rfl c2
        refine lv_aload_n hx hb dX1_passDay_13 rfl (lv_at hl 1 rfl) ?_
        refine va_get (D := (dC, dI)) (ci := 1) (v := .ref (x 22)) (C := RX1) (T := TX1) (N := 2) hx hb hts inB_1 hown hE.1 hP 22 rfl rfl 1 (Nat.le_of_ble_eq_true rfl) (hts _ k_319) (fun _ h9 => h9) rfl dX1_passDay_14 ?_
        refine lv_iload_n hx hb dX1_passDay_17 rfl (lv_at hl 0 rfl) ?_
        refine lv_bipush (v := 99) hx hb dX1_passDay_18 rfl ?_
        refine lv_aload_n hx hb dX1_passDay_20 rfl (lv_at hl 1 rfl) ?_
        refine va_get (D := (dC, dI)) (ci := 1) (v := .ref (x 22)) (C := RX1) (T := TX1) (N := 2) hx hb hts inB_1 hown hE.1 hP 22 rfl rfl 1 (Nat.le_of_ble_eq_true rfl) (hts _ k_319) (fun _ h9 => h9) rfl dX1_passDay_21 ?_
        refine lv_iload_n hx hb dX1_passDay_24 rfl (lv_at hl 0 rfl) ?_
        refine ldI hx hb hE hP 23 rfl (vpI (k := 44) rfl (show 0 ≤ l2_1.toInt from om_39 hr2_1) (show l2_1.toInt < 44 from om_188 b31_v zc2)) rfl rfl dX1_passDay_25 ?_
        refine lv_topi (fun t97 et97 => ?_)
        refine lv_aload_n hx hb dX1_passDay_26 rfl (lv_at hl 1 rfl) ?_
        refine va_get (D := (dC, dI)) (ci := 1) (v := .ref (x 26)) (C := RX1) (T := TX1) (N := 2) hx hb hts inB_1 hown hE.1 hP 22 rfl rfl 0 (Nat.le_of_ble_eq_true rfl) (hts _ k_318) (fun _ h9 => h9) rfl dX1_passDay_27 ?_
        refine lv_iconst (v := 2) hx hb dX1_passDay_30 rfl ?_
        refine lv_iload_n hx hb dX1_passDay_31 rfl (lv_at hl 0 rfl) ?_
        refine cbVi (n := 2) (rest := [.int t97, .int 99, .int l2_1, .ref (x 22)]) hx hb hml hown hts hE hP hD hS hA (sX_X7_manPart_1 NF l dC dI cy x0 x 2 l2_1 v1 f1 hIv1 ) k_302 k_303 k_304 k_104 k_305 hd_yX7_manPart ⟨Nat.le_of_ble_eq_true rfl, Nat.le_of_ble_eq_true rfl⟩ 27 7 rfl rfl (rfl) hl.1 rfl (Nat.le_of_ble_eq_true rfl) dX1_passDay_32 (fun r98 u H locs hw hP hD hS => ?_)
        have hG99 := hw
        refine lv_iadd hx hb dX1_passDay_35 ?_
        refine lv_topi (fun t100 et100 => ?_)
        refine va_mmin hx hb (by rw [hml]; exact hl.1.symm) hown (hts _ k_869) (hts _ k_643) (hts _ k_119) (hts _ k_644) (Nat.le_of_ble_eq_true rfl) (Nat.le_of_ble_eq_true rfl) (Nat.le_of_ble_eq_true rfl) (Nat.le_of_ble_eq_true rfl) dX1_passDay_36 ?_
        refine lv_topi (fun t101 et101 => ?_)
        refine stI hx hb hE hP hD hS 23 rfl (vpI (k := 44) rfl (show 0 ≤ l2_1.toInt from om_39 hr2_1) (show l2_1.toInt < 44 from om_188 b31_v zc2)) rfl dX1_passDay_39 (fun H locs hP hD hS => ?_)
        obtain ⟨f102, ef102, hP, hD⟩ : ∃ fz9, fz9 = upd2 f1 15 (upd (f1 15) l2_1.toNatClampNeg t101) ∧ va_P (dC, dI) vwCl (XW cy x0 x v1 fz9) H ∧ va_D A (XW cy x0 x v1 fz9) := ⟨_, rfl, hP, hD⟩
        have hA_f102 : KF [13, 14, 15] f102 f := by rw [ef102]; exact KF.up hA_f1 rfl
        obtain ⟨t103, et103⟩ : ∃ y : Int32, y = l2_1 + 1 := ⟨_, rfl⟩
        have zt103 : t103.toInt = l2_1.toInt + 1 := (congrArg Int32.toInt et103).trans (add_i rfl tc_1 (om_41 hr2_1) (om_187 b31_v zc2))
        refine lv_iinc (v := t103) (lv' := [(2, .int t103), (0, .ref (x 21)), (1, .int p1)]) hx hb dX1_passDay_40 hl (k := 0) rfl et103.symm (Nat.le_of_ble_eq_true rfl) rfl (fun ls hl => ?_)
        refine lv_goto (tgt := 2) hx hb dX1_passDay_43 rfl ?_
        have rg104 := fb_rng t103
        exact ih1 t103 v1 f102 hIv1 hq0_v1 hq1_v1 hq7_v1 hq8_v1 hq9_v1 hq10_v1 hq31_v1 hq32_v1 ((gsX_X1_passDay_1_q14 c2 et97 hG99.symm et100 et101 ef102 et103).symm.trans hT1) ⟨show (0 : Int) ≤ t103.toInt from om_43 hr2_1 zt103, show t103.toInt ≤ (2147483647 : Int) from om_44 rg104⟩ hM_v1 hA_f102 (show (2147483647 - t103.toInt).toNat < n1 from om_33 hm1 zt103 rg104) _ _ _ hP hD hS (lv_sub hl [0, 1, 2] rfl)
  exact lp1 (4294967296 + NF) 0 v f hIv rfl rfl rfl rfl rfl rfl rfl rfl gsX_X1_passDay_1_q15.symm ⟨by decide, by decide⟩ hM_v hA_f (show (2147483647 - (0 : Int32).toInt).toNat < 4294967296 + NF from om_38 tc_0) _ _ _ hP hD hS (lv_sub hl [0, 1, 2] rfl)
set_option maxHeartbeats 4000000 in
set_option maxRecDepth 100000 in
theorem sX_X5_keepAct_1 (NF : Nat) (l : Launch) (dC : Nat → ClassId) (dI : Nat → Nat → Nat) (cy : Nat → ClassId) (x0 : Nat) (x : Nat → Nat)  (v : Nat → Int32) (f : Nat → Nat → Int32) (hIv : XI v)  : ctV l (dC, dI) cy yX5_keepAct cX5_keepAct 1 2 122 0 0 ((Nat → Int32) × (Nat → Nat → Int32)) [.ref (x 20)] (XW cy x0 x v f) (fun u => gsX_X5_keepAct_1 NF v f = u ∧ KV [21, 22, 23] u.1 v ∧ KF [17] u.2 f ∧ XI u.1 ∧ u.1 0 = v 0 ∧ u.1 1 = v 1 ∧ u.1 7 = v 7 ∧ u.1 8 = v 8 ∧ u.1 9 = v 9 ∧ u.1 10 = v 10 ∧ u.1 31 = v 31 ∧ u.1 32 = v 32) (fun u => XW cy x0 x u.1 u.2) := by
  refine ctV_of (by decide) (Nat.le_of_ble_eq_true rfl) (fun p e s m below meth c A ls Q hx hb hml hts hown hnm hE hP hD hA hl ret => ?_)
  have hM_v : KV [21, 22, 23] v v := fun _ _ => rfl
  have hA_f : KF [17] f f := fun _ _ => rfl
  have hown : s.vm.findClass RX5 = some m.cls := hown
  have hS : va_S A s.heap s.heap [] := va_S.rf
  have hl : lv_has ls 1 [(0, .ref (x 20))] := hl
  refine lv_aload_n hx hb dX5_keepAct_0 rfl (lv_at hl 0 rfl) ?_
  refine lv_iconst (v := 0) hx hb dX5_keepAct_1 rfl ?_
  refine va_put (D := (dC, dI)) (ci := 5) (v := .int 0) (ty := tyX5 6) (C := RX5) (T := TX5) (N := 7) hx hb hts inB_5 tyX5 tyX5_ok nmX5 hown hE.1 hP hD hS 21 rfl rfl 6 (Nat.le_of_ble_eq_true rfl) (hts _ k_345) (fun _ h9 => h9) rfl (tyX5_ok 6 (Nat.le_of_ble_eq_true rfl)) rfl rfl (Nat.le_of_ble_eq_true rfl) dX5_keepAct_2 (fun H locs hP hD hS => ?_)
  have hP : va_P (dC, dI) vwCl (XW cy x0 x (upd v 23 0) f) H := hP
  have hD : va_D A (XW cy x0 x (upd v 23 0) f) := hD
  refine lv_aload_n hx hb dX5_keepAct_5 rfl (lv_at hl 0 rfl) ?_
  refine va_get (D := (dC, dI)) (ci := 5) (v := .int (v 22)) (C := RX5) (T := TX5) (N := 7) hx hb hts inB_5 hown hE.1 hP 21 rfl rfl 5 (Nat.le_of_ble_eq_true rfl) (hts _ k_343) (fun _ h9 => h9) rfl dX5_keepAct_6 ?_
  refine lv_bipush (v := 40) hx hb dX5_keepAct_9 rfl ?_
  refine lv_icmp_ge (tgt := 27) hx hb dX5_keepAct_11 rfl (fun c1 => ?_) (fun c1 => ?_)
  · skip
    refine lv_aload_n hx hb dX5_keepAct_27 rfl (lv_at hl 0 rfl) ?_
    refine lv_aload_n hx hb dX5_keepAct_28 rfl (lv_at hl 0 rfl) ?_
    refine va_get (D := (dC, dI)) (ci := 5) (v := .int (v 21)) (C := RX5) (T := TX5) (N := 7) hx hb hts inB_5 hown hE.1 hP 21 rfl rfl 4 (Nat.le_of_ble_eq_true rfl) (hts _ k_342) (fun _ h9 => h9) rfl dX5_keepAct_29 ?_
    refine lv_iconst (v := 1) hx hb dX5_keepAct_32 rfl ?_
    refine lv_iadd hx hb dX5_keepAct_33 ?_
    refine lv_topi (fun t2 et2 => ?_)
    refine lv_bipush (v := 41) hx hb dX5_keepAct_34 rfl ?_
    refine lv_irem hx hb dX5_keepAct_36 (by decide) ?_
    refine lv_topi (fun t3 et3 => ?_)
    refine va_put (D := (dC, dI)) (ci := 5) (v := .int t3) (ty := tyX5 4) (C := RX5) (T := TX5) (N := 7) hx hb hts inB_5 tyX5 tyX5_ok nmX5 hown hE.1 hP hD hS 21 rfl rfl 4 (Nat.le_of_ble_eq_true rfl) (hts _ k_342) (fun _ h9 => h9) rfl (tyX5_ok 4 (Nat.le_of_ble_eq_true rfl)) rfl rfl (Nat.le_of_ble_eq_true rfl) dX5_keepAct_37 (fun H locs hP hD hS => ?_)
    have hP : va_P (dC, dI) vwCl (XW cy x0 x (upd (upd v 23 0) 21 t3) f) H := hP
    have hD : va_D A (XW cy x0 x (upd (upd v 23 0) 21 t3) f) := hD
    refine lv_aload_n hx hb dX5_keepAct_40 rfl (lv_at hl 0 rfl) ?_
    refine va_get (D := (dC, dI)) (ci := 5) (v := .ref (x 21)) (C := RX5) (T := TX5) (N := 7) hx hb hts inB_5 hown hE.1 hP 21 rfl rfl 0 (Nat.le_of_ble_eq_true rfl) (hts _ k_338) (fun _ h9 => h9) rfl dX5_keepAct_41 ?_
    refine lv_aload_n hx hb dX5_keepAct_44 rfl (lv_at hl 0 rfl) ?_
    refine va_get (D := (dC, dI)) (ci := 5) (v := .ref (x 24)) (C := RX5) (T := TX5) (N := 7) hx hb hts inB_5 hown hE.1 hP 21 rfl rfl 1 (Nat.le_of_ble_eq_true rfl) (hts _ k_339) (fun _ h9 => h9) rfl dX5_keepAct_45 ?_
    refine lv_aload_n hx hb dX5_keepAct_48 rfl (lv_at hl 0 rfl) ?_
    refine va_get (D := (dC, dI)) (ci := 5) (v := .int t3) (C := RX5) (T := TX5) (N := 7) hx hb hts inB_5 hown hE.1 hP 21 rfl rfl 4 (Nat.le_of_ble_eq_true rfl) (hts _ k_342) (fun _ h9 => h9) rfl dX5_keepAct_49 ?_
    refine lv_aload_n hx hb dX5_keepAct_52 rfl (lv_at hl 0 rfl) ?_
    refine va_get (D := (dC, dI)) (ci := 5) (v := .int (v 22)) (C := RX5) (T := TX5) (N := 7) hx hb hts inB_5 hown hE.1 hP 21 rfl rfl 5 (Nat.le_of_ble_eq_true rfl) (hts _ k_343) (fun _ h9 => h9) rfl dX5_keepAct_53 ?_
    refine lv_iadd hx hb dX5_keepAct_56 ?_
    refine lv_topi (fun t4 et4 => ?_)
    refine lv_bipush (v := 41) hx hb dX5_keepAct_57 rfl ?_
    refine lv_irem hx hb dX5_keepAct_59 (by decide) ?_
    refine lv_topi (fun t5 et5 => ?_)
    refine cbVv (n := 2) (rest := []) hx hb hml hown hts hE hP hD hS hA (sX_X1_saveTo_1 NF l dC dI cy x0 x t5 (upd (upd v 23 0) 21 t3) f (Xu_21 (x := t3) (Xu_23 (x := 0) hIv (rlo _) (rhi _)) (rlo _) (rhi _)) ) k_331 k_332 k_333 k_106 k_334 hd_yX1_saveTo ⟨Nat.le_of_ble_eq_true rfl, Nat.le_of_ble_eq_true rfl⟩ 22 1 rfl rfl (rfl) hl.1 rfl (Nat.le_of_ble_eq_true rfl) dX5_keepAct_60 (fun u H locs hw hP hD hS => ?_)
    obtain ⟨hG6, hw⟩ := hw
    obtain ⟨v7, f8⟩ := u
    obtain ⟨kV_v7, kF_f8, hIv7, hk0_v7, hk1_v7, hk7_v7, hk8_v7, hk9_v7, hk10_v7, hk31_v7, hk32_v7⟩ := hw
    have hM_v7 : KV [21, 22, 23] v7 v := KV.tr kV_v7 (KV.up (j := 21) (x := t3) (KV.up (j := 23) (x := 0) hM_v rfl) rfl) rfl
    have hA_f8 : KF [17] f8 f := KF.tr kF_f8 hA_f rfl
    have hP : va_P (dC, dI) vwCl (XW cy x0 x v7 f8) H := hP
    have hD : va_D A (XW cy x0 x v7 f8) := hD
    exact ret (v7, f8) _ _ _ _ _ _ ⟨(gsX_X5_keepAct_1_q0 c1 et2 et3 et4 et5 hG6), hM_v7, hA_f8, hIv7, hk0_v7, hk1_v7, hk7_v7, hk8_v7, hk9_v7, hk10_v7, hk31_v7, hk32_v7⟩ hP hD hS dX5_keepAct_63 (Nat.le_refl _) (Nat.le_refl _)
  · skip
    refine lv_aload_n hx hb dX5_keepAct_14 rfl (lv_at hl 0 rfl) ?_
    refine lv_dup hx hb dX5_keepAct_15 rfl ?_
    refine va_get (D := (dC, dI)) (ci := 5) (v := .int (v 22)) (C := RX5) (T := TX5) (N := 7) hx hb hts inB_5 hown hE.1 hP 21 rfl rfl 5 (Nat.le_of_ble_eq_true rfl) (hts _ k_343) (fun _ h9 => h9) rfl dX5_keepAct_16 ?_
    refine lv_iconst (v := 1) hx hb dX5_keepAct_19 rfl ?_
    refine lv_iadd hx hb dX5_keepAct_20 ?_
    refine lv_topi (fun t9 et9 => ?_)
    refine va_put (D := (dC, dI)) (ci := 5) (v := .int t9) (ty := tyX5 5) (C := RX5) (T := TX5) (N := 7) hx hb hts inB_5 tyX5 tyX5_ok nmX5 hown hE.1 hP hD hS 21 rfl rfl 5 (Nat.le_of_ble_eq_true rfl) (hts _ k_343) (fun _ h9 => h9) rfl (tyX5_ok 5 (Nat.le_of_ble_eq_true rfl)) rfl rfl (Nat.le_of_ble_eq_true rfl) dX5_keepAct_21 (fun H locs hP hD hS => ?_)
    have hP : va_P (dC, dI) vwCl (XW cy x0 x (upd (upd v 23 0) 22 t9) f) H := hP
    have hD : va_D A (XW cy x0 x (upd (upd v 23 0) 22 t9) f) := hD
    refine lv_goto (tgt := 40) hx hb dX5_keepAct_24 rfl ?_
    refine lv_aload_n hx hb dX5_keepAct_40 rfl (lv_at hl 0 rfl) ?_
    refine va_get (D := (dC, dI)) (ci := 5) (v := .ref (x 21)) (C := RX5) (T := TX5) (N := 7) hx hb hts inB_5 hown hE.1 hP 21 rfl rfl 0 (Nat.le_of_ble_eq_true rfl) (hts _ k_338) (fun _ h9 => h9) rfl dX5_keepAct_41 ?_
    refine lv_aload_n hx hb dX5_keepAct_44 rfl (lv_at hl 0 rfl) ?_
    refine va_get (D := (dC, dI)) (ci := 5) (v := .ref (x 24)) (C := RX5) (T := TX5) (N := 7) hx hb hts inB_5 hown hE.1 hP 21 rfl rfl 1 (Nat.le_of_ble_eq_true rfl) (hts _ k_339) (fun _ h9 => h9) rfl dX5_keepAct_45 ?_
    refine lv_aload_n hx hb dX5_keepAct_48 rfl (lv_at hl 0 rfl) ?_
    refine va_get (D := (dC, dI)) (ci := 5) (v := .int (v 21)) (C := RX5) (T := TX5) (N := 7) hx hb hts inB_5 hown hE.1 hP 21 rfl rfl 4 (Nat.le_of_ble_eq_true rfl) (hts _ k_342) (fun _ h9 => h9) rfl dX5_keepAct_49 ?_
    refine lv_aload_n hx hb dX5_keepAct_52 rfl (lv_at hl 0 rfl) ?_
    refine va_get (D := (dC, dI)) (ci := 5) (v := .int t9) (C := RX5) (T := TX5) (N := 7) hx hb hts inB_5 hown hE.1 hP 21 rfl rfl 5 (Nat.le_of_ble_eq_true rfl) (hts _ k_343) (fun _ h9 => h9) rfl dX5_keepAct_53 ?_
    refine lv_iadd hx hb dX5_keepAct_56 ?_
    refine lv_topi (fun t11 et11 => ?_)
    refine lv_bipush (v := 41) hx hb dX5_keepAct_57 rfl ?_
    refine lv_irem hx hb dX5_keepAct_59 (by decide) ?_
    refine lv_topi (fun t12 et12 => ?_)
    refine cbVv (n := 2) (rest := []) hx hb hml hown hts hE hP hD hS hA (sX_X1_saveTo_1 NF l dC dI cy x0 x t12 (upd (upd v 23 0) 22 t9) f (Xu_22 (x := t9) (Xu_23 (x := 0) hIv (rlo _) (rhi _)) (rlo _) (rhi _)) ) k_331 k_332 k_333 k_106 k_334 hd_yX1_saveTo ⟨Nat.le_of_ble_eq_true rfl, Nat.le_of_ble_eq_true rfl⟩ 22 1 rfl rfl (rfl) hl.1 rfl (Nat.le_of_ble_eq_true rfl) dX5_keepAct_60 (fun u H locs hw hP hD hS => ?_)
    obtain ⟨hG13, hw⟩ := hw
    obtain ⟨v14, f15⟩ := u
    obtain ⟨kV_v14, kF_f15, hIv14, hk0_v14, hk1_v14, hk7_v14, hk8_v14, hk9_v14, hk10_v14, hk31_v14, hk32_v14⟩ := hw
    have hM_v14 : KV [21, 22, 23] v14 v := KV.tr kV_v14 (KV.up (j := 22) (x := t9) (KV.up (j := 23) (x := 0) hM_v rfl) rfl) rfl
    have hA_f15 : KF [17] f15 f := KF.tr kF_f15 hA_f rfl
    have hP : va_P (dC, dI) vwCl (XW cy x0 x v14 f15) H := hP
    have hD : va_D A (XW cy x0 x v14 f15) := hD
    exact ret (v14, f15) _ _ _ _ _ _ ⟨(gsX_X5_keepAct_1_q1 c1 et9 et11 et12 hG13), hM_v14, hA_f15, hIv14, hk0_v14, hk1_v14, hk7_v14, hk8_v14, hk9_v14, hk10_v14, hk31_v14, hk32_v14⟩ hP hD hS dX5_keepAct_63 (Nat.le_refl _) (Nat.le_refl _)
set_option maxHeartbeats 4000000 in
set_option maxRecDepth 100000 in
theorem sX_X10_day_1 (NF : Nat) (l : Launch) (dC : Nat → ClassId) (dI : Nat → Nat → Nat) (cy : Nat → ClassId) (x0 : Nat) (x : Nat → Nat)  (v : Nat → Int32) (f : Nat → Nat → Int32) (hIv : XI v)  : ctI l (dC, dI) cy yX10_day cX10_day 2 .int 6 179 0 0 ((Nat → Int32) × (Nat → Nat → Int32)) [.ref x0] (XW cy x0 x v f) (fun r u => gsX_X10_day_1 NF v f = (r, u) ∧ KV [21, 22, 23] u.1 v ∧ KF [13, 14, 15, 17] u.2 f ∧ XI u.1 ∧ u.1 0 = v 0 ∧ u.1 1 = v 1 ∧ u.1 7 = v 7 ∧ u.1 8 = v 8 ∧ u.1 9 = v 9 ∧ u.1 10 = v 10 ∧ u.1 31 = v 31 ∧ u.1 32 = v 32) (fun u => XW cy x0 x u.1 u.2) := by
  refine ctI_of (by decide) (Nat.le_of_ble_eq_true rfl) (fun p e s m below meth c A ls Q hx hb hml hts hown hE hP hD hA hl ret => ?_)
  have hM_v : KV [21, 22, 23] v v := fun _ _ => rfl
  have hA_f : KF [13, 14, 15, 17] f f := fun _ _ => rfl
  have hown : s.vm.findClass RX10 = some m.cls := hown
  have hS : va_S A s.heap s.heap [] := va_S.rf
  have hl : lv_has ls 2 [(0, .ref x0)] := hl
  refine lv_aload_n hx hb dX10_day_0 rfl (lv_at hl 0 rfl) ?_
  refine va_get (D := (dC, dI)) (ci := 10) (v := .ref (x 21)) (C := RX10) (T := TX10) (N := 10) hx hb hts inB_10 hown hE.1 hP 0 rfl rfl 3 (Nat.le_of_ble_eq_true rfl) (hts _ k_494) (fun _ h9 => h9) rfl dX10_day_1 ?_
  refine cbVi (n := 0) (rest := []) hx hb hml hown hts hE hP hD hS hA (sX_X1_today_1 NF l dC dI cy x0 x  v f hIv ) k_864 k_832 k_833 k_106 k_834 hd_yX1_today ⟨Nat.le_of_ble_eq_true rfl, Nat.le_of_ble_eq_true rfl⟩ 22 1 rfl rfl (rfl) hl.1 rfl (Nat.le_of_ble_eq_true rfl) dX10_day_4 (fun r1 u H locs hw hP hD hS => ?_)
  have hG2 := hw
  refine lv_sipush (v := 999) hx hb dX10_day_7 rfl ?_
  refine lv_icmp_lt (tgt := 15) hx hb dX10_day_10 rfl (fun c3 => ?_) (fun c3 => ?_)
  · skip
    refine lv_aload_n hx hb dX10_day_15 rfl (lv_at hl 0 rfl) ?_
    refine va_get (D := (dC, dI)) (ci := 10) (v := .ref (x 21)) (C := RX10) (T := TX10) (N := 10) hx hb hts inB_10 hown hE.1 hP 0 rfl rfl 3 (Nat.le_of_ble_eq_true rfl) (hts _ k_494) (fun _ h9 => h9) rfl dX10_day_16 ?_
    refine lv_aload_n hx hb dX10_day_19 rfl (lv_at hl 0 rfl) ?_
    refine va_get (D := (dC, dI)) (ci := 10) (v := .ref (x 26)) (C := RX10) (T := TX10) (N := 10) hx hb hts inB_10 hown hE.1 hP 0 rfl rfl 2 (Nat.le_of_ble_eq_true rfl) (hts _ k_493) (fun _ h9 => h9) rfl dX10_day_20 ?_
    refine va_getN (D := (dC, dI)) (ci := 7) (v := .int (v 36)) (C := RX7) (T := TX7) (N := 10) hx hb hts inB_7 hown hE.1 hP 27 rfl rfl 8 (Nat.le_of_ble_eq_true rfl) (va_Nw.use rfl (hE.2 _ k_241)) (fun _ h9 => h9) rfl dX10_day_23 ?_
    refine cbVi (n := 1) (rest := []) hx hb hml hown hts hE hP hD hS hA (sX_X1_passDay_1 NF l dC dI cy x0 x (v 36) v f hIv ) k_865 k_866 k_867 k_106 k_868 hd_yX1_passDay ⟨Nat.le_of_ble_eq_true rfl, Nat.le_of_ble_eq_true rfl⟩ 22 1 rfl rfl (rfl) hl.1 rfl (Nat.le_of_ble_eq_true rfl) dX10_day_26 (fun r4 u H locs hw hP hD hS => ?_)
    obtain ⟨hG5, hw⟩ := hw
    obtain ⟨v6, f7⟩ := u
    obtain ⟨kV_v6, kF_f7, hIv6, hk0_v6, hk1_v6, hk7_v6, hk8_v6, hk9_v6, hk10_v6, hk31_v6, hk32_v6⟩ := hw
    have hM_v6 : KV [21, 22, 23] v6 v := KV.tr kV_v6 hM_v rfl
    have hA_f7 : KF [13, 14, 15, 17] f7 f := KF.tr kF_f7 hA_f rfl
    have hP : va_P (dC, dI) vwCl (XW cy x0 x v6 f7) H := hP
    have hD : va_D A (XW cy x0 x v6 f7) := hD
    refine lv_istore_n (lv' := [(1, .int r4), (0, .ref x0)]) hx hb dX10_day_29 rfl hl (Nat.le_of_ble_eq_true rfl) rfl (fun ls hl => ?_)
    refine lv_aload_n hx hb dX10_day_30 rfl (lv_at hl 1 rfl) ?_
    refine va_get (D := (dC, dI)) (ci := 10) (v := .ref (x 20)) (C := RX10) (T := TX10) (N := 10) hx hb hts inB_10 hown hE.1 hP 0 rfl rfl 4 (Nat.le_of_ble_eq_true rfl) (hts _ k_495) (fun _ h9 => h9) rfl dX10_day_31 ?_
    refine cbVv (n := 0) (rest := []) hx hb hml hown hts hE hP hD hS hA (sX_X5_keepAct_1 NF l dC dI cy x0 x  v6 f7 hIv6 ) k_883 k_884 k_885 k_107 k_886 hd_yX5_keepAct ⟨Nat.le_of_ble_eq_true rfl, Nat.le_of_ble_eq_true rfl⟩ 21 5 rfl rfl (rfl) hl.1 rfl (Nat.le_of_ble_eq_true rfl) dX10_day_34 (fun u H locs hw hP hD hS => ?_)
    obtain ⟨hG8, hw⟩ := hw
    obtain ⟨v9, f10⟩ := u
    obtain ⟨kV_v9, kF_f10, hIv9, hk0_v9, hk1_v9, hk7_v9, hk8_v9, hk9_v9, hk10_v9, hk31_v9, hk32_v9⟩ := hw
    have hM_v9 : KV [21, 22, 23] v9 v := KV.tr kV_v9 hM_v6 rfl
    have hA_f10 : KF [13, 14, 15, 17] f10 f := KF.tr kF_f10 hA_f7 rfl
    have hP : va_P (dC, dI) vwCl (XW cy x0 x v9 f10) H := hP
    have hD : va_D A (XW cy x0 x v9 f10) := hD
    refine lv_iload_n hx hb dX10_day_37 rfl (lv_at hl 0 rfl) ?_
    exact ret r4 (v9, f10) _ _ _ _ _ _ rfl ⟨(gsX_X10_day_1_q0 hG2.symm c3 hG5 hG8), hM_v9, hA_f10, hIv9, (hk0_v9.trans hk0_v6), (hk1_v9.trans hk1_v6), (hk7_v9.trans hk7_v6), (hk8_v9.trans hk8_v6), (hk9_v9.trans hk9_v6), (hk10_v9.trans hk10_v6), (hk31_v9.trans hk31_v6), (hk32_v9.trans hk32_v6)⟩ hP hD hS dX10_day_38 (Nat.le_refl _) (Nat.le_refl _)
  · skip
    refine lv_iconst (v := (-1)) hx hb dX10_day_13 rfl ?_
    exact ret (-1) (v, f) _ _ _ _ _ _ rfl ⟨(gsX_X10_day_1_q1 hG2.symm c3), hM_v, hA_f, hIv, rfl, rfl, rfl, rfl, rfl, rfl, rfl, rfl⟩ hP hD hS dX10_day_14 (Nat.le_refl _) (Nat.le_refl _)
set_option maxHeartbeats 4000000 in
set_option maxRecDepth 100000 in
theorem sX_X1_wearer_1 (NF : Nat) (l : Launch) (dC : Nat → ClassId) (dI : Nat → Nat → Nat) (cy : Nat → ClassId) (x0 : Nat) (x : Nat → Nat) (p1 : Int32) (v : Nat → Int32) (f : Nat → Nat → Int32) (hIv : XI v)  : ctI l (dC, dI) cy yX1_wearer cX1_wearer 3 .int 3 102 0 0 Unit [.ref (x 21), .int p1] (XW cy x0 x v f) (fun r u => gsX_X1_wearer_1 NF p1 v f = r) (fun u => XW cy x0 x v f) := by
  refine ctI_of (by decide) (Nat.le_of_ble_eq_true rfl) (fun p e s m below meth c A ls Q hx hb hml hts hown hE hP hD hA hl ret => ?_)
  have hown : s.vm.findClass RX1 = some m.cls := hown
  have hS : va_S A s.heap s.heap [] := va_S.rf
  have hl : lv_has ls 3 [(0, .ref (x 21)), (1, .int p1)] := hl
  refine lv_iconst (v := 0) hx hb dX1_wearer_0 rfl ?_
  refine lv_istore_n (lv' := [(2, .int 0), (0, .ref (x 21)), (1, .int p1)]) hx hb dX1_wearer_1 rfl hl (Nat.le_of_ble_eq_true rfl) rfl (fun ls hl => ?_)
  have lp1 : ∀ (n1 : Nat) (l2_1 : Int32), gsX_X1_wearer_1_L1 NF p1 v f n1 l2_1 = (gsX_X1_wearer_1 NF p1 v f) → ((0 : Int) ≤ l2_1.toInt ∧ l2_1.toInt ≤ 2147483647) → (2147483647 - l2_1.toInt).toNat < n1 → ∀ (H : Heap) (locs : List Loc) (ls : Array Slot), va_P (dC, dI) vwCl (XW cy x0 x v f) H → va_D A (XW cy x0 x v f) → va_S A s.heap H locs → lv_has ls 3 [(2, .int l2_1), (0, .ref (x 21)), (1, .int p1)] → W p l e { frames := 3, cells := 0, slots := 0, locals := 102 } s m ([.ref (x 21), .int p1] : List Value).toArray below meth c H locs 0 0 Q (F0 m 2 ls []) := by
    intro n1
    induction n1 with
    | zero => intro l2_1 hT1 hr2_1 hm; exact absurd hm (Nat.not_lt_zero _)
    | succ n1 ih1 =>
      intro l2_1 hT1 hr2_1 hm1 H locs ls hP hD hS hl
      refine lv_iload_n hx hb dX1_wearer_2 rfl (lv_at hl 0 rfl) ?_
      refine lv_aload_n hx hb dX1_wearer_3 rfl (lv_at hl 1 rfl) ?_
      refine va_get (D := (dC, dI)) (ci := 1) (v := .ref (x 26)) (C := RX1) (T := TX1) (N := 2) hx hb hts inB_1 hown hE.1 hP 22 rfl rfl 0 (Nat.le_of_ble_eq_true rfl) (hts _ k_318) (fun _ h9 => h9) rfl dX1_wearer_4 ?_
      refine va_getN (D := (dC, dI)) (ci := 7) (v := .int (v 31)) (C := RX7) (T := TX7) (N := 10) hx hb hts inB_7 hown hE.1 hP 27 rfl rfl 3 (Nat.le_of_ble_eq_true rfl) (va_Nw.use rfl (hE.2 _ k_219)) (fun _ h9 => h9) rfl dX1_wearer_7 ?_
      have b31_v : 0 ≤ (v 31).toInt ∧ (v 31).toInt ≤ 6 := Xb_31 hIv
      refine lv_icmp_ge (tgt := 30) hx hb dX1_wearer_10 rfl (fun c2 => ?_) (fun c2 => ?_)
      · skip
        refine lv_iconst (v := (-1)) hx hb dX1_wearer_30 rfl ?_
        exact ret (-1) () _ _ _ _ _ _ rfl (hT1.symm.trans (gsX_X1_wearer_1_q0 c2)) hP hD hS dX1_wearer_31 (Nat.le_refl _) (Nat.le_refl _)
      · skip
        have zc2 : ¬ ((v 31).toInt ≤ l2_1.toInt) := zMn rfl rfl c2
        refine lv_aload_n hx hb dX1_wearer_13 rfl (lv_at hl 1 rfl) ?_
        refine lv_iload_n hx hb dX1_wearer_14 rfl (lv_at hl 0 rfl) ?_
        refine cbVi (n := 1) (rest := []) hx hb hml hown hts hE hP hD hS hA (sX_X1_wears_1 NF l dC dI cy x0 x l2_1 v f hIv ) k_853 k_810 k_811 k_106 k_812 hd_yX1_wears ⟨Nat.le_of_ble_eq_true rfl, Nat.le_of_ble_eq_true rfl⟩ 22 1 rfl rfl (rfl) hl.1 rfl (Nat.le_of_ble_eq_true rfl) dX1_wearer_15 (fun r7 u H locs hw hP hD hS => ?_)
        have hG8 := hw
        refine lv_iload_n hx hb dX1_wearer_18 rfl (lv_at hl 2 rfl) ?_
        refine lv_icmp_ne (tgt := 24) hx hb dX1_wearer_19 rfl (fun c9 => ?_) (fun c9 => ?_)
        · skip
          obtain ⟨t12, et12⟩ : ∃ y : Int32, y = l2_1 + 1 := ⟨_, rfl⟩
          have zt12 : t12.toInt = l2_1.toInt + 1 := (congrArg Int32.toInt et12).trans (add_i rfl tc_1 (om_41 hr2_1) (om_187 b31_v zc2))
          refine lv_iinc (v := t12) (lv' := [(2, .int t12), (0, .ref (x 21)), (1, .int p1)]) hx hb dX1_wearer_24 hl (k := 0) rfl et12.symm (Nat.le_of_ble_eq_true rfl) rfl (fun ls hl => ?_)
          refine lv_goto (tgt := 2) hx hb dX1_wearer_27 rfl ?_
          have rg13 := fb_rng t12
          exact ih1 t12 ((gsX_X1_wearer_1_q1 c2 hG8.symm c9 et12).symm.trans hT1) ⟨show (0 : Int) ≤ t12.toInt from om_43 hr2_1 zt12, show t12.toInt ≤ (2147483647 : Int) from om_44 rg13⟩ (show (2147483647 - t12.toInt).toNat < n1 from om_33 hm1 zt12 rg13) _ _ _ hP hD hS (lv_sub hl [0, 1, 2] rfl)
        · skip
          refine lv_iload_n hx hb dX1_wearer_22 rfl (lv_at hl 0 rfl) ?_
          exact ret l2_1 () _ _ _ _ _ _ rfl (hT1.symm.trans (gsX_X1_wearer_1_q2 c2 hG8.symm c9)) hP hD hS dX1_wearer_23 (Nat.le_refl _) (Nat.le_refl _)
  exact lp1 (4294967296 + NF) 0 gsX_X1_wearer_1_q3.symm ⟨by decide, by decide⟩ (show (2147483647 - (0 : Int32).toInt).toNat < 4294967296 + NF from om_38 tc_0) _ _ _ hP hD hS (lv_sub hl [0, 1, 2] rfl)
set_option maxHeartbeats 4000000 in
set_option maxRecDepth 100000 in
theorem sX_X10_don_1 (NF : Nat) (l : Launch) (dC : Nat → ClassId) (dI : Nat → Nat → Nat) (cy : Nat → ClassId) (x0 : Nat) (x : Nat → Nat) (p1 : Int32) (p2 : Int32) (v : Nat → Int32) (f : Nat → Nat → Int32) (hIv : XI v)  : ctI l (dC, dI) cy yX10_don cX10_don 4 .int 4 142 0 0 ((Nat → Int32) × (Nat → Nat → Int32)) [.ref x0, .int p1, .int p2] (XW cy x0 x v f) (fun r u => gsX_X10_don_1 NF p1 p2 v f = (r, u) ∧ KV [21, 22, 23] u.1 v ∧ KF [15, 17] u.2 f ∧ XI u.1 ∧ u.1 0 = v 0 ∧ u.1 1 = v 1 ∧ u.1 7 = v 7 ∧ u.1 8 = v 8 ∧ u.1 9 = v 9 ∧ u.1 10 = v 10 ∧ u.1 31 = v 31 ∧ u.1 32 = v 32) (fun u => XW cy x0 x u.1 u.2) := by
  refine ctI_of (by decide) (Nat.le_of_ble_eq_true rfl) (fun p e s m below meth c A ls Q hx hb hml hts hown hE hP hD hA hl ret => ?_)
  have hM_v : KV [21, 22, 23] v v := fun _ _ => rfl
  have hA_f : KF [15, 17] f f := fun _ _ => rfl
  have hown : s.vm.findClass RX10 = some m.cls := hown
  have hS : va_S A s.heap s.heap [] := va_S.rf
  have hl : lv_has ls 4 [(0, .ref x0), (1, .int p1), (2, .int p2)] := hl
  refine lv_aload_n hx hb dX10_don_0 rfl (lv_at hl 0 rfl) ?_
  refine va_get (D := (dC, dI)) (ci := 10) (v := .ref (x 26)) (C := RX10) (T := TX10) (N := 10) hx hb hts inB_10 hown hE.1 hP 0 rfl rfl 2 (Nat.le_of_ble_eq_true rfl) (hts _ k_493) (fun _ h9 => h9) rfl dX10_don_1 ?_
  refine lv_iload_n hx hb dX10_don_4 rfl (lv_at hl 1 rfl) ?_
  refine cbVi (n := 1) (rest := []) hx hb hml hown hts hE hP hD hS hA (sX_X7_hasMan_1 NF l dC dI cy x0 x p1 v f hIv ) k_802 k_307 k_308 k_104 k_309 hd_yX7_hasMan ⟨Nat.le_of_ble_eq_true rfl, Nat.le_of_ble_eq_true rfl⟩ 27 7 rfl rfl (rfl) hl.1 rfl (Nat.le_of_ble_eq_true rfl) dX10_don_5 (fun r1 u H locs hw hP hD hS => ?_)
  obtain ⟨hG2, hw⟩ := hw
  rcases hw with ⟨g3, g3_0, g3_1, g3_2⟩ | ⟨g3⟩
  · skip
    subst g3
    refine lv_if_eq (tgt := 34) hx hb dX10_don_8 rfl (fun c0 => absurd c0 (by decide)) (fun _ => ?_)
    refine lv_aload_n hx hb dX10_don_11 rfl (lv_at hl 0 rfl) ?_
    refine va_get (D := (dC, dI)) (ci := 10) (v := .ref (x 26)) (C := RX10) (T := TX10) (N := 10) hx hb hts inB_10 hown hE.1 hP 0 rfl rfl 2 (Nat.le_of_ble_eq_true rfl) (hts _ k_493) (fun _ h9 => h9) rfl dX10_don_12 ?_
    refine lv_iload_n hx hb dX10_don_15 rfl (lv_at hl 2 rfl) ?_
    refine cbVi (n := 1) (rest := []) hx hb hml hown hts hE hP hD hS hA (sX_X7_hasCoat_1 NF l dC dI cy x0 x p2 v f hIv ) k_848 k_315 k_316 k_104 k_317 hd_yX7_hasCoat ⟨Nat.le_of_ble_eq_true rfl, Nat.le_of_ble_eq_true rfl⟩ 27 7 rfl rfl (rfl) hl.1 rfl (Nat.le_of_ble_eq_true rfl) dX10_don_16 (fun r4 u H locs hw hP hD hS => ?_)
    obtain ⟨hG5, hw⟩ := hw
    rcases hw with ⟨g6, g6_0, g6_1, g6_2⟩ | ⟨g6⟩
    · skip
      subst g6
      refine lv_if_eq (tgt := 34) hx hb dX10_don_19 rfl (fun c0 => absurd c0 (by decide)) (fun _ => ?_)
      refine lv_aload_n hx hb dX10_don_22 rfl (lv_at hl 0 rfl) ?_
      refine va_get (D := (dC, dI)) (ci := 10) (v := .ref (x 21)) (C := RX10) (T := TX10) (N := 10) hx hb hts inB_10 hown hE.1 hP 0 rfl rfl 3 (Nat.le_of_ble_eq_true rfl) (hts _ k_494) (fun _ h9 => h9) rfl dX10_don_23 ?_
      refine lv_iload_n hx hb dX10_don_26 rfl (lv_at hl 2 rfl) ?_
      refine cbVi (n := 1) (rest := []) hx hb hml hown hts hE hP hD hS hA (sX_X1_wearer_1 NF l dC dI cy x0 x p2 v f hIv ) k_849 k_850 k_851 k_106 k_852 hd_yX1_wearer ⟨Nat.le_of_ble_eq_true rfl, Nat.le_of_ble_eq_true rfl⟩ 22 1 rfl rfl (rfl) hl.1 rfl (Nat.le_of_ble_eq_true rfl) dX10_don_27 (fun r7 u H locs hw hP hD hS => ?_)
      have hG8 := hw
      refine lv_iconst (v := (-1)) hx hb dX10_don_30 rfl ?_
      refine lv_icmp_eq (tgt := 37) hx hb dX10_don_31 rfl (fun c9 => ?_) (fun c9 => ?_)
      · skip
        refine lv_aload_n hx hb dX10_don_37 rfl (lv_at hl 0 rfl) ?_
        refine va_get (D := (dC, dI)) (ci := 10) (v := .ref (x 21)) (C := RX10) (T := TX10) (N := 10) hx hb hts inB_10 hown hE.1 hP 0 rfl rfl 3 (Nat.le_of_ble_eq_true rfl) (hts _ k_494) (fun _ h9 => h9) rfl dX10_don_38 ?_
        refine lv_iload_n hx hb dX10_don_41 rfl (lv_at hl 1 rfl) ?_
        refine cbVi (n := 1) (rest := []) hx hb hml hown hts hE hP hD hS hA (sX_X1_wears_1 NF l dC dI cy x0 x p1 v f hIv ) k_809 k_810 k_811 k_106 k_812 hd_yX1_wears ⟨Nat.le_of_ble_eq_true rfl, Nat.le_of_ble_eq_true rfl⟩ 22 1 rfl rfl (rfl) hl.1 rfl (Nat.le_of_ble_eq_true rfl) dX10_don_42 (fun r10 u H locs hw hP hD hS => ?_)
        have hG11 := hw
        refine lv_istore_n (lv' := [(3, .int r10), (0, .ref x0), (1, .int p1), (2, .int p2)]) hx hb dX10_don_45 rfl hl (Nat.le_of_ble_eq_true rfl) rfl (fun ls hl => ?_)
        refine lv_aload_n hx hb dX10_don_46 rfl (lv_at hl 1 rfl) ?_
        refine va_get (D := (dC, dI)) (ci := 10) (v := .ref (x 21)) (C := RX10) (T := TX10) (N := 10) hx hb hts inB_10 hown hE.1 hP 0 rfl rfl 3 (Nat.le_of_ble_eq_true rfl) (hts _ k_494) (fun _ h9 => h9) rfl dX10_don_47 ?_
        refine lv_iload_n hx hb dX10_don_50 rfl (lv_at hl 2 rfl) ?_
        refine lv_iload_n hx hb dX10_don_51 rfl (lv_at hl 3 rfl) ?_
        refine cbVv (n := 2) (rest := []) hx hb hml hown hts hE hP hD hS hA (sX_X1_setWears_1 NF l dC dI cy x0 x p1 p2 v f hIv ) k_891 k_880 k_881 k_106 k_882 hd_yX1_setWears ⟨Nat.le_of_ble_eq_true rfl, Nat.le_of_ble_eq_true rfl⟩ 22 1 rfl rfl (rfl) hl.1 rfl (Nat.le_of_ble_eq_true rfl) dX10_don_52 (fun u H locs hw hP hD hS => ?_)
        obtain ⟨hG12, hw⟩ := hw
        obtain ⟨v13, f14⟩ := u
        obtain ⟨kV_v13, kF_f14, hIv13, hk0_v13, hk1_v13, hk7_v13, hk8_v13, hk9_v13, hk10_v13, hk31_v13, hk32_v13⟩ := hw
        have hM_v13 : KV [21, 22, 23] v13 v := KV.tr kV_v13 hM_v rfl
        have hA_f14 : KF [15, 17] f14 f := KF.tr kF_f14 hA_f rfl
        have hP : va_P (dC, dI) vwCl (XW cy x0 x v13 f14) H := hP
        have hD : va_D A (XW cy x0 x v13 f14) := hD
        refine lv_aload_n hx hb dX10_don_55 rfl (lv_at hl 1 rfl) ?_
        refine va_get (D := (dC, dI)) (ci := 10) (v := .ref (x 20)) (C := RX10) (T := TX10) (N := 10) hx hb hts inB_10 hown hE.1 hP 0 rfl rfl 4 (Nat.le_of_ble_eq_true rfl) (hts _ k_495) (fun _ h9 => h9) rfl dX10_don_56 ?_
        refine cbVv (n := 0) (rest := []) hx hb hml hown hts hE hP hD hS hA (sX_X5_keepAct_1 NF l dC dI cy x0 x  v13 f14 hIv13 ) k_883 k_884 k_885 k_107 k_886 hd_yX5_keepAct ⟨Nat.le_of_ble_eq_true rfl, Nat.le_of_ble_eq_true rfl⟩ 21 5 rfl rfl (rfl) hl.1 rfl (Nat.le_of_ble_eq_true rfl) dX10_don_59 (fun u H locs hw hP hD hS => ?_)
        obtain ⟨hG15, hw⟩ := hw
        obtain ⟨v16, f17⟩ := u
        obtain ⟨kV_v16, kF_f17, hIv16, hk0_v16, hk1_v16, hk7_v16, hk8_v16, hk9_v16, hk10_v16, hk31_v16, hk32_v16⟩ := hw
        have hM_v16 : KV [21, 22, 23] v16 v := KV.tr kV_v16 hM_v13 rfl
        have hA_f17 : KF [15, 17] f17 f := KF.tr kF_f17 hA_f14 rfl
        have hP : va_P (dC, dI) vwCl (XW cy x0 x v16 f17) H := hP
        have hD : va_D A (XW cy x0 x v16 f17) := hD
        refine lv_iload_n hx hb dX10_don_62 rfl (lv_at hl 0 rfl) ?_
        exact ret r10 (v16, f17) _ _ _ _ _ _ rfl ⟨(gsX_X10_don_1_q0 hG2 hG5 hG8.symm c9 hG11.symm hG12 hG15), hM_v16, hA_f17, hIv16, (hk0_v16.trans hk0_v13), (hk1_v16.trans hk1_v13), (hk7_v16.trans hk7_v13), (hk8_v16.trans hk8_v13), (hk9_v16.trans hk9_v13), (hk10_v16.trans hk10_v13), (hk31_v16.trans hk31_v13), (hk32_v16.trans hk32_v13)⟩ hP hD hS dX10_don_63 (Nat.le_refl _) (Nat.le_refl _)
      · skip
        refine lv_bipush (v := (-2)) hx hb dX10_don_34 rfl ?_
        exact ret (-2) (v, f) _ _ _ _ _ _ rfl ⟨(gsX_X10_don_1_q1 hG2 hG5 hG8.symm c9), hM_v, hA_f, hIv, rfl, rfl, rfl, rfl, rfl, rfl, rfl, rfl⟩ hP hD hS dX10_don_36 (Nat.le_refl _) (Nat.le_refl _)
    · skip
      subst g6
      refine lv_if_eq (tgt := 34) hx hb dX10_don_19 rfl (fun _ => ?_) (fun c0 => absurd (by decide) c0)
      refine lv_bipush (v := (-2)) hx hb dX10_don_34 rfl ?_
      exact ret (-2) (v, f) _ _ _ _ _ _ rfl ⟨(gsX_X10_don_1_q2 hG2 hG5), hM_v, hA_f, hIv, rfl, rfl, rfl, rfl, rfl, rfl, rfl, rfl⟩ hP hD hS dX10_don_36 (Nat.le_refl _) (Nat.le_refl _)
  · skip
    subst g3
    refine lv_if_eq (tgt := 34) hx hb dX10_don_8 rfl (fun _ => ?_) (fun c0 => absurd (by decide) c0)
    refine lv_bipush (v := (-2)) hx hb dX10_don_34 rfl ?_
    exact ret (-2) (v, f) _ _ _ _ _ _ rfl ⟨(gsX_X10_don_1_q3 hG2), hM_v, hA_f, hIv, rfl, rfl, rfl, rfl, rfl, rfl, rfl, rfl⟩ hP hD hS dX10_don_36 (Nat.le_refl _) (Nat.le_refl _)
set_option maxHeartbeats 4000000 in
set_option maxRecDepth 100000 in
theorem sX_X10_doff_1 (NF : Nat) (l : Launch) (dC : Nat → ClassId) (dI : Nat → Nat → Nat) (cy : Nat → ClassId) (x0 : Nat) (x : Nat → Nat) (p1 : Int32) (v : Nat → Int32) (f : Nat → Nat → Int32) (hIv : XI v)  : ctI l (dC, dI) cy yX10_doff cX10_doff 3 .int 3 142 0 0 ((Nat → Int32) × (Nat → Nat → Int32)) [.ref x0, .int p1] (XW cy x0 x v f) (fun r u => gsX_X10_doff_1 NF p1 v f = (r, u) ∧ KV [21, 22, 23] u.1 v ∧ KF [15, 17] u.2 f ∧ XI u.1 ∧ u.1 0 = v 0 ∧ u.1 1 = v 1 ∧ u.1 7 = v 7 ∧ u.1 8 = v 8 ∧ u.1 9 = v 9 ∧ u.1 10 = v 10 ∧ u.1 31 = v 31 ∧ u.1 32 = v 32) (fun u => XW cy x0 x u.1 u.2) := by
  refine ctI_of (by decide) (Nat.le_of_ble_eq_true rfl) (fun p e s m below meth c A ls Q hx hb hml hts hown hE hP hD hA hl ret => ?_)
  have hM_v : KV [21, 22, 23] v v := fun _ _ => rfl
  have hA_f : KF [15, 17] f f := fun _ _ => rfl
  have hown : s.vm.findClass RX10 = some m.cls := hown
  have hS : va_S A s.heap s.heap [] := va_S.rf
  have hl : lv_has ls 3 [(0, .ref x0), (1, .int p1)] := hl
  refine lv_aload_n hx hb dX10_doff_0 rfl (lv_at hl 0 rfl) ?_
  refine va_get (D := (dC, dI)) (ci := 10) (v := .ref (x 21)) (C := RX10) (T := TX10) (N := 10) hx hb hts inB_10 hown hE.1 hP 0 rfl rfl 3 (Nat.le_of_ble_eq_true rfl) (hts _ k_494) (fun _ h9 => h9) rfl dX10_doff_1 ?_
  refine lv_iload_n hx hb dX10_doff_4 rfl (lv_at hl 1 rfl) ?_
  refine cbVi (n := 1) (rest := []) hx hb hml hown hts hE hP hD hS hA (sX_X1_wears_1 NF l dC dI cy x0 x p1 v f hIv ) k_809 k_810 k_811 k_106 k_812 hd_yX1_wears ⟨Nat.le_of_ble_eq_true rfl, Nat.le_of_ble_eq_true rfl⟩ 22 1 rfl rfl (rfl) hl.1 rfl (Nat.le_of_ble_eq_true rfl) dX10_doff_5 (fun r1 u H locs hw hP hD hS => ?_)
  have hG2 := hw
  refine lv_istore_n (lv' := [(2, .int r1), (0, .ref x0), (1, .int p1)]) hx hb dX10_doff_8 rfl hl (Nat.le_of_ble_eq_true rfl) rfl (fun ls hl => ?_)
  refine lv_iload_n hx hb dX10_doff_9 rfl (lv_at hl 0 rfl) ?_
  refine lv_iconst (v := (-1)) hx hb dX10_doff_10 rfl ?_
  refine lv_icmp_ne (tgt := 16) hx hb dX10_doff_11 rfl (fun c3 => ?_) (fun c3 => ?_)
  · skip
    refine lv_aload_n hx hb dX10_doff_16 rfl (lv_at hl 1 rfl) ?_
    refine va_get (D := (dC, dI)) (ci := 10) (v := .ref (x 21)) (C := RX10) (T := TX10) (N := 10) hx hb hts inB_10 hown hE.1 hP 0 rfl rfl 3 (Nat.le_of_ble_eq_true rfl) (hts _ k_494) (fun _ h9 => h9) rfl dX10_doff_17 ?_
    refine lv_iload_n hx hb dX10_doff_20 rfl (lv_at hl 2 rfl) ?_
    refine lv_iconst (v := (-1)) hx hb dX10_doff_21 rfl ?_
    refine cbVv (n := 2) (rest := []) hx hb hml hown hts hE hP hD hS hA (sX_X1_setWears_1 NF l dC dI cy x0 x p1 (-1) v f hIv ) k_891 k_880 k_881 k_106 k_882 hd_yX1_setWears ⟨Nat.le_of_ble_eq_true rfl, Nat.le_of_ble_eq_true rfl⟩ 22 1 rfl rfl (rfl) hl.1 rfl (Nat.le_of_ble_eq_true rfl) dX10_doff_22 (fun u H locs hw hP hD hS => ?_)
    obtain ⟨hG4, hw⟩ := hw
    obtain ⟨v5, f6⟩ := u
    obtain ⟨kV_v5, kF_f6, hIv5, hk0_v5, hk1_v5, hk7_v5, hk8_v5, hk9_v5, hk10_v5, hk31_v5, hk32_v5⟩ := hw
    have hM_v5 : KV [21, 22, 23] v5 v := KV.tr kV_v5 hM_v rfl
    have hA_f6 : KF [15, 17] f6 f := KF.tr kF_f6 hA_f rfl
    have hP : va_P (dC, dI) vwCl (XW cy x0 x v5 f6) H := hP
    have hD : va_D A (XW cy x0 x v5 f6) := hD
    refine lv_aload_n hx hb dX10_doff_25 rfl (lv_at hl 1 rfl) ?_
    refine va_get (D := (dC, dI)) (ci := 10) (v := .ref (x 20)) (C := RX10) (T := TX10) (N := 10) hx hb hts inB_10 hown hE.1 hP 0 rfl rfl 4 (Nat.le_of_ble_eq_true rfl) (hts _ k_495) (fun _ h9 => h9) rfl dX10_doff_26 ?_
    refine cbVv (n := 0) (rest := []) hx hb hml hown hts hE hP hD hS hA (sX_X5_keepAct_1 NF l dC dI cy x0 x  v5 f6 hIv5 ) k_883 k_884 k_885 k_107 k_886 hd_yX5_keepAct ⟨Nat.le_of_ble_eq_true rfl, Nat.le_of_ble_eq_true rfl⟩ 21 5 rfl rfl (rfl) hl.1 rfl (Nat.le_of_ble_eq_true rfl) dX10_doff_29 (fun u H locs hw hP hD hS => ?_)
    obtain ⟨hG7, hw⟩ := hw
    obtain ⟨v8, f9⟩ := u
    obtain ⟨kV_v8, kF_f9, hIv8, hk0_v8, hk1_v8, hk7_v8, hk8_v8, hk9_v8, hk10_v8, hk31_v8, hk32_v8⟩ := hw
    have hM_v8 : KV [21, 22, 23] v8 v := KV.tr kV_v8 hM_v5 rfl
    have hA_f9 : KF [15, 17] f9 f := KF.tr kF_f9 hA_f6 rfl
    have hP : va_P (dC, dI) vwCl (XW cy x0 x v8 f9) H := hP
    have hD : va_D A (XW cy x0 x v8 f9) := hD
    refine lv_iload_n hx hb dX10_doff_32 rfl (lv_at hl 0 rfl) ?_
    exact ret r1 (v8, f9) _ _ _ _ _ _ rfl ⟨(gsX_X10_doff_1_q0 hG2.symm c3 hG4 hG7), hM_v8, hA_f9, hIv8, (hk0_v8.trans hk0_v5), (hk1_v8.trans hk1_v5), (hk7_v8.trans hk7_v5), (hk8_v8.trans hk8_v5), (hk9_v8.trans hk9_v5), (hk10_v8.trans hk10_v5), (hk31_v8.trans hk31_v5), (hk32_v8.trans hk32_v5)⟩ hP hD hS dX10_doff_33 (Nat.le_refl _) (Nat.le_refl _)
  · skip
    refine lv_iconst (v := (-1)) hx hb dX10_doff_14 rfl ?_
    exact ret (-1) (v, f) _ _ _ _ _ _ rfl ⟨(gsX_X10_doff_1_q1 hG2.symm c3), hM_v, hA_f, hIv, rfl, rfl, rfl, rfl, rfl, rfl, rfl, rfl⟩ hP hD hS dX10_doff_15 (Nat.le_refl _) (Nat.le_refl _)
set_option maxHeartbeats 4000000 in
set_option maxRecDepth 100000 in
theorem sX_X10_widen_1 (NF : Nat) (l : Launch) (dC : Nat → ClassId) (dI : Nat → Nat → Nat) (cy : Nat → ClassId) (x0 : Nat) (x : Nat → Nat) (p1 : Int32) (p2 : Int32) (v : Nat → Int32) (f : Nat → Nat → Int32) (hIv : XI v)  : ctI l (dC, dI) cy yX10_widen cX10_widen 5 .int 3 142 0 0 ((Nat → Int32) × (Nat → Nat → Int32)) [.ref x0, .int p1, .int p2] (XW cy x0 x v f) (fun r u => gsX_X10_widen_1 NF p1 p2 v f = (r, u) ∧ KV [21, 22, 23] u.1 v ∧ KF [15, 17] u.2 f ∧ XI u.1 ∧ u.1 0 = v 0 ∧ u.1 1 = v 1 ∧ u.1 7 = v 7 ∧ u.1 8 = v 8 ∧ u.1 9 = v 9 ∧ u.1 10 = v 10 ∧ u.1 31 = v 31 ∧ u.1 32 = v 32) (fun u => XW cy x0 x u.1 u.2) := by
  refine ctI_of (by decide) (Nat.le_of_ble_eq_true rfl) (fun p e s m below meth c A ls Q hx hb hml hts hown hE hP hD hA hl ret => ?_)
  have hM_v : KV [21, 22, 23] v v := fun _ _ => rfl
  have hA_f : KF [15, 17] f f := fun _ _ => rfl
  have hown : s.vm.findClass RX10 = some m.cls := hown
  have hS : va_S A s.heap s.heap [] := va_S.rf
  have hl : lv_has ls 5 [(0, .ref x0), (1, .int p1), (2, .int p2)] := hl
  refine lv_aload_n hx hb dX10_widen_0 rfl (lv_at hl 0 rfl) ?_
  refine va_get (D := (dC, dI)) (ci := 10) (v := .ref (x 21)) (C := RX10) (T := TX10) (N := 10) hx hb hts inB_10 hown hE.1 hP 0 rfl rfl 3 (Nat.le_of_ble_eq_true rfl) (hts _ k_494) (fun _ h9 => h9) rfl dX10_widen_1 ?_
  refine lv_iconst (v := 1) hx hb dX10_widen_4 rfl ?_
  refine lv_iload_n hx hb dX10_widen_5 rfl (lv_at hl 1 rfl) ?_
  refine cbVi (n := 2) (rest := []) hx hb hml hown hts hE hP hD hS hA (sX_X1_part_1 NF l dC dI cy x0 x 1 p1 v f hIv ) k_854 k_828 k_829 k_106 k_830 hd_yX1_part ⟨Nat.le_of_ble_eq_true rfl, Nat.le_of_ble_eq_true rfl⟩ 22 1 rfl rfl (rfl) hl.1 rfl (Nat.le_of_ble_eq_true rfl) dX10_widen_6 (fun r1 u H locs hw hP hD hS => ?_)
  have hG2 := hw
  refine lv_iload_n hx hb dX10_widen_9 rfl (lv_at hl 2 rfl) ?_
  refine lv_iadd hx hb dX10_widen_10 ?_
  refine lv_topi (fun t3 et3 => ?_)
  refine lv_istore_n (lv' := [(3, .int t3), (0, .ref x0), (1, .int p1), (2, .int p2)]) hx hb dX10_widen_11 rfl hl (Nat.le_of_ble_eq_true rfl) rfl (fun ls hl => ?_)
  refine lv_aload_n hx hb dX10_widen_12 rfl (lv_at hl 1 rfl) ?_
  refine va_get (D := (dC, dI)) (ci := 10) (v := .ref (x 21)) (C := RX10) (T := TX10) (N := 10) hx hb hts inB_10 hown hE.1 hP 0 rfl rfl 3 (Nat.le_of_ble_eq_true rfl) (hts _ k_494) (fun _ h9 => h9) rfl dX10_widen_13 ?_
  refine lv_iconst (v := 2) hx hb dX10_widen_16 rfl ?_
  refine lv_iload_n hx hb dX10_widen_17 rfl (lv_at hl 2 rfl) ?_
  refine cbVi (n := 2) (rest := []) hx hb hml hown hts hE hP hD hS hA (sX_X1_part_1 NF l dC dI cy x0 x 2 p1 v f hIv ) k_854 k_828 k_829 k_106 k_830 hd_yX1_part ⟨Nat.le_of_ble_eq_true rfl, Nat.le_of_ble_eq_true rfl⟩ 22 1 rfl rfl (rfl) hl.1 rfl (Nat.le_of_ble_eq_true rfl) dX10_widen_18 (fun r4 u H locs hw hP hD hS => ?_)
  have hG5 := hw
  refine lv_iload_n hx hb dX10_widen_21 rfl (lv_at hl 3 rfl) ?_
  refine lv_isub hx hb dX10_widen_22 ?_
  refine lv_topi (fun t6 et6 => ?_)
  refine lv_istore (lv' := [(4, .int t6), (3, .int t3), (0, .ref x0), (1, .int p1), (2, .int p2)]) hx hb dX10_widen_23 hl (Nat.le_of_ble_eq_true rfl) rfl (fun ls hl => ?_)
  refine lv_iload_n hx hb dX10_widen_25 rfl (lv_at hl 1 rfl) ?_
  refine lv_bipush (v := 99) hx hb dX10_widen_26 rfl ?_
  refine lv_icmp_gt (tgt := 38) hx hb dX10_widen_28 rfl (fun c7 => ?_) (fun c7 => ?_)
  · skip
    refine lv_iconst (v := (-1)) hx hb dX10_widen_38 rfl ?_
    exact ret (-1) (v, f) _ _ _ _ _ _ rfl ⟨(gsX_X10_widen_1_q0 hG2.symm et3 hG5.symm et6 c7), hM_v, hA_f, hIv, rfl, rfl, rfl, rfl, rfl, rfl, rfl, rfl⟩ hP hD hS dX10_widen_39 (Nat.le_refl _) (Nat.le_refl _)
  · skip
    refine lv_iload hx hb dX10_widen_31 (lv_at hl 0 rfl) ?_
    refine lv_bipush (v := 99) hx hb dX10_widen_33 rfl ?_
    refine lv_icmp_le (tgt := 40) hx hb dX10_widen_35 rfl (fun c8 => ?_) (fun c8 => ?_)
    · skip
      refine lv_aload_n hx hb dX10_widen_40 rfl (lv_at hl 2 rfl) ?_
      refine va_get (D := (dC, dI)) (ci := 10) (v := .ref (x 21)) (C := RX10) (T := TX10) (N := 10) hx hb hts inB_10 hown hE.1 hP 0 rfl rfl 3 (Nat.le_of_ble_eq_true rfl) (hts _ k_494) (fun _ h9 => h9) rfl dX10_widen_41 ?_
      refine lv_iconst (v := 1) hx hb dX10_widen_44 rfl ?_
      refine lv_iload_n hx hb dX10_widen_45 rfl (lv_at hl 3 rfl) ?_
      refine lv_iload_n hx hb dX10_widen_46 rfl (lv_at hl 1 rfl) ?_
      refine cbVv (n := 3) (rest := []) hx hb hml hown hts hE hP hD hS hA (sX_X1_setPart_1 NF l dC dI cy x0 x 1 p1 t3 v f hIv ) k_904 k_875 k_876 k_106 k_877 hd_yX1_setPart ⟨Nat.le_of_ble_eq_true rfl, Nat.le_of_ble_eq_true rfl⟩ 22 1 rfl rfl (rfl) hl.1 rfl (Nat.le_of_ble_eq_true rfl) dX10_widen_47 (fun u H locs hw hP hD hS => ?_)
      obtain ⟨hG9, hw⟩ := hw
      obtain ⟨v10, f11⟩ := u
      obtain ⟨kV_v10, kF_f11, hIv10, hk0_v10, hk1_v10, hk7_v10, hk8_v10, hk9_v10, hk10_v10, hk31_v10, hk32_v10⟩ := hw
      have hM_v10 : KV [21, 22, 23] v10 v := KV.tr kV_v10 hM_v rfl
      have hA_f11 : KF [15, 17] f11 f := KF.tr kF_f11 hA_f rfl
      have hP : va_P (dC, dI) vwCl (XW cy x0 x v10 f11) H := hP
      have hD : va_D A (XW cy x0 x v10 f11) := hD
      refine lv_aload_n hx hb dX10_widen_50 rfl (lv_at hl 2 rfl) ?_
      refine va_get (D := (dC, dI)) (ci := 10) (v := .ref (x 21)) (C := RX10) (T := TX10) (N := 10) hx hb hts inB_10 hown hE.1 hP 0 rfl rfl 3 (Nat.le_of_ble_eq_true rfl) (hts _ k_494) (fun _ h9 => h9) rfl dX10_widen_51 ?_
      refine lv_iconst (v := 2) hx hb dX10_widen_54 rfl ?_
      refine lv_iload_n hx hb dX10_widen_55 rfl (lv_at hl 3 rfl) ?_
      refine lv_iload hx hb dX10_widen_56 (lv_at hl 0 rfl) ?_
      refine cbVv (n := 3) (rest := []) hx hb hml hown hts hE hP hD hS hA (sX_X1_setPart_1 NF l dC dI cy x0 x 2 p1 t6 v10 f11 hIv10 ) k_904 k_875 k_876 k_106 k_877 hd_yX1_setPart ⟨Nat.le_of_ble_eq_true rfl, Nat.le_of_ble_eq_true rfl⟩ 22 1 rfl rfl (rfl) hl.1 rfl (Nat.le_of_ble_eq_true rfl) dX10_widen_58 (fun u H locs hw hP hD hS => ?_)
      obtain ⟨hG12, hw⟩ := hw
      obtain ⟨v13, f14⟩ := u
      obtain ⟨kV_v13, kF_f14, hIv13, hk0_v13, hk1_v13, hk7_v13, hk8_v13, hk9_v13, hk10_v13, hk31_v13, hk32_v13⟩ := hw
      have hM_v13 : KV [21, 22, 23] v13 v := KV.tr kV_v13 hM_v10 rfl
      have hA_f14 : KF [15, 17] f14 f := KF.tr kF_f14 hA_f11 rfl
      have hP : va_P (dC, dI) vwCl (XW cy x0 x v13 f14) H := hP
      have hD : va_D A (XW cy x0 x v13 f14) := hD
      refine lv_aload_n hx hb dX10_widen_61 rfl (lv_at hl 2 rfl) ?_
      refine va_get (D := (dC, dI)) (ci := 10) (v := .ref (x 20)) (C := RX10) (T := TX10) (N := 10) hx hb hts inB_10 hown hE.1 hP 0 rfl rfl 4 (Nat.le_of_ble_eq_true rfl) (hts _ k_495) (fun _ h9 => h9) rfl dX10_widen_62 ?_
      refine cbVv (n := 0) (rest := []) hx hb hml hown hts hE hP hD hS hA (sX_X5_keepAct_1 NF l dC dI cy x0 x  v13 f14 hIv13 ) k_883 k_884 k_885 k_107 k_886 hd_yX5_keepAct ⟨Nat.le_of_ble_eq_true rfl, Nat.le_of_ble_eq_true rfl⟩ 21 5 rfl rfl (rfl) hl.1 rfl (Nat.le_of_ble_eq_true rfl) dX10_widen_65 (fun u H locs hw hP hD hS => ?_)
      obtain ⟨hG15, hw⟩ := hw
      obtain ⟨v16, f17⟩ := u
      obtain ⟨kV_v16, kF_f17, hIv16, hk0_v16, hk1_v16, hk7_v16, hk8_v16, hk9_v16, hk10_v16, hk31_v16, hk32_v16⟩ := hw
      have hM_v16 : KV [21, 22, 23] v16 v := KV.tr kV_v16 hM_v13 rfl
      have hA_f17 : KF [15, 17] f17 f := KF.tr kF_f17 hA_f14 rfl
      have hP : va_P (dC, dI) vwCl (XW cy x0 x v16 f17) H := hP
      have hD : va_D A (XW cy x0 x v16 f17) := hD
      refine lv_iload_n hx hb dX10_widen_68 rfl (lv_at hl 1 rfl) ?_
      exact ret t3 (v16, f17) _ _ _ _ _ _ rfl ⟨(gsX_X10_widen_1_q1 hG2.symm et3 hG5.symm et6 c7 c8 hG9 hG12 hG15), hM_v16, hA_f17, hIv16, (hk0_v16.trans (hk0_v13.trans hk0_v10)), (hk1_v16.trans (hk1_v13.trans hk1_v10)), (hk7_v16.trans (hk7_v13.trans hk7_v10)), (hk8_v16.trans (hk8_v13.trans hk8_v10)), (hk9_v16.trans (hk9_v13.trans hk9_v10)), (hk10_v16.trans (hk10_v13.trans hk10_v10)), (hk31_v16.trans (hk31_v13.trans hk31_v10)), (hk32_v16.trans (hk32_v13.trans hk32_v10))⟩ hP hD hS dX10_widen_69 (Nat.le_refl _) (Nat.le_refl _)
    · skip
      refine lv_iconst (v := (-1)) hx hb dX10_widen_38 rfl ?_
      exact ret (-1) (v, f) _ _ _ _ _ _ rfl ⟨(gsX_X10_widen_1_q2 hG2.symm et3 hG5.symm et6 c7 c8), hM_v, hA_f, hIv, rfl, rfl, rfl, rfl, rfl, rfl, rfl, rfl⟩ hP hD hS dX10_widen_39 (Nat.le_refl _) (Nat.le_refl _)
set_option maxHeartbeats 4000000 in
set_option maxRecDepth 100000 in
theorem sX_X10_letout_1 (NF : Nat) (l : Launch) (dC : Nat → ClassId) (dI : Nat → Nat → Nat) (cy : Nat → ClassId) (x0 : Nat) (x : Nat → Nat) (p1 : Int32) (p2 : Int32) (v : Nat → Int32) (f : Nat → Nat → Int32) (hIv : XI v)  : ctI l (dC, dI) cy yX10_letout cX10_letout 3 .int 4 166 0 0 ((Nat → Int32) × (Nat → Nat → Int32)) [.ref x0, .int p1, .int p2] (XW cy x0 x v f) (fun r u => gsX_X10_letout_1 NF p1 p2 v f = (r, u) ∧ KV [21, 22, 23] u.1 v ∧ KF [15, 17] u.2 f ∧ XI u.1 ∧ u.1 0 = v 0 ∧ u.1 1 = v 1 ∧ u.1 7 = v 7 ∧ u.1 8 = v 8 ∧ u.1 9 = v 9 ∧ u.1 10 = v 10 ∧ u.1 31 = v 31 ∧ u.1 32 = v 32) (fun u => XW cy x0 x u.1 u.2) := by
  refine ctI_of (by decide) (Nat.le_of_ble_eq_true rfl) (fun p e s m below meth c A ls Q hx hb hml hts hown hE hP hD hA hl ret => ?_)
  have hM_v : KV [21, 22, 23] v v := fun _ _ => rfl
  have hA_f : KF [15, 17] f f := fun _ _ => rfl
  have hown : s.vm.findClass RX10 = some m.cls := hown
  have hS : va_S A s.heap s.heap [] := va_S.rf
  have hl : lv_has ls 3 [(0, .ref x0), (1, .int p1), (2, .int p2)] := hl
  refine lv_iload_n hx hb dX10_letout_0 rfl (lv_at hl 2 rfl) ?_
  refine lv_iconst (v := 1) hx hb dX10_letout_1 rfl ?_
  refine lv_icmp_lt (tgt := 18) hx hb dX10_letout_2 rfl (fun c1 => ?_) (fun c1 => ?_)
  · skip
    refine lv_iconst (v := (-1)) hx hb dX10_letout_18 rfl ?_
    exact ret (-1) (v, f) _ _ _ _ _ _ rfl ⟨(gsX_X10_letout_1_q0 c1), hM_v, hA_f, hIv, rfl, rfl, rfl, rfl, rfl, rfl, rfl, rfl⟩ hP hD hS dX10_letout_19 (Nat.le_refl _) (Nat.le_refl _)
  · skip
    refine lv_iload_n hx hb dX10_letout_5 rfl (lv_at hl 2 rfl) ?_
    refine lv_aload_n hx hb dX10_letout_6 rfl (lv_at hl 0 rfl) ?_
    refine va_get (D := (dC, dI)) (ci := 10) (v := .ref (x 21)) (C := RX10) (T := TX10) (N := 10) hx hb hts inB_10 hown hE.1 hP 0 rfl rfl 3 (Nat.le_of_ble_eq_true rfl) (hts _ k_494) (fun _ h9 => h9) rfl dX10_letout_7 ?_
    refine lv_iconst (v := 2) hx hb dX10_letout_10 rfl ?_
    refine lv_iload_n hx hb dX10_letout_11 rfl (lv_at hl 1 rfl) ?_
    refine cbVi (n := 2) (rest := [.int p2]) hx hb hml hown hts hE hP hD hS hA (sX_X1_part_1 NF l dC dI cy x0 x 2 p1 v f hIv ) k_854 k_828 k_829 k_106 k_830 hd_yX1_part ⟨Nat.le_of_ble_eq_true rfl, Nat.le_of_ble_eq_true rfl⟩ 22 1 rfl rfl (rfl) hl.1 rfl (Nat.le_of_ble_eq_true rfl) dX10_letout_12 (fun r2 u H locs hw hP hD hS => ?_)
    have hG3 := hw
    refine lv_icmp_le (tgt := 20) hx hb dX10_letout_15 rfl (fun c4 => ?_) (fun c4 => ?_)
    · skip
      refine lv_aload_n hx hb dX10_letout_20 rfl (lv_at hl 0 rfl) ?_
      refine lv_iload_n hx hb dX10_letout_21 rfl (lv_at hl 1 rfl) ?_
      refine lv_iload_n hx hb dX10_letout_22 rfl (lv_at hl 2 rfl) ?_
      refine cbVi (n := 2) (rest := []) hx hb hml hown hts hE hP hD hS hA (sX_X10_widen_1 NF l dC dI cy x0 x p1 p2 v f hIv ) k_900 k_902 k_21 k_101 k_903 hd_yX10_widen ⟨Nat.le_of_ble_eq_true rfl, Nat.le_of_ble_eq_true rfl⟩ 0 10 rfl rfl (rfl) hl.1 rfl (Nat.le_of_ble_eq_true rfl) dX10_letout_23 (fun r7 u H locs hw hP hD hS => ?_)
      obtain ⟨hG8, hw⟩ := hw
      obtain ⟨v9, f10⟩ := u
      obtain ⟨kV_v9, kF_f10, hIv9, hk0_v9, hk1_v9, hk7_v9, hk8_v9, hk9_v9, hk10_v9, hk31_v9, hk32_v9⟩ := hw
      have hM_v9 : KV [21, 22, 23] v9 v := KV.tr kV_v9 hM_v rfl
      have hA_f10 : KF [15, 17] f10 f := KF.tr kF_f10 hA_f rfl
      have hP : va_P (dC, dI) vwCl (XW cy x0 x v9 f10) H := hP
      have hD : va_D A (XW cy x0 x v9 f10) := hD
      exact ret r7 (v9, f10) _ _ _ _ _ _ rfl ⟨(gsX_X10_letout_1_q1 c1 hG3.symm c4 hG8), hM_v9, hA_f10, hIv9, hk0_v9, hk1_v9, hk7_v9, hk8_v9, hk9_v9, hk10_v9, hk31_v9, hk32_v9⟩ hP hD hS dX10_letout_26 (Nat.le_refl _) (Nat.le_refl _)
    · skip
      refine lv_iconst (v := (-1)) hx hb dX10_letout_18 rfl ?_
      exact ret (-1) (v, f) _ _ _ _ _ _ rfl ⟨(gsX_X10_letout_1_q2 c1 hG3.symm c4), hM_v, hA_f, hIv, rfl, rfl, rfl, rfl, rfl, rfl, rfl, rfl⟩ hP hD hS dX10_letout_19 (Nat.le_refl _) (Nat.le_refl _)
set_option maxHeartbeats 4000000 in
set_option maxRecDepth 100000 in
theorem sX_X10_takein_1 (NF : Nat) (l : Launch) (dC : Nat → ClassId) (dI : Nat → Nat → Nat) (cy : Nat → ClassId) (x0 : Nat) (x : Nat → Nat) (p1 : Int32) (p2 : Int32) (v : Nat → Int32) (f : Nat → Nat → Int32) (hIv : XI v)  : ctI l (dC, dI) cy yX10_takein cX10_takein 3 .int 4 166 0 0 ((Nat → Int32) × (Nat → Nat → Int32)) [.ref x0, .int p1, .int p2] (XW cy x0 x v f) (fun r u => gsX_X10_takein_1 NF p1 p2 v f = (r, u) ∧ KV [21, 22, 23] u.1 v ∧ KF [15, 17] u.2 f ∧ XI u.1 ∧ u.1 0 = v 0 ∧ u.1 1 = v 1 ∧ u.1 7 = v 7 ∧ u.1 8 = v 8 ∧ u.1 9 = v 9 ∧ u.1 10 = v 10 ∧ u.1 31 = v 31 ∧ u.1 32 = v 32) (fun u => XW cy x0 x u.1 u.2) := by
  refine ctI_of (by decide) (Nat.le_of_ble_eq_true rfl) (fun p e s m below meth c A ls Q hx hb hml hts hown hE hP hD hA hl ret => ?_)
  have hM_v : KV [21, 22, 23] v v := fun _ _ => rfl
  have hA_f : KF [15, 17] f f := fun _ _ => rfl
  have hown : s.vm.findClass RX10 = some m.cls := hown
  have hS : va_S A s.heap s.heap [] := va_S.rf
  have hl : lv_has ls 3 [(0, .ref x0), (1, .int p1), (2, .int p2)] := hl
  refine lv_iload_n hx hb dX10_takein_0 rfl (lv_at hl 2 rfl) ?_
  refine lv_iconst (v := 1) hx hb dX10_takein_1 rfl ?_
  refine lv_icmp_lt (tgt := 18) hx hb dX10_takein_2 rfl (fun c1 => ?_) (fun c1 => ?_)
  · skip
    refine lv_iconst (v := (-1)) hx hb dX10_takein_18 rfl ?_
    exact ret (-1) (v, f) _ _ _ _ _ _ rfl ⟨(gsX_X10_takein_1_q0 c1), hM_v, hA_f, hIv, rfl, rfl, rfl, rfl, rfl, rfl, rfl, rfl⟩ hP hD hS dX10_takein_19 (Nat.le_refl _) (Nat.le_refl _)
  · skip
    refine lv_iload_n hx hb dX10_takein_5 rfl (lv_at hl 2 rfl) ?_
    refine lv_aload_n hx hb dX10_takein_6 rfl (lv_at hl 0 rfl) ?_
    refine va_get (D := (dC, dI)) (ci := 10) (v := .ref (x 21)) (C := RX10) (T := TX10) (N := 10) hx hb hts inB_10 hown hE.1 hP 0 rfl rfl 3 (Nat.le_of_ble_eq_true rfl) (hts _ k_494) (fun _ h9 => h9) rfl dX10_takein_7 ?_
    refine lv_iconst (v := 1) hx hb dX10_takein_10 rfl ?_
    refine lv_iload_n hx hb dX10_takein_11 rfl (lv_at hl 1 rfl) ?_
    refine cbVi (n := 2) (rest := [.int p2]) hx hb hml hown hts hE hP hD hS hA (sX_X1_part_1 NF l dC dI cy x0 x 1 p1 v f hIv ) k_854 k_828 k_829 k_106 k_830 hd_yX1_part ⟨Nat.le_of_ble_eq_true rfl, Nat.le_of_ble_eq_true rfl⟩ 22 1 rfl rfl (rfl) hl.1 rfl (Nat.le_of_ble_eq_true rfl) dX10_takein_12 (fun r2 u H locs hw hP hD hS => ?_)
    have hG3 := hw
    refine lv_icmp_le (tgt := 20) hx hb dX10_takein_15 rfl (fun c4 => ?_) (fun c4 => ?_)
    · skip
      refine lv_aload_n hx hb dX10_takein_20 rfl (lv_at hl 0 rfl) ?_
      refine lv_iload_n hx hb dX10_takein_21 rfl (lv_at hl 1 rfl) ?_
      refine lv_iload_n hx hb dX10_takein_22 rfl (lv_at hl 2 rfl) ?_
      refine lv_ineg hx hb dX10_takein_23 ?_
      refine lv_topi (fun t7 et7 => ?_)
      refine cbVi (n := 2) (rest := []) hx hb hml hown hts hE hP hD hS hA (sX_X10_widen_1 NF l dC dI cy x0 x p1 t7 v f hIv ) k_900 k_902 k_21 k_101 k_903 hd_yX10_widen ⟨Nat.le_of_ble_eq_true rfl, Nat.le_of_ble_eq_true rfl⟩ 0 10 rfl rfl (rfl) hl.1 rfl (Nat.le_of_ble_eq_true rfl) dX10_takein_24 (fun r8 u H locs hw hP hD hS => ?_)
      obtain ⟨hG9, hw⟩ := hw
      obtain ⟨v10, f11⟩ := u
      obtain ⟨kV_v10, kF_f11, hIv10, hk0_v10, hk1_v10, hk7_v10, hk8_v10, hk9_v10, hk10_v10, hk31_v10, hk32_v10⟩ := hw
      have hM_v10 : KV [21, 22, 23] v10 v := KV.tr kV_v10 hM_v rfl
      have hA_f11 : KF [15, 17] f11 f := KF.tr kF_f11 hA_f rfl
      have hP : va_P (dC, dI) vwCl (XW cy x0 x v10 f11) H := hP
      have hD : va_D A (XW cy x0 x v10 f11) := hD
      exact ret r8 (v10, f11) _ _ _ _ _ _ rfl ⟨(gsX_X10_takein_1_q1 c1 hG3.symm c4 et7 hG9), hM_v10, hA_f11, hIv10, hk0_v10, hk1_v10, hk7_v10, hk8_v10, hk9_v10, hk10_v10, hk31_v10, hk32_v10⟩ hP hD hS dX10_takein_27 (Nat.le_refl _) (Nat.le_refl _)
    · skip
      refine lv_iconst (v := (-1)) hx hb dX10_takein_18 rfl ?_
      exact ret (-1) (v, f) _ _ _ _ _ _ rfl ⟨(gsX_X10_takein_1_q2 c1 hG3.symm c4), hM_v, hA_f, hIv, rfl, rfl, rfl, rfl, rfl, rfl, rfl, rfl⟩ hP hD hS dX10_takein_19 (Nat.le_refl _) (Nat.le_refl _)
set_option maxHeartbeats 4000000 in
set_option maxRecDepth 100000 in
theorem sX_X10_hem_1 (NF : Nat) (l : Launch) (dC : Nat → ClassId) (dI : Nat → Nat → Nat) (cy : Nat → ClassId) (x0 : Nat) (x : Nat → Nat) (p1 : Int32) (p2 : Int32) (v : Nat → Int32) (f : Nat → Nat → Int32) (hIv : XI v)  : ctI l (dC, dI) cy yX10_hem cX10_hem 4 .int 3 142 0 0 ((Nat → Int32) × (Nat → Nat → Int32)) [.ref x0, .int p1, .int p2] (XW cy x0 x v f) (fun r u => gsX_X10_hem_1 NF p1 p2 v f = (r, u) ∧ KV [21, 22, 23] u.1 v ∧ KF [15, 17] u.2 f ∧ XI u.1 ∧ u.1 0 = v 0 ∧ u.1 1 = v 1 ∧ u.1 7 = v 7 ∧ u.1 8 = v 8 ∧ u.1 9 = v 9 ∧ u.1 10 = v 10 ∧ u.1 31 = v 31 ∧ u.1 32 = v 32) (fun u => XW cy x0 x u.1 u.2) := by
  refine ctI_of (by decide) (Nat.le_of_ble_eq_true rfl) (fun p e s m below meth c A ls Q hx hb hml hts hown hE hP hD hA hl ret => ?_)
  have hM_v : KV [21, 22, 23] v v := fun _ _ => rfl
  have hA_f : KF [15, 17] f f := fun _ _ => rfl
  have hown : s.vm.findClass RX10 = some m.cls := hown
  have hS : va_S A s.heap s.heap [] := va_S.rf
  have hl : lv_has ls 4 [(0, .ref x0), (1, .int p1), (2, .int p2)] := hl
  refine lv_aload_n hx hb dX10_hem_0 rfl (lv_at hl 0 rfl) ?_
  refine va_get (D := (dC, dI)) (ci := 10) (v := .ref (x 21)) (C := RX10) (T := TX10) (N := 10) hx hb hts inB_10 hown hE.1 hP 0 rfl rfl 3 (Nat.le_of_ble_eq_true rfl) (hts _ k_494) (fun _ h9 => h9) rfl dX10_hem_1 ?_
  refine lv_iconst (v := 0) hx hb dX10_hem_4 rfl ?_
  refine lv_iload_n hx hb dX10_hem_5 rfl (lv_at hl 1 rfl) ?_
  refine cbVi (n := 2) (rest := []) hx hb hml hown hts hE hP hD hS hA (sX_X1_part_1 NF l dC dI cy x0 x 0 p1 v f hIv ) k_854 k_828 k_829 k_106 k_830 hd_yX1_part ⟨Nat.le_of_ble_eq_true rfl, Nat.le_of_ble_eq_true rfl⟩ 22 1 rfl rfl (rfl) hl.1 rfl (Nat.le_of_ble_eq_true rfl) dX10_hem_6 (fun r1 u H locs hw hP hD hS => ?_)
  have hG2 := hw
  refine lv_istore_n (lv' := [(3, .int r1), (0, .ref x0), (1, .int p1), (2, .int p2)]) hx hb dX10_hem_9 rfl hl (Nat.le_of_ble_eq_true rfl) rfl (fun ls hl => ?_)
  refine lv_iload_n hx hb dX10_hem_10 rfl (lv_at hl 3 rfl) ?_
  refine lv_iconst (v := 1) hx hb dX10_hem_11 rfl ?_
  refine lv_icmp_lt (tgt := 20) hx hb dX10_hem_12 rfl (fun c3 => ?_) (fun c3 => ?_)
  · skip
    refine lv_iconst (v := (-1)) hx hb dX10_hem_20 rfl ?_
    exact ret (-1) (v, f) _ _ _ _ _ _ rfl ⟨(gsX_X10_hem_1_q0 hG2.symm c3), hM_v, hA_f, hIv, rfl, rfl, rfl, rfl, rfl, rfl, rfl, rfl⟩ hP hD hS dX10_hem_21 (Nat.le_refl _) (Nat.le_refl _)
  · skip
    refine lv_iload_n hx hb dX10_hem_15 rfl (lv_at hl 3 rfl) ?_
    refine lv_iload_n hx hb dX10_hem_16 rfl (lv_at hl 0 rfl) ?_
    refine lv_icmp_le (tgt := 22) hx hb dX10_hem_17 rfl (fun c4 => ?_) (fun c4 => ?_)
    · skip
      refine lv_aload_n hx hb dX10_hem_22 rfl (lv_at hl 1 rfl) ?_
      refine va_get (D := (dC, dI)) (ci := 10) (v := .ref (x 21)) (C := RX10) (T := TX10) (N := 10) hx hb hts inB_10 hown hE.1 hP 0 rfl rfl 3 (Nat.le_of_ble_eq_true rfl) (hts _ k_494) (fun _ h9 => h9) rfl dX10_hem_23 ?_
      refine lv_iconst (v := 0) hx hb dX10_hem_26 rfl ?_
      refine lv_iload_n hx hb dX10_hem_27 rfl (lv_at hl 2 rfl) ?_
      refine lv_iload_n hx hb dX10_hem_28 rfl (lv_at hl 0 rfl) ?_
      refine lv_iload_n hx hb dX10_hem_29 rfl (lv_at hl 3 rfl) ?_
      refine lv_isub hx hb dX10_hem_30 ?_
      refine lv_topi (fun t7 et7 => ?_)
      refine cbVv (n := 3) (rest := []) hx hb hml hown hts hE hP hD hS hA (sX_X1_setPart_1 NF l dC dI cy x0 x 0 p1 t7 v f hIv ) k_904 k_875 k_876 k_106 k_877 hd_yX1_setPart ⟨Nat.le_of_ble_eq_true rfl, Nat.le_of_ble_eq_true rfl⟩ 22 1 rfl rfl (rfl) hl.1 rfl (Nat.le_of_ble_eq_true rfl) dX10_hem_31 (fun u H locs hw hP hD hS => ?_)
      obtain ⟨hG8, hw⟩ := hw
      obtain ⟨v9, f10⟩ := u
      obtain ⟨kV_v9, kF_f10, hIv9, hk0_v9, hk1_v9, hk7_v9, hk8_v9, hk9_v9, hk10_v9, hk31_v9, hk32_v9⟩ := hw
      have hM_v9 : KV [21, 22, 23] v9 v := KV.tr kV_v9 hM_v rfl
      have hA_f10 : KF [15, 17] f10 f := KF.tr kF_f10 hA_f rfl
      have hP : va_P (dC, dI) vwCl (XW cy x0 x v9 f10) H := hP
      have hD : va_D A (XW cy x0 x v9 f10) := hD
      refine lv_aload_n hx hb dX10_hem_34 rfl (lv_at hl 1 rfl) ?_
      refine va_get (D := (dC, dI)) (ci := 10) (v := .ref (x 20)) (C := RX10) (T := TX10) (N := 10) hx hb hts inB_10 hown hE.1 hP 0 rfl rfl 4 (Nat.le_of_ble_eq_true rfl) (hts _ k_495) (fun _ h9 => h9) rfl dX10_hem_35 ?_
      refine cbVv (n := 0) (rest := []) hx hb hml hown hts hE hP hD hS hA (sX_X5_keepAct_1 NF l dC dI cy x0 x  v9 f10 hIv9 ) k_883 k_884 k_885 k_107 k_886 hd_yX5_keepAct ⟨Nat.le_of_ble_eq_true rfl, Nat.le_of_ble_eq_true rfl⟩ 21 5 rfl rfl (rfl) hl.1 rfl (Nat.le_of_ble_eq_true rfl) dX10_hem_38 (fun u H locs hw hP hD hS => ?_)
      obtain ⟨hG11, hw⟩ := hw
      obtain ⟨v12, f13⟩ := u
      obtain ⟨kV_v12, kF_f13, hIv12, hk0_v12, hk1_v12, hk7_v12, hk8_v12, hk9_v12, hk10_v12, hk31_v12, hk32_v12⟩ := hw
      have hM_v12 : KV [21, 22, 23] v12 v := KV.tr kV_v12 hM_v9 rfl
      have hA_f13 : KF [15, 17] f13 f := KF.tr kF_f13 hA_f10 rfl
      have hP : va_P (dC, dI) vwCl (XW cy x0 x v12 f13) H := hP
      have hD : va_D A (XW cy x0 x v12 f13) := hD
      refine lv_iload_n hx hb dX10_hem_41 rfl (lv_at hl 0 rfl) ?_
      refine lv_iload_n hx hb dX10_hem_42 rfl (lv_at hl 3 rfl) ?_
      refine lv_isub hx hb dX10_hem_43 ?_
      refine tI (y := t7) et7.symm ?_
      exact ret t7 (v12, f13) _ _ _ _ _ _ rfl ⟨(gsX_X10_hem_1_q1 hG2.symm c3 c4 et7 hG8 hG11), hM_v12, hA_f13, hIv12, (hk0_v12.trans hk0_v9), (hk1_v12.trans hk1_v9), (hk7_v12.trans hk7_v9), (hk8_v12.trans hk8_v9), (hk9_v12.trans hk9_v9), (hk10_v12.trans hk10_v9), (hk31_v12.trans hk31_v9), (hk32_v12.trans hk32_v9)⟩ hP hD hS dX10_hem_44 (Nat.le_refl _) (Nat.le_refl _)
    · skip
      refine lv_iconst (v := (-1)) hx hb dX10_hem_20 rfl ?_
      exact ret (-1) (v, f) _ _ _ _ _ _ rfl ⟨(gsX_X10_hem_1_q2 hG2.symm c3 c4), hM_v, hA_f, hIv, rfl, rfl, rfl, rfl, rfl, rfl, rfl, rfl⟩ hP hD hS dX10_hem_21 (Nat.le_refl _) (Nat.le_refl _)
set_option maxHeartbeats 4000000 in
set_option maxRecDepth 100000 in
theorem sX_X10_turn_1 (NF : Nat) (l : Launch) (dC : Nat → ClassId) (dI : Nat → Nat → Nat) (cy : Nat → ClassId) (x0 : Nat) (x : Nat → Nat) (p1 : Int32) (v : Nat → Int32) (f : Nat → Nat → Int32) (hIv : XI v)  : ctI l (dC, dI) cy yX10_turn cX10_turn 3 .int 3 142 0 0 ((Nat → Int32) × (Nat → Nat → Int32)) [.ref x0, .int p1] (XW cy x0 x v f) (fun r u => gsX_X10_turn_1 NF p1 v f = (r, u) ∧ KV [21, 22, 23] u.1 v ∧ KF [15, 17] u.2 f ∧ XI u.1 ∧ u.1 0 = v 0 ∧ u.1 1 = v 1 ∧ u.1 7 = v 7 ∧ u.1 8 = v 8 ∧ u.1 9 = v 9 ∧ u.1 10 = v 10 ∧ u.1 31 = v 31 ∧ u.1 32 = v 32) (fun u => XW cy x0 x u.1 u.2) := by
  refine ctI_of (by decide) (Nat.le_of_ble_eq_true rfl) (fun p e s m below meth c A ls Q hx hb hml hts hown hE hP hD hA hl ret => ?_)
  have hM_v : KV [21, 22, 23] v v := fun _ _ => rfl
  have hA_f : KF [15, 17] f f := fun _ _ => rfl
  have hown : s.vm.findClass RX10 = some m.cls := hown
  have hS : va_S A s.heap s.heap [] := va_S.rf
  have hl : lv_has ls 3 [(0, .ref x0), (1, .int p1)] := hl
  refine lv_aload_n hx hb dX10_turn_0 rfl (lv_at hl 0 rfl) ?_
  refine va_get (D := (dC, dI)) (ci := 10) (v := .ref (x 26)) (C := RX10) (T := TX10) (N := 10) hx hb hts inB_10 hown hE.1 hP 0 rfl rfl 2 (Nat.le_of_ble_eq_true rfl) (hts _ k_493) (fun _ h9 => h9) rfl dX10_turn_1 ?_
  refine lv_iload_n hx hb dX10_turn_4 rfl (lv_at hl 1 rfl) ?_
  refine cbVi (n := 1) (rest := []) hx hb hml hown hts hE hP hD hS hA (sX_X7_hasCoat_1 NF l dC dI cy x0 x p1 v f hIv ) k_848 k_315 k_316 k_104 k_317 hd_yX7_hasCoat ⟨Nat.le_of_ble_eq_true rfl, Nat.le_of_ble_eq_true rfl⟩ 27 7 rfl rfl (rfl) hl.1 rfl (Nat.le_of_ble_eq_true rfl) dX10_turn_5 (fun r1 u H locs hw hP hD hS => ?_)
  obtain ⟨hG2, hw⟩ := hw
  rcases hw with ⟨g3, g3_0, g3_1, g3_2⟩ | ⟨g3⟩
  · skip
    subst g3
    refine lv_if_eq (tgt := 23) hx hb dX10_turn_8 rfl (fun c0 => absurd c0 (by decide)) (fun _ => ?_)
    refine lv_aload_n hx hb dX10_turn_11 rfl (lv_at hl 0 rfl) ?_
    refine va_get (D := (dC, dI)) (ci := 10) (v := .ref (x 21)) (C := RX10) (T := TX10) (N := 10) hx hb hts inB_10 hown hE.1 hP 0 rfl rfl 3 (Nat.le_of_ble_eq_true rfl) (hts _ k_494) (fun _ h9 => h9) rfl dX10_turn_12 ?_
    refine lv_iconst (v := 4) hx hb dX10_turn_15 rfl ?_
    refine lv_iload_n hx hb dX10_turn_16 rfl (lv_at hl 1 rfl) ?_
    refine cbVi (n := 2) (rest := []) hx hb hml hown hts hE hP hD hS hA (sX_X1_part_1 NF l dC dI cy x0 x 4 p1 v f hIv ) k_854 k_828 k_829 k_106 k_830 hd_yX1_part ⟨Nat.le_of_ble_eq_true rfl, Nat.le_of_ble_eq_true rfl⟩ 22 1 rfl rfl (rfl) hl.1 rfl (Nat.le_of_ble_eq_true rfl) dX10_turn_17 (fun r4 u H locs hw hP hD hS => ?_)
    have hG5 := hw
    refine lv_if_eq (tgt := 25) hx hb dX10_turn_20 rfl (fun c6 => ?_) (fun c6 => ?_)
    · skip
      refine lv_aload_n hx hb dX10_turn_25 rfl (lv_at hl 0 rfl) ?_
      refine va_get (D := (dC, dI)) (ci := 10) (v := .ref (x 21)) (C := RX10) (T := TX10) (N := 10) hx hb hts inB_10 hown hE.1 hP 0 rfl rfl 3 (Nat.le_of_ble_eq_true rfl) (hts _ k_494) (fun _ h9 => h9) rfl dX10_turn_26 ?_
      refine lv_iconst (v := 3) hx hb dX10_turn_29 rfl ?_
      refine lv_iload_n hx hb dX10_turn_30 rfl (lv_at hl 1 rfl) ?_
      refine cbVi (n := 2) (rest := []) hx hb hml hown hts hE hP hD hS hA (sX_X1_part_1 NF l dC dI cy x0 x 3 p1 v f hIv ) k_854 k_828 k_829 k_106 k_830 hd_yX1_part ⟨Nat.le_of_ble_eq_true rfl, Nat.le_of_ble_eq_true rfl⟩ 22 1 rfl rfl (rfl) hl.1 rfl (Nat.le_of_ble_eq_true rfl) dX10_turn_31 (fun r7 u H locs hw hP hD hS => ?_)
      have hG8 := hw
      refine lv_istore_n (lv' := [(2, .int r7), (0, .ref x0), (1, .int p1)]) hx hb dX10_turn_34 rfl hl (Nat.le_of_ble_eq_true rfl) rfl (fun ls hl => ?_)
      refine lv_aload_n hx hb dX10_turn_35 rfl (lv_at hl 1 rfl) ?_
      refine va_get (D := (dC, dI)) (ci := 10) (v := .ref (x 21)) (C := RX10) (T := TX10) (N := 10) hx hb hts inB_10 hown hE.1 hP 0 rfl rfl 3 (Nat.le_of_ble_eq_true rfl) (hts _ k_494) (fun _ h9 => h9) rfl dX10_turn_36 ?_
      refine lv_iconst (v := 3) hx hb dX10_turn_39 rfl ?_
      refine lv_iload_n hx hb dX10_turn_40 rfl (lv_at hl 2 rfl) ?_
      refine lv_iconst (v := 0) hx hb dX10_turn_41 rfl ?_
      refine cbVv (n := 3) (rest := []) hx hb hml hown hts hE hP hD hS hA (sX_X1_setPart_1 NF l dC dI cy x0 x 3 p1 0 v f hIv ) k_904 k_875 k_876 k_106 k_877 hd_yX1_setPart ⟨Nat.le_of_ble_eq_true rfl, Nat.le_of_ble_eq_true rfl⟩ 22 1 rfl rfl (rfl) hl.1 rfl (Nat.le_of_ble_eq_true rfl) dX10_turn_42 (fun u H locs hw hP hD hS => ?_)
      obtain ⟨hG9, hw⟩ := hw
      obtain ⟨v10, f11⟩ := u
      obtain ⟨kV_v10, kF_f11, hIv10, hk0_v10, hk1_v10, hk7_v10, hk8_v10, hk9_v10, hk10_v10, hk31_v10, hk32_v10⟩ := hw
      have hM_v10 : KV [21, 22, 23] v10 v := KV.tr kV_v10 hM_v rfl
      have hA_f11 : KF [15, 17] f11 f := KF.tr kF_f11 hA_f rfl
      have hP : va_P (dC, dI) vwCl (XW cy x0 x v10 f11) H := hP
      have hD : va_D A (XW cy x0 x v10 f11) := hD
      refine lv_aload_n hx hb dX10_turn_45 rfl (lv_at hl 1 rfl) ?_
      refine va_get (D := (dC, dI)) (ci := 10) (v := .ref (x 21)) (C := RX10) (T := TX10) (N := 10) hx hb hts inB_10 hown hE.1 hP 0 rfl rfl 3 (Nat.le_of_ble_eq_true rfl) (hts _ k_494) (fun _ h9 => h9) rfl dX10_turn_46 ?_
      refine lv_iconst (v := 4) hx hb dX10_turn_49 rfl ?_
      refine lv_iload_n hx hb dX10_turn_50 rfl (lv_at hl 2 rfl) ?_
      refine lv_iconst (v := 1) hx hb dX10_turn_51 rfl ?_
      refine cbVv (n := 3) (rest := []) hx hb hml hown hts hE hP hD hS hA (sX_X1_setPart_1 NF l dC dI cy x0 x 4 p1 1 v10 f11 hIv10 ) k_904 k_875 k_876 k_106 k_877 hd_yX1_setPart ⟨Nat.le_of_ble_eq_true rfl, Nat.le_of_ble_eq_true rfl⟩ 22 1 rfl rfl (rfl) hl.1 rfl (Nat.le_of_ble_eq_true rfl) dX10_turn_52 (fun u H locs hw hP hD hS => ?_)
      obtain ⟨hG12, hw⟩ := hw
      obtain ⟨v13, f14⟩ := u
      obtain ⟨kV_v13, kF_f14, hIv13, hk0_v13, hk1_v13, hk7_v13, hk8_v13, hk9_v13, hk10_v13, hk31_v13, hk32_v13⟩ := hw
      have hM_v13 : KV [21, 22, 23] v13 v := KV.tr kV_v13 hM_v10 rfl
      have hA_f14 : KF [15, 17] f14 f := KF.tr kF_f14 hA_f11 rfl
      have hP : va_P (dC, dI) vwCl (XW cy x0 x v13 f14) H := hP
      have hD : va_D A (XW cy x0 x v13 f14) := hD
      refine lv_aload_n hx hb dX10_turn_55 rfl (lv_at hl 1 rfl) ?_
      refine va_get (D := (dC, dI)) (ci := 10) (v := .ref (x 20)) (C := RX10) (T := TX10) (N := 10) hx hb hts inB_10 hown hE.1 hP 0 rfl rfl 4 (Nat.le_of_ble_eq_true rfl) (hts _ k_495) (fun _ h9 => h9) rfl dX10_turn_56 ?_
      refine cbVv (n := 0) (rest := []) hx hb hml hown hts hE hP hD hS hA (sX_X5_keepAct_1 NF l dC dI cy x0 x  v13 f14 hIv13 ) k_883 k_884 k_885 k_107 k_886 hd_yX5_keepAct ⟨Nat.le_of_ble_eq_true rfl, Nat.le_of_ble_eq_true rfl⟩ 21 5 rfl rfl (rfl) hl.1 rfl (Nat.le_of_ble_eq_true rfl) dX10_turn_59 (fun u H locs hw hP hD hS => ?_)
      obtain ⟨hG15, hw⟩ := hw
      obtain ⟨v16, f17⟩ := u
      obtain ⟨kV_v16, kF_f17, hIv16, hk0_v16, hk1_v16, hk7_v16, hk8_v16, hk9_v16, hk10_v16, hk31_v16, hk32_v16⟩ := hw
      have hM_v16 : KV [21, 22, 23] v16 v := KV.tr kV_v16 hM_v13 rfl
      have hA_f17 : KF [15, 17] f17 f := KF.tr kF_f17 hA_f14 rfl
      have hP : va_P (dC, dI) vwCl (XW cy x0 x v16 f17) H := hP
      have hD : va_D A (XW cy x0 x v16 f17) := hD
      refine lv_iload_n hx hb dX10_turn_62 rfl (lv_at hl 0 rfl) ?_
      exact ret r7 (v16, f17) _ _ _ _ _ _ rfl ⟨(gsX_X10_turn_1_q0 hG2 hG5.symm c6 hG8.symm hG9 hG12 hG15), hM_v16, hA_f17, hIv16, (hk0_v16.trans (hk0_v13.trans hk0_v10)), (hk1_v16.trans (hk1_v13.trans hk1_v10)), (hk7_v16.trans (hk7_v13.trans hk7_v10)), (hk8_v16.trans (hk8_v13.trans hk8_v10)), (hk9_v16.trans (hk9_v13.trans hk9_v10)), (hk10_v16.trans (hk10_v13.trans hk10_v10)), (hk31_v16.trans (hk31_v13.trans hk31_v10)), (hk32_v16.trans (hk32_v13.trans hk32_v10))⟩ hP hD hS dX10_turn_63 (Nat.le_refl _) (Nat.le_refl _)
    · skip
      refine lv_iconst (v := (-1)) hx hb dX10_turn_23 rfl ?_
      exact ret (-1) (v, f) _ _ _ _ _ _ rfl ⟨(gsX_X10_turn_1_q1 hG2 hG5.symm c6), hM_v, hA_f, hIv, rfl, rfl, rfl, rfl, rfl, rfl, rfl, rfl⟩ hP hD hS dX10_turn_24 (Nat.le_refl _) (Nat.le_refl _)
  · skip
    subst g3
    refine lv_if_eq (tgt := 23) hx hb dX10_turn_8 rfl (fun _ => ?_) (fun c0 => absurd (by decide) c0)
    refine lv_iconst (v := (-1)) hx hb dX10_turn_23 rfl ?_
    exact ret (-1) (v, f) _ _ _ _ _ _ rfl ⟨(gsX_X10_turn_1_q2 hG2), hM_v, hA_f, hIv, rfl, rfl, rfl, rfl, rfl, rfl, rfl, rfl⟩ hP hD hS dX10_turn_24 (Nat.le_refl _) (Nat.le_refl _)
set_option maxHeartbeats 4000000 in
set_option maxRecDepth 100000 in
theorem sX_X1_loadFrom_1 (NF : Nat) (l : Launch) (dC : Nat → ClassId) (dI : Nat → Nat → Nat) (cy : Nat → ClassId) (x0 : Nat) (x : Nat → Nat) (p2 : Int32) (v : Nat → Int32) (f : Nat → Nat → Int32) (hIv : XI v)  : ctV l (dC, dI) cy yX1_loadFrom cX1_loadFrom 3 1 100 0 0 ((Nat → Int32) × (Nat → Nat → Int32)) [.ref (x 21), .ref (x 24), .int p2] (XW cy x0 x v f) (fun u => gsX_X1_loadFrom_1 NF p2 v f = u ∧ KV [] u.1 v ∧ KF [15] u.2 f ∧ XI u.1 ∧ u.1 0 = v 0 ∧ u.1 1 = v 1 ∧ u.1 7 = v 7 ∧ u.1 8 = v 8 ∧ u.1 9 = v 9 ∧ u.1 10 = v 10 ∧ u.1 31 = v 31 ∧ u.1 32 = v 32) (fun u => XW cy x0 x u.1 u.2) := by
  refine ctV_of (by decide) (Nat.le_of_ble_eq_true rfl) (fun p e s m below meth c A ls Q hx hb hml hts hown hnm hE hP hD hA hl ret => ?_)
  have hM_v : KV [] v v := fun _ _ => rfl
  have hA_f : KF [15] f f := fun _ _ => rfl
  have hown : s.vm.findClass RX1 = some m.cls := hown
  have hS : va_S A s.heap s.heap [] := va_S.rf
  have hl : lv_has ls 3 [(0, .ref (x 21)), (1, .ref (x 24)), (2, .int p2)] := hl
  refine lv_iload_n hx hb dX1_loadFrom_0 rfl (lv_at hl 2 rfl) ?_
  refine lv_if_lt (tgt := 28) hx hb dX1_loadFrom_1 rfl (fun c1 => ?_) (fun c1 => ?_)
  · skip
    exact ret (v, f) _ _ _ _ _ _ ⟨(gsX_X1_loadFrom_1_q0 c1), hM_v, hA_f, hIv, rfl, rfl, rfl, rfl, rfl, rfl, rfl, rfl⟩ hP hD hS dX1_loadFrom_28 (Nat.le_refl _) (Nat.le_refl _)
  · skip
    have zc1 : ¬ (p2.toInt < 0) := zLn rfl tc_0 c1
    refine lv_iload_n hx hb dX1_loadFrom_4 rfl (lv_at hl 2 rfl) ?_
    refine lv_aload_n hx hb dX1_loadFrom_5 rfl (lv_at hl 1 rfl) ?_
    refine va_alen (v := 1804) hx hb hE.1 hP 25 1 rfl rfl rfl dX1_loadFrom_6 ?_
    refine lv_bipush (v := 44) hx hb dX1_loadFrom_7 rfl ?_
    refine lv_idiv hx hb dX1_loadFrom_9 (by decide) ?_
    refine tI (y := 41) (by decide) ?_
    refine lv_icmp_ge (tgt := 28) hx hb dX1_loadFrom_10 rfl (fun c2 => ?_) (fun c2 => ?_)
    · skip
      exact ret (v, f) _ _ _ _ _ _ ⟨(gsX_X1_loadFrom_1_q1 c1 c2), hM_v, hA_f, hIv, rfl, rfl, rfl, rfl, rfl, rfl, rfl, rfl⟩ hP hD hS dX1_loadFrom_28 (Nat.le_refl _) (Nat.le_refl _)
    · skip
      have zc2 : ¬ (41 ≤ p2.toInt) := zMn tc_41 rfl c2
      refine lv_aload_n hx hb dX1_loadFrom_13 rfl (lv_at hl 1 rfl) ?_
      refine lv_iload_n hx hb dX1_loadFrom_14 rfl (lv_at hl 2 rfl) ?_
      refine lv_bipush (v := 44) hx hb dX1_loadFrom_15 rfl ?_
      refine lv_imul hx hb dX1_loadFrom_17 ?_
      refine lv_topi (fun t3 et3 => ?_)
      have rg4 := fb_rng p2
      have zt3 : t3.toInt = p2.toInt * 44 := (congrArg Int32.toInt et3).trans (mul_i rfl tc_44 (om_123 zc1) (om_124 zc2))
      refine lv_aload_n hx hb dX1_loadFrom_18 rfl (lv_at hl 0 rfl) ?_
      refine va_get (D := (dC, dI)) (ci := 1) (v := .ref (x 22)) (C := RX1) (T := TX1) (N := 2) hx hb hts inB_1 hown hE.1 hP 22 rfl rfl 1 (Nat.le_of_ble_eq_true rfl) (hts _ k_319) (fun _ h9 => h9) rfl dX1_loadFrom_19 ?_
      refine lv_iconst (v := 0) hx hb dX1_loadFrom_22 rfl ?_
      refine lv_bipush (v := 44) hx hb dX1_loadFrom_23 rfl ?_
      refine cpE (zs := t3.toInt) (zd := 0) (zn := 44) hx hb (by rw [hml]; exact hl.1.symm) hown (hts _ k_335) (hts _ k_337) (hts _ k_336) (hts _ k_108) hE hP hD hS 25 23 rfl rfl rfl (by decide) (by decide) (by omega) (by omega) (by omega) (by omega) (by omega) (Nat.le_of_ble_eq_true rfl) (Nat.le_of_ble_eq_true rfl) dX1_loadFrom_25 (fun H locs hP hD hS => ?_)
      obtain ⟨f5, ef5, hP, hD⟩ : ∃ fz9, fz9 = upd2 f 15 (va_cpy (f 17) (f 15) (t3).toNatClampNeg (0 : Int32).toNatClampNeg (44 : Int32).toNatClampNeg) ∧ va_P (dC, dI) vwCl (XW cy x0 x v fz9) H ∧ va_D A (XW cy x0 x v fz9) := ⟨_, rfl, hP, hD⟩
      have hA_f5 : KF [15] f5 f := by rw [ef5]; exact KF.up hA_f rfl
      exact ret (v, f5) _ _ _ _ _ _ ⟨(gsX_X1_loadFrom_1_q2 c1 c2 et3 ef5), hM_v, hA_f5, hIv, rfl, rfl, rfl, rfl, rfl, rfl, rfl, rfl⟩ hP hD hS dX1_loadFrom_28 (Nat.le_refl _) (Nat.le_refl _)
set_option maxHeartbeats 4000000 in
set_option maxRecDepth 100000 in
theorem sX_X5_stepBack_1 (NF : Nat) (l : Launch) (dC : Nat → ClassId) (dI : Nat → Nat → Nat) (cy : Nat → ClassId) (x0 : Nat) (x : Nat → Nat)  (v : Nat → Int32) (f : Nat → Nat → Int32) (hIv : XI v)  : ctI l (dC, dI) cy yX5_stepBack cX5_stepBack 1 .boolean 2 122 0 0 ((Nat → Int32) × (Nat → Nat → Int32)) [.ref (x 20)] (XW cy x0 x v f) (fun r u => gsX_X5_stepBack_1 NF v f = (r, u) ∧ KV [22, 23] u.1 v ∧ KF [15] u.2 f ∧ XI u.1 ∧ u.1 0 = v 0 ∧ u.1 1 = v 1 ∧ u.1 7 = v 7 ∧ u.1 8 = v 8 ∧ u.1 9 = v 9 ∧ u.1 10 = v 10 ∧ u.1 31 = v 31 ∧ u.1 32 = v 32 ∧ ((r = 1) ∨ (r = 0))) (fun u => XW cy x0 x u.1 u.2) := by
  refine ctI_of (by decide) (Nat.le_of_ble_eq_true rfl) (fun p e s m below meth c A ls Q hx hb hml hts hown hE hP hD hA hl ret => ?_)
  have hM_v : KV [22, 23] v v := fun _ _ => rfl
  have hA_f : KF [15] f f := fun _ _ => rfl
  have hown : s.vm.findClass RX5 = some m.cls := hown
  have hS : va_S A s.heap s.heap [] := va_S.rf
  have hl : lv_has ls 1 [(0, .ref (x 20))] := hl
  refine lv_aload_n hx hb dX5_stepBack_0 rfl (lv_at hl 0 rfl) ?_
  refine va_get (D := (dC, dI)) (ci := 5) (v := .int (v 22)) (C := RX5) (T := TX5) (N := 7) hx hb hts inB_5 hown hE.1 hP 21 rfl rfl 5 (Nat.le_of_ble_eq_true rfl) (hts _ k_343) (fun _ h9 => h9) rfl dX5_stepBack_1 ?_
  refine lv_if_ne (tgt := 9) hx hb dX5_stepBack_4 rfl (fun c1 => ?_) (fun c1 => ?_)
  · skip
    refine lv_aload_n hx hb dX5_stepBack_9 rfl (lv_at hl 0 rfl) ?_
    refine lv_dup hx hb dX5_stepBack_10 rfl ?_
    refine va_get (D := (dC, dI)) (ci := 5) (v := .int (v 22)) (C := RX5) (T := TX5) (N := 7) hx hb hts inB_5 hown hE.1 hP 21 rfl rfl 5 (Nat.le_of_ble_eq_true rfl) (hts _ k_343) (fun _ h9 => h9) rfl dX5_stepBack_11 ?_
    refine lv_iconst (v := 1) hx hb dX5_stepBack_14 rfl ?_
    refine lv_isub hx hb dX5_stepBack_15 ?_
    refine lv_topi (fun t2 et2 => ?_)
    refine va_put (D := (dC, dI)) (ci := 5) (v := .int t2) (ty := tyX5 5) (C := RX5) (T := TX5) (N := 7) hx hb hts inB_5 tyX5 tyX5_ok nmX5 hown hE.1 hP hD hS 21 rfl rfl 5 (Nat.le_of_ble_eq_true rfl) (hts _ k_343) (fun _ h9 => h9) rfl (tyX5_ok 5 (Nat.le_of_ble_eq_true rfl)) rfl rfl (Nat.le_of_ble_eq_true rfl) dX5_stepBack_16 (fun H locs hP hD hS => ?_)
    have hP : va_P (dC, dI) vwCl (XW cy x0 x (upd v 22 t2) f) H := hP
    have hD : va_D A (XW cy x0 x (upd v 22 t2) f) := hD
    refine lv_aload_n hx hb dX5_stepBack_19 rfl (lv_at hl 0 rfl) ?_
    refine lv_dup hx hb dX5_stepBack_20 rfl ?_
    refine va_get (D := (dC, dI)) (ci := 5) (v := .int (v 23)) (C := RX5) (T := TX5) (N := 7) hx hb hts inB_5 hown hE.1 hP 21 rfl rfl 6 (Nat.le_of_ble_eq_true rfl) (hts _ k_345) (fun _ h9 => h9) rfl dX5_stepBack_21 ?_
    refine lv_iconst (v := 1) hx hb dX5_stepBack_24 rfl ?_
    refine lv_iadd hx hb dX5_stepBack_25 ?_
    refine lv_topi (fun t3 et3 => ?_)
    refine va_put (D := (dC, dI)) (ci := 5) (v := .int t3) (ty := tyX5 6) (C := RX5) (T := TX5) (N := 7) hx hb hts inB_5 tyX5 tyX5_ok nmX5 hown hE.1 hP hD hS 21 rfl rfl 6 (Nat.le_of_ble_eq_true rfl) (hts _ k_345) (fun _ h9 => h9) rfl (tyX5_ok 6 (Nat.le_of_ble_eq_true rfl)) rfl rfl (Nat.le_of_ble_eq_true rfl) dX5_stepBack_26 (fun H locs hP hD hS => ?_)
    have hP : va_P (dC, dI) vwCl (XW cy x0 x (upd (upd v 22 t2) 23 t3) f) H := hP
    have hD : va_D A (XW cy x0 x (upd (upd v 22 t2) 23 t3) f) := hD
    refine lv_aload_n hx hb dX5_stepBack_29 rfl (lv_at hl 0 rfl) ?_
    refine va_get (D := (dC, dI)) (ci := 5) (v := .ref (x 21)) (C := RX5) (T := TX5) (N := 7) hx hb hts inB_5 hown hE.1 hP 21 rfl rfl 0 (Nat.le_of_ble_eq_true rfl) (hts _ k_338) (fun _ h9 => h9) rfl dX5_stepBack_30 ?_
    refine lv_aload_n hx hb dX5_stepBack_33 rfl (lv_at hl 0 rfl) ?_
    refine va_get (D := (dC, dI)) (ci := 5) (v := .ref (x 24)) (C := RX5) (T := TX5) (N := 7) hx hb hts inB_5 hown hE.1 hP 21 rfl rfl 1 (Nat.le_of_ble_eq_true rfl) (hts _ k_339) (fun _ h9 => h9) rfl dX5_stepBack_34 ?_
    refine lv_aload_n hx hb dX5_stepBack_37 rfl (lv_at hl 0 rfl) ?_
    refine va_get (D := (dC, dI)) (ci := 5) (v := .int (v 21)) (C := RX5) (T := TX5) (N := 7) hx hb hts inB_5 hown hE.1 hP 21 rfl rfl 4 (Nat.le_of_ble_eq_true rfl) (hts _ k_342) (fun _ h9 => h9) rfl dX5_stepBack_38 ?_
    refine lv_aload_n hx hb dX5_stepBack_41 rfl (lv_at hl 0 rfl) ?_
    refine va_get (D := (dC, dI)) (ci := 5) (v := .int t2) (C := RX5) (T := TX5) (N := 7) hx hb hts inB_5 hown hE.1 hP 21 rfl rfl 5 (Nat.le_of_ble_eq_true rfl) (hts _ k_343) (fun _ h9 => h9) rfl dX5_stepBack_42 ?_
    refine lv_iadd hx hb dX5_stepBack_45 ?_
    refine lv_topi (fun t4 et4 => ?_)
    refine lv_bipush (v := 41) hx hb dX5_stepBack_46 rfl ?_
    refine lv_irem hx hb dX5_stepBack_48 (by decide) ?_
    refine lv_topi (fun t5 et5 => ?_)
    refine cbVv (n := 2) (rest := []) hx hb hml hown hts hE hP hD hS hA (sX_X1_loadFrom_1 NF l dC dI cy x0 x t5 (upd (upd v 22 t2) 23 t3) f (Xu_23 (x := t3) (Xu_22 (x := t2) hIv (rlo _) (rhi _)) (rlo _) (rhi _)) ) k_925 k_926 k_927 k_106 k_928 hd_yX1_loadFrom ⟨Nat.le_of_ble_eq_true rfl, Nat.le_of_ble_eq_true rfl⟩ 22 1 rfl rfl (rfl) hl.1 rfl (Nat.le_of_ble_eq_true rfl) dX5_stepBack_49 (fun u H locs hw hP hD hS => ?_)
    obtain ⟨hG6, hw⟩ := hw
    obtain ⟨v7, f8⟩ := u
    obtain ⟨kV_v7, kF_f8, hIv7, hk0_v7, hk1_v7, hk7_v7, hk8_v7, hk9_v7, hk10_v7, hk31_v7, hk32_v7⟩ := hw
    have hM_v7 : KV [22, 23] v7 v := KV.tr kV_v7 (KV.up (j := 23) (x := t3) (KV.up (j := 22) (x := t2) hM_v rfl) rfl) rfl
    have hA_f8 : KF [15] f8 f := KF.tr kF_f8 hA_f rfl
    have hP : va_P (dC, dI) vwCl (XW cy x0 x v7 f8) H := hP
    have hD : va_D A (XW cy x0 x v7 f8) := hD
    refine lv_iconst (v := 1) hx hb dX5_stepBack_52 rfl ?_
    exact ret 1 (v7, f8) _ _ _ _ _ _ rfl ⟨(gsX_X5_stepBack_1_q0 c1 et2 et3 et4 et5 hG6), hM_v7, hA_f8, hIv7, hk0_v7, hk1_v7, hk7_v7, hk8_v7, hk9_v7, hk10_v7, hk31_v7, hk32_v7, (Or.inl rfl)⟩ hP hD hS dX5_stepBack_53 (Nat.le_refl _) (Nat.le_refl _)
  · skip
    refine lv_iconst (v := 0) hx hb dX5_stepBack_7 rfl ?_
    exact ret 0 (v, f) _ _ _ _ _ _ rfl ⟨(gsX_X5_stepBack_1_q1 c1), hM_v, hA_f, hIv, rfl, rfl, rfl, rfl, rfl, rfl, rfl, rfl, (Or.inr rfl)⟩ hP hD hS dX5_stepBack_8 (Nat.le_refl _) (Nat.le_refl _)
set_option maxHeartbeats 4000000 in
set_option maxRecDepth 100000 in
theorem sX_X10_undo_1 (NF : Nat) (l : Launch) (dC : Nat → ClassId) (dI : Nat → Nat → Nat) (cy : Nat → ClassId) (x0 : Nat) (x : Nat → Nat)  (v : Nat → Int32) (f : Nat → Nat → Int32) (hIv : XI v)  : ctI l (dC, dI) cy yX10_undo cX10_undo 1 .boolean 3 142 0 0 ((Nat → Int32) × (Nat → Nat → Int32)) [.ref x0] (XW cy x0 x v f) (fun r u => gsX_X10_undo_1 NF v f = (r, u) ∧ KV [22, 23] u.1 v ∧ KF [15] u.2 f ∧ XI u.1 ∧ u.1 0 = v 0 ∧ u.1 1 = v 1 ∧ u.1 7 = v 7 ∧ u.1 8 = v 8 ∧ u.1 9 = v 9 ∧ u.1 10 = v 10 ∧ u.1 31 = v 31 ∧ u.1 32 = v 32 ∧ ((r = 1) ∨ (r = 0))) (fun u => XW cy x0 x u.1 u.2) := by
  refine ctI_of (by decide) (Nat.le_of_ble_eq_true rfl) (fun p e s m below meth c A ls Q hx hb hml hts hown hE hP hD hA hl ret => ?_)
  have hM_v : KV [22, 23] v v := fun _ _ => rfl
  have hA_f : KF [15] f f := fun _ _ => rfl
  have hown : s.vm.findClass RX10 = some m.cls := hown
  have hS : va_S A s.heap s.heap [] := va_S.rf
  have hl : lv_has ls 1 [(0, .ref x0)] := hl
  refine lv_aload_n hx hb dX10_undo_0 rfl (lv_at hl 0 rfl) ?_
  refine va_get (D := (dC, dI)) (ci := 10) (v := .ref (x 20)) (C := RX10) (T := TX10) (N := 10) hx hb hts inB_10 hown hE.1 hP 0 rfl rfl 4 (Nat.le_of_ble_eq_true rfl) (hts _ k_495) (fun _ h9 => h9) rfl dX10_undo_1 ?_
  refine cbVi (n := 0) (rest := []) hx hb hml hown hts hE hP hD hS hA (sX_X5_stepBack_1 NF l dC dI cy x0 x  v f hIv ) k_921 k_922 k_923 k_107 k_924 hd_yX5_stepBack ⟨Nat.le_of_ble_eq_true rfl, Nat.le_of_ble_eq_true rfl⟩ 21 5 rfl rfl (rfl) hl.1 rfl (Nat.le_of_ble_eq_true rfl) dX10_undo_4 (fun r1 u H locs hw hP hD hS => ?_)
  obtain ⟨hG2, hw⟩ := hw
  obtain ⟨v3, f4⟩ := u
  obtain ⟨kV_v3, kF_f4, hIv3, hk0_v3, hk1_v3, hk7_v3, hk8_v3, hk9_v3, hk10_v3, hk31_v3, hk32_v3, hw⟩ := hw
  have hM_v3 : KV [22, 23] v3 v := KV.tr kV_v3 hM_v rfl
  have hA_f4 : KF [15] f4 f := KF.tr kF_f4 hA_f rfl
  have hP : va_P (dC, dI) vwCl (XW cy x0 x v3 f4) H := hP
  have hD : va_D A (XW cy x0 x v3 f4) := hD
  have hq0_v3 : v3 0 = (v 0) := hk0_v3
  have hq1_v3 : v3 1 = (v 1) := hk1_v3
  have hq7_v3 : v3 7 = (v 7) := hk7_v3
  have hq8_v3 : v3 8 = (v 8) := hk8_v3
  have hq9_v3 : v3 9 = (v 9) := hk9_v3
  have hq10_v3 : v3 10 = (v 10) := hk10_v3
  have hq31_v3 : v3 31 = (v 31) := hk31_v3
  have hq32_v3 : v3 32 = (v 32) := hk32_v3
  rcases hw with ⟨g5⟩ | ⟨g5⟩
  · skip
    subst g5
    exact ret 1 (v3, f4) _ _ _ _ _ _ rfl ⟨(gsX_X10_undo_1_q0 hG2), hM_v3, hA_f4, hIv3, hk0_v3, hk1_v3, hk7_v3, hk8_v3, hk9_v3, hk10_v3, hk31_v3, hk32_v3, (Or.inl rfl)⟩ hP hD hS dX10_undo_7 (Nat.le_refl _) (Nat.le_refl _)
  · skip
    subst g5
    exact ret 0 (v3, f4) _ _ _ _ _ _ rfl ⟨(gsX_X10_undo_1_q1 hG2), hM_v3, hA_f4, hIv3, hk0_v3, hk1_v3, hk7_v3, hk8_v3, hk9_v3, hk10_v3, hk31_v3, hk32_v3, (Or.inr rfl)⟩ hP hD hS dX10_undo_7 (Nat.le_refl _) (Nat.le_refl _)
set_option maxHeartbeats 4000000 in
set_option maxRecDepth 100000 in
theorem sX_X5_stepOn_1 (NF : Nat) (l : Launch) (dC : Nat → ClassId) (dI : Nat → Nat → Nat) (cy : Nat → ClassId) (x0 : Nat) (x : Nat → Nat)  (v : Nat → Int32) (f : Nat → Nat → Int32) (hIv : XI v)  : ctI l (dC, dI) cy yX5_stepOn cX5_stepOn 1 .boolean 2 122 0 0 ((Nat → Int32) × (Nat → Nat → Int32)) [.ref (x 20)] (XW cy x0 x v f) (fun r u => gsX_X5_stepOn_1 NF v f = (r, u) ∧ KV [22, 23] u.1 v ∧ KF [15] u.2 f ∧ XI u.1 ∧ u.1 0 = v 0 ∧ u.1 1 = v 1 ∧ u.1 7 = v 7 ∧ u.1 8 = v 8 ∧ u.1 9 = v 9 ∧ u.1 10 = v 10 ∧ u.1 31 = v 31 ∧ u.1 32 = v 32 ∧ ((r = 1) ∨ (r = 0))) (fun u => XW cy x0 x u.1 u.2) := by
  refine ctI_of (by decide) (Nat.le_of_ble_eq_true rfl) (fun p e s m below meth c A ls Q hx hb hml hts hown hE hP hD hA hl ret => ?_)
  have hM_v : KV [22, 23] v v := fun _ _ => rfl
  have hA_f : KF [15] f f := fun _ _ => rfl
  have hown : s.vm.findClass RX5 = some m.cls := hown
  have hS : va_S A s.heap s.heap [] := va_S.rf
  have hl : lv_has ls 1 [(0, .ref (x 20))] := hl
  refine lv_aload_n hx hb dX5_stepOn_0 rfl (lv_at hl 0 rfl) ?_
  refine va_get (D := (dC, dI)) (ci := 5) (v := .int (v 23)) (C := RX5) (T := TX5) (N := 7) hx hb hts inB_5 hown hE.1 hP 21 rfl rfl 6 (Nat.le_of_ble_eq_true rfl) (hts _ k_345) (fun _ h9 => h9) rfl dX5_stepOn_1 ?_
  refine lv_if_ne (tgt := 9) hx hb dX5_stepOn_4 rfl (fun c1 => ?_) (fun c1 => ?_)
  · skip
    refine lv_aload_n hx hb dX5_stepOn_9 rfl (lv_at hl 0 rfl) ?_
    refine lv_dup hx hb dX5_stepOn_10 rfl ?_
    refine va_get (D := (dC, dI)) (ci := 5) (v := .int (v 22)) (C := RX5) (T := TX5) (N := 7) hx hb hts inB_5 hown hE.1 hP 21 rfl rfl 5 (Nat.le_of_ble_eq_true rfl) (hts _ k_343) (fun _ h9 => h9) rfl dX5_stepOn_11 ?_
    refine lv_iconst (v := 1) hx hb dX5_stepOn_14 rfl ?_
    refine lv_iadd hx hb dX5_stepOn_15 ?_
    refine lv_topi (fun t2 et2 => ?_)
    refine va_put (D := (dC, dI)) (ci := 5) (v := .int t2) (ty := tyX5 5) (C := RX5) (T := TX5) (N := 7) hx hb hts inB_5 tyX5 tyX5_ok nmX5 hown hE.1 hP hD hS 21 rfl rfl 5 (Nat.le_of_ble_eq_true rfl) (hts _ k_343) (fun _ h9 => h9) rfl (tyX5_ok 5 (Nat.le_of_ble_eq_true rfl)) rfl rfl (Nat.le_of_ble_eq_true rfl) dX5_stepOn_16 (fun H locs hP hD hS => ?_)
    have hP : va_P (dC, dI) vwCl (XW cy x0 x (upd v 22 t2) f) H := hP
    have hD : va_D A (XW cy x0 x (upd v 22 t2) f) := hD
    refine lv_aload_n hx hb dX5_stepOn_19 rfl (lv_at hl 0 rfl) ?_
    refine lv_dup hx hb dX5_stepOn_20 rfl ?_
    refine va_get (D := (dC, dI)) (ci := 5) (v := .int (v 23)) (C := RX5) (T := TX5) (N := 7) hx hb hts inB_5 hown hE.1 hP 21 rfl rfl 6 (Nat.le_of_ble_eq_true rfl) (hts _ k_345) (fun _ h9 => h9) rfl dX5_stepOn_21 ?_
    refine lv_iconst (v := 1) hx hb dX5_stepOn_24 rfl ?_
    refine lv_isub hx hb dX5_stepOn_25 ?_
    refine lv_topi (fun t3 et3 => ?_)
    refine va_put (D := (dC, dI)) (ci := 5) (v := .int t3) (ty := tyX5 6) (C := RX5) (T := TX5) (N := 7) hx hb hts inB_5 tyX5 tyX5_ok nmX5 hown hE.1 hP hD hS 21 rfl rfl 6 (Nat.le_of_ble_eq_true rfl) (hts _ k_345) (fun _ h9 => h9) rfl (tyX5_ok 6 (Nat.le_of_ble_eq_true rfl)) rfl rfl (Nat.le_of_ble_eq_true rfl) dX5_stepOn_26 (fun H locs hP hD hS => ?_)
    have hP : va_P (dC, dI) vwCl (XW cy x0 x (upd (upd v 22 t2) 23 t3) f) H := hP
    have hD : va_D A (XW cy x0 x (upd (upd v 22 t2) 23 t3) f) := hD
    refine lv_aload_n hx hb dX5_stepOn_29 rfl (lv_at hl 0 rfl) ?_
    refine va_get (D := (dC, dI)) (ci := 5) (v := .ref (x 21)) (C := RX5) (T := TX5) (N := 7) hx hb hts inB_5 hown hE.1 hP 21 rfl rfl 0 (Nat.le_of_ble_eq_true rfl) (hts _ k_338) (fun _ h9 => h9) rfl dX5_stepOn_30 ?_
    refine lv_aload_n hx hb dX5_stepOn_33 rfl (lv_at hl 0 rfl) ?_
    refine va_get (D := (dC, dI)) (ci := 5) (v := .ref (x 24)) (C := RX5) (T := TX5) (N := 7) hx hb hts inB_5 hown hE.1 hP 21 rfl rfl 1 (Nat.le_of_ble_eq_true rfl) (hts _ k_339) (fun _ h9 => h9) rfl dX5_stepOn_34 ?_
    refine lv_aload_n hx hb dX5_stepOn_37 rfl (lv_at hl 0 rfl) ?_
    refine va_get (D := (dC, dI)) (ci := 5) (v := .int (v 21)) (C := RX5) (T := TX5) (N := 7) hx hb hts inB_5 hown hE.1 hP 21 rfl rfl 4 (Nat.le_of_ble_eq_true rfl) (hts _ k_342) (fun _ h9 => h9) rfl dX5_stepOn_38 ?_
    refine lv_aload_n hx hb dX5_stepOn_41 rfl (lv_at hl 0 rfl) ?_
    refine va_get (D := (dC, dI)) (ci := 5) (v := .int t2) (C := RX5) (T := TX5) (N := 7) hx hb hts inB_5 hown hE.1 hP 21 rfl rfl 5 (Nat.le_of_ble_eq_true rfl) (hts _ k_343) (fun _ h9 => h9) rfl dX5_stepOn_42 ?_
    refine lv_iadd hx hb dX5_stepOn_45 ?_
    refine lv_topi (fun t4 et4 => ?_)
    refine lv_bipush (v := 41) hx hb dX5_stepOn_46 rfl ?_
    refine lv_irem hx hb dX5_stepOn_48 (by decide) ?_
    refine lv_topi (fun t5 et5 => ?_)
    refine cbVv (n := 2) (rest := []) hx hb hml hown hts hE hP hD hS hA (sX_X1_loadFrom_1 NF l dC dI cy x0 x t5 (upd (upd v 22 t2) 23 t3) f (Xu_23 (x := t3) (Xu_22 (x := t2) hIv (rlo _) (rhi _)) (rlo _) (rhi _)) ) k_925 k_926 k_927 k_106 k_928 hd_yX1_loadFrom ⟨Nat.le_of_ble_eq_true rfl, Nat.le_of_ble_eq_true rfl⟩ 22 1 rfl rfl (rfl) hl.1 rfl (Nat.le_of_ble_eq_true rfl) dX5_stepOn_49 (fun u H locs hw hP hD hS => ?_)
    obtain ⟨hG6, hw⟩ := hw
    obtain ⟨v7, f8⟩ := u
    obtain ⟨kV_v7, kF_f8, hIv7, hk0_v7, hk1_v7, hk7_v7, hk8_v7, hk9_v7, hk10_v7, hk31_v7, hk32_v7⟩ := hw
    have hM_v7 : KV [22, 23] v7 v := KV.tr kV_v7 (KV.up (j := 23) (x := t3) (KV.up (j := 22) (x := t2) hM_v rfl) rfl) rfl
    have hA_f8 : KF [15] f8 f := KF.tr kF_f8 hA_f rfl
    have hP : va_P (dC, dI) vwCl (XW cy x0 x v7 f8) H := hP
    have hD : va_D A (XW cy x0 x v7 f8) := hD
    refine lv_iconst (v := 1) hx hb dX5_stepOn_52 rfl ?_
    exact ret 1 (v7, f8) _ _ _ _ _ _ rfl ⟨(gsX_X5_stepOn_1_q0 c1 et2 et3 et4 et5 hG6), hM_v7, hA_f8, hIv7, hk0_v7, hk1_v7, hk7_v7, hk8_v7, hk9_v7, hk10_v7, hk31_v7, hk32_v7, (Or.inl rfl)⟩ hP hD hS dX5_stepOn_53 (Nat.le_refl _) (Nat.le_refl _)
  · skip
    refine lv_iconst (v := 0) hx hb dX5_stepOn_7 rfl ?_
    exact ret 0 (v, f) _ _ _ _ _ _ rfl ⟨(gsX_X5_stepOn_1_q1 c1), hM_v, hA_f, hIv, rfl, rfl, rfl, rfl, rfl, rfl, rfl, rfl, (Or.inr rfl)⟩ hP hD hS dX5_stepOn_8 (Nat.le_refl _) (Nat.le_refl _)
set_option maxHeartbeats 4000000 in
set_option maxRecDepth 100000 in
theorem sX_X10_redo_1 (NF : Nat) (l : Launch) (dC : Nat → ClassId) (dI : Nat → Nat → Nat) (cy : Nat → ClassId) (x0 : Nat) (x : Nat → Nat)  (v : Nat → Int32) (f : Nat → Nat → Int32) (hIv : XI v)  : ctI l (dC, dI) cy yX10_redo cX10_redo 1 .boolean 3 142 0 0 ((Nat → Int32) × (Nat → Nat → Int32)) [.ref x0] (XW cy x0 x v f) (fun r u => gsX_X10_redo_1 NF v f = (r, u) ∧ KV [22, 23] u.1 v ∧ KF [15] u.2 f ∧ XI u.1 ∧ u.1 0 = v 0 ∧ u.1 1 = v 1 ∧ u.1 7 = v 7 ∧ u.1 8 = v 8 ∧ u.1 9 = v 9 ∧ u.1 10 = v 10 ∧ u.1 31 = v 31 ∧ u.1 32 = v 32 ∧ ((r = 1) ∨ (r = 0))) (fun u => XW cy x0 x u.1 u.2) := by
  refine ctI_of (by decide) (Nat.le_of_ble_eq_true rfl) (fun p e s m below meth c A ls Q hx hb hml hts hown hE hP hD hA hl ret => ?_)
  have hM_v : KV [22, 23] v v := fun _ _ => rfl
  have hA_f : KF [15] f f := fun _ _ => rfl
  have hown : s.vm.findClass RX10 = some m.cls := hown
  have hS : va_S A s.heap s.heap [] := va_S.rf
  have hl : lv_has ls 1 [(0, .ref x0)] := hl
  refine lv_aload_n hx hb dX10_redo_0 rfl (lv_at hl 0 rfl) ?_
  refine va_get (D := (dC, dI)) (ci := 10) (v := .ref (x 20)) (C := RX10) (T := TX10) (N := 10) hx hb hts inB_10 hown hE.1 hP 0 rfl rfl 4 (Nat.le_of_ble_eq_true rfl) (hts _ k_495) (fun _ h9 => h9) rfl dX10_redo_1 ?_
  refine cbVi (n := 0) (rest := []) hx hb hml hown hts hE hP hD hS hA (sX_X5_stepOn_1 NF l dC dI cy x0 x  v f hIv ) k_933 k_934 k_935 k_107 k_936 hd_yX5_stepOn ⟨Nat.le_of_ble_eq_true rfl, Nat.le_of_ble_eq_true rfl⟩ 21 5 rfl rfl (rfl) hl.1 rfl (Nat.le_of_ble_eq_true rfl) dX10_redo_4 (fun r1 u H locs hw hP hD hS => ?_)
  obtain ⟨hG2, hw⟩ := hw
  obtain ⟨v3, f4⟩ := u
  obtain ⟨kV_v3, kF_f4, hIv3, hk0_v3, hk1_v3, hk7_v3, hk8_v3, hk9_v3, hk10_v3, hk31_v3, hk32_v3, hw⟩ := hw
  have hM_v3 : KV [22, 23] v3 v := KV.tr kV_v3 hM_v rfl
  have hA_f4 : KF [15] f4 f := KF.tr kF_f4 hA_f rfl
  have hP : va_P (dC, dI) vwCl (XW cy x0 x v3 f4) H := hP
  have hD : va_D A (XW cy x0 x v3 f4) := hD
  have hq0_v3 : v3 0 = (v 0) := hk0_v3
  have hq1_v3 : v3 1 = (v 1) := hk1_v3
  have hq7_v3 : v3 7 = (v 7) := hk7_v3
  have hq8_v3 : v3 8 = (v 8) := hk8_v3
  have hq9_v3 : v3 9 = (v 9) := hk9_v3
  have hq10_v3 : v3 10 = (v 10) := hk10_v3
  have hq31_v3 : v3 31 = (v 31) := hk31_v3
  have hq32_v3 : v3 32 = (v 32) := hk32_v3
  rcases hw with ⟨g5⟩ | ⟨g5⟩
  · skip
    subst g5
    exact ret 1 (v3, f4) _ _ _ _ _ _ rfl ⟨(gsX_X10_redo_1_q0 hG2), hM_v3, hA_f4, hIv3, hk0_v3, hk1_v3, hk7_v3, hk8_v3, hk9_v3, hk10_v3, hk31_v3, hk32_v3, (Or.inl rfl)⟩ hP hD hS dX10_redo_7 (Nat.le_refl _) (Nat.le_refl _)
  · skip
    subst g5
    exact ret 0 (v3, f4) _ _ _ _ _ _ rfl ⟨(gsX_X10_redo_1_q1 hG2), hM_v3, hA_f4, hIv3, hk0_v3, hk1_v3, hk7_v3, hk8_v3, hk9_v3, hk10_v3, hk31_v3, hk32_v3, (Or.inr rfl)⟩ hP hD hS dX10_redo_7 (Nat.le_refl _) (Nat.le_refl _)
set_option maxHeartbeats 4000000 in
set_option maxRecDepth 100000 in
theorem sX_X1_saveTo_2 (NF : Nat) (l : Launch) (dC : Nat → ClassId) (dI : Nat → Nat → Nat) (cy : Nat → ClassId) (x0 : Nat) (x : Nat → Nat) (p2 : Int32) (v : Nat → Int32) (f : Nat → Nat → Int32) (hIv : XI v)  : ctV l (dC, dI) cy yX1_saveTo cX1_saveTo 3 1 100 0 0 ((Nat → Int32) × (Nat → Nat → Int32)) [.ref (x 21), .ref (x 23), .int p2] (XW cy x0 x v f) (fun u => gsX_X1_saveTo_2 NF p2 v f = u ∧ KV [] u.1 v ∧ KF [16] u.2 f ∧ XI u.1 ∧ u.1 0 = v 0 ∧ u.1 1 = v 1 ∧ u.1 7 = v 7 ∧ u.1 8 = v 8 ∧ u.1 9 = v 9 ∧ u.1 10 = v 10 ∧ u.1 31 = v 31 ∧ u.1 32 = v 32) (fun u => XW cy x0 x u.1 u.2) := by
  refine ctV_of (by decide) (Nat.le_of_ble_eq_true rfl) (fun p e s m below meth c A ls Q hx hb hml hts hown hnm hE hP hD hA hl ret => ?_)
  have hM_v : KV [] v v := fun _ _ => rfl
  have hA_f : KF [16] f f := fun _ _ => rfl
  have hown : s.vm.findClass RX1 = some m.cls := hown
  have hS : va_S A s.heap s.heap [] := va_S.rf
  have hl : lv_has ls 3 [(0, .ref (x 21)), (1, .ref (x 23)), (2, .int p2)] := hl
  refine lv_iload_n hx hb dX1_saveTo_0 rfl (lv_at hl 2 rfl) ?_
  refine lv_if_lt (tgt := 28) hx hb dX1_saveTo_1 rfl (fun c1 => ?_) (fun c1 => ?_)
  · skip
    exact ret (v, f) _ _ _ _ _ _ ⟨(gsX_X1_saveTo_2_q0 c1), hM_v, hA_f, hIv, rfl, rfl, rfl, rfl, rfl, rfl, rfl, rfl⟩ hP hD hS dX1_saveTo_28 (Nat.le_refl _) (Nat.le_refl _)
  · skip
    have zc1 : ¬ (p2.toInt < 0) := zLn rfl tc_0 c1
    refine lv_iload_n hx hb dX1_saveTo_4 rfl (lv_at hl 2 rfl) ?_
    refine lv_aload_n hx hb dX1_saveTo_5 rfl (lv_at hl 1 rfl) ?_
    refine va_alen (v := 132) hx hb hE.1 hP 24 1 rfl rfl rfl dX1_saveTo_6 ?_
    refine lv_bipush (v := 44) hx hb dX1_saveTo_7 rfl ?_
    refine lv_idiv hx hb dX1_saveTo_9 (by decide) ?_
    refine tI (y := 3) (by decide) ?_
    refine lv_icmp_ge (tgt := 28) hx hb dX1_saveTo_10 rfl (fun c2 => ?_) (fun c2 => ?_)
    · skip
      exact ret (v, f) _ _ _ _ _ _ ⟨(gsX_X1_saveTo_2_q1 c1 c2), hM_v, hA_f, hIv, rfl, rfl, rfl, rfl, rfl, rfl, rfl, rfl⟩ hP hD hS dX1_saveTo_28 (Nat.le_refl _) (Nat.le_refl _)
    · skip
      have zc2 : ¬ (3 ≤ p2.toInt) := zMn tc_3 rfl c2
      refine lv_aload_n hx hb dX1_saveTo_13 rfl (lv_at hl 0 rfl) ?_
      refine va_get (D := (dC, dI)) (ci := 1) (v := .ref (x 22)) (C := RX1) (T := TX1) (N := 2) hx hb hts inB_1 hown hE.1 hP 22 rfl rfl 1 (Nat.le_of_ble_eq_true rfl) (hts _ k_319) (fun _ h9 => h9) rfl dX1_saveTo_14 ?_
      refine lv_iconst (v := 0) hx hb dX1_saveTo_17 rfl ?_
      refine lv_aload_n hx hb dX1_saveTo_18 rfl (lv_at hl 1 rfl) ?_
      refine lv_iload_n hx hb dX1_saveTo_19 rfl (lv_at hl 2 rfl) ?_
      refine lv_bipush (v := 44) hx hb dX1_saveTo_20 rfl ?_
      refine lv_imul hx hb dX1_saveTo_22 ?_
      refine lv_topi (fun t3 et3 => ?_)
      have rg4 := fb_rng p2
      have zt3 : t3.toInt = p2.toInt * 44 := (congrArg Int32.toInt et3).trans (mul_i rfl tc_44 (om_123 zc1) (om_192 zc2))
      refine lv_bipush (v := 44) hx hb dX1_saveTo_23 rfl ?_
      refine cpE (zs := 0) (zd := t3.toInt) (zn := 44) hx hb (by rw [hml]; exact hl.1.symm) hown (hts _ k_335) (hts _ k_337) (hts _ k_336) (hts _ k_108) hE hP hD hS 23 24 rfl rfl (by decide) rfl (by decide) (by omega) (by omega) (by omega) (by omega) (by omega) (Nat.le_of_ble_eq_true rfl) (Nat.le_of_ble_eq_true rfl) dX1_saveTo_25 (fun H locs hP hD hS => ?_)
      obtain ⟨f5, ef5, hP, hD⟩ : ∃ fz9, fz9 = upd2 f 16 (va_cpy (f 15) (f 16) (0 : Int32).toNatClampNeg (t3).toNatClampNeg (44 : Int32).toNatClampNeg) ∧ va_P (dC, dI) vwCl (XW cy x0 x v fz9) H ∧ va_D A (XW cy x0 x v fz9) := ⟨_, rfl, hP, hD⟩
      have hA_f5 : KF [16] f5 f := by rw [ef5]; exact KF.up hA_f rfl
      exact ret (v, f5) _ _ _ _ _ _ ⟨(gsX_X1_saveTo_2_q2 c1 c2 et3 ef5), hM_v, hA_f5, hIv, rfl, rfl, rfl, rfl, rfl, rfl, rfl, rfl⟩ hP hD hS dX1_saveTo_28 (Nat.le_refl _) (Nat.le_refl _)
set_option maxHeartbeats 4000000 in
set_option maxRecDepth 100000 in
theorem sX_X5_fillBox_1 (NF : Nat) (l : Launch) (dC : Nat → ClassId) (dI : Nat → Nat → Nat) (cy : Nat → ClassId) (x0 : Nat) (x : Nat → Nat) (p1 : Int32) (v : Nat → Int32) (f : Nat → Nat → Int32) (hIv : XI v)  : ctI l (dC, dI) cy yX5_fillBox cX5_fillBox 2 .boolean 2 122 0 0 ((Nat → Int32) × (Nat → Nat → Int32)) [.ref (x 20), .int p1] (XW cy x0 x v f) (fun r u => gsX_X5_fillBox_1 NF p1 v f = (r, u) ∧ KV [20] u.1 v ∧ KF [16] u.2 f ∧ XI u.1 ∧ u.1 0 = v 0 ∧ u.1 1 = v 1 ∧ u.1 7 = v 7 ∧ u.1 8 = v 8 ∧ u.1 9 = v 9 ∧ u.1 10 = v 10 ∧ u.1 31 = v 31 ∧ u.1 32 = v 32 ∧ ((r = 1) ∨ (r = 0))) (fun u => XW cy x0 x u.1 u.2) := by
  refine ctI_of (by decide) (Nat.le_of_ble_eq_true rfl) (fun p e s m below meth c A ls Q hx hb hml hts hown hE hP hD hA hl ret => ?_)
  have hM_v : KV [20] v v := fun _ _ => rfl
  have hA_f : KF [16] f f := fun _ _ => rfl
  have hown : s.vm.findClass RX5 = some m.cls := hown
  have hS : va_S A s.heap s.heap [] := va_S.rf
  have hl : lv_has ls 2 [(0, .ref (x 20)), (1, .int p1)] := hl
  refine lv_iload_n hx hb dX5_fillBox_0 rfl (lv_at hl 1 rfl) ?_
  refine lv_if_lt (tgt := 9) hx hb dX5_fillBox_1 rfl (fun c1 => ?_) (fun c1 => ?_)
  · skip
    refine lv_iconst (v := 0) hx hb dX5_fillBox_9 rfl ?_
    exact ret 0 (v, f) _ _ _ _ _ _ rfl ⟨(gsX_X5_fillBox_1_q0 c1), hM_v, hA_f, hIv, rfl, rfl, rfl, rfl, rfl, rfl, rfl, rfl, (Or.inr rfl)⟩ hP hD hS dX5_fillBox_10 (Nat.le_refl _) (Nat.le_refl _)
  · skip
    refine lv_iload_n hx hb dX5_fillBox_4 rfl (lv_at hl 1 rfl) ?_
    refine lv_iconst (v := 3) hx hb dX5_fillBox_5 rfl ?_
    refine lv_icmp_lt (tgt := 11) hx hb dX5_fillBox_6 rfl (fun c2 => ?_) (fun c2 => ?_)
    · skip
      refine lv_aload_n hx hb dX5_fillBox_11 rfl (lv_at hl 0 rfl) ?_
      refine va_get (D := (dC, dI)) (ci := 5) (v := .ref (x 21)) (C := RX5) (T := TX5) (N := 7) hx hb hts inB_5 hown hE.1 hP 21 rfl rfl 0 (Nat.le_of_ble_eq_true rfl) (hts _ k_338) (fun _ h9 => h9) rfl dX5_fillBox_12 ?_
      refine lv_aload_n hx hb dX5_fillBox_15 rfl (lv_at hl 0 rfl) ?_
      refine va_get (D := (dC, dI)) (ci := 5) (v := .ref (x 23)) (C := RX5) (T := TX5) (N := 7) hx hb hts inB_5 hown hE.1 hP 21 rfl rfl 2 (Nat.le_of_ble_eq_true rfl) (hts _ k_340) (fun _ h9 => h9) rfl dX5_fillBox_16 ?_
      refine lv_iload_n hx hb dX5_fillBox_19 rfl (lv_at hl 1 rfl) ?_
      refine cbVv (n := 2) (rest := []) hx hb hml hown hts hE hP hD hS hA (sX_X1_saveTo_2 NF l dC dI cy x0 x p1 v f hIv ) k_331 k_332 k_333 k_106 k_334 hd_yX1_saveTo ⟨Nat.le_of_ble_eq_true rfl, Nat.le_of_ble_eq_true rfl⟩ 22 1 rfl rfl (rfl) hl.1 rfl (Nat.le_of_ble_eq_true rfl) dX5_fillBox_20 (fun u H locs hw hP hD hS => ?_)
      obtain ⟨hG3, hw⟩ := hw
      obtain ⟨v4, f5⟩ := u
      obtain ⟨kV_v4, kF_f5, hIv4, hk0_v4, hk1_v4, hk7_v4, hk8_v4, hk9_v4, hk10_v4, hk31_v4, hk32_v4⟩ := hw
      have hM_v4 : KV [20] v4 v := KV.tr kV_v4 hM_v rfl
      have hA_f5 : KF [16] f5 f := KF.tr kF_f5 hA_f rfl
      have hP : va_P (dC, dI) vwCl (XW cy x0 x v4 f5) H := hP
      have hD : va_D A (XW cy x0 x v4 f5) := hD
      refine lv_aload_n hx hb dX5_fillBox_23 rfl (lv_at hl 0 rfl) ?_
      refine lv_dup hx hb dX5_fillBox_24 rfl ?_
      refine va_get (D := (dC, dI)) (ci := 5) (v := .int (v4 20)) (C := RX5) (T := TX5) (N := 7) hx hb hts inB_5 hown hE.1 hP 21 rfl rfl 3 (Nat.le_of_ble_eq_true rfl) (hts _ k_341) (fun _ h9 => h9) rfl dX5_fillBox_25 ?_
      refine lv_iconst (v := 1) hx hb dX5_fillBox_28 rfl ?_
      refine lv_iload_n hx hb dX5_fillBox_29 rfl (lv_at hl 1 rfl) ?_
      refine lv_ishl hx hb dX5_fillBox_30 ?_
      refine lv_topi (fun t6 et6 => ?_)
      refine lv_ior hx hb dX5_fillBox_31 ?_
      refine lv_topi (fun t7 et7 => ?_)
      refine va_put (D := (dC, dI)) (ci := 5) (v := .int t7) (ty := tyX5 3) (C := RX5) (T := TX5) (N := 7) hx hb hts inB_5 tyX5 tyX5_ok nmX5 hown hE.1 hP hD hS 21 rfl rfl 3 (Nat.le_of_ble_eq_true rfl) (hts _ k_341) (fun _ h9 => h9) rfl (tyX5_ok 3 (Nat.le_of_ble_eq_true rfl)) rfl rfl (Nat.le_of_ble_eq_true rfl) dX5_fillBox_32 (fun H locs hP hD hS => ?_)
      have hP : va_P (dC, dI) vwCl (XW cy x0 x (upd v4 20 t7) f5) H := hP
      have hD : va_D A (XW cy x0 x (upd v4 20 t7) f5) := hD
      refine lv_iconst (v := 1) hx hb dX5_fillBox_35 rfl ?_
      exact ret 1 ((upd v4 20 t7), f5) _ _ _ _ _ _ rfl ⟨(gsX_X5_fillBox_1_q1 c1 c2 hG3 et6 et7), (KV.up (j := 20) (x := t7) hM_v4 rfl), hA_f5, (Xu_20 (x := t7) hIv4 (rlo _) (rhi _)), hk0_v4, hk1_v4, hk7_v4, hk8_v4, hk9_v4, hk10_v4, hk31_v4, hk32_v4, (Or.inl rfl)⟩ hP hD hS dX5_fillBox_36 (Nat.le_refl _) (Nat.le_refl _)
    · skip
      refine lv_iconst (v := 0) hx hb dX5_fillBox_9 rfl ?_
      exact ret 0 (v, f) _ _ _ _ _ _ rfl ⟨(gsX_X5_fillBox_1_q2 c1 c2), hM_v, hA_f, hIv, rfl, rfl, rfl, rfl, rfl, rfl, rfl, rfl, (Or.inr rfl)⟩ hP hD hS dX5_fillBox_10 (Nat.le_refl _) (Nat.le_refl _)
set_option maxHeartbeats 4000000 in
set_option maxRecDepth 100000 in
theorem sX_X10_image_1 (NF : Nat) (l : Launch) (dC : Nat → ClassId) (dI : Nat → Nat → Nat) (cy : Nat → ClassId) (x0 : Nat) (x : Nat → Nat) (p1 : Int32) (v : Nat → Int32) (f : Nat → Nat → Int32) (hIv : XI v)  : ctI l (dC, dI) cy yX10_image cX10_image 2 .int 3 143 0 0 ((Nat → Int32) × (Nat → Nat → Int32)) [.ref x0, .int p1] (XW cy x0 x v f) (fun r u => gsX_X10_image_1 NF p1 v f = (r, u) ∧ KV [20] u.1 v ∧ KF [16] u.2 f ∧ XI u.1 ∧ u.1 0 = v 0 ∧ u.1 1 = v 1 ∧ u.1 7 = v 7 ∧ u.1 8 = v 8 ∧ u.1 9 = v 9 ∧ u.1 10 = v 10 ∧ u.1 31 = v 31 ∧ u.1 32 = v 32) (fun u => XW cy x0 x u.1 u.2) := by
  refine ctI_of (by decide) (Nat.le_of_ble_eq_true rfl) (fun p e s m below meth c A ls Q hx hb hml hts hown hE hP hD hA hl ret => ?_)
  have hM_v : KV [20] v v := fun _ _ => rfl
  have hA_f : KF [16] f f := fun _ _ => rfl
  have hown : s.vm.findClass RX10 = some m.cls := hown
  have hS : va_S A s.heap s.heap [] := va_S.rf
  have hl : lv_has ls 2 [(0, .ref x0), (1, .int p1)] := hl
  refine lv_aload_n hx hb dX10_image_0 rfl (lv_at hl 0 rfl) ?_
  refine va_get (D := (dC, dI)) (ci := 10) (v := .ref (x 20)) (C := RX10) (T := TX10) (N := 10) hx hb hts inB_10 hown hE.1 hP 0 rfl rfl 4 (Nat.le_of_ble_eq_true rfl) (hts _ k_495) (fun _ h9 => h9) rfl dX10_image_1 ?_
  refine lv_iload_n hx hb dX10_image_4 rfl (lv_at hl 1 rfl) ?_
  refine cbVi (n := 1) (rest := []) hx hb hml hown hts hE hP hD hS hA (sX_X5_fillBox_1 NF l dC dI cy x0 x p1 v f hIv ) k_1294 k_1295 k_1296 k_107 k_1297 hd_yX5_fillBox ⟨Nat.le_of_ble_eq_true rfl, Nat.le_of_ble_eq_true rfl⟩ 21 5 rfl rfl (rfl) hl.1 rfl (Nat.le_of_ble_eq_true rfl) dX10_image_5 (fun r1 u H locs hw hP hD hS => ?_)
  obtain ⟨hG2, hw⟩ := hw
  obtain ⟨v3, f4⟩ := u
  obtain ⟨kV_v3, kF_f4, hIv3, hk0_v3, hk1_v3, hk7_v3, hk8_v3, hk9_v3, hk10_v3, hk31_v3, hk32_v3, hw⟩ := hw
  have hM_v3 : KV [20] v3 v := KV.tr kV_v3 hM_v rfl
  have hA_f4 : KF [16] f4 f := KF.tr kF_f4 hA_f rfl
  have hP : va_P (dC, dI) vwCl (XW cy x0 x v3 f4) H := hP
  have hD : va_D A (XW cy x0 x v3 f4) := hD
  have hq0_v3 : v3 0 = (v 0) := hk0_v3
  have hq1_v3 : v3 1 = (v 1) := hk1_v3
  have hq7_v3 : v3 7 = (v 7) := hk7_v3
  have hq8_v3 : v3 8 = (v 8) := hk8_v3
  have hq9_v3 : v3 9 = (v 9) := hk9_v3
  have hq10_v3 : v3 10 = (v 10) := hk10_v3
  have hq31_v3 : v3 31 = (v 31) := hk31_v3
  have hq32_v3 : v3 32 = (v 32) := hk32_v3
  rcases hw with ⟨g5⟩ | ⟨g5⟩
  · skip
    subst g5
    refine lv_if_eq (tgt := 21) hx hb dX10_image_8 rfl (fun c0 => absurd c0 (by decide)) (fun _ => ?_)
    refine lv_aload_n hx hb dX10_image_11 rfl (lv_at hl 0 rfl) ?_
    refine va_get (D := (dC, dI)) (ci := 10) (v := .ref (x 21)) (C := RX10) (T := TX10) (N := 10) hx hb hts inB_10 hown hE.1 hP 0 rfl rfl 3 (Nat.le_of_ble_eq_true rfl) (hts _ k_494) (fun _ h9 => h9) rfl dX10_image_12 ?_
    refine cbVi (n := 0) (rest := []) hx hb hml hown hts hE hP hD hS hA (sX_X1_today_1 NF l dC dI cy x0 x  v3 f4 hIv3 ) k_864 k_832 k_833 k_106 k_834 hd_yX1_today ⟨Nat.le_of_ble_eq_true rfl, Nat.le_of_ble_eq_true rfl⟩ 22 1 rfl rfl (rfl) hl.1 rfl (Nat.le_of_ble_eq_true rfl) dX10_image_15 (fun r6 u H locs hw hP hD hS => ?_)
    have hG7 := hw
    refine lv_goto (tgt := 22) hx hb dX10_image_18 rfl ?_
    exact ret r6 (v3, f4) _ _ _ _ _ _ rfl ⟨(gsX_X10_image_1_q0 hG2 hG7.symm), hM_v3, hA_f4, hIv3, hk0_v3, hk1_v3, hk7_v3, hk8_v3, hk9_v3, hk10_v3, hk31_v3, hk32_v3⟩ hP hD hS dX10_image_22 (Nat.le_refl _) (Nat.le_refl _)
  · skip
    subst g5
    refine lv_if_eq (tgt := 21) hx hb dX10_image_8 rfl (fun _ => ?_) (fun c0 => absurd (by decide) c0)
    refine lv_iconst (v := (-1)) hx hb dX10_image_21 rfl ?_
    exact ret (-1) (v3, f4) _ _ _ _ _ _ rfl ⟨(gsX_X10_image_1_q1 hG2), hM_v3, hA_f4, hIv3, hk0_v3, hk1_v3, hk7_v3, hk8_v3, hk9_v3, hk10_v3, hk31_v3, hk32_v3⟩ hP hD hS dX10_image_22 (Nat.le_refl _) (Nat.le_refl _)
set_option maxHeartbeats 4000000 in
set_option maxRecDepth 100000 in
theorem sX_X1_loadFrom_2 (NF : Nat) (l : Launch) (dC : Nat → ClassId) (dI : Nat → Nat → Nat) (cy : Nat → ClassId) (x0 : Nat) (x : Nat → Nat) (p2 : Int32) (v : Nat → Int32) (f : Nat → Nat → Int32) (hIv : XI v)  : ctV l (dC, dI) cy yX1_loadFrom cX1_loadFrom 3 1 100 0 0 ((Nat → Int32) × (Nat → Nat → Int32)) [.ref (x 21), .ref (x 23), .int p2] (XW cy x0 x v f) (fun u => gsX_X1_loadFrom_2 NF p2 v f = u ∧ KV [] u.1 v ∧ KF [15] u.2 f ∧ XI u.1 ∧ u.1 0 = v 0 ∧ u.1 1 = v 1 ∧ u.1 7 = v 7 ∧ u.1 8 = v 8 ∧ u.1 9 = v 9 ∧ u.1 10 = v 10 ∧ u.1 31 = v 31 ∧ u.1 32 = v 32) (fun u => XW cy x0 x u.1 u.2) := by
  refine ctV_of (by decide) (Nat.le_of_ble_eq_true rfl) (fun p e s m below meth c A ls Q hx hb hml hts hown hnm hE hP hD hA hl ret => ?_)
  have hM_v : KV [] v v := fun _ _ => rfl
  have hA_f : KF [15] f f := fun _ _ => rfl
  have hown : s.vm.findClass RX1 = some m.cls := hown
  have hS : va_S A s.heap s.heap [] := va_S.rf
  have hl : lv_has ls 3 [(0, .ref (x 21)), (1, .ref (x 23)), (2, .int p2)] := hl
  refine lv_iload_n hx hb dX1_loadFrom_0 rfl (lv_at hl 2 rfl) ?_
  refine lv_if_lt (tgt := 28) hx hb dX1_loadFrom_1 rfl (fun c1 => ?_) (fun c1 => ?_)
  · skip
    exact ret (v, f) _ _ _ _ _ _ ⟨(gsX_X1_loadFrom_2_q0 c1), hM_v, hA_f, hIv, rfl, rfl, rfl, rfl, rfl, rfl, rfl, rfl⟩ hP hD hS dX1_loadFrom_28 (Nat.le_refl _) (Nat.le_refl _)
  · skip
    have zc1 : ¬ (p2.toInt < 0) := zLn rfl tc_0 c1
    refine lv_iload_n hx hb dX1_loadFrom_4 rfl (lv_at hl 2 rfl) ?_
    refine lv_aload_n hx hb dX1_loadFrom_5 rfl (lv_at hl 1 rfl) ?_
    refine va_alen (v := 132) hx hb hE.1 hP 24 1 rfl rfl rfl dX1_loadFrom_6 ?_
    refine lv_bipush (v := 44) hx hb dX1_loadFrom_7 rfl ?_
    refine lv_idiv hx hb dX1_loadFrom_9 (by decide) ?_
    refine tI (y := 3) (by decide) ?_
    refine lv_icmp_ge (tgt := 28) hx hb dX1_loadFrom_10 rfl (fun c2 => ?_) (fun c2 => ?_)
    · skip
      exact ret (v, f) _ _ _ _ _ _ ⟨(gsX_X1_loadFrom_2_q1 c1 c2), hM_v, hA_f, hIv, rfl, rfl, rfl, rfl, rfl, rfl, rfl, rfl⟩ hP hD hS dX1_loadFrom_28 (Nat.le_refl _) (Nat.le_refl _)
    · skip
      have zc2 : ¬ (3 ≤ p2.toInt) := zMn tc_3 rfl c2
      refine lv_aload_n hx hb dX1_loadFrom_13 rfl (lv_at hl 1 rfl) ?_
      refine lv_iload_n hx hb dX1_loadFrom_14 rfl (lv_at hl 2 rfl) ?_
      refine lv_bipush (v := 44) hx hb dX1_loadFrom_15 rfl ?_
      refine lv_imul hx hb dX1_loadFrom_17 ?_
      refine lv_topi (fun t3 et3 => ?_)
      have rg4 := fb_rng p2
      have zt3 : t3.toInt = p2.toInt * 44 := (congrArg Int32.toInt et3).trans (mul_i rfl tc_44 (om_123 zc1) (om_192 zc2))
      refine lv_aload_n hx hb dX1_loadFrom_18 rfl (lv_at hl 0 rfl) ?_
      refine va_get (D := (dC, dI)) (ci := 1) (v := .ref (x 22)) (C := RX1) (T := TX1) (N := 2) hx hb hts inB_1 hown hE.1 hP 22 rfl rfl 1 (Nat.le_of_ble_eq_true rfl) (hts _ k_319) (fun _ h9 => h9) rfl dX1_loadFrom_19 ?_
      refine lv_iconst (v := 0) hx hb dX1_loadFrom_22 rfl ?_
      refine lv_bipush (v := 44) hx hb dX1_loadFrom_23 rfl ?_
      refine cpE (zs := t3.toInt) (zd := 0) (zn := 44) hx hb (by rw [hml]; exact hl.1.symm) hown (hts _ k_335) (hts _ k_337) (hts _ k_336) (hts _ k_108) hE hP hD hS 24 23 rfl rfl rfl (by decide) (by decide) (by omega) (by omega) (by omega) (by omega) (by omega) (Nat.le_of_ble_eq_true rfl) (Nat.le_of_ble_eq_true rfl) dX1_loadFrom_25 (fun H locs hP hD hS => ?_)
      obtain ⟨f5, ef5, hP, hD⟩ : ∃ fz9, fz9 = upd2 f 15 (va_cpy (f 16) (f 15) (t3).toNatClampNeg (0 : Int32).toNatClampNeg (44 : Int32).toNatClampNeg) ∧ va_P (dC, dI) vwCl (XW cy x0 x v fz9) H ∧ va_D A (XW cy x0 x v fz9) := ⟨_, rfl, hP, hD⟩
      have hA_f5 : KF [15] f5 f := by rw [ef5]; exact KF.up hA_f rfl
      exact ret (v, f5) _ _ _ _ _ _ ⟨(gsX_X1_loadFrom_2_q2 c1 c2 et3 ef5), hM_v, hA_f5, hIv, rfl, rfl, rfl, rfl, rfl, rfl, rfl, rfl⟩ hP hD hS dX1_loadFrom_28 (Nat.le_refl _) (Nat.le_refl _)
set_option maxHeartbeats 4000000 in
set_option maxRecDepth 100000 in
theorem sX_X5_takeBox_1 (NF : Nat) (l : Launch) (dC : Nat → ClassId) (dI : Nat → Nat → Nat) (cy : Nat → ClassId) (x0 : Nat) (x : Nat → Nat) (p1 : Int32) (v : Nat → Int32) (f : Nat → Nat → Int32) (hIv : XI v)  : ctI l (dC, dI) cy yX5_takeBox cX5_takeBox 2 .boolean 3 142 0 0 ((Nat → Int32) × (Nat → Nat → Int32)) [.ref (x 20), .int p1] (XW cy x0 x v f) (fun r u => gsX_X5_takeBox_1 NF p1 v f = (r, u) ∧ KV [21, 22, 23] u.1 v ∧ KF [15, 17] u.2 f ∧ XI u.1 ∧ u.1 0 = v 0 ∧ u.1 1 = v 1 ∧ u.1 7 = v 7 ∧ u.1 8 = v 8 ∧ u.1 9 = v 9 ∧ u.1 10 = v 10 ∧ u.1 31 = v 31 ∧ u.1 32 = v 32 ∧ ((r = 1) ∨ (r = 0))) (fun u => XW cy x0 x u.1 u.2) := by
  refine ctI_of (by decide) (Nat.le_of_ble_eq_true rfl) (fun p e s m below meth c A ls Q hx hb hml hts hown hE hP hD hA hl ret => ?_)
  have hM_v : KV [21, 22, 23] v v := fun _ _ => rfl
  have hA_f : KF [15, 17] f f := fun _ _ => rfl
  have hown : s.vm.findClass RX5 = some m.cls := hown
  have hS : va_S A s.heap s.heap [] := va_S.rf
  have hl : lv_has ls 2 [(0, .ref (x 20)), (1, .int p1)] := hl
  refine lv_iload_n hx hb dX5_takeBox_0 rfl (lv_at hl 1 rfl) ?_
  refine lv_if_lt (tgt := 20) hx hb dX5_takeBox_1 rfl (fun c1 => ?_) (fun c1 => ?_)
  · skip
    refine lv_iconst (v := 0) hx hb dX5_takeBox_20 rfl ?_
    exact ret 0 (v, f) _ _ _ _ _ _ rfl ⟨(gsX_X5_takeBox_1_q0 c1), hM_v, hA_f, hIv, rfl, rfl, rfl, rfl, rfl, rfl, rfl, rfl, (Or.inr rfl)⟩ hP hD hS dX5_takeBox_21 (Nat.le_refl _) (Nat.le_refl _)
  · skip
    refine lv_iload_n hx hb dX5_takeBox_4 rfl (lv_at hl 1 rfl) ?_
    refine lv_iconst (v := 3) hx hb dX5_takeBox_5 rfl ?_
    refine lv_icmp_ge (tgt := 20) hx hb dX5_takeBox_6 rfl (fun c2 => ?_) (fun c2 => ?_)
    · skip
      refine lv_iconst (v := 0) hx hb dX5_takeBox_20 rfl ?_
      exact ret 0 (v, f) _ _ _ _ _ _ rfl ⟨(gsX_X5_takeBox_1_q1 c1 c2), hM_v, hA_f, hIv, rfl, rfl, rfl, rfl, rfl, rfl, rfl, rfl, (Or.inr rfl)⟩ hP hD hS dX5_takeBox_21 (Nat.le_refl _) (Nat.le_refl _)
    · skip
      refine lv_aload_n hx hb dX5_takeBox_9 rfl (lv_at hl 0 rfl) ?_
      refine va_get (D := (dC, dI)) (ci := 5) (v := .int (v 20)) (C := RX5) (T := TX5) (N := 7) hx hb hts inB_5 hown hE.1 hP 21 rfl rfl 3 (Nat.le_of_ble_eq_true rfl) (hts _ k_341) (fun _ h9 => h9) rfl dX5_takeBox_10 ?_
      refine lv_iload_n hx hb dX5_takeBox_13 rfl (lv_at hl 1 rfl) ?_
      refine lv_ishr hx hb dX5_takeBox_14 ?_
      refine lv_topi (fun t3 et3 => ?_)
      refine lv_iconst (v := 1) hx hb dX5_takeBox_15 rfl ?_
      refine lv_iand hx hb dX5_takeBox_16 ?_
      refine lv_topi (fun t4 et4 => ?_)
      refine lv_if_ne (tgt := 22) hx hb dX5_takeBox_17 rfl (fun c5 => ?_) (fun c5 => ?_)
      · skip
        refine lv_aload_n hx hb dX5_takeBox_22 rfl (lv_at hl 0 rfl) ?_
        refine va_get (D := (dC, dI)) (ci := 5) (v := .ref (x 21)) (C := RX5) (T := TX5) (N := 7) hx hb hts inB_5 hown hE.1 hP 21 rfl rfl 0 (Nat.le_of_ble_eq_true rfl) (hts _ k_338) (fun _ h9 => h9) rfl dX5_takeBox_23 ?_
        refine lv_aload_n hx hb dX5_takeBox_26 rfl (lv_at hl 0 rfl) ?_
        refine va_get (D := (dC, dI)) (ci := 5) (v := .ref (x 23)) (C := RX5) (T := TX5) (N := 7) hx hb hts inB_5 hown hE.1 hP 21 rfl rfl 2 (Nat.le_of_ble_eq_true rfl) (hts _ k_340) (fun _ h9 => h9) rfl dX5_takeBox_27 ?_
        refine lv_iload_n hx hb dX5_takeBox_30 rfl (lv_at hl 1 rfl) ?_
        refine cbVv (n := 2) (rest := []) hx hb hml hown hts hE hP hD hS hA (sX_X1_loadFrom_2 NF l dC dI cy x0 x p1 v f hIv ) k_925 k_926 k_927 k_106 k_928 hd_yX1_loadFrom ⟨Nat.le_of_ble_eq_true rfl, Nat.le_of_ble_eq_true rfl⟩ 22 1 rfl rfl (rfl) hl.1 rfl (Nat.le_of_ble_eq_true rfl) dX5_takeBox_31 (fun u H locs hw hP hD hS => ?_)
        obtain ⟨hG6, hw⟩ := hw
        obtain ⟨v7, f8⟩ := u
        obtain ⟨kV_v7, kF_f8, hIv7, hk0_v7, hk1_v7, hk7_v7, hk8_v7, hk9_v7, hk10_v7, hk31_v7, hk32_v7⟩ := hw
        have hM_v7 : KV [21, 22, 23] v7 v := KV.tr kV_v7 hM_v rfl
        have hA_f8 : KF [15, 17] f8 f := KF.tr kF_f8 hA_f rfl
        have hP : va_P (dC, dI) vwCl (XW cy x0 x v7 f8) H := hP
        have hD : va_D A (XW cy x0 x v7 f8) := hD
        refine lv_aload_n hx hb dX5_takeBox_34 rfl (lv_at hl 0 rfl) ?_
        refine cbVv (n := 0) (rest := []) hx hb hml hown hts hE hP hD hS hA (sX_X5_forgetActs_1 NF l dC dI cy x0 x  v7 f8 hIv7 ) k_782 k_784 k_19 k_107 k_785 hd_yX5_forgetActs ⟨Nat.le_of_ble_eq_true rfl, Nat.le_of_ble_eq_true rfl⟩ 21 5 rfl rfl (rfl) hl.1 rfl (Nat.le_of_ble_eq_true rfl) dX5_takeBox_35 (fun u H locs hw hP hD hS => ?_)
        obtain ⟨hG9, hw⟩ := hw
        obtain ⟨v10, f11⟩ := u
        obtain ⟨kV_v10, kF_f11, hIv10, hk0_v10, hk1_v10, hk7_v10, hk8_v10, hk9_v10, hk10_v10, hk31_v10, hk32_v10⟩ := hw
        have hM_v10 : KV [21, 22, 23] v10 v := KV.tr kV_v10 hM_v7 rfl
        have hA_f11 : KF [15, 17] f11 f := KF.tr kF_f11 hA_f8 rfl
        have hP : va_P (dC, dI) vwCl (XW cy x0 x v10 f11) H := hP
        have hD : va_D A (XW cy x0 x v10 f11) := hD
        refine lv_iconst (v := 1) hx hb dX5_takeBox_38 rfl ?_
        exact ret 1 (v10, f11) _ _ _ _ _ _ rfl ⟨(gsX_X5_takeBox_1_q2 c1 c2 et3 et4 c5 hG6 hG9), hM_v10, hA_f11, hIv10, (hk0_v10.trans hk0_v7), (hk1_v10.trans hk1_v7), (hk7_v10.trans hk7_v7), (hk8_v10.trans hk8_v7), (hk9_v10.trans hk9_v7), (hk10_v10.trans hk10_v7), (hk31_v10.trans hk31_v7), (hk32_v10.trans hk32_v7), (Or.inl rfl)⟩ hP hD hS dX5_takeBox_39 (Nat.le_refl _) (Nat.le_refl _)
      · skip
        refine lv_iconst (v := 0) hx hb dX5_takeBox_20 rfl ?_
        exact ret 0 (v, f) _ _ _ _ _ _ rfl ⟨(gsX_X5_takeBox_1_q3 c1 c2 et3 et4 c5), hM_v, hA_f, hIv, rfl, rfl, rfl, rfl, rfl, rfl, rfl, rfl, (Or.inr rfl)⟩ hP hD hS dX5_takeBox_21 (Nat.le_refl _) (Nat.le_refl _)
set_option maxHeartbeats 4000000 in
set_option maxRecDepth 100000 in
theorem sX_X10_back_1 (NF : Nat) (l : Launch) (dC : Nat → ClassId) (dI : Nat → Nat → Nat) (cy : Nat → ClassId) (x0 : Nat) (x : Nat → Nat) (p1 : Int32) (v : Nat → Int32) (f : Nat → Nat → Int32) (hIv : XI v)  : ctI l (dC, dI) cy yX10_back cX10_back 2 .int 4 163 0 0 ((Nat → Int32) × (Nat → Nat → Int32)) [.ref x0, .int p1] (XW cy x0 x v f) (fun r u => gsX_X10_back_1 NF p1 v f = (r, u) ∧ KV [21, 22, 23] u.1 v ∧ KF [15, 17] u.2 f ∧ XI u.1 ∧ u.1 0 = v 0 ∧ u.1 1 = v 1 ∧ u.1 7 = v 7 ∧ u.1 8 = v 8 ∧ u.1 9 = v 9 ∧ u.1 10 = v 10 ∧ u.1 31 = v 31 ∧ u.1 32 = v 32) (fun u => XW cy x0 x u.1 u.2) := by
  refine ctI_of (by decide) (Nat.le_of_ble_eq_true rfl) (fun p e s m below meth c A ls Q hx hb hml hts hown hE hP hD hA hl ret => ?_)
  have hM_v : KV [21, 22, 23] v v := fun _ _ => rfl
  have hA_f : KF [15, 17] f f := fun _ _ => rfl
  have hown : s.vm.findClass RX10 = some m.cls := hown
  have hS : va_S A s.heap s.heap [] := va_S.rf
  have hl : lv_has ls 2 [(0, .ref x0), (1, .int p1)] := hl
  refine lv_aload_n hx hb dX10_back_0 rfl (lv_at hl 0 rfl) ?_
  refine va_get (D := (dC, dI)) (ci := 10) (v := .ref (x 20)) (C := RX10) (T := TX10) (N := 10) hx hb hts inB_10 hown hE.1 hP 0 rfl rfl 4 (Nat.le_of_ble_eq_true rfl) (hts _ k_495) (fun _ h9 => h9) rfl dX10_back_1 ?_
  refine lv_iload_n hx hb dX10_back_4 rfl (lv_at hl 1 rfl) ?_
  refine cbVi (n := 1) (rest := []) hx hb hml hown hts hE hP hD hS hA (sX_X5_takeBox_1 NF l dC dI cy x0 x p1 v f hIv ) k_1302 k_1303 k_1304 k_107 k_1305 hd_yX5_takeBox ⟨Nat.le_of_ble_eq_true rfl, Nat.le_of_ble_eq_true rfl⟩ 21 5 rfl rfl (rfl) hl.1 rfl (Nat.le_of_ble_eq_true rfl) dX10_back_5 (fun r1 u H locs hw hP hD hS => ?_)
  obtain ⟨hG2, hw⟩ := hw
  obtain ⟨v3, f4⟩ := u
  obtain ⟨kV_v3, kF_f4, hIv3, hk0_v3, hk1_v3, hk7_v3, hk8_v3, hk9_v3, hk10_v3, hk31_v3, hk32_v3, hw⟩ := hw
  have hM_v3 : KV [21, 22, 23] v3 v := KV.tr kV_v3 hM_v rfl
  have hA_f4 : KF [15, 17] f4 f := KF.tr kF_f4 hA_f rfl
  have hP : va_P (dC, dI) vwCl (XW cy x0 x v3 f4) H := hP
  have hD : va_D A (XW cy x0 x v3 f4) := hD
  have hq0_v3 : v3 0 = (v 0) := hk0_v3
  have hq1_v3 : v3 1 = (v 1) := hk1_v3
  have hq7_v3 : v3 7 = (v 7) := hk7_v3
  have hq8_v3 : v3 8 = (v 8) := hk8_v3
  have hq9_v3 : v3 9 = (v 9) := hk9_v3
  have hq10_v3 : v3 10 = (v 10) := hk10_v3
  have hq31_v3 : v3 31 = (v 31) := hk31_v3
  have hq32_v3 : v3 32 = (v 32) := hk32_v3
  rcases hw with ⟨g5⟩ | ⟨g5⟩
  · skip
    subst g5
    refine lv_if_eq (tgt := 21) hx hb dX10_back_8 rfl (fun c0 => absurd c0 (by decide)) (fun _ => ?_)
    refine lv_aload_n hx hb dX10_back_11 rfl (lv_at hl 0 rfl) ?_
    refine va_get (D := (dC, dI)) (ci := 10) (v := .ref (x 21)) (C := RX10) (T := TX10) (N := 10) hx hb hts inB_10 hown hE.1 hP 0 rfl rfl 3 (Nat.le_of_ble_eq_true rfl) (hts _ k_494) (fun _ h9 => h9) rfl dX10_back_12 ?_
    refine cbVi (n := 0) (rest := []) hx hb hml hown hts hE hP hD hS hA (sX_X1_today_1 NF l dC dI cy x0 x  v3 f4 hIv3 ) k_864 k_832 k_833 k_106 k_834 hd_yX1_today ⟨Nat.le_of_ble_eq_true rfl, Nat.le_of_ble_eq_true rfl⟩ 22 1 rfl rfl (rfl) hl.1 rfl (Nat.le_of_ble_eq_true rfl) dX10_back_15 (fun r6 u H locs hw hP hD hS => ?_)
    have hG7 := hw
    refine lv_goto (tgt := 22) hx hb dX10_back_18 rfl ?_
    exact ret r6 (v3, f4) _ _ _ _ _ _ rfl ⟨(gsX_X10_back_1_q0 hG2 hG7.symm), hM_v3, hA_f4, hIv3, hk0_v3, hk1_v3, hk7_v3, hk8_v3, hk9_v3, hk10_v3, hk31_v3, hk32_v3⟩ hP hD hS dX10_back_22 (Nat.le_refl _) (Nat.le_refl _)
  · skip
    subst g5
    refine lv_if_eq (tgt := 21) hx hb dX10_back_8 rfl (fun _ => ?_) (fun c0 => absurd (by decide) c0)
    refine lv_iconst (v := (-1)) hx hb dX10_back_21 rfl ?_
    exact ret (-1) (v3, f4) _ _ _ _ _ _ rfl ⟨(gsX_X10_back_1_q1 hG2), hM_v3, hA_f4, hIv3, hk0_v3, hk1_v3, hk7_v3, hk8_v3, hk9_v3, hk10_v3, hk31_v3, hk32_v3⟩ hP hD hS dX10_back_22 (Nat.le_refl _) (Nat.le_refl _)
set_option maxHeartbeats 4000000 in
set_option maxRecDepth 100000 in
theorem sX_X1_fittedMen_1 (NF : Nat) (l : Launch) (dC : Nat → ClassId) (dI : Nat → Nat → Nat) (cy : Nat → ClassId) (x0 : Nat) (x : Nat → Nat)  (v : Nat → Int32) (f : Nat → Nat → Int32) (hIv : XI v)  : ctI l (dC, dI) cy yX1_fittedMen cX1_fittedMen 3 .int 5 155 0 0 ((Nat → Int32) × (Nat → Nat → Int32)) [.ref (x 21)] (XW cy x0 x v f) (fun r u => gsX_X1_fittedMen_1 NF v f = (r, u) ∧ KV [] u.1 v ∧ KF [13, 14] u.2 f ∧ XI u.1 ∧ u.1 0 = v 0 ∧ u.1 1 = v 1 ∧ u.1 7 = v 7 ∧ u.1 8 = v 8 ∧ u.1 9 = v 9 ∧ u.1 10 = v 10 ∧ u.1 31 = v 31 ∧ u.1 32 = v 32) (fun u => XW cy x0 x u.1 u.2) := by
  refine ctI_of (by decide) (Nat.le_of_ble_eq_true rfl) (fun p e s m below meth c A ls Q hx hb hml hts hown hE hP hD hA hl ret => ?_)
  have hM_v : KV [] v v := fun _ _ => rfl
  have hA_f : KF [13, 14] f f := fun _ _ => rfl
  have hown : s.vm.findClass RX1 = some m.cls := hown
  have hS : va_S A s.heap s.heap [] := va_S.rf
  have hl : lv_has ls 3 [(0, .ref (x 21))] := hl
  refine lv_iconst (v := 0) hx hb dX1_fittedMen_0 rfl ?_
  refine lv_istore_n (lv' := [(1, .int 0), (0, .ref (x 21))]) hx hb dX1_fittedMen_1 rfl hl (Nat.le_of_ble_eq_true rfl) rfl (fun ls hl => ?_)
  refine lv_iconst (v := 0) hx hb dX1_fittedMen_2 rfl ?_
  refine lv_istore_n (lv' := [(2, .int 0), (1, .int 0), (0, .ref (x 21))]) hx hb dX1_fittedMen_3 rfl hl (Nat.le_of_ble_eq_true rfl) rfl (fun ls hl => ?_)
  have lp1 : ∀ (n1 : Nat) (l1_1 : Int32) (l2_1 : Int32) (v1 : Nat → Int32) (f1 : Nat → Nat → Int32), XI v1 → v1 0 = (v 0) → v1 1 = (v 1) → v1 7 = (v 7) → v1 8 = (v 8) → v1 9 = (v 9) → v1 10 = (v 10) → v1 31 = (v 31) → v1 32 = (v 32) → gsX_X1_fittedMen_1_L1 NF v n1 l1_1 l2_1 v1 f1 = (gsX_X1_fittedMen_1 NF v f) → ((0 : Int) ≤ l2_1.toInt ∧ l2_1.toInt ≤ 2147483647) → KV [] v1 v → KF [13, 14] f1 f → (2147483647 - l2_1.toInt).toNat < n1 → ∀ (H : Heap) (locs : List Loc) (ls : Array Slot), va_P (dC, dI) vwCl (XW cy x0 x v1 f1) H → va_D A (XW cy x0 x v1 f1) → va_S A s.heap H locs → lv_has ls 3 [(2, .int l2_1), (1, .int l1_1), (0, .ref (x 21))] → W p l e { frames := 5, cells := 0, slots := 0, locals := 155 } s m ([.ref (x 21)] : List Value).toArray below meth c H locs 0 0 Q (F0 m 4 ls []) := by
    intro n1
    induction n1 with
    | zero => intro l1_1 l2_1 v1 f1 hIv1 hq0_v1 hq1_v1 hq7_v1 hq8_v1 hq9_v1 hq10_v1 hq31_v1 hq32_v1 hT1 hr2_1 hM_v1 hA_f1 hm; exact absurd hm (Nat.not_lt_zero _)
    | succ n1 ih1 =>
      intro l1_1 l2_1 v1 f1 hIv1 hq0_v1 hq1_v1 hq7_v1 hq8_v1 hq9_v1 hq10_v1 hq31_v1 hq32_v1 hT1 hr2_1 hM_v1 hA_f1 hm1 H locs ls hP hD hS hl
      refine lv_iload_n hx hb dX1_fittedMen_4 rfl (lv_at hl 0 rfl) ?_
      refine lv_aload_n hx hb dX1_fittedMen_5 rfl (lv_at hl 2 rfl) ?_
      refine va_get (D := (dC, dI)) (ci := 1) (v := .ref (x 26)) (C := RX1) (T := TX1) (N := 2) hx hb hts inB_1 hown hE.1 hP 22 rfl rfl 0 (Nat.le_of_ble_eq_true rfl) (hts _ k_318) (fun _ h9 => h9) rfl dX1_fittedMen_6 ?_
      refine va_getN (D := (dC, dI)) (ci := 7) (v := .int (v1 31)) (C := RX7) (T := TX7) (N := 10) hx hb hts inB_7 hown hE.1 hP 27 rfl rfl 3 (Nat.le_of_ble_eq_true rfl) (va_Nw.use rfl (hE.2 _ k_219)) (fun _ h9 => h9) rfl dX1_fittedMen_9 ?_
      refine tI (y := (v 31)) hq31_v1 ?_
      have b31_v : 0 ≤ (v 31).toInt ∧ (v 31).toInt ≤ 6 := Xb_31 hIv
      refine lv_icmp_ge (tgt := 40) hx hb dX1_fittedMen_12 rfl (fun c2 => ?_) (fun c2 => ?_)
      · skip
        refine lv_iload_n hx hb dX1_fittedMen_40 rfl (lv_at hl 1 rfl) ?_
        exact ret l1_1 (v1, f1) _ _ _ _ _ _ rfl ⟨(hT1.symm.trans (gsX_X1_fittedMen_1_q0 c2)), hM_v1, hA_f1, hIv1, (show v1 0 = v 0 from hq0_v1), (show v1 1 = v 1 from hq1_v1), (show v1 7 = v 7 from hq7_v1), (show v1 8 = v 8 from hq8_v1), (show v1 9 = v 9 from hq9_v1), (show v1 10 = v 10 from hq10_v1), (show v1 31 = v 31 from hq31_v1), (show v1 32 = v 32 from hq32_v1)⟩ hP hD hS dX1_fittedMen_41 (Nat.le_refl _) (Nat.le_refl _)
      · skip
        have zc2 : ¬ ((v 31).toInt ≤ l2_1.toInt) := zMn rfl rfl c2
        refine lv_aload_n hx hb dX1_fittedMen_15 rfl (lv_at hl 2 rfl) ?_
        refine lv_iload_n hx hb dX1_fittedMen_16 rfl (lv_at hl 0 rfl) ?_
        refine lv_aload_n hx hb dX1_fittedMen_17 rfl (lv_at hl 2 rfl) ?_
        refine lv_iload_n hx hb dX1_fittedMen_18 rfl (lv_at hl 0 rfl) ?_
        refine cbVi (n := 1) (rest := [.int l2_1, .ref (x 21)]) hx hb hml hown hts hE hP hD hS hA (sX_X1_wears_1 NF l dC dI cy x0 x l2_1 v1 f1 hIv1 ) k_853 k_810 k_811 k_106 k_812 hd_yX1_wears ⟨Nat.le_of_ble_eq_true rfl, Nat.le_of_ble_eq_true rfl⟩ 22 1 rfl rfl (rfl) hl.1 rfl (Nat.le_of_ble_eq_true rfl) dX1_fittedMen_19 (fun r7 u H locs hw hP hD hS => ?_)
        have hG8 := hw
        refine cbVi (n := 2) (rest := []) hx hb hml hown hts hE hP hD hS hA (sX_X1_fits_1 NF l dC dI cy x0 x l2_1 r7 v1 f1 hIv1 ) k_817 k_818 k_819 k_106 k_820 hd_yX1_fits ⟨Nat.le_of_ble_eq_true rfl, Nat.le_of_ble_eq_true rfl⟩ 22 1 rfl rfl (rfl) hl.1 rfl (Nat.le_of_ble_eq_true rfl) dX1_fittedMen_22 (fun r9 u H locs hw hP hD hS => ?_)
        obtain ⟨hG10, hw⟩ := hw
        obtain ⟨v11, f12⟩ := u
        obtain ⟨kV_v11, kF_f12, hIv11, hk0_v11, hk1_v11, hk7_v11, hk8_v11, hk9_v11, hk10_v11, hk31_v11, hk32_v11, hw⟩ := hw
        have hM_v11 : KV [] v11 v := KV.tr kV_v11 hM_v1 rfl
        have hA_f12 : KF [13, 14] f12 f := KF.tr kF_f12 hA_f1 rfl
        have hP : va_P (dC, dI) vwCl (XW cy x0 x v11 f12) H := hP
        have hD : va_D A (XW cy x0 x v11 f12) := hD
        have hq0_v11 : v11 0 = (v 0) := hk0_v11.trans hq0_v1
        have hq1_v11 : v11 1 = (v 1) := hk1_v11.trans hq1_v1
        have hq7_v11 : v11 7 = (v 7) := hk7_v11.trans hq7_v1
        have hq8_v11 : v11 8 = (v 8) := hk8_v11.trans hq8_v1
        have hq9_v11 : v11 9 = (v 9) := hk9_v11.trans hq9_v1
        have hq10_v11 : v11 10 = (v 10) := hk10_v11.trans hq10_v1
        have hq31_v11 : v11 31 = (v 31) := hk31_v11.trans hq31_v1
        have hq32_v11 : v11 32 = (v 32) := hk32_v11.trans hq32_v1
        rcases hw with ⟨g13⟩ | ⟨g13⟩
        · skip
          subst g13
          refine lv_if_eq (tgt := 34) hx hb dX1_fittedMen_25 rfl (fun c0 => absurd c0 (by decide)) (fun _ => ?_)
          refine lv_iload_n hx hb dX1_fittedMen_28 rfl (lv_at hl 1 rfl) ?_
          refine lv_iconst (v := 1) hx hb dX1_fittedMen_29 rfl ?_
          refine lv_iload_n hx hb dX1_fittedMen_30 rfl (lv_at hl 0 rfl) ?_
          refine lv_ishl hx hb dX1_fittedMen_31 ?_
          refine lv_topi (fun t14 et14 => ?_)
          refine lv_ior hx hb dX1_fittedMen_32 ?_
          refine lv_topi (fun t15 et15 => ?_)
          refine lv_istore_n (lv' := [(1, .int t15), (2, .int l2_1), (0, .ref (x 21))]) hx hb dX1_fittedMen_33 rfl hl (Nat.le_of_ble_eq_true rfl) rfl (fun ls hl => ?_)
          obtain ⟨t16, et16⟩ : ∃ y : Int32, y = l2_1 + 1 := ⟨_, rfl⟩
          have zt16 : t16.toInt = l2_1.toInt + 1 := (congrArg Int32.toInt et16).trans (add_i rfl tc_1 (om_41 hr2_1) (om_187 b31_v zc2))
          refine lv_iinc (v := t16) (lv' := [(2, .int t16), (1, .int t15), (0, .ref (x 21))]) hx hb dX1_fittedMen_34 hl (k := 1) rfl et16.symm (Nat.le_of_ble_eq_true rfl) rfl (fun ls hl => ?_)
          refine lv_goto (tgt := 4) hx hb dX1_fittedMen_37 rfl ?_
          have rg17 := fb_rng t16
          exact ih1 t15 t16 v11 f12 hIv11 hq0_v11 hq1_v11 hq7_v11 hq8_v11 hq9_v11 hq10_v11 hq31_v11 hq32_v11 ((gsX_X1_fittedMen_1_q1 c2 hG8.symm hG10 et14 et15 et16).symm.trans hT1) ⟨show (0 : Int) ≤ t16.toInt from om_43 hr2_1 zt16, show t16.toInt ≤ (2147483647 : Int) from om_44 rg17⟩ hM_v11 hA_f12 (show (2147483647 - t16.toInt).toNat < n1 from om_33 hm1 zt16 rg17) _ _ _ hP hD hS (lv_sub hl [0, 1, 2] rfl)
        · skip
          subst g13
          refine lv_if_eq (tgt := 34) hx hb dX1_fittedMen_25 rfl (fun _ => ?_) (fun c0 => absurd (by decide) c0)
          obtain ⟨t18, et18⟩ : ∃ y : Int32, y = l2_1 + 1 := ⟨_, rfl⟩
          have zt18 : t18.toInt = l2_1.toInt + 1 := (congrArg Int32.toInt et18).trans (add_i rfl tc_1 (om_41 hr2_1) (om_187 b31_v zc2))
          refine lv_iinc (v := t18) (lv' := [(2, .int t18), (1, .int l1_1), (0, .ref (x 21))]) hx hb dX1_fittedMen_34 hl (k := 0) rfl et18.symm (Nat.le_of_ble_eq_true rfl) rfl (fun ls hl => ?_)
          refine lv_goto (tgt := 4) hx hb dX1_fittedMen_37 rfl ?_
          have rg19 := fb_rng t18
          exact ih1 l1_1 t18 v11 f12 hIv11 hq0_v11 hq1_v11 hq7_v11 hq8_v11 hq9_v11 hq10_v11 hq31_v11 hq32_v11 ((gsX_X1_fittedMen_1_q2 c2 hG8.symm hG10 et18).symm.trans hT1) ⟨show (0 : Int) ≤ t18.toInt from om_43 hr2_1 zt18, show t18.toInt ≤ (2147483647 : Int) from om_44 rg19⟩ hM_v11 hA_f12 (show (2147483647 - t18.toInt).toNat < n1 from om_33 hm1 zt18 rg19) _ _ _ hP hD hS (lv_sub hl [0, 1, 2] rfl)
  exact lp1 (4294967296 + NF) 0 0 v f hIv rfl rfl rfl rfl rfl rfl rfl rfl gsX_X1_fittedMen_1_q3.symm ⟨by decide, by decide⟩ hM_v hA_f (show (2147483647 - (0 : Int32).toInt).toNat < 4294967296 + NF from om_38 tc_0) _ _ _ hP hD hS (lv_sub hl [0, 1, 2] rfl)
set_option maxHeartbeats 4000000 in
set_option maxRecDepth 100000 in
theorem sX_X10_fitted_1 (NF : Nat) (l : Launch) (dC : Nat → ClassId) (dI : Nat → Nat → Nat) (cy : Nat → ClassId) (x0 : Nat) (x : Nat → Nat)  (v : Nat → Int32) (f : Nat → Nat → Int32) (hIv : XI v)  : ctI l (dC, dI) cy yX10_fitted cX10_fitted 1 .int 6 177 0 0 ((Nat → Int32) × (Nat → Nat → Int32)) [.ref x0] (XW cy x0 x v f) (fun r u => gsX_X10_fitted_1 NF v f = (r, u) ∧ KV [] u.1 v ∧ KF [13, 14] u.2 f ∧ XI u.1 ∧ u.1 0 = v 0 ∧ u.1 1 = v 1 ∧ u.1 7 = v 7 ∧ u.1 8 = v 8 ∧ u.1 9 = v 9 ∧ u.1 10 = v 10 ∧ u.1 31 = v 31 ∧ u.1 32 = v 32) (fun u => XW cy x0 x u.1 u.2) := by
  refine ctI_of (by decide) (Nat.le_of_ble_eq_true rfl) (fun p e s m below meth c A ls Q hx hb hml hts hown hE hP hD hA hl ret => ?_)
  have hM_v : KV [] v v := fun _ _ => rfl
  have hA_f : KF [13, 14] f f := fun _ _ => rfl
  have hown : s.vm.findClass RX10 = some m.cls := hown
  have hS : va_S A s.heap s.heap [] := va_S.rf
  have hl : lv_has ls 1 [(0, .ref x0)] := hl
  refine lv_aload_n hx hb dX10_fitted_0 rfl (lv_at hl 0 rfl) ?_
  refine va_get (D := (dC, dI)) (ci := 10) (v := .ref (x 21)) (C := RX10) (T := TX10) (N := 10) hx hb hts inB_10 hown hE.1 hP 0 rfl rfl 3 (Nat.le_of_ble_eq_true rfl) (hts _ k_494) (fun _ h9 => h9) rfl dX10_fitted_1 ?_
  refine cbVi (n := 0) (rest := []) hx hb hml hown hts hE hP hD hS hA (sX_X1_fittedMen_1 NF l dC dI cy x0 x  v f hIv ) k_963 k_964 k_965 k_106 k_966 hd_yX1_fittedMen ⟨Nat.le_of_ble_eq_true rfl, Nat.le_of_ble_eq_true rfl⟩ 22 1 rfl rfl (rfl) hl.1 rfl (Nat.le_of_ble_eq_true rfl) dX10_fitted_4 (fun r1 u H locs hw hP hD hS => ?_)
  obtain ⟨hG2, hw⟩ := hw
  obtain ⟨v3, f4⟩ := u
  obtain ⟨kV_v3, kF_f4, hIv3, hk0_v3, hk1_v3, hk7_v3, hk8_v3, hk9_v3, hk10_v3, hk31_v3, hk32_v3⟩ := hw
  have hM_v3 : KV [] v3 v := KV.tr kV_v3 hM_v rfl
  have hA_f4 : KF [13, 14] f4 f := KF.tr kF_f4 hA_f rfl
  have hP : va_P (dC, dI) vwCl (XW cy x0 x v3 f4) H := hP
  have hD : va_D A (XW cy x0 x v3 f4) := hD
  have hq0_v3 : v3 0 = (v 0) := hk0_v3
  have hq1_v3 : v3 1 = (v 1) := hk1_v3
  have hq7_v3 : v3 7 = (v 7) := hk7_v3
  have hq8_v3 : v3 8 = (v 8) := hk8_v3
  have hq9_v3 : v3 9 = (v 9) := hk9_v3
  have hq10_v3 : v3 10 = (v 10) := hk10_v3
  have hq31_v3 : v3 31 = (v 31) := hk31_v3
  have hq32_v3 : v3 32 = (v 32) := hk32_v3
  exact ret r1 (v3, f4) _ _ _ _ _ _ rfl ⟨(gsX_X10_fitted_1_q0 hG2), hM_v3, hA_f4, hIv3, hk0_v3, hk1_v3, hk7_v3, hk8_v3, hk9_v3, hk10_v3, hk31_v3, hk32_v3⟩ hP hD hS dX10_fitted_7 (Nat.le_refl _) (Nat.le_refl _)
set_option maxHeartbeats 4000000 in
set_option maxRecDepth 100000 in
theorem sX_X1_wearers_1 (NF : Nat) (l : Launch) (dC : Nat → ClassId) (dI : Nat → Nat → Nat) (cy : Nat → ClassId) (x0 : Nat) (x : Nat → Nat)  (v : Nat → Int32) (f : Nat → Nat → Int32) (hIv : XI v)  : ctI l (dC, dI) cy yX1_wearers cX1_wearers 3 .int 3 102 0 0 Unit [.ref (x 21)] (XW cy x0 x v f) (fun r u => gsX_X1_wearers_1 NF v f = r) (fun u => XW cy x0 x v f) := by
  refine ctI_of (by decide) (Nat.le_of_ble_eq_true rfl) (fun p e s m below meth c A ls Q hx hb hml hts hown hE hP hD hA hl ret => ?_)
  have hown : s.vm.findClass RX1 = some m.cls := hown
  have hS : va_S A s.heap s.heap [] := va_S.rf
  have hl : lv_has ls 3 [(0, .ref (x 21))] := hl
  refine lv_iconst (v := 0) hx hb dX1_wearers_0 rfl ?_
  refine lv_istore_n (lv' := [(1, .int 0), (0, .ref (x 21))]) hx hb dX1_wearers_1 rfl hl (Nat.le_of_ble_eq_true rfl) rfl (fun ls hl => ?_)
  refine lv_iconst (v := 0) hx hb dX1_wearers_2 rfl ?_
  refine lv_istore_n (lv' := [(2, .int 0), (1, .int 0), (0, .ref (x 21))]) hx hb dX1_wearers_3 rfl hl (Nat.le_of_ble_eq_true rfl) rfl (fun ls hl => ?_)
  have lp1 : ∀ (n1 : Nat) (l1_1 : Int32) (l2_1 : Int32), gsX_X1_wearers_1_L1 NF v f n1 l1_1 l2_1 = (gsX_X1_wearers_1 NF v f) → ((0 : Int) ≤ l2_1.toInt ∧ l2_1.toInt ≤ 2147483647) → (2147483647 - l2_1.toInt).toNat < n1 → ∀ (H : Heap) (locs : List Loc) (ls : Array Slot), va_P (dC, dI) vwCl (XW cy x0 x v f) H → va_D A (XW cy x0 x v f) → va_S A s.heap H locs → lv_has ls 3 [(2, .int l2_1), (1, .int l1_1), (0, .ref (x 21))] → W p l e { frames := 3, cells := 0, slots := 0, locals := 102 } s m ([.ref (x 21)] : List Value).toArray below meth c H locs 0 0 Q (F0 m 4 ls []) := by
    intro n1
    induction n1 with
    | zero => intro l1_1 l2_1 hT1 hr2_1 hm; exact absurd hm (Nat.not_lt_zero _)
    | succ n1 ih1 =>
      intro l1_1 l2_1 hT1 hr2_1 hm1 H locs ls hP hD hS hl
      refine lv_iload_n hx hb dX1_wearers_4 rfl (lv_at hl 0 rfl) ?_
      refine lv_aload_n hx hb dX1_wearers_5 rfl (lv_at hl 2 rfl) ?_
      refine va_get (D := (dC, dI)) (ci := 1) (v := .ref (x 26)) (C := RX1) (T := TX1) (N := 2) hx hb hts inB_1 hown hE.1 hP 22 rfl rfl 0 (Nat.le_of_ble_eq_true rfl) (hts _ k_318) (fun _ h9 => h9) rfl dX1_wearers_6 ?_
      refine va_getN (D := (dC, dI)) (ci := 7) (v := .int (v 31)) (C := RX7) (T := TX7) (N := 10) hx hb hts inB_7 hown hE.1 hP 27 rfl rfl 3 (Nat.le_of_ble_eq_true rfl) (va_Nw.use rfl (hE.2 _ k_219)) (fun _ h9 => h9) rfl dX1_wearers_9 ?_
      have b31_v : 0 ≤ (v 31).toInt ∧ (v 31).toInt ≤ 6 := Xb_31 hIv
      refine lv_icmp_ge (tgt := 36) hx hb dX1_wearers_12 rfl (fun c2 => ?_) (fun c2 => ?_)
      · skip
        refine lv_iload_n hx hb dX1_wearers_36 rfl (lv_at hl 1 rfl) ?_
        exact ret l1_1 () _ _ _ _ _ _ rfl (hT1.symm.trans (gsX_X1_wearers_1_q0 c2)) hP hD hS dX1_wearers_37 (Nat.le_refl _) (Nat.le_refl _)
      · skip
        have zc2 : ¬ ((v 31).toInt ≤ l2_1.toInt) := zMn rfl rfl c2
        refine lv_aload_n hx hb dX1_wearers_15 rfl (lv_at hl 2 rfl) ?_
        refine lv_iload_n hx hb dX1_wearers_16 rfl (lv_at hl 0 rfl) ?_
        refine cbVi (n := 1) (rest := []) hx hb hml hown hts hE hP hD hS hA (sX_X1_wears_1 NF l dC dI cy x0 x l2_1 v f hIv ) k_853 k_810 k_811 k_106 k_812 hd_yX1_wears ⟨Nat.le_of_ble_eq_true rfl, Nat.le_of_ble_eq_true rfl⟩ 22 1 rfl rfl (rfl) hl.1 rfl (Nat.le_of_ble_eq_true rfl) dX1_wearers_17 (fun r7 u H locs hw hP hD hS => ?_)
        have hG8 := hw
        refine lv_iconst (v := (-1)) hx hb dX1_wearers_20 rfl ?_
        refine lv_icmp_eq (tgt := 30) hx hb dX1_wearers_21 rfl (fun c9 => ?_) (fun c9 => ?_)
        · skip
          obtain ⟨t10, et10⟩ : ∃ y : Int32, y = l2_1 + 1 := ⟨_, rfl⟩
          have zt10 : t10.toInt = l2_1.toInt + 1 := (congrArg Int32.toInt et10).trans (add_i rfl tc_1 (om_41 hr2_1) (om_187 b31_v zc2))
          refine lv_iinc (v := t10) (lv' := [(2, .int t10), (1, .int l1_1), (0, .ref (x 21))]) hx hb dX1_wearers_30 hl (k := 0) rfl et10.symm (Nat.le_of_ble_eq_true rfl) rfl (fun ls hl => ?_)
          refine lv_goto (tgt := 4) hx hb dX1_wearers_33 rfl ?_
          have rg11 := fb_rng t10
          exact ih1 l1_1 t10 ((gsX_X1_wearers_1_q1 c2 hG8.symm c9 et10).symm.trans hT1) ⟨show (0 : Int) ≤ t10.toInt from om_43 hr2_1 zt10, show t10.toInt ≤ (2147483647 : Int) from om_44 rg11⟩ (show (2147483647 - t10.toInt).toNat < n1 from om_33 hm1 zt10 rg11) _ _ _ hP hD hS (lv_sub hl [0, 1, 2] rfl)
        · skip
          refine lv_iload_n hx hb dX1_wearers_24 rfl (lv_at hl 1 rfl) ?_
          refine lv_iconst (v := 1) hx hb dX1_wearers_25 rfl ?_
          refine lv_iload_n hx hb dX1_wearers_26 rfl (lv_at hl 0 rfl) ?_
          refine lv_ishl hx hb dX1_wearers_27 ?_
          refine lv_topi (fun t12 et12 => ?_)
          refine lv_ior hx hb dX1_wearers_28 ?_
          refine lv_topi (fun t13 et13 => ?_)
          refine lv_istore_n (lv' := [(1, .int t13), (2, .int l2_1), (0, .ref (x 21))]) hx hb dX1_wearers_29 rfl hl (Nat.le_of_ble_eq_true rfl) rfl (fun ls hl => ?_)
          obtain ⟨t14, et14⟩ : ∃ y : Int32, y = l2_1 + 1 := ⟨_, rfl⟩
          have zt14 : t14.toInt = l2_1.toInt + 1 := (congrArg Int32.toInt et14).trans (add_i rfl tc_1 (om_41 hr2_1) (om_187 b31_v zc2))
          refine lv_iinc (v := t14) (lv' := [(2, .int t14), (1, .int t13), (0, .ref (x 21))]) hx hb dX1_wearers_30 hl (k := 1) rfl et14.symm (Nat.le_of_ble_eq_true rfl) rfl (fun ls hl => ?_)
          refine lv_goto (tgt := 4) hx hb dX1_wearers_33 rfl ?_
          have rg15 := fb_rng t14
          exact ih1 t13 t14 ((gsX_X1_wearers_1_q2 c2 hG8.symm c9 et12 et13 et14).symm.trans hT1) ⟨show (0 : Int) ≤ t14.toInt from om_43 hr2_1 zt14, show t14.toInt ≤ (2147483647 : Int) from om_44 rg15⟩ (show (2147483647 - t14.toInt).toNat < n1 from om_33 hm1 zt14 rg15) _ _ _ hP hD hS (lv_sub hl [0, 1, 2] rfl)
  exact lp1 (4294967296 + NF) 0 0 gsX_X1_wearers_1_q3.symm ⟨by decide, by decide⟩ (show (2147483647 - (0 : Int32).toInt).toNat < 4294967296 + NF from om_38 tc_0) _ _ _ hP hD hS (lv_sub hl [0, 1, 2] rfl)
set_option maxHeartbeats 4000000 in
set_option maxRecDepth 100000 in
theorem sX_X2_wideTogether_1 (NF : Nat) (l : Launch) (dC : Nat → ClassId) (dI : Nat → Nat → Nat) (cy : Nat → ClassId) (x0 : Nat) (x : Nat → Nat) (p1 : Int32) (v : Nat → Int32) (f : Nat → Nat → Int32) (hIv : XI v)  : ctI l (dC, dI) cy yX2_wideTogether cX2_wideTogether 4 .int 3 104 0 0 Unit [.ref (x 29), .int p1] (XW cy x0 x v f) (fun r u => gsX_X2_wideTogether_1 NF p1 v f = r) (fun u => XW cy x0 x v f) := by
  refine ctI_of (by decide) (Nat.le_of_ble_eq_true rfl) (fun p e s m below meth c A ls Q hx hb hml hts hown hE hP hD hA hl ret => ?_)
  have hown : s.vm.findClass RX2 = some m.cls := hown
  have hS : va_S A s.heap s.heap [] := va_S.rf
  have hl : lv_has ls 4 [(0, .ref (x 29)), (1, .int p1)] := hl
  refine lv_iconst (v := 0) hx hb dX2_wideTogether_0 rfl ?_
  refine lv_istore_n (lv' := [(2, .int 0), (0, .ref (x 29)), (1, .int p1)]) hx hb dX2_wideTogether_1 rfl hl (Nat.le_of_ble_eq_true rfl) rfl (fun ls hl => ?_)
  refine lv_iconst (v := 0) hx hb dX2_wideTogether_2 rfl ?_
  refine lv_istore_n (lv' := [(3, .int 0), (2, .int 0), (0, .ref (x 29)), (1, .int p1)]) hx hb dX2_wideTogether_3 rfl hl (Nat.le_of_ble_eq_true rfl) rfl (fun ls hl => ?_)
  have lp1 : ∀ (n1 : Nat) (l2_1 : Int32) (l3_1 : Int32), gsX_X2_wideTogether_1_L1 NF p1 v f n1 l2_1 l3_1 = (gsX_X2_wideTogether_1 NF p1 v f) → ((0 : Int) ≤ l3_1.toInt ∧ l3_1.toInt ≤ 2147483647) → (2147483647 - l3_1.toInt).toNat < n1 → ∀ (H : Heap) (locs : List Loc) (ls : Array Slot), va_P (dC, dI) vwCl (XW cy x0 x v f) H → va_D A (XW cy x0 x v f) → va_S A s.heap H locs → lv_has ls 4 [(3, .int l3_1), (2, .int l2_1), (0, .ref (x 29)), (1, .int p1)] → W p l e { frames := 3, cells := 0, slots := 0, locals := 104 } s m ([.ref (x 29), .int p1] : List Value).toArray below meth c H locs 0 0 Q (F0 m 4 ls []) := by
    intro n1
    induction n1 with
    | zero => intro l2_1 l3_1 hT1 hr3_1 hm; exact absurd hm (Nat.not_lt_zero _)
    | succ n1 ih1 =>
      intro l2_1 l3_1 hT1 hr3_1 hm1 H locs ls hP hD hS hl
      refine lv_iload_n hx hb dX2_wideTogether_4 rfl (lv_at hl 0 rfl) ?_
      refine lv_aload_n hx hb dX2_wideTogether_5 rfl (lv_at hl 2 rfl) ?_
      refine va_get (D := (dC, dI)) (ci := 2) (v := .ref (x 26)) (C := RX2) (T := TX2) (N := 3) hx hb hts inB_2 hown hE.1 hP 30 rfl rfl 0 (Nat.le_of_ble_eq_true rfl) (hts _ k_414) (fun _ h9 => h9) rfl dX2_wideTogether_6 ?_
      refine va_getN (D := (dC, dI)) (ci := 7) (v := .int (v 31)) (C := RX7) (T := TX7) (N := 10) hx hb hts inB_7 hown hE.1 hP 27 rfl rfl 3 (Nat.le_of_ble_eq_true rfl) (va_Nw.use rfl (hE.2 _ k_213)) (fun _ h9 => h9) rfl dX2_wideTogether_9 ?_
      have b31_v : 0 ≤ (v 31).toInt ∧ (v 31).toInt ≤ 6 := Xb_31 hIv
      refine lv_icmp_ge (tgt := 48) hx hb dX2_wideTogether_12 rfl (fun c2 => ?_) (fun c2 => ?_)
      · skip
        refine lv_iload_n hx hb dX2_wideTogether_48 rfl (lv_at hl 1 rfl) ?_
        exact ret l2_1 () _ _ _ _ _ _ rfl (hT1.symm.trans (gsX_X2_wideTogether_1_q0 c2)) hP hD hS dX2_wideTogether_49 (Nat.le_refl _) (Nat.le_refl _)
      · skip
        have zc2 : ¬ ((v 31).toInt ≤ l3_1.toInt) := zMn rfl rfl c2
        refine lv_iload_n hx hb dX2_wideTogether_15 rfl (lv_at hl 3 rfl) ?_
        refine lv_iload_n hx hb dX2_wideTogether_16 rfl (lv_at hl 0 rfl) ?_
        refine lv_ishr hx hb dX2_wideTogether_17 ?_
        refine lv_topi (fun t7 et7 => ?_)
        refine lv_iconst (v := 1) hx hb dX2_wideTogether_18 rfl ?_
        refine lv_iand hx hb dX2_wideTogether_19 ?_
        refine lv_topi (fun t8 et8 => ?_)
        refine lv_if_eq (tgt := 42) hx hb dX2_wideTogether_20 rfl (fun c9 => ?_) (fun c9 => ?_)
        · skip
          obtain ⟨t10, et10⟩ : ∃ y : Int32, y = l3_1 + 1 := ⟨_, rfl⟩
          have zt10 : t10.toInt = l3_1.toInt + 1 := (congrArg Int32.toInt et10).trans (add_i rfl tc_1 (om_41 hr3_1) (om_187 b31_v zc2))
          refine lv_iinc (v := t10) (lv' := [(3, .int t10), (2, .int l2_1), (0, .ref (x 29)), (1, .int p1)]) hx hb dX2_wideTogether_42 hl (k := 0) rfl et10.symm (Nat.le_of_ble_eq_true rfl) rfl (fun ls hl => ?_)
          refine lv_goto (tgt := 4) hx hb dX2_wideTogether_45 rfl ?_
          have rg11 := fb_rng t10
          exact ih1 l2_1 t10 ((gsX_X2_wideTogether_1_q1 c2 et7 et8 c9 et10).symm.trans hT1) ⟨show (0 : Int) ≤ t10.toInt from om_43 hr3_1 zt10, show t10.toInt ≤ (2147483647 : Int) from om_44 rg11⟩ (show (2147483647 - t10.toInt).toNat < n1 from om_33 hm1 zt10 rg11) _ _ _ hP hD hS (lv_sub hl [0, 1, 2, 3] rfl)
        · skip
          refine lv_iload_n hx hb dX2_wideTogether_23 rfl (lv_at hl 1 rfl) ?_
          refine lv_aload_n hx hb dX2_wideTogether_24 rfl (lv_at hl 2 rfl) ?_
          refine va_get (D := (dC, dI)) (ci := 2) (v := .ref (x 21)) (C := RX2) (T := TX2) (N := 3) hx hb hts inB_2 hown hE.1 hP 30 rfl rfl 1 (Nat.le_of_ble_eq_true rfl) (hts _ k_415) (fun _ h9 => h9) rfl dX2_wideTogether_25 ?_
          refine lv_iconst (v := 1) hx hb dX2_wideTogether_28 rfl ?_
          refine lv_aload_n hx hb dX2_wideTogether_29 rfl (lv_at hl 2 rfl) ?_
          refine va_get (D := (dC, dI)) (ci := 2) (v := .ref (x 21)) (C := RX2) (T := TX2) (N := 3) hx hb hts inB_2 hown hE.1 hP 30 rfl rfl 1 (Nat.le_of_ble_eq_true rfl) (hts _ k_415) (fun _ h9 => h9) rfl dX2_wideTogether_30 ?_
          refine lv_iload_n hx hb dX2_wideTogether_33 rfl (lv_at hl 0 rfl) ?_
          refine cbVi (n := 1) (rest := [.int 1, .ref (x 21), .int l2_1]) hx hb hml hown hts hE hP hD hS hA (sX_X1_wears_1 NF l dC dI cy x0 x l3_1 v f hIv ) k_1069 k_810 k_811 k_106 k_812 hd_yX1_wears ⟨Nat.le_of_ble_eq_true rfl, Nat.le_of_ble_eq_true rfl⟩ 22 1 rfl rfl (rfl) hl.1 rfl (Nat.le_of_ble_eq_true rfl) dX2_wideTogether_34 (fun r12 u H locs hw hP hD hS => ?_)
          have hG13 := hw
          refine cbVi (n := 2) (rest := [.int l2_1]) hx hb hml hown hts hE hP hD hS hA (sX_X1_part_1 NF l dC dI cy x0 x 1 r12 v f hIv ) k_1070 k_828 k_829 k_106 k_830 hd_yX1_part ⟨Nat.le_of_ble_eq_true rfl, Nat.le_of_ble_eq_true rfl⟩ 22 1 rfl rfl (rfl) hl.1 rfl (Nat.le_of_ble_eq_true rfl) dX2_wideTogether_37 (fun r14 u H locs hw hP hD hS => ?_)
          have hG15 := hw
          refine lv_iadd hx hb dX2_wideTogether_40 ?_
          refine lv_topi (fun t16 et16 => ?_)
          refine lv_istore_n (lv' := [(2, .int t16), (3, .int l3_1), (0, .ref (x 29)), (1, .int p1)]) hx hb dX2_wideTogether_41 rfl hl (Nat.le_of_ble_eq_true rfl) rfl (fun ls hl => ?_)
          obtain ⟨t17, et17⟩ : ∃ y : Int32, y = l3_1 + 1 := ⟨_, rfl⟩
          have zt17 : t17.toInt = l3_1.toInt + 1 := (congrArg Int32.toInt et17).trans (add_i rfl tc_1 (om_41 hr3_1) (om_187 b31_v zc2))
          refine lv_iinc (v := t17) (lv' := [(3, .int t17), (2, .int t16), (0, .ref (x 29)), (1, .int p1)]) hx hb dX2_wideTogether_42 hl (k := 1) rfl et17.symm (Nat.le_of_ble_eq_true rfl) rfl (fun ls hl => ?_)
          refine lv_goto (tgt := 4) hx hb dX2_wideTogether_45 rfl ?_
          have rg18 := fb_rng t17
          exact ih1 t16 t17 ((gsX_X2_wideTogether_1_q2 c2 et7 et8 c9 hG13.symm hG15.symm et16 et17).symm.trans hT1) ⟨show (0 : Int) ≤ t17.toInt from om_43 hr3_1 zt17, show t17.toInt ≤ (2147483647 : Int) from om_44 rg18⟩ (show (2147483647 - t17.toInt).toNat < n1 from om_33 hm1 zt17 rg18) _ _ _ hP hD hS (lv_sub hl [0, 1, 2, 3] rfl)
  exact lp1 (4294967296 + NF) 0 0 gsX_X2_wideTogether_1_q3.symm ⟨by decide, by decide⟩ (show (2147483647 - (0 : Int32).toInt).toNat < 4294967296 + NF from om_38 tc_0) _ _ _ hP hD hS (lv_sub hl [0, 1, 2, 3] rfl)
set_option maxHeartbeats 4000000 in
set_option maxRecDepth 100000 in
theorem sX_X10_breadth_1 (NF : Nat) (l : Launch) (dC : Nat → ClassId) (dI : Nat → Nat → Nat) (cy : Nat → ClassId) (x0 : Nat) (x : Nat → Nat)  (v : Nat → Int32) (f : Nat → Nat → Int32) (hIv : XI v)  : ctI l (dC, dI) cy yX10_breadth cX10_breadth 1 .int 4 127 0 0 Unit [.ref x0] (XW cy x0 x v f) (fun r u => gsX_X10_breadth_1 NF v f = r) (fun u => XW cy x0 x v f) := by
  refine ctI_of (by decide) (Nat.le_of_ble_eq_true rfl) (fun p e s m below meth c A ls Q hx hb hml hts hown hE hP hD hA hl ret => ?_)
  have hown : s.vm.findClass RX10 = some m.cls := hown
  have hS : va_S A s.heap s.heap [] := va_S.rf
  have hl : lv_has ls 1 [(0, .ref x0)] := hl
  refine lv_aload_n hx hb dX10_breadth_0 rfl (lv_at hl 0 rfl) ?_
  refine va_get (D := (dC, dI)) (ci := 10) (v := .ref (x 29)) (C := RX10) (T := TX10) (N := 10) hx hb hts inB_10 hown hE.1 hP 0 rfl rfl 6 (Nat.le_of_ble_eq_true rfl) (hts _ k_497) (fun _ h9 => h9) rfl dX10_breadth_1 ?_
  refine lv_aload_n hx hb dX10_breadth_4 rfl (lv_at hl 0 rfl) ?_
  refine va_get (D := (dC, dI)) (ci := 10) (v := .ref (x 21)) (C := RX10) (T := TX10) (N := 10) hx hb hts inB_10 hown hE.1 hP 0 rfl rfl 3 (Nat.le_of_ble_eq_true rfl) (hts _ k_494) (fun _ h9 => h9) rfl dX10_breadth_5 ?_
  refine cbVi (n := 0) (rest := [.ref (x 29)]) hx hb hml hown hts hE hP hD hS hA (sX_X1_wearers_1 NF l dC dI cy x0 x  v f hIv ) k_1196 k_1061 k_1062 k_106 k_1063 hd_yX1_wearers ⟨Nat.le_of_ble_eq_true rfl, Nat.le_of_ble_eq_true rfl⟩ 22 1 rfl rfl (rfl) hl.1 rfl (Nat.le_of_ble_eq_true rfl) dX10_breadth_8 (fun r1 u H locs hw hP hD hS => ?_)
  have hG2 := hw
  refine cbVi (n := 1) (rest := []) hx hb hml hown hts hE hP hD hS hA (sX_X2_wideTogether_1 NF l dC dI cy x0 x r1 v f hIv ) k_1197 k_1066 k_1067 k_110 k_1068 hd_yX2_wideTogether ⟨Nat.le_of_ble_eq_true rfl, Nat.le_of_ble_eq_true rfl⟩ 30 2 rfl rfl (rfl) hl.1 rfl (Nat.le_of_ble_eq_true rfl) dX10_breadth_11 (fun r3 u H locs hw hP hD hS => ?_)
  have hG4 := hw
  exact ret r3 () _ _ _ _ _ _ rfl (gsX_X10_breadth_1_q0 hG2.symm hG4.symm) hP hD hS dX10_breadth_14 (Nat.le_refl _) (Nat.le_refl _)
set_option maxHeartbeats 4000000 in
set_option maxRecDepth 100000 in
theorem sX_J6_bitCount_0f7a4_1 (NF : Nat) (l : Launch) (dC : Nat → ClassId) (dI : Nat → Nat → Nat) (cy : Nat → ClassId) (x0 : Nat) (x : Nat → Nat) (p0 : Int32) (v : Nat → Int32) (f : Nat → Nat → Int32) (hIv : XI v)  : ctI l (dC, dI) cy yJ6_bitCount_0f7a4 cJ6_bitCount_0f7a4 1 .int 1 60 0 0 Unit [.int p0] (XW cy x0 x v f) (fun r u => gsX_J6_bitCount_0f7a4_1 NF p0 v f = r) (fun u => XW cy x0 x v f) := by
  refine ctI_of (by decide) (Nat.le_of_ble_eq_true rfl) (fun p e s m below meth c A ls Q hx hb hml hts hown hE hP hD hA hl ret => ?_)
  have hown : s.vm.findClass RJ6 = some m.cls := hown
  have hS : va_S A s.heap s.heap [] := va_S.rf
  have hl : lv_has ls 1 [(0, .int p0)] := hl
  refine lv_iload_n hx hb dJ6_bitCount_0f7a4_0 rfl (lv_at hl 0 rfl) ?_
  refine lv_iload_n hx hb dJ6_bitCount_0f7a4_1 rfl (lv_at hl 0 rfl) ?_
  refine lv_iconst (v := 1) hx hb dJ6_bitCount_0f7a4_2 rfl ?_
  refine lv_iushr hx hb dJ6_bitCount_0f7a4_3 rfl ?_
  refine lv_topi (fun t1 et1 => ?_)
  refine lv_ldcw (v := 1431655765) hx hb hown (hts _ k_1045) dJ6_bitCount_0f7a4_4 ?_
  refine lv_iand hx hb dJ6_bitCount_0f7a4_7 ?_
  refine lv_topi (fun t2 et2 => ?_)
  refine lv_isub hx hb dJ6_bitCount_0f7a4_8 ?_
  refine lv_topi (fun t3 et3 => ?_)
  refine lv_istore_n (lv' := [(0, .int t3)]) hx hb dJ6_bitCount_0f7a4_9 rfl hl (Nat.le_of_ble_eq_true rfl) rfl (fun ls hl => ?_)
  refine lv_iload_n hx hb dJ6_bitCount_0f7a4_10 rfl (lv_at hl 0 rfl) ?_
  refine lv_ldcw (v := 858993459) hx hb hown (hts _ k_1046) dJ6_bitCount_0f7a4_11 ?_
  refine lv_iand hx hb dJ6_bitCount_0f7a4_14 ?_
  refine lv_topi (fun t4 et4 => ?_)
  refine lv_iload_n hx hb dJ6_bitCount_0f7a4_15 rfl (lv_at hl 0 rfl) ?_
  refine lv_iconst (v := 2) hx hb dJ6_bitCount_0f7a4_16 rfl ?_
  refine lv_iushr hx hb dJ6_bitCount_0f7a4_17 rfl ?_
  refine lv_topi (fun t5 et5 => ?_)
  refine lv_ldcw (v := 858993459) hx hb hown (hts _ k_1046) dJ6_bitCount_0f7a4_18 ?_
  refine lv_iand hx hb dJ6_bitCount_0f7a4_21 ?_
  refine lv_topi (fun t6 et6 => ?_)
  refine lv_iadd hx hb dJ6_bitCount_0f7a4_22 ?_
  refine lv_topi (fun t7 et7 => ?_)
  refine lv_istore_n (lv' := [(0, .int t7)]) hx hb dJ6_bitCount_0f7a4_23 rfl hl (Nat.le_of_ble_eq_true rfl) rfl (fun ls hl => ?_)
  refine lv_iload_n hx hb dJ6_bitCount_0f7a4_24 rfl (lv_at hl 0 rfl) ?_
  refine lv_iload_n hx hb dJ6_bitCount_0f7a4_25 rfl (lv_at hl 0 rfl) ?_
  refine lv_iconst (v := 4) hx hb dJ6_bitCount_0f7a4_26 rfl ?_
  refine lv_iushr hx hb dJ6_bitCount_0f7a4_27 rfl ?_
  refine lv_topi (fun t8 et8 => ?_)
  refine lv_iadd hx hb dJ6_bitCount_0f7a4_28 ?_
  refine lv_topi (fun t9 et9 => ?_)
  refine lv_ldcw (v := 252645135) hx hb hown (hts _ k_1047) dJ6_bitCount_0f7a4_29 ?_
  refine lv_iand hx hb dJ6_bitCount_0f7a4_32 ?_
  refine lv_topi (fun t10 et10 => ?_)
  refine lv_istore_n (lv' := [(0, .int t10)]) hx hb dJ6_bitCount_0f7a4_33 rfl hl (Nat.le_of_ble_eq_true rfl) rfl (fun ls hl => ?_)
  refine lv_iload_n hx hb dJ6_bitCount_0f7a4_34 rfl (lv_at hl 0 rfl) ?_
  refine lv_iload_n hx hb dJ6_bitCount_0f7a4_35 rfl (lv_at hl 0 rfl) ?_
  refine lv_bipush (v := 8) hx hb dJ6_bitCount_0f7a4_36 rfl ?_
  refine lv_iushr hx hb dJ6_bitCount_0f7a4_38 rfl ?_
  refine lv_topi (fun t11 et11 => ?_)
  refine lv_iadd hx hb dJ6_bitCount_0f7a4_39 ?_
  refine lv_topi (fun t12 et12 => ?_)
  refine lv_istore_n (lv' := [(0, .int t12)]) hx hb dJ6_bitCount_0f7a4_40 rfl hl (Nat.le_of_ble_eq_true rfl) rfl (fun ls hl => ?_)
  refine lv_iload_n hx hb dJ6_bitCount_0f7a4_41 rfl (lv_at hl 0 rfl) ?_
  refine lv_iload_n hx hb dJ6_bitCount_0f7a4_42 rfl (lv_at hl 0 rfl) ?_
  refine lv_bipush (v := 16) hx hb dJ6_bitCount_0f7a4_43 rfl ?_
  refine lv_iushr hx hb dJ6_bitCount_0f7a4_45 rfl ?_
  refine lv_topi (fun t13 et13 => ?_)
  refine lv_iadd hx hb dJ6_bitCount_0f7a4_46 ?_
  refine lv_topi (fun t14 et14 => ?_)
  refine lv_istore_n (lv' := [(0, .int t14)]) hx hb dJ6_bitCount_0f7a4_47 rfl hl (Nat.le_of_ble_eq_true rfl) rfl (fun ls hl => ?_)
  refine lv_iload_n hx hb dJ6_bitCount_0f7a4_48 rfl (lv_at hl 0 rfl) ?_
  refine lv_bipush (v := 63) hx hb dJ6_bitCount_0f7a4_49 rfl ?_
  refine lv_iand hx hb dJ6_bitCount_0f7a4_51 ?_
  refine lv_topi (fun t15 et15 => ?_)
  have zt15 : 0 ≤ t15.toInt ∧ t15.toInt < 64 := by rw [et15]; exact and_rng _ (k := 6) (by decide) (by decide)
  exact ret t15 () _ _ _ _ _ _ rfl (gsX_J6_bitCount_0f7a4_1_q0 et1 et2 et3 et4 et5 et6 et7 et8 et9 et10 et11 et12 et13 et14 et15) hP hD hS dJ6_bitCount_0f7a4_52 (Nat.le_refl _) (Nat.le_refl _)
set_option maxHeartbeats 4000000 in
set_option maxRecDepth 100000 in
theorem sX_X2_frontOf_1 (NF : Nat) (l : Launch) (dC : Nat → ClassId) (dI : Nat → Nat → Nat) (cy : Nat → ClassId) (x0 : Nat) (x : Nat → Nat) (p1 : Int32) (v : Nat → Int32) (f : Nat → Nat → Int32) (hIv : XI v)  : ctI l (dC, dI) cy yX2_frontOf cX2_frontOf 6 .int 4 127 0 0 Unit [.ref (x 29), .int p1] (XW cy x0 x v f) (fun r u => gsX_X2_frontOf_1 NF p1 v f = r) (fun u => XW cy x0 x v f) := by
  refine ctI_of (by decide) (Nat.le_of_ble_eq_true rfl) (fun p e s m below meth c A ls Q hx hb hml hts hown hE hP hD hA hl ret => ?_)
  have hown : s.vm.findClass RX2 = some m.cls := hown
  have hS : va_S A s.heap s.heap [] := va_S.rf
  have hl : lv_has ls 6 [(0, .ref (x 29)), (1, .int p1)] := hl
  refine lv_iconst (v := (-1)) hx hb dX2_frontOf_0 rfl ?_
  refine lv_istore_n (lv' := [(2, .int (-1)), (0, .ref (x 29)), (1, .int p1)]) hx hb dX2_frontOf_1 rfl hl (Nat.le_of_ble_eq_true rfl) rfl (fun ls hl => ?_)
  refine lv_aload_n hx hb dX2_frontOf_2 rfl (lv_at hl 1 rfl) ?_
  refine va_get (D := (dC, dI)) (ci := 2) (v := .ref (x 21)) (C := RX2) (T := TX2) (N := 3) hx hb hts inB_2 hown hE.1 hP 30 rfl rfl 1 (Nat.le_of_ble_eq_true rfl) (hts _ k_415) (fun _ h9 => h9) rfl dX2_frontOf_3 ?_
  refine cbVi (n := 0) (rest := []) hx hb hml hown hts hE hP hD hS hA (sX_X1_wearers_1 NF l dC dI cy x0 x  v f hIv ) k_1060 k_1061 k_1062 k_106 k_1063 hd_yX1_wearers ⟨Nat.le_of_ble_eq_true rfl, Nat.le_of_ble_eq_true rfl⟩ 22 1 rfl rfl (rfl) hl.1 rfl (Nat.le_of_ble_eq_true rfl) dX2_frontOf_6 (fun r1 u H locs hw hP hD hS => ?_)
  have hG2 := hw
  refine lv_iconst (v := (-1)) hx hb dX2_frontOf_9 rfl ?_
  refine lv_ixor hx hb dX2_frontOf_10 ?_
  refine lv_topi (fun t3 et3 => ?_)
  refine lv_istore_n (lv' := [(3, .int t3), (2, .int (-1)), (0, .ref (x 29)), (1, .int p1)]) hx hb dX2_frontOf_11 rfl hl (Nat.le_of_ble_eq_true rfl) rfl (fun ls hl => ?_)
  refine lv_iconst (v := 0) hx hb dX2_frontOf_12 rfl ?_
  refine lv_istore (lv' := [(4, .int 0), (3, .int t3), (2, .int (-1)), (0, .ref (x 29)), (1, .int p1)]) hx hb dX2_frontOf_13 hl (Nat.le_of_ble_eq_true rfl) rfl (fun ls hl => ?_)
  have lp4 : ∀ (n4 : Nat) (l2_4 : Int32) (l4_4 : Int32), gsX_X2_frontOf_1_L4 NF p1 v f t3 n4 l2_4 l4_4 = (gsX_X2_frontOf_1 NF p1 v f) → ((0 : Int) ≤ l4_4.toInt ∧ l4_4.toInt ≤ 2147483647) → (2147483647 - l4_4.toInt).toNat < n4 → ∀ (H : Heap) (locs : List Loc) (ls : Array Slot), va_P (dC, dI) vwCl (XW cy x0 x v f) H → va_D A (XW cy x0 x v f) → va_S A s.heap H locs → lv_has ls 6 [(4, .int l4_4), (3, .int t3), (2, .int l2_4), (0, .ref (x 29)), (1, .int p1)] → W p l e { frames := 4, cells := 0, slots := 0, locals := 127 } s m ([.ref (x 29), .int p1] : List Value).toArray below meth c H locs 0 0 Q (F0 m 15 ls []) := by
    intro n4
    induction n4 with
    | zero => intro l2_4 l4_4 hT4 hr4_4 hm; exact absurd hm (Nat.not_lt_zero _)
    | succ n4 ih4 =>
      intro l2_4 l4_4 hT4 hr4_4 hm4 H locs ls hP hD hS hl
      refine lv_iload hx hb dX2_frontOf_15 (lv_at hl 0 rfl) ?_
      refine lv_bipush (v := 64) hx hb dX2_frontOf_17 rfl ?_
      refine lv_icmp_ge (tgt := 77) hx hb dX2_frontOf_19 rfl (fun c5 => ?_) (fun c5 => ?_)
      · skip
        refine lv_iload_n hx hb dX2_frontOf_77 rfl (lv_at hl 2 rfl) ?_
        exact ret l2_4 () _ _ _ _ _ _ rfl (hT4.symm.trans (gsX_X2_frontOf_1_q0 c5)) hP hD hS dX2_frontOf_78 (Nat.le_refl _) (Nat.le_refl _)
      · skip
        have zc5 : ¬ (64 ≤ l4_4.toInt) := zMn tc_64 rfl c5
        refine lv_iload_n hx hb dX2_frontOf_22 rfl (lv_at hl 2 rfl) ?_
        refine lv_iconst (v := (-1)) hx hb dX2_frontOf_23 rfl ?_
        refine lv_icmp_eq (tgt := 39) hx hb dX2_frontOf_24 rfl (fun c6 => ?_) (fun c6 => ?_)
        · skip
          refine lv_iconst (v := 1) hx hb dX2_frontOf_39 rfl ?_
          refine lv_goto (tgt := 44) hx hb dX2_frontOf_40 rfl ?_
          refine lv_istore (lv' := [(5, .int 1), (4, .int l4_4), (3, .int t3), (2, .int l2_4), (0, .ref (x 29)), (1, .int p1)]) hx hb dX2_frontOf_44 hl (Nat.le_of_ble_eq_true rfl) rfl (fun ls hl => ?_)
          refine lv_iload hx hb dX2_frontOf_46 (lv_at hl 1 rfl) ?_
          refine lv_iload_n hx hb dX2_frontOf_48 rfl (lv_at hl 2 rfl) ?_
          refine lv_iand hx hb dX2_frontOf_49 ?_
          refine lv_topi (fun t7 et7 => ?_)
          refine lv_if_ne (tgt := 71) hx hb dX2_frontOf_50 rfl (fun c8 => ?_) (fun c8 => ?_)
          · skip
            obtain ⟨t9, et9⟩ : ∃ y : Int32, y = l4_4 + 1 := ⟨_, rfl⟩
            have zt9 : t9.toInt = l4_4.toInt + 1 := (congrArg Int32.toInt et9).trans (add_i rfl tc_1 (om_41 hr4_4) (om_194 zc5))
            refine lv_iinc (v := t9) (lv' := [(4, .int t9), (5, .int 1), (3, .int t3), (2, .int l2_4), (0, .ref (x 29)), (1, .int p1)]) hx hb dX2_frontOf_71 hl (k := 1) rfl et9.symm (Nat.le_of_ble_eq_true rfl) rfl (fun ls hl => ?_)
            refine lv_goto (tgt := 15) hx hb dX2_frontOf_74 rfl ?_
            have rg11 := fb_rng t9
            exact ih4 l2_4 t9 ((gsX_X2_frontOf_1_q1 c5 c6 et7 c8 et9).symm.trans hT4) ⟨show (0 : Int) ≤ t9.toInt from om_43 hr4_4 zt9, show t9.toInt ≤ (2147483647 : Int) from om_44 rg11⟩ (show (2147483647 - t9.toInt).toNat < n4 from om_33 hm4 zt9 rg11) _ _ _ hP hD hS (lv_sub hl [0, 2, 3, 4, 5] rfl)
          · skip
            refine lv_iload hx hb dX2_frontOf_53 (lv_at hl 0 rfl) ?_
            refine lv_if_eq (tgt := 71) hx hb dX2_frontOf_55 rfl (fun c0 => absurd c0 (by decide)) (fun _ => ?_)
            refine lv_aload_n hx hb dX2_frontOf_58 rfl (lv_at hl 4 rfl) ?_
            refine lv_iload hx hb dX2_frontOf_59 (lv_at hl 1 rfl) ?_
            refine cbVi (n := 1) (rest := []) hx hb hml hown hts hE hP hD hS hA (sX_X2_wideTogether_1 NF l dC dI cy x0 x l4_4 v f hIv ) k_1065 k_1066 k_1067 k_110 k_1068 hd_yX2_wideTogether ⟨Nat.le_of_ble_eq_true rfl, Nat.le_of_ble_eq_true rfl⟩ 30 2 rfl rfl (rfl) hl.1 rfl (Nat.le_of_ble_eq_true rfl) dX2_frontOf_61 (fun r12 u H locs hw hP hD hS => ?_)
            have hG13 := hw
            refine lv_iload_n hx hb dX2_frontOf_64 rfl (lv_at hl 5 rfl) ?_
            refine lv_icmp_lt (tgt := 71) hx hb dX2_frontOf_65 rfl (fun c14 => ?_) (fun c14 => ?_)
            · skip
              obtain ⟨t17, et17⟩ : ∃ y : Int32, y = l4_4 + 1 := ⟨_, rfl⟩
              have zt17 : t17.toInt = l4_4.toInt + 1 := (congrArg Int32.toInt et17).trans (add_i rfl tc_1 (om_41 hr4_4) (om_194 zc5))
              refine lv_iinc (v := t17) (lv' := [(4, .int t17), (5, .int 1), (3, .int t3), (2, .int l2_4), (0, .ref (x 29)), (1, .int p1)]) hx hb dX2_frontOf_71 hl (k := 1) rfl et17.symm (Nat.le_of_ble_eq_true rfl) rfl (fun ls hl => ?_)
              refine lv_goto (tgt := 15) hx hb dX2_frontOf_74 rfl ?_
              have rg19 := fb_rng t17
              exact ih4 l2_4 t17 ((gsX_X2_frontOf_1_q2 c5 c6 et7 c8 hG13.symm c14 et17).symm.trans hT4) ⟨show (0 : Int) ≤ t17.toInt from om_43 hr4_4 zt17, show t17.toInt ≤ (2147483647 : Int) from om_44 rg19⟩ (show (2147483647 - t17.toInt).toNat < n4 from om_33 hm4 zt17 rg19) _ _ _ hP hD hS (lv_sub hl [0, 2, 3, 4, 5] rfl)
            · skip
              refine lv_iload hx hb dX2_frontOf_68 (lv_at hl 1 rfl) ?_
              refine lv_istore_n (lv' := [(2, .int l4_4), (5, .int 1), (4, .int l4_4), (3, .int t3), (0, .ref (x 29)), (1, .int p1)]) hx hb dX2_frontOf_70 rfl hl (Nat.le_of_ble_eq_true rfl) rfl (fun ls hl => ?_)
              obtain ⟨t22, et22⟩ : ∃ y : Int32, y = l4_4 + 1 := ⟨_, rfl⟩
              have zt22 : t22.toInt = l4_4.toInt + 1 := (congrArg Int32.toInt et22).trans (add_i rfl tc_1 (om_41 hr4_4) (om_194 zc5))
              refine lv_iinc (v := t22) (lv' := [(4, .int t22), (2, .int l4_4), (5, .int 1), (3, .int t3), (0, .ref (x 29)), (1, .int p1)]) hx hb dX2_frontOf_71 hl (k := 2) rfl et22.symm (Nat.le_of_ble_eq_true rfl) rfl (fun ls hl => ?_)
              refine lv_goto (tgt := 15) hx hb dX2_frontOf_74 rfl ?_
              have rg24 := fb_rng t22
              exact ih4 l4_4 t22 ((gsX_X2_frontOf_1_q3 c5 c6 et7 c8 hG13.symm c14 et22).symm.trans hT4) ⟨show (0 : Int) ≤ t22.toInt from om_43 hr4_4 zt22, show t22.toInt ≤ (2147483647 : Int) from om_44 rg24⟩ (show (2147483647 - t22.toInt).toNat < n4 from om_33 hm4 zt22 rg24) _ _ _ hP hD hS (lv_sub hl [0, 3, 1, 4, 5] rfl)
        · skip
          refine lv_iload hx hb dX2_frontOf_27 (lv_at hl 0 rfl) ?_
          refine cbSi (n := 1) (rest := []) hx hb hml hown hts hE hP hD hS hA (sX_J6_bitCount_0f7a4_1 NF l dC dI cy x0 x l4_4 v f hIv ) k_1064 k_1043 k_121 k_1044 he_yJ6_bitCount_0f7a4 ⟨Nat.le_of_ble_eq_true rfl, Nat.le_of_ble_eq_true rfl⟩ (rfl) hl.1 rfl (Nat.le_of_ble_eq_true rfl) dX2_frontOf_29 (fun r25 u H locs hw hP hD hS => ?_)
          have hG26 := hw
          refine lv_iload_n hx hb dX2_frontOf_32 rfl (lv_at hl 2 rfl) ?_
          refine cbSi (n := 1) (rest := [.int r25]) hx hb hml hown hts hE hP hD hS hA (sX_J6_bitCount_0f7a4_1 NF l dC dI cy x0 x l2_4 v f hIv ) k_1064 k_1043 k_121 k_1044 he_yJ6_bitCount_0f7a4 ⟨Nat.le_of_ble_eq_true rfl, Nat.le_of_ble_eq_true rfl⟩ (rfl) hl.1 rfl (Nat.le_of_ble_eq_true rfl) dX2_frontOf_33 (fun r27 u H locs hw hP hD hS => ?_)
          have hG28 := hw
          refine lv_icmp_ge (tgt := 43) hx hb dX2_frontOf_36 rfl (fun c29 => ?_) (fun c29 => ?_)
          · skip
            refine lv_iconst (v := 0) hx hb dX2_frontOf_43 rfl ?_
            refine lv_istore (lv' := [(5, .int 0), (4, .int l4_4), (3, .int t3), (2, .int l2_4), (0, .ref (x 29)), (1, .int p1)]) hx hb dX2_frontOf_44 hl (Nat.le_of_ble_eq_true rfl) rfl (fun ls hl => ?_)
            refine lv_iload hx hb dX2_frontOf_46 (lv_at hl 1 rfl) ?_
            refine lv_iload_n hx hb dX2_frontOf_48 rfl (lv_at hl 2 rfl) ?_
            refine lv_iand hx hb dX2_frontOf_49 ?_
            refine lv_topi (fun t32 et32 => ?_)
            refine lv_if_ne (tgt := 71) hx hb dX2_frontOf_50 rfl (fun c33 => ?_) (fun c33 => ?_)
            · skip
              obtain ⟨t34, et34⟩ : ∃ y : Int32, y = l4_4 + 1 := ⟨_, rfl⟩
              have zt34 : t34.toInt = l4_4.toInt + 1 := (congrArg Int32.toInt et34).trans (add_i rfl tc_1 (om_41 hr4_4) (om_194 zc5))
              refine lv_iinc (v := t34) (lv' := [(4, .int t34), (5, .int 0), (3, .int t3), (2, .int l2_4), (0, .ref (x 29)), (1, .int p1)]) hx hb dX2_frontOf_71 hl (k := 1) rfl et34.symm (Nat.le_of_ble_eq_true rfl) rfl (fun ls hl => ?_)
              refine lv_goto (tgt := 15) hx hb dX2_frontOf_74 rfl ?_
              have rg36 := fb_rng t34
              exact ih4 l2_4 t34 ((gsX_X2_frontOf_1_q4 c5 c6 hG26.symm hG28.symm c29 et32 c33 et34).symm.trans hT4) ⟨show (0 : Int) ≤ t34.toInt from om_43 hr4_4 zt34, show t34.toInt ≤ (2147483647 : Int) from om_44 rg36⟩ (show (2147483647 - t34.toInt).toNat < n4 from om_33 hm4 zt34 rg36) _ _ _ hP hD hS (lv_sub hl [0, 2, 3, 4, 5] rfl)
            · skip
              refine lv_iload hx hb dX2_frontOf_53 (lv_at hl 0 rfl) ?_
              refine lv_if_eq (tgt := 71) hx hb dX2_frontOf_55 rfl (fun _ => ?_) (fun c0 => absurd (by decide) c0)
              obtain ⟨t37, et37⟩ : ∃ y : Int32, y = l4_4 + 1 := ⟨_, rfl⟩
              have zt37 : t37.toInt = l4_4.toInt + 1 := (congrArg Int32.toInt et37).trans (add_i rfl tc_1 (om_41 hr4_4) (om_194 zc5))
              refine lv_iinc (v := t37) (lv' := [(4, .int t37), (5, .int 0), (3, .int t3), (2, .int l2_4), (0, .ref (x 29)), (1, .int p1)]) hx hb dX2_frontOf_71 hl (k := 1) rfl et37.symm (Nat.le_of_ble_eq_true rfl) rfl (fun ls hl => ?_)
              refine lv_goto (tgt := 15) hx hb dX2_frontOf_74 rfl ?_
              have rg39 := fb_rng t37
              exact ih4 l2_4 t37 ((gsX_X2_frontOf_1_q5 c5 c6 hG26.symm hG28.symm c29 et32 c33 et37).symm.trans hT4) ⟨show (0 : Int) ≤ t37.toInt from om_43 hr4_4 zt37, show t37.toInt ≤ (2147483647 : Int) from om_44 rg39⟩ (show (2147483647 - t37.toInt).toNat < n4 from om_33 hm4 zt37 rg39) _ _ _ hP hD hS (lv_sub hl [0, 2, 3, 4, 5] rfl)
          · skip
            refine lv_iconst (v := 1) hx hb dX2_frontOf_39 rfl ?_
            refine lv_goto (tgt := 44) hx hb dX2_frontOf_40 rfl ?_
            refine lv_istore (lv' := [(5, .int 1), (4, .int l4_4), (3, .int t3), (2, .int l2_4), (0, .ref (x 29)), (1, .int p1)]) hx hb dX2_frontOf_44 hl (Nat.le_of_ble_eq_true rfl) rfl (fun ls hl => ?_)
            refine lv_iload hx hb dX2_frontOf_46 (lv_at hl 1 rfl) ?_
            refine lv_iload_n hx hb dX2_frontOf_48 rfl (lv_at hl 2 rfl) ?_
            refine lv_iand hx hb dX2_frontOf_49 ?_
            refine lv_topi (fun t42 et42 => ?_)
            refine lv_if_ne (tgt := 71) hx hb dX2_frontOf_50 rfl (fun c43 => ?_) (fun c43 => ?_)
            · skip
              obtain ⟨t44, et44⟩ : ∃ y : Int32, y = l4_4 + 1 := ⟨_, rfl⟩
              have zt44 : t44.toInt = l4_4.toInt + 1 := (congrArg Int32.toInt et44).trans (add_i rfl tc_1 (om_41 hr4_4) (om_194 zc5))
              refine lv_iinc (v := t44) (lv' := [(4, .int t44), (5, .int 1), (3, .int t3), (2, .int l2_4), (0, .ref (x 29)), (1, .int p1)]) hx hb dX2_frontOf_71 hl (k := 1) rfl et44.symm (Nat.le_of_ble_eq_true rfl) rfl (fun ls hl => ?_)
              refine lv_goto (tgt := 15) hx hb dX2_frontOf_74 rfl ?_
              have rg46 := fb_rng t44
              exact ih4 l2_4 t44 ((gsX_X2_frontOf_1_q6 c5 c6 hG26.symm hG28.symm c29 et42 c43 et44).symm.trans hT4) ⟨show (0 : Int) ≤ t44.toInt from om_43 hr4_4 zt44, show t44.toInt ≤ (2147483647 : Int) from om_44 rg46⟩ (show (2147483647 - t44.toInt).toNat < n4 from om_33 hm4 zt44 rg46) _ _ _ hP hD hS (lv_sub hl [0, 2, 3, 4, 5] rfl)
            · skip
              refine lv_iload hx hb dX2_frontOf_53 (lv_at hl 0 rfl) ?_
              refine lv_if_eq (tgt := 71) hx hb dX2_frontOf_55 rfl (fun c0 => absurd c0 (by decide)) (fun _ => ?_)
              refine lv_aload_n hx hb dX2_frontOf_58 rfl (lv_at hl 4 rfl) ?_
              refine lv_iload hx hb dX2_frontOf_59 (lv_at hl 1 rfl) ?_
              refine cbVi (n := 1) (rest := []) hx hb hml hown hts hE hP hD hS hA (sX_X2_wideTogether_1 NF l dC dI cy x0 x l4_4 v f hIv ) k_1065 k_1066 k_1067 k_110 k_1068 hd_yX2_wideTogether ⟨Nat.le_of_ble_eq_true rfl, Nat.le_of_ble_eq_true rfl⟩ 30 2 rfl rfl (rfl) hl.1 rfl (Nat.le_of_ble_eq_true rfl) dX2_frontOf_61 (fun r47 u H locs hw hP hD hS => ?_)
              have hG48 := hw
              refine lv_iload_n hx hb dX2_frontOf_64 rfl (lv_at hl 5 rfl) ?_
              refine lv_icmp_lt (tgt := 71) hx hb dX2_frontOf_65 rfl (fun c49 => ?_) (fun c49 => ?_)
              · skip
                obtain ⟨t52, et52⟩ : ∃ y : Int32, y = l4_4 + 1 := ⟨_, rfl⟩
                have zt52 : t52.toInt = l4_4.toInt + 1 := (congrArg Int32.toInt et52).trans (add_i rfl tc_1 (om_41 hr4_4) (om_194 zc5))
                refine lv_iinc (v := t52) (lv' := [(4, .int t52), (5, .int 1), (3, .int t3), (2, .int l2_4), (0, .ref (x 29)), (1, .int p1)]) hx hb dX2_frontOf_71 hl (k := 1) rfl et52.symm (Nat.le_of_ble_eq_true rfl) rfl (fun ls hl => ?_)
                refine lv_goto (tgt := 15) hx hb dX2_frontOf_74 rfl ?_
                have rg54 := fb_rng t52
                exact ih4 l2_4 t52 ((gsX_X2_frontOf_1_q7 c5 c6 hG26.symm hG28.symm c29 et42 c43 hG48.symm c49 et52).symm.trans hT4) ⟨show (0 : Int) ≤ t52.toInt from om_43 hr4_4 zt52, show t52.toInt ≤ (2147483647 : Int) from om_44 rg54⟩ (show (2147483647 - t52.toInt).toNat < n4 from om_33 hm4 zt52 rg54) _ _ _ hP hD hS (lv_sub hl [0, 2, 3, 4, 5] rfl)
              · skip
                refine lv_iload hx hb dX2_frontOf_68 (lv_at hl 1 rfl) ?_
                refine lv_istore_n (lv' := [(2, .int l4_4), (5, .int 1), (4, .int l4_4), (3, .int t3), (0, .ref (x 29)), (1, .int p1)]) hx hb dX2_frontOf_70 rfl hl (Nat.le_of_ble_eq_true rfl) rfl (fun ls hl => ?_)
                obtain ⟨t57, et57⟩ : ∃ y : Int32, y = l4_4 + 1 := ⟨_, rfl⟩
                have zt57 : t57.toInt = l4_4.toInt + 1 := (congrArg Int32.toInt et57).trans (add_i rfl tc_1 (om_41 hr4_4) (om_194 zc5))
                refine lv_iinc (v := t57) (lv' := [(4, .int t57), (2, .int l4_4), (5, .int 1), (3, .int t3), (0, .ref (x 29)), (1, .int p1)]) hx hb dX2_frontOf_71 hl (k := 2) rfl et57.symm (Nat.le_of_ble_eq_true rfl) rfl (fun ls hl => ?_)
                refine lv_goto (tgt := 15) hx hb dX2_frontOf_74 rfl ?_
                have rg59 := fb_rng t57
                exact ih4 l4_4 t57 ((gsX_X2_frontOf_1_q8 c5 c6 hG26.symm hG28.symm c29 et42 c43 hG48.symm c49 et57).symm.trans hT4) ⟨show (0 : Int) ≤ t57.toInt from om_43 hr4_4 zt57, show t57.toInt ≤ (2147483647 : Int) from om_44 rg59⟩ (show (2147483647 - t57.toInt).toNat < n4 from om_33 hm4 zt57 rg59) _ _ _ hP hD hS (lv_sub hl [0, 3, 1, 4, 5] rfl)
  exact lp4 (4294967296 + NF) (-1) 0 (gsX_X2_frontOf_1_q9 hG2.symm et3).symm ⟨by decide, by decide⟩ (show (2147483647 - (0 : Int32).toInt).toNat < 4294967296 + NF from om_38 tc_0) _ _ _ hP hD hS (lv_sub hl [0, 1, 2, 3, 4] rfl)
